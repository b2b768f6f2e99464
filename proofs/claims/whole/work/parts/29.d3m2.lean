theorem d_M_kit_50 : decode b_M_kit 50 = .ok (.return_, 1) := by decide +kernel
theorem d_M_give_0 : decode b_M_give 0 = .ok (.aload_n 0, 1) := by decide +kernel
theorem d_M_give_1 : decode b_M_give 1 = .ok (.iload_n 1, 1) := by decide +kernel
theorem d_M_give_2 : decode b_M_give 2 = .ok (.invokevirtual 109, 3) := by decide +kernel
theorem d_M_give_5 : decode b_M_give 5 = .ok (.ifCond .eq 16, 3) := by decide +kernel
theorem d_M_give_8 : decode b_M_give 8 = .ok (.iload_n 2, 1) := by decide +kernel
theorem d_M_give_9 : decode b_M_give 9 = .ok (.iconst 0, 1) := by decide +kernel
theorem d_M_give_10 : decode b_M_give 10 = .ok (.iconst 4, 1) := by decide +kernel
theorem d_M_give_11 : decode b_M_give 11 = .ok (.invokestatic 102, 3) := by decide +kernel
theorem d_M_give_14 : decode b_M_give 14 = .ok (.ifCond .eq 7, 3) := by decide +kernel
theorem d_M_give_17 : decode b_M_give 17 = .ok (.iconst 1, 1) := by decide +kernel
theorem d_M_give_18 : decode b_M_give 18 = .ok (.goto 4, 3) := by decide +kernel
theorem d_M_give_21 : decode b_M_give 21 = .ok (.iconst 0, 1) := by decide +kernel
theorem d_M_give_22 : decode b_M_give 22 = .ok (.istore_n 3, 1) := by decide +kernel
theorem d_M_give_23 : decode b_M_give 23 = .ok (.iconst 0, 1) := by decide +kernel
theorem d_M_give_24 : decode b_M_give 24 = .ok (.istore 4, 2) := by decide +kernel
theorem d_M_give_26 : decode b_M_give 26 = .ok (.iconst 0, 1) := by decide +kernel
theorem d_M_give_27 : decode b_M_give 27 = .ok (.istore 5, 2) := by decide +kernel
theorem d_M_give_29 : decode b_M_give 29 = .ok (.iload 5, 2) := by decide +kernel
theorem d_M_give_31 : decode b_M_give 31 = .ok (.bipush 10, 2) := by decide +kernel
theorem d_M_give_33 : decode b_M_give 33 = .ok (.if_icmp .ge 30, 3) := by decide +kernel
theorem d_M_give_36 : decode b_M_give 36 = .ok (.iload_n 3, 1) := by decide +kernel
theorem d_M_give_37 : decode b_M_give 37 = .ok (.ifCond .eq 26, 3) := by decide +kernel
theorem d_M_give_40 : decode b_M_give 40 = .ok (.iload 4, 2) := by decide +kernel
theorem d_M_give_42 : decode b_M_give 42 = .ok (.aload_n 0, 1) := by decide +kernel
theorem d_M_give_43 : decode b_M_give 43 = .ok (.getfield 86, 3) := by decide +kernel
theorem d_M_give_46 : decode b_M_give 46 = .ok (.iload_n 2, 1) := by decide +kernel
theorem d_M_give_47 : decode b_M_give 47 = .ok (.bipush 10, 2) := by decide +kernel
theorem d_M_give_49 : decode b_M_give 49 = .ok (.imul, 1) := by decide +kernel
theorem d_M_give_50 : decode b_M_give 50 = .ok (.iload 5, 2) := by decide +kernel
theorem d_M_give_52 : decode b_M_give 52 = .ok (.iadd, 1) := by decide +kernel
theorem d_M_give_53 : decode b_M_give 53 = .ok (.iaload, 1) := by decide +kernel
theorem d_M_give_54 : decode b_M_give 54 = .ok (.iadd, 1) := by decide +kernel
theorem d_M_give_55 : decode b_M_give 55 = .ok (.istore 4, 2) := by decide +kernel
theorem d_M_give_57 : decode b_M_give 57 = .ok (.iinc 5 1, 3) := by decide +kernel
theorem d_M_give_60 : decode b_M_give 60 = .ok (.goto (-31), 3) := by decide +kernel
theorem d_M_give_63 : decode b_M_give 63 = .ok (.aload_n 0, 1) := by decide +kernel
theorem d_M_give_64 : decode b_M_give 64 = .ok (.iconst 5, 1) := by decide +kernel
theorem d_M_give_65 : decode b_M_give 65 = .ok (.iload_n 3, 1) := by decide +kernel
theorem d_M_give_66 : decode b_M_give 66 = .ok (.iconst 1, 1) := by decide +kernel
theorem d_M_give_67 : decode b_M_give 67 = .ok (.iload 4, 2) := by decide +kernel
theorem d_M_give_69 : decode b_M_give 69 = .ok (.ifCond .le 7, 3) := by decide +kernel
theorem d_M_give_72 : decode b_M_give 72 = .ok (.iconst 1, 1) := by decide +kernel
theorem d_M_give_73 : decode b_M_give 73 = .ok (.goto 4, 3) := by decide +kernel
theorem d_M_give_76 : decode b_M_give 76 = .ok (.iconst 0, 1) := by decide +kernel
theorem d_M_give_77 : decode b_M_give 77 = .ok (.iconst 1, 1) := by decide +kernel
theorem d_M_give_78 : decode b_M_give 78 = .ok (.invokevirtual 116, 3) := by decide +kernel
theorem d_M_give_81 : decode b_M_give 81 = .ok (.ifCond .ne 5, 3) := by decide +kernel
theorem d_M_give_84 : decode b_M_give 84 = .ok (.iconst 0, 1) := by decide +kernel
theorem d_M_give_85 : decode b_M_give 85 = .ok (.ireturn, 1) := by decide +kernel
theorem d_M_give_86 : decode b_M_give 86 = .ok (.iconst 0, 1) := by decide +kernel
theorem d_M_give_87 : decode b_M_give 87 = .ok (.istore 5, 2) := by decide +kernel
theorem d_M_give_89 : decode b_M_give 89 = .ok (.iload 5, 2) := by decide +kernel
theorem d_M_give_91 : decode b_M_give 91 = .ok (.bipush 10, 2) := by decide +kernel
theorem d_M_give_93 : decode b_M_give 93 = .ok (.if_icmp .ge 34, 3) := by decide +kernel
theorem d_M_give_96 : decode b_M_give 96 = .ok (.aload_n 0, 1) := by decide +kernel
theorem d_M_give_97 : decode b_M_give 97 = .ok (.iload_n 1, 1) := by decide +kernel
theorem d_M_give_98 : decode b_M_give 98 = .ok (.iload 5, 2) := by decide +kernel
theorem d_M_give_100 : decode b_M_give 100 = .ok (.invokevirtual 146, 3) := by decide +kernel
theorem d_M_give_103 : decode b_M_give 103 = .ok (.aload_n 0, 1) := by decide +kernel
theorem d_M_give_104 : decode b_M_give 104 = .ok (.getfield 86, 3) := by decide +kernel
theorem d_M_give_107 : decode b_M_give 107 = .ok (.iload_n 2, 1) := by decide +kernel
theorem d_M_give_108 : decode b_M_give 108 = .ok (.bipush 10, 2) := by decide +kernel
theorem d_M_give_110 : decode b_M_give 110 = .ok (.imul, 1) := by decide +kernel
theorem d_M_give_111 : decode b_M_give 111 = .ok (.iload 5, 2) := by decide +kernel
theorem d_M_give_113 : decode b_M_give 113 = .ok (.iadd, 1) := by decide +kernel
theorem d_M_give_114 : decode b_M_give 114 = .ok (.iaload, 1) := by decide +kernel
theorem d_M_give_115 : decode b_M_give 115 = .ok (.if_icmp .ge 6, 3) := by decide +kernel
theorem d_M_give_118 : decode b_M_give 118 = .ok (.iload 5, 2) := by decide +kernel
theorem d_M_give_120 : decode b_M_give 120 = .ok (.ireturn, 1) := by decide +kernel
theorem d_M_give_121 : decode b_M_give 121 = .ok (.iinc 5 1, 3) := by decide +kernel
theorem d_M_give_124 : decode b_M_give 124 = .ok (.goto (-35), 3) := by decide +kernel
theorem d_M_give_127 : decode b_M_give 127 = .ok (.iconst 0, 1) := by decide +kernel
theorem d_M_give_128 : decode b_M_give 128 = .ok (.istore 5, 2) := by decide +kernel
theorem d_M_give_130 : decode b_M_give 130 = .ok (.iload 5, 2) := by decide +kernel
theorem d_M_give_132 : decode b_M_give 132 = .ok (.bipush 10, 2) := by decide +kernel
theorem d_M_give_134 : decode b_M_give 134 = .ok (.if_icmp .ge 28, 3) := by decide +kernel
theorem d_M_give_137 : decode b_M_give 137 = .ok (.aload_n 0, 1) := by decide +kernel
theorem d_M_give_138 : decode b_M_give 138 = .ok (.iload_n 1, 1) := by decide +kernel
theorem d_M_give_139 : decode b_M_give 139 = .ok (.iload 5, 2) := by decide +kernel
theorem d_M_give_141 : decode b_M_give 141 = .ok (.aload_n 0, 1) := by decide +kernel
theorem d_M_give_142 : decode b_M_give 142 = .ok (.getfield 86, 3) := by decide +kernel
theorem d_M_give_145 : decode b_M_give 145 = .ok (.iload_n 2, 1) := by decide +kernel
theorem d_M_give_146 : decode b_M_give 146 = .ok (.bipush 10, 2) := by decide +kernel
theorem d_M_give_148 : decode b_M_give 148 = .ok (.imul, 1) := by decide +kernel
theorem d_M_give_149 : decode b_M_give 149 = .ok (.iload 5, 2) := by decide +kernel
theorem d_M_give_151 : decode b_M_give 151 = .ok (.iadd, 1) := by decide +kernel
theorem d_M_give_152 : decode b_M_give 152 = .ok (.iaload, 1) := by decide +kernel
theorem d_M_give_153 : decode b_M_give 153 = .ok (.invokevirtual 149, 3) := by decide +kernel
theorem d_M_give_156 : decode b_M_give 156 = .ok (.iinc 5 1, 3) := by decide +kernel
theorem d_M_give_159 : decode b_M_give 159 = .ok (.goto (-29), 3) := by decide +kernel
theorem d_M_give_162 : decode b_M_give 162 = .ok (.iconst (-1), 1) := by decide +kernel
theorem d_M_give_163 : decode b_M_give 163 = .ok (.ireturn, 1) := by decide +kernel
theorem d_M_back_0 : decode b_M_back 0 = .ok (.aload_n 0, 1) := by decide +kernel
theorem d_M_back_1 : decode b_M_back 1 = .ok (.iload_n 1, 1) := by decide +kernel
theorem d_M_back_2 : decode b_M_back 2 = .ok (.invokevirtual 109, 3) := by decide +kernel
theorem d_M_back_5 : decode b_M_back 5 = .ok (.ifCond .eq 15, 3) := by decide +kernel
theorem d_M_back_8 : decode b_M_back 8 = .ok (.aload_n 0, 1) := by decide +kernel
theorem d_M_back_9 : decode b_M_back 9 = .ok (.iload_n 2, 1) := by decide +kernel
theorem d_M_back_10 : decode b_M_back 10 = .ok (.invokevirtual 113, 3) := by decide +kernel
theorem d_M_back_13 : decode b_M_back 13 = .ok (.ifCond .eq 7, 3) := by decide +kernel
theorem d_M_back_16 : decode b_M_back 16 = .ok (.iconst 1, 1) := by decide +kernel
theorem d_M_back_17 : decode b_M_back 17 = .ok (.goto 4, 3) := by decide +kernel
theorem d_M_back_20 : decode b_M_back 20 = .ok (.iconst 0, 1) := by decide +kernel
theorem d_M_back_21 : decode b_M_back 21 = .ok (.istore 4, 2) := by decide +kernel
theorem d_M_back_23 : decode b_M_back 23 = .ok (.iload 4, 2) := by decide +kernel
theorem d_M_back_25 : decode b_M_back 25 = .ok (.ifCond .eq 17, 3) := by decide +kernel
theorem d_M_back_28 : decode b_M_back 28 = .ok (.aload_n 0, 1) := by decide +kernel
theorem d_M_back_29 : decode b_M_back 29 = .ok (.getfield 16, 3) := by decide +kernel
theorem d_M_back_32 : decode b_M_back 32 = .ok (.iload_n 2, 1) := by decide +kernel
theorem d_M_back_33 : decode b_M_back 33 = .ok (.iaload, 1) := by decide +kernel
theorem d_M_back_34 : decode b_M_back 34 = .ok (.iload_n 3, 1) := by decide +kernel
theorem d_M_back_35 : decode b_M_back 35 = .ok (.if_icmp .lt 7, 3) := by decide +kernel
theorem d_M_back_38 : decode b_M_back 38 = .ok (.iconst 1, 1) := by decide +kernel
theorem d_M_back_39 : decode b_M_back 39 = .ok (.goto 4, 3) := by decide +kernel
theorem d_M_back_42 : decode b_M_back 42 = .ok (.iconst 0, 1) := by decide +kernel
theorem d_M_back_43 : decode b_M_back 43 = .ok (.istore 5, 2) := by decide +kernel
theorem d_M_back_45 : decode b_M_back 45 = .ok (.aload_n 0, 1) := by decide +kernel
theorem d_M_back_46 : decode b_M_back 46 = .ok (.bipush 11, 2) := by decide +kernel
theorem d_M_back_48 : decode b_M_back 48 = .ok (.iload 4, 2) := by decide +kernel
theorem d_M_back_50 : decode b_M_back 50 = .ok (.iload_n 3, 1) := by decide +kernel
theorem d_M_back_51 : decode b_M_back 51 = .ok (.invokestatic 123, 3) := by decide +kernel
theorem d_M_back_54 : decode b_M_back 54 = .ok (.iconst 1, 1) := by decide +kernel
theorem d_M_back_55 : decode b_M_back 55 = .ok (.iload 5, 2) := by decide +kernel
theorem d_M_back_57 : decode b_M_back 57 = .ok (.ifCond .eq 17, 3) := by decide +kernel
theorem d_M_back_60 : decode b_M_back 60 = .ok (.aload_n 0, 1) := by decide +kernel
theorem d_M_back_61 : decode b_M_back 61 = .ok (.iload_n 1, 1) := by decide +kernel
theorem d_M_back_62 : decode b_M_back 62 = .ok (.iload_n 2, 1) := by decide +kernel
theorem d_M_back_63 : decode b_M_back 63 = .ok (.invokevirtual 126, 3) := by decide +kernel
theorem d_M_back_66 : decode b_M_back 66 = .ok (.iload_n 3, 1) := by decide +kernel
theorem d_M_back_67 : decode b_M_back 67 = .ok (.iadd, 1) := by decide +kernel
theorem d_M_back_68 : decode b_M_back 68 = .ok (.sipush 9999, 3) := by decide +kernel
theorem d_M_back_71 : decode b_M_back 71 = .ok (.if_icmp .gt 7, 3) := by decide +kernel
theorem d_M_back_74 : decode b_M_back 74 = .ok (.iconst 1, 1) := by decide +kernel
theorem d_M_back_75 : decode b_M_back 75 = .ok (.goto 4, 3) := by decide +kernel
theorem d_M_back_78 : decode b_M_back 78 = .ok (.iconst 0, 1) := by decide +kernel
theorem d_M_back_79 : decode b_M_back 79 = .ok (.invokevirtual 116, 3) := by decide +kernel
theorem d_M_back_82 : decode b_M_back 82 = .ok (.ifCond .eq 8, 3) := by decide +kernel
theorem d_M_back_85 : decode b_M_back 85 = .ok (.iload 5, 2) := by decide +kernel
theorem d_M_back_87 : decode b_M_back 87 = .ok (.ifCond .ne 5, 3) := by decide +kernel
theorem d_M_back_90 : decode b_M_back 90 = .ok (.iconst 0, 1) := by decide +kernel
theorem d_M_back_91 : decode b_M_back 91 = .ok (.ireturn, 1) := by decide +kernel
theorem d_M_back_92 : decode b_M_back 92 = .ok (.aload_n 0, 1) := by decide +kernel
theorem d_M_back_93 : decode b_M_back 93 = .ok (.getfield 16, 3) := by decide +kernel
theorem d_M_back_96 : decode b_M_back 96 = .ok (.iload_n 2, 1) := by decide +kernel
theorem d_M_back_97 : decode b_M_back 97 = .ok (.aload_n 0, 1) := by decide +kernel
theorem d_M_back_98 : decode b_M_back 98 = .ok (.getfield 16, 3) := by decide +kernel
theorem d_M_back_101 : decode b_M_back 101 = .ok (.iload_n 2, 1) := by decide +kernel
theorem d_M_back_102 : decode b_M_back 102 = .ok (.iaload, 1) := by decide +kernel
theorem d_M_back_103 : decode b_M_back 103 = .ok (.iload_n 3, 1) := by decide +kernel
theorem d_M_back_104 : decode b_M_back 104 = .ok (.isub, 1) := by decide +kernel
theorem d_M_back_105 : decode b_M_back 105 = .ok (.iastore, 1) := by decide +kernel
theorem d_M_back_106 : decode b_M_back 106 = .ok (.aload_n 0, 1) := by decide +kernel
theorem d_M_back_107 : decode b_M_back 107 = .ok (.getfield 25, 3) := by decide +kernel
theorem d_M_back_110 : decode b_M_back 110 = .ok (.iload_n 1, 1) := by decide +kernel
theorem d_M_back_111 : decode b_M_back 111 = .ok (.bipush 60, 2) := by decide +kernel
theorem d_M_back_113 : decode b_M_back 113 = .ok (.imul, 1) := by decide +kernel
theorem d_M_back_114 : decode b_M_back 114 = .ok (.iload_n 2, 1) := by decide +kernel
theorem d_M_back_115 : decode b_M_back 115 = .ok (.iadd, 1) := by decide +kernel
theorem d_M_back_116 : decode b_M_back 116 = .ok (.aload_n 0, 1) := by decide +kernel
theorem d_M_back_117 : decode b_M_back 117 = .ok (.iload_n 1, 1) := by decide +kernel
theorem d_M_back_118 : decode b_M_back 118 = .ok (.iload_n 2, 1) := by decide +kernel
theorem d_M_back_119 : decode b_M_back 119 = .ok (.invokevirtual 126, 3) := by decide +kernel
theorem d_M_back_122 : decode b_M_back 122 = .ok (.iload_n 3, 1) := by decide +kernel
theorem d_M_back_123 : decode b_M_back 123 = .ok (.iadd, 1) := by decide +kernel
theorem d_M_back_124 : decode b_M_back 124 = .ok (.iastore, 1) := by decide +kernel
theorem d_M_back_125 : decode b_M_back 125 = .ok (.iconst 1, 1) := by decide +kernel
theorem d_M_back_126 : decode b_M_back 126 = .ok (.ireturn, 1) := by decide +kernel
theorem d_M_waste_0 : decode b_M_waste 0 = .ok (.aload_n 0, 1) := by decide +kernel
theorem d_M_waste_1 : decode b_M_waste 1 = .ok (.iload_n 1, 1) := by decide +kernel
theorem d_M_waste_2 : decode b_M_waste 2 = .ok (.invokevirtual 109, 3) := by decide +kernel
theorem d_M_waste_5 : decode b_M_waste 5 = .ok (.ifCond .eq 15, 3) := by decide +kernel
theorem d_M_waste_8 : decode b_M_waste 8 = .ok (.aload_n 0, 1) := by decide +kernel
theorem d_M_waste_9 : decode b_M_waste 9 = .ok (.iload_n 2, 1) := by decide +kernel
theorem d_M_waste_10 : decode b_M_waste 10 = .ok (.invokevirtual 113, 3) := by decide +kernel
theorem d_M_waste_13 : decode b_M_waste 13 = .ok (.ifCond .eq 7, 3) := by decide +kernel
theorem d_M_waste_16 : decode b_M_waste 16 = .ok (.iconst 1, 1) := by decide +kernel
theorem d_M_waste_17 : decode b_M_waste 17 = .ok (.goto 4, 3) := by decide +kernel
theorem d_M_waste_20 : decode b_M_waste 20 = .ok (.iconst 0, 1) := by decide +kernel
theorem d_M_waste_21 : decode b_M_waste 21 = .ok (.istore 5, 2) := by decide +kernel
theorem d_M_waste_23 : decode b_M_waste 23 = .ok (.aload_n 0, 1) := by decide +kernel
theorem d_M_waste_24 : decode b_M_waste 24 = .ok (.bipush 7, 2) := by decide +kernel
theorem d_M_waste_26 : decode b_M_waste 26 = .ok (.iload 5, 2) := by decide +kernel
theorem d_M_waste_28 : decode b_M_waste 28 = .ok (.iload_n 3, 1) := by decide +kernel
theorem d_M_waste_29 : decode b_M_waste 29 = .ok (.invokestatic 123, 3) := by decide +kernel
theorem d_M_waste_32 : decode b_M_waste 32 = .ok (.ifCond .eq 19, 3) := by decide +kernel
theorem d_M_waste_35 : decode b_M_waste 35 = .ok (.iload 4, 2) := by decide +kernel
theorem d_M_waste_37 : decode b_M_waste 37 = .ok (.iconst 1, 1) := by decide +kernel
theorem d_M_waste_38 : decode b_M_waste 38 = .ok (.sipush 9999, 3) := by decide +kernel
theorem d_M_waste_41 : decode b_M_waste 41 = .ok (.invokestatic 102, 3) := by decide +kernel
theorem d_M_waste_44 : decode b_M_waste 44 = .ok (.ifCond .eq 7, 3) := by decide +kernel
theorem d_M_waste_47 : decode b_M_waste 47 = .ok (.iconst 1, 1) := by decide +kernel
theorem d_M_waste_48 : decode b_M_waste 48 = .ok (.goto 4, 3) := by decide +kernel
theorem d_M_waste_51 : decode b_M_waste 51 = .ok (.iconst 0, 1) := by decide +kernel
theorem d_M_waste_52 : decode b_M_waste 52 = .ok (.iload 5, 2) := by decide +kernel
theorem d_M_waste_54 : decode b_M_waste 54 = .ok (.ifCond .eq 17, 3) := by decide +kernel
theorem d_M_waste_57 : decode b_M_waste 57 = .ok (.aload_n 0, 1) := by decide +kernel
theorem d_M_waste_58 : decode b_M_waste 58 = .ok (.iload_n 1, 1) := by decide +kernel
theorem d_M_waste_59 : decode b_M_waste 59 = .ok (.iload_n 2, 1) := by decide +kernel
theorem d_M_waste_60 : decode b_M_waste 60 = .ok (.invokevirtual 126, 3) := by decide +kernel
theorem d_M_waste_63 : decode b_M_waste 63 = .ok (.iload_n 3, 1) := by decide +kernel
theorem d_M_waste_64 : decode b_M_waste 64 = .ok (.if_icmp .lt 7, 3) := by decide +kernel
theorem d_M_waste_67 : decode b_M_waste 67 = .ok (.iconst 1, 1) := by decide +kernel
theorem d_M_waste_68 : decode b_M_waste 68 = .ok (.goto 4, 3) := by decide +kernel
theorem d_M_waste_71 : decode b_M_waste 71 = .ok (.iconst 0, 1) := by decide +kernel
theorem d_M_waste_72 : decode b_M_waste 72 = .ok (.iconst 1, 1) := by decide +kernel
theorem d_M_waste_73 : decode b_M_waste 73 = .ok (.invokevirtual 116, 3) := by decide +kernel
theorem d_M_waste_76 : decode b_M_waste 76 = .ok (.ifCond .ne 5, 3) := by decide +kernel
theorem d_M_waste_79 : decode b_M_waste 79 = .ok (.iconst 0, 1) := by decide +kernel
theorem d_M_waste_80 : decode b_M_waste 80 = .ok (.ireturn, 1) := by decide +kernel
theorem d_M_waste_81 : decode b_M_waste 81 = .ok (.aload_n 0, 1) := by decide +kernel
theorem d_M_waste_82 : decode b_M_waste 82 = .ok (.getfield 25, 3) := by decide +kernel
theorem d_M_waste_85 : decode b_M_waste 85 = .ok (.iload_n 1, 1) := by decide +kernel
theorem d_M_waste_86 : decode b_M_waste 86 = .ok (.bipush 60, 2) := by decide +kernel
theorem d_M_waste_88 : decode b_M_waste 88 = .ok (.imul, 1) := by decide +kernel
theorem d_M_waste_89 : decode b_M_waste 89 = .ok (.iload_n 2, 1) := by decide +kernel
theorem d_M_waste_90 : decode b_M_waste 90 = .ok (.iadd, 1) := by decide +kernel
theorem d_M_waste_91 : decode b_M_waste 91 = .ok (.aload_n 0, 1) := by decide +kernel
theorem d_M_waste_92 : decode b_M_waste 92 = .ok (.iload_n 1, 1) := by decide +kernel
theorem d_M_waste_93 : decode b_M_waste 93 = .ok (.iload_n 2, 1) := by decide +kernel
theorem d_M_waste_94 : decode b_M_waste 94 = .ok (.invokevirtual 126, 3) := by decide +kernel
theorem d_M_waste_97 : decode b_M_waste 97 = .ok (.iload_n 3, 1) := by decide +kernel
theorem d_M_waste_98 : decode b_M_waste 98 = .ok (.isub, 1) := by decide +kernel
theorem d_M_waste_99 : decode b_M_waste 99 = .ok (.iastore, 1) := by decide +kernel
theorem d_M_waste_100 : decode b_M_waste 100 = .ok (.aload_n 0, 1) := by decide +kernel
theorem d_M_waste_101 : decode b_M_waste 101 = .ok (.getfield 19, 3) := by decide +kernel
theorem d_M_waste_104 : decode b_M_waste 104 = .ok (.iload_n 2, 1) := by decide +kernel
theorem d_M_waste_105 : decode b_M_waste 105 = .ok (.aload_n 0, 1) := by decide +kernel
theorem d_M_waste_106 : decode b_M_waste 106 = .ok (.getfield 19, 3) := by decide +kernel
theorem d_M_waste_109 : decode b_M_waste 109 = .ok (.iload_n 2, 1) := by decide +kernel
theorem d_M_waste_110 : decode b_M_waste 110 = .ok (.iaload, 1) := by decide +kernel
theorem d_M_waste_111 : decode b_M_waste 111 = .ok (.iload_n 3, 1) := by decide +kernel
theorem d_M_waste_112 : decode b_M_waste 112 = .ok (.iadd, 1) := by decide +kernel
theorem d_M_waste_113 : decode b_M_waste 113 = .ok (.iastore, 1) := by decide +kernel
theorem d_M_waste_114 : decode b_M_waste 114 = .ok (.aload_n 0, 1) := by decide +kernel
theorem d_M_waste_115 : decode b_M_waste 115 = .ok (.getfield 22, 3) := by decide +kernel
theorem d_M_waste_118 : decode b_M_waste 118 = .ok (.iload_n 2, 1) := by decide +kernel
theorem d_M_waste_119 : decode b_M_waste 119 = .ok (.iload 4, 2) := by decide +kernel
theorem d_M_waste_121 : decode b_M_waste 121 = .ok (.iastore, 1) := by decide +kernel
theorem d_M_waste_122 : decode b_M_waste 122 = .ok (.aload_n 0, 1) := by decide +kernel
theorem d_M_waste_123 : decode b_M_waste 123 = .ok (.getfield 19, 3) := by decide +kernel
theorem d_M_waste_126 : decode b_M_waste 126 = .ok (.iload_n 2, 1) := by decide +kernel
theorem d_M_waste_127 : decode b_M_waste 127 = .ok (.iaload, 1) := by decide +kernel
theorem d_M_waste_128 : decode b_M_waste 128 = .ok (.ireturn, 1) := by decide +kernel
theorem d_M_lotAt_0 : decode b_M_lotAt 0 = .ok (.aload_n 0, 1) := by decide +kernel
theorem d_M_lotAt_1 : decode b_M_lotAt 1 = .ok (.iconst 1, 1) := by decide +kernel
theorem d_M_lotAt_2 : decode b_M_lotAt 2 = .ok (.aload_n 0, 1) := by decide +kernel
theorem d_M_lotAt_3 : decode b_M_lotAt 3 = .ok (.iload_n 1, 1) := by decide +kernel
theorem d_M_lotAt_4 : decode b_M_lotAt 4 = .ok (.invokevirtual 113, 3) := by decide +kernel
theorem d_M_lotAt_7 : decode b_M_lotAt 7 = .ok (.ifCond .eq 16, 3) := by decide +kernel
theorem d_M_lotAt_10 : decode b_M_lotAt 10 = .ok (.iload_n 2, 1) := by decide +kernel
theorem d_M_lotAt_11 : decode b_M_lotAt 11 = .ok (.iconst 0, 1) := by decide +kernel
theorem d_M_lotAt_12 : decode b_M_lotAt 12 = .ok (.iconst 5, 1) := by decide +kernel
theorem d_M_lotAt_13 : decode b_M_lotAt 13 = .ok (.invokestatic 102, 3) := by decide +kernel
theorem d_M_lotAt_16 : decode b_M_lotAt 16 = .ok (.ifCond .eq 7, 3) := by decide +kernel
theorem d_M_lotAt_19 : decode b_M_lotAt 19 = .ok (.iconst 1, 1) := by decide +kernel
theorem d_M_lotAt_20 : decode b_M_lotAt 20 = .ok (.goto 4, 3) := by decide +kernel
theorem d_M_lotAt_23 : decode b_M_lotAt 23 = .ok (.iconst 0, 1) := by decide +kernel
theorem d_M_lotAt_24 : decode b_M_lotAt 24 = .ok (.iconst 1, 1) := by decide +kernel
theorem d_M_lotAt_25 : decode b_M_lotAt 25 = .ok (.iconst 1, 1) := by decide +kernel
theorem d_M_lotAt_26 : decode b_M_lotAt 26 = .ok (.iconst 1, 1) := by decide +kernel
theorem d_M_lotAt_27 : decode b_M_lotAt 27 = .ok (.invokevirtual 116, 3) := by decide +kernel
theorem d_M_lotAt_30 : decode b_M_lotAt 30 = .ok (.ifCond .ne 5, 3) := by decide +kernel
theorem d_M_lotAt_33 : decode b_M_lotAt 33 = .ok (.iconst 0, 1) := by decide +kernel
theorem d_M_lotAt_34 : decode b_M_lotAt 34 = .ok (.ireturn, 1) := by decide +kernel
theorem d_M_lotAt_35 : decode b_M_lotAt 35 = .ok (.iconst 0, 1) := by decide +kernel
theorem d_M_lotAt_36 : decode b_M_lotAt 36 = .ok (.istore_n 3, 1) := by decide +kernel
theorem d_M_lotAt_37 : decode b_M_lotAt 37 = .ok (.iconst 0, 1) := by decide +kernel
theorem d_M_lotAt_38 : decode b_M_lotAt 38 = .ok (.istore 4, 2) := by decide +kernel
theorem d_M_lotAt_40 : decode b_M_lotAt 40 = .ok (.iload 4, 2) := by decide +kernel
theorem d_M_lotAt_42 : decode b_M_lotAt 42 = .ok (.aload_n 0, 1) := by decide +kernel
theorem d_M_lotAt_43 : decode b_M_lotAt 43 = .ok (.getfield 99, 3) := by decide +kernel
theorem d_M_lotAt_46 : decode b_M_lotAt 46 = .ok (.if_icmp .ge 19, 3) := by decide +kernel
theorem d_M_lotAt_49 : decode b_M_lotAt 49 = .ok (.iload_n 3, 1) := by decide +kernel
theorem d_M_lotAt_50 : decode b_M_lotAt 50 = .ok (.aload_n 0, 1) := by decide +kernel
theorem d_M_lotAt_51 : decode b_M_lotAt 51 = .ok (.iload 4, 2) := by decide +kernel
theorem d_M_lotAt_53 : decode b_M_lotAt 53 = .ok (.iload_n 1, 1) := by decide +kernel
theorem d_M_lotAt_54 : decode b_M_lotAt 54 = .ok (.invokevirtual 126, 3) := by decide +kernel
theorem d_M_lotAt_57 : decode b_M_lotAt 57 = .ok (.iadd, 1) := by decide +kernel
theorem d_M_lotAt_58 : decode b_M_lotAt 58 = .ok (.istore_n 3, 1) := by decide +kernel
theorem d_M_lotAt_59 : decode b_M_lotAt 59 = .ok (.iinc 4 1, 3) := by decide +kernel
theorem d_M_lotAt_62 : decode b_M_lotAt 62 = .ok (.goto (-22), 3) := by decide +kernel
theorem d_M_lotAt_65 : decode b_M_lotAt 65 = .ok (.iload_n 2, 1) := by decide +kernel
theorem d_M_lotAt_66 : decode b_M_lotAt 66 = .ok (.ifCond .ne 12, 3) := by decide +kernel
theorem d_M_lotAt_69 : decode b_M_lotAt 69 = .ok (.aload_n 0, 1) := by decide +kernel
theorem d_M_lotAt_70 : decode b_M_lotAt 70 = .ok (.getfield 7, 3) := by decide +kernel
theorem d_M_lotAt_73 : decode b_M_lotAt 73 = .ok (.iload_n 1, 1) := by decide +kernel
theorem d_M_lotAt_74 : decode b_M_lotAt 74 = .ok (.iaload, 1) := by decide +kernel
theorem d_M_lotAt_75 : decode b_M_lotAt 75 = .ok (.goto 60, 3) := by decide +kernel
theorem d_M_lotAt_78 : decode b_M_lotAt 78 = .ok (.iload_n 2, 1) := by decide +kernel
theorem d_M_lotAt_79 : decode b_M_lotAt 79 = .ok (.iconst 1, 1) := by decide +kernel
theorem d_M_lotAt_80 : decode b_M_lotAt 80 = .ok (.if_icmp .ne 12, 3) := by decide +kernel
theorem d_M_lotAt_83 : decode b_M_lotAt 83 = .ok (.aload_n 0, 1) := by decide +kernel
theorem d_M_lotAt_84 : decode b_M_lotAt 84 = .ok (.getfield 13, 3) := by decide +kernel
theorem d_M_lotAt_87 : decode b_M_lotAt 87 = .ok (.iload_n 1, 1) := by decide +kernel
theorem d_M_lotAt_88 : decode b_M_lotAt 88 = .ok (.iaload, 1) := by decide +kernel
theorem d_M_lotAt_89 : decode b_M_lotAt 89 = .ok (.goto 46, 3) := by decide +kernel
theorem d_M_lotAt_92 : decode b_M_lotAt 92 = .ok (.iload_n 2, 1) := by decide +kernel
theorem d_M_lotAt_93 : decode b_M_lotAt 93 = .ok (.iconst 2, 1) := by decide +kernel
theorem d_M_lotAt_94 : decode b_M_lotAt 94 = .ok (.if_icmp .ne 12, 3) := by decide +kernel
theorem d_M_lotAt_97 : decode b_M_lotAt 97 = .ok (.aload_n 0, 1) := by decide +kernel
theorem d_M_lotAt_98 : decode b_M_lotAt 98 = .ok (.getfield 16, 3) := by decide +kernel
theorem d_M_lotAt_101 : decode b_M_lotAt 101 = .ok (.iload_n 1, 1) := by decide +kernel
theorem d_M_lotAt_102 : decode b_M_lotAt 102 = .ok (.iaload, 1) := by decide +kernel
theorem d_M_lotAt_103 : decode b_M_lotAt 103 = .ok (.goto 32, 3) := by decide +kernel
theorem d_M_lotAt_106 : decode b_M_lotAt 106 = .ok (.iload_n 2, 1) := by decide +kernel
theorem d_M_lotAt_107 : decode b_M_lotAt 107 = .ok (.iconst 3, 1) := by decide +kernel
theorem d_M_lotAt_108 : decode b_M_lotAt 108 = .ok (.if_icmp .ne 12, 3) := by decide +kernel
theorem d_M_lotAt_111 : decode b_M_lotAt 111 = .ok (.aload_n 0, 1) := by decide +kernel
theorem d_M_lotAt_112 : decode b_M_lotAt 112 = .ok (.getfield 19, 3) := by decide +kernel
theorem d_M_lotAt_115 : decode b_M_lotAt 115 = .ok (.iload_n 1, 1) := by decide +kernel
theorem d_M_lotAt_116 : decode b_M_lotAt 116 = .ok (.iaload, 1) := by decide +kernel
theorem d_M_lotAt_117 : decode b_M_lotAt 117 = .ok (.goto 18, 3) := by decide +kernel
theorem d_M_lotAt_120 : decode b_M_lotAt 120 = .ok (.iload_n 2, 1) := by decide +kernel
theorem d_M_lotAt_121 : decode b_M_lotAt 121 = .ok (.iconst 4, 1) := by decide +kernel
theorem d_M_lotAt_122 : decode b_M_lotAt 122 = .ok (.if_icmp .ne 12, 3) := by decide +kernel
theorem d_M_lotAt_125 : decode b_M_lotAt 125 = .ok (.aload_n 0, 1) := by decide +kernel
theorem d_M_lotAt_126 : decode b_M_lotAt 126 = .ok (.getfield 22, 3) := by decide +kernel
theorem d_M_lotAt_129 : decode b_M_lotAt 129 = .ok (.iload_n 1, 1) := by decide +kernel
theorem d_M_lotAt_130 : decode b_M_lotAt 130 = .ok (.iaload, 1) := by decide +kernel
theorem d_M_lotAt_131 : decode b_M_lotAt 131 = .ok (.goto 4, 3) := by decide +kernel
theorem d_M_lotAt_134 : decode b_M_lotAt 134 = .ok (.iload_n 3, 1) := by decide +kernel
theorem d_M_lotAt_135 : decode b_M_lotAt 135 = .ok (.ireturn, 1) := by decide +kernel
theorem d_M_row_0 : decode b_M_row 0 = .ok (.aload_n 0, 1) := by decide +kernel
theorem d_M_row_1 : decode b_M_row 1 = .ok (.getfield 167, 3) := by decide +kernel
theorem d_M_row_4 : decode b_M_row 4 = .ok (.ifCond .eq 33, 3) := by decide +kernel
theorem d_M_row_7 : decode b_M_row 7 = .ok (.iload_n 1, 1) := by decide +kernel
theorem d_M_row_8 : decode b_M_row 8 = .ok (.aload_n 0, 1) := by decide +kernel
theorem d_M_row_9 : decode b_M_row 9 = .ok (.getfield 89, 3) := by decide +kernel
theorem d_M_row_12 : decode b_M_row 12 = .ok (.aload_n 0, 1) := by decide +kernel
theorem d_M_row_13 : decode b_M_row 13 = .ok (.getfield 167, 3) := by decide +kernel
theorem d_M_row_16 : decode b_M_row 16 = .ok (.iconst 1, 1) := by decide +kernel
theorem d_M_row_17 : decode b_M_row 17 = .ok (.isub, 1) := by decide +kernel
theorem d_M_row_18 : decode b_M_row 18 = .ok (.iaload, 1) := by decide +kernel
theorem d_M_row_19 : decode b_M_row 19 = .ok (.if_icmp .le 22, 3) := by decide +kernel
theorem d_M_row_22 : decode b_M_row 22 = .ok (.iload_n 2, 1) := by decide +kernel
theorem d_M_row_23 : decode b_M_row 23 = .ok (.aload_n 0, 1) := by decide +kernel
theorem d_M_row_24 : decode b_M_row 24 = .ok (.getfield 92, 3) := by decide +kernel
theorem d_M_row_27 : decode b_M_row 27 = .ok (.aload_n 0, 1) := by decide +kernel
theorem d_M_row_28 : decode b_M_row 28 = .ok (.getfield 167, 3) := by decide +kernel
theorem d_M_row_31 : decode b_M_row 31 = .ok (.iconst 1, 1) := by decide +kernel
theorem d_M_row_32 : decode b_M_row 32 = .ok (.isub, 1) := by decide +kernel
theorem d_M_row_33 : decode b_M_row 33 = .ok (.iaload, 1) := by decide +kernel
theorem d_M_row_34 : decode b_M_row 34 = .ok (.if_icmp .le 7, 3) := by decide +kernel
theorem d_M_row_37 : decode b_M_row 37 = .ok (.iconst 1, 1) := by decide +kernel
theorem d_M_row_38 : decode b_M_row 38 = .ok (.goto 4, 3) := by decide +kernel
theorem d_M_row_41 : decode b_M_row 41 = .ok (.iconst 0, 1) := by decide +kernel
theorem d_M_row_42 : decode b_M_row 42 = .ok (.istore_n 3, 1) := by decide +kernel
theorem d_M_row_43 : decode b_M_row 43 = .ok (.aload_n 0, 1) := by decide +kernel
theorem d_M_row_44 : decode b_M_row 44 = .ok (.bipush 14, 2) := by decide +kernel
theorem d_M_row_46 : decode b_M_row 46 = .ok (.iconst 1, 1) := by decide +kernel
theorem d_M_row_47 : decode b_M_row 47 = .ok (.iload_n 1, 1) := by decide +kernel
theorem d_M_row_48 : decode b_M_row 48 = .ok (.iconst 0, 1) := by decide +kernel
theorem d_M_row_49 : decode b_M_row 49 = .ok (.ldc 170, 2) := by decide +kernel
theorem d_M_row_51 : decode b_M_row 51 = .ok (.invokestatic 102, 3) := by decide +kernel
theorem d_M_row_54 : decode b_M_row 54 = .ok (.ifCond .eq 17, 3) := by decide +kernel
theorem d_M_row_57 : decode b_M_row 57 = .ok (.iload_n 2, 1) := by decide +kernel
theorem d_M_row_58 : decode b_M_row 58 = .ok (.iconst 0, 1) := by decide +kernel
theorem d_M_row_59 : decode b_M_row 59 = .ok (.ldc 170, 2) := by decide +kernel
theorem d_M_row_61 : decode b_M_row 61 = .ok (.invokestatic 102, 3) := by decide +kernel
theorem d_M_row_64 : decode b_M_row 64 = .ok (.ifCond .eq 7, 3) := by decide +kernel
theorem d_M_row_67 : decode b_M_row 67 = .ok (.iconst 1, 1) := by decide +kernel
theorem d_M_row_68 : decode b_M_row 68 = .ok (.goto 4, 3) := by decide +kernel
theorem d_M_row_71 : decode b_M_row 71 = .ok (.iconst 0, 1) := by decide +kernel
theorem d_M_row_72 : decode b_M_row 72 = .ok (.iload_n 3, 1) := by decide +kernel
theorem d_M_row_73 : decode b_M_row 73 = .ok (.aload_n 0, 1) := by decide +kernel
theorem d_M_row_74 : decode b_M_row 74 = .ok (.getfield 167, 3) := by decide +kernel
theorem d_M_row_77 : decode b_M_row 77 = .ok (.bipush 10, 2) := by decide +kernel
theorem d_M_row_79 : decode b_M_row 79 = .ok (.if_icmp .ge 7, 3) := by decide +kernel
theorem d_M_row_82 : decode b_M_row 82 = .ok (.iconst 1, 1) := by decide +kernel
theorem d_M_row_83 : decode b_M_row 83 = .ok (.goto 4, 3) := by decide +kernel
theorem d_M_row_86 : decode b_M_row 86 = .ok (.iconst 0, 1) := by decide +kernel
theorem d_M_row_87 : decode b_M_row 87 = .ok (.invokevirtual 116, 3) := by decide +kernel
theorem d_M_row_90 : decode b_M_row 90 = .ok (.ifCond .ne 5, 3) := by decide +kernel
theorem d_M_row_93 : decode b_M_row 93 = .ok (.iconst 0, 1) := by decide +kernel
theorem d_M_row_94 : decode b_M_row 94 = .ok (.ireturn, 1) := by decide +kernel
theorem d_M_row_95 : decode b_M_row 95 = .ok (.aload_n 0, 1) := by decide +kernel
theorem d_M_row_96 : decode b_M_row 96 = .ok (.getfield 89, 3) := by decide +kernel
theorem d_M_row_99 : decode b_M_row 99 = .ok (.aload_n 0, 1) := by decide +kernel
theorem d_M_row_100 : decode b_M_row 100 = .ok (.getfield 167, 3) := by decide +kernel
theorem d_M_row_103 : decode b_M_row 103 = .ok (.iload_n 1, 1) := by decide +kernel
theorem d_M_row_104 : decode b_M_row 104 = .ok (.iastore, 1) := by decide +kernel
theorem d_M_row_105 : decode b_M_row 105 = .ok (.aload_n 0, 1) := by decide +kernel
theorem d_M_row_106 : decode b_M_row 106 = .ok (.getfield 92, 3) := by decide +kernel
theorem d_M_row_109 : decode b_M_row 109 = .ok (.aload_n 0, 1) := by decide +kernel
theorem d_M_row_110 : decode b_M_row 110 = .ok (.getfield 167, 3) := by decide +kernel
theorem d_M_row_113 : decode b_M_row 113 = .ok (.iload_n 2, 1) := by decide +kernel
theorem d_M_row_114 : decode b_M_row 114 = .ok (.iastore, 1) := by decide +kernel
theorem d_M_row_115 : decode b_M_row 115 = .ok (.aload_n 0, 1) := by decide +kernel
theorem d_M_row_116 : decode b_M_row 116 = .ok (.dup, 1) := by decide +kernel
theorem d_M_row_117 : decode b_M_row 117 = .ok (.getfield 167, 3) := by decide +kernel
theorem d_M_row_120 : decode b_M_row 120 = .ok (.iconst 1, 1) := by decide +kernel
theorem d_M_row_121 : decode b_M_row 121 = .ok (.iadd, 1) := by decide +kernel
theorem d_M_row_122 : decode b_M_row 122 = .ok (.putfield 167, 3) := by decide +kernel
theorem d_M_row_125 : decode b_M_row 125 = .ok (.aload_n 0, 1) := by decide +kernel
theorem d_M_row_126 : decode b_M_row 126 = .ok (.getfield 167, 3) := by decide +kernel
theorem d_M_row_129 : decode b_M_row 129 = .ok (.ireturn, 1) := by decide +kernel
theorem d_M_dip_0 : decode b_M_dip 0 = .ok (.aload_n 0, 1) := by decide +kernel
theorem d_M_dip_1 : decode b_M_dip 1 = .ok (.iconst 2, 1) := by decide +kernel
theorem d_M_dip_2 : decode b_M_dip 2 = .ok (.iconst 1, 1) := by decide +kernel
theorem d_M_dip_3 : decode b_M_dip 3 = .ok (.iload_n 1, 1) := by decide +kernel
theorem d_M_dip_4 : decode b_M_dip 4 = .ok (.iconst 0, 1) := by decide +kernel
theorem d_M_dip_5 : decode b_M_dip 5 = .ok (.ldc 170, 2) := by decide +kernel
theorem d_M_dip_7 : decode b_M_dip 7 = .ok (.invokestatic 102, 3) := by decide +kernel
theorem d_M_dip_10 : decode b_M_dip 10 = .ok (.iconst 1, 1) := by decide +kernel
theorem d_M_dip_11 : decode b_M_dip 11 = .ok (.iconst 1, 1) := by decide +kernel
theorem d_M_dip_12 : decode b_M_dip 12 = .ok (.invokevirtual 116, 3) := by decide +kernel
theorem d_M_dip_15 : decode b_M_dip 15 = .ok (.ifCond .ne 5, 3) := by decide +kernel
theorem d_M_dip_18 : decode b_M_dip 18 = .ok (.iconst 0, 1) := by decide +kernel
theorem d_M_dip_19 : decode b_M_dip 19 = .ok (.ireturn, 1) := by decide +kernel
theorem d_M_dip_20 : decode b_M_dip 20 = .ok (.iconst 0, 1) := by decide +kernel
theorem d_M_dip_21 : decode b_M_dip 21 = .ok (.istore_n 2, 1) := by decide +kernel
theorem d_M_dip_22 : decode b_M_dip 22 = .ok (.iload_n 2, 1) := by decide +kernel
theorem d_M_dip_23 : decode b_M_dip 23 = .ok (.aload_n 0, 1) := by decide +kernel
theorem d_M_dip_24 : decode b_M_dip 24 = .ok (.getfield 167, 3) := by decide +kernel
theorem d_M_dip_27 : decode b_M_dip 27 = .ok (.if_icmp .ge 108, 3) := by decide +kernel
theorem d_M_dip_30 : decode b_M_dip 30 = .ok (.aload_n 0, 1) := by decide +kernel
theorem d_M_dip_31 : decode b_M_dip 31 = .ok (.getfield 89, 3) := by decide +kernel
theorem d_M_dip_34 : decode b_M_dip 34 = .ok (.iload_n 2, 1) := by decide +kernel
theorem d_M_dip_35 : decode b_M_dip 35 = .ok (.iaload, 1) := by decide +kernel
theorem d_M_dip_36 : decode b_M_dip 36 = .ok (.iload_n 1, 1) := by decide +kernel
theorem d_M_dip_37 : decode b_M_dip 37 = .ok (.if_icmp .ne 10, 3) := by decide +kernel
theorem d_M_dip_40 : decode b_M_dip 40 = .ok (.aload_n 0, 1) := by decide +kernel
theorem d_M_dip_41 : decode b_M_dip 41 = .ok (.getfield 92, 3) := by decide +kernel
theorem d_M_dip_44 : decode b_M_dip 44 = .ok (.iload_n 2, 1) := by decide +kernel
theorem d_M_dip_45 : decode b_M_dip 45 = .ok (.iaload, 1) := by decide +kernel
theorem d_M_dip_46 : decode b_M_dip 46 = .ok (.ireturn, 1) := by decide +kernel
theorem d_M_dip_47 : decode b_M_dip 47 = .ok (.iload_n 2, 1) := by decide +kernel
theorem d_M_dip_48 : decode b_M_dip 48 = .ok (.ifCond .le 81, 3) := by decide +kernel
theorem d_M_dip_51 : decode b_M_dip 51 = .ok (.iload_n 1, 1) := by decide +kernel
theorem d_M_dip_52 : decode b_M_dip 52 = .ok (.aload_n 0, 1) := by decide +kernel
theorem d_M_dip_53 : decode b_M_dip 53 = .ok (.getfield 89, 3) := by decide +kernel
theorem d_M_dip_56 : decode b_M_dip 56 = .ok (.iload_n 2, 1) := by decide +kernel
theorem d_M_dip_57 : decode b_M_dip 57 = .ok (.iconst 1, 1) := by decide +kernel
theorem d_M_dip_58 : decode b_M_dip 58 = .ok (.isub, 1) := by decide +kernel
theorem d_M_dip_59 : decode b_M_dip 59 = .ok (.iaload, 1) := by decide +kernel
theorem d_M_dip_60 : decode b_M_dip 60 = .ok (.if_icmp .le 69, 3) := by decide +kernel
theorem d_M_dip_63 : decode b_M_dip 63 = .ok (.iload_n 1, 1) := by decide +kernel
theorem d_M_dip_64 : decode b_M_dip 64 = .ok (.aload_n 0, 1) := by decide +kernel
theorem d_M_dip_65 : decode b_M_dip 65 = .ok (.getfield 89, 3) := by decide +kernel
theorem d_M_dip_68 : decode b_M_dip 68 = .ok (.iload_n 2, 1) := by decide +kernel
theorem d_M_dip_69 : decode b_M_dip 69 = .ok (.iaload, 1) := by decide +kernel
theorem d_M_dip_70 : decode b_M_dip 70 = .ok (.if_icmp .ge 59, 3) := by decide +kernel
theorem d_M_dip_73 : decode b_M_dip 73 = .ok (.aload_n 0, 1) := by decide +kernel
theorem d_M_dip_74 : decode b_M_dip 74 = .ok (.getfield 92, 3) := by decide +kernel
theorem d_M_dip_77 : decode b_M_dip 77 = .ok (.iload_n 2, 1) := by decide +kernel
theorem d_M_dip_78 : decode b_M_dip 78 = .ok (.iconst 1, 1) := by decide +kernel
theorem d_M_dip_79 : decode b_M_dip 79 = .ok (.isub, 1) := by decide +kernel
theorem d_M_dip_80 : decode b_M_dip 80 = .ok (.iaload, 1) := by decide +kernel
theorem d_M_dip_81 : decode b_M_dip 81 = .ok (.aload_n 0, 1) := by decide +kernel
theorem d_M_dip_82 : decode b_M_dip 82 = .ok (.getfield 92, 3) := by decide +kernel
theorem d_M_dip_85 : decode b_M_dip 85 = .ok (.iload_n 2, 1) := by decide +kernel
theorem d_M_dip_86 : decode b_M_dip 86 = .ok (.iaload, 1) := by decide +kernel
theorem d_M_dip_87 : decode b_M_dip 87 = .ok (.aload_n 0, 1) := by decide +kernel
theorem d_M_dip_88 : decode b_M_dip 88 = .ok (.getfield 92, 3) := by decide +kernel
theorem d_M_dip_91 : decode b_M_dip 91 = .ok (.iload_n 2, 1) := by decide +kernel
theorem d_M_dip_92 : decode b_M_dip 92 = .ok (.iconst 1, 1) := by decide +kernel
theorem d_M_dip_93 : decode b_M_dip 93 = .ok (.isub, 1) := by decide +kernel
theorem d_M_dip_94 : decode b_M_dip 94 = .ok (.iaload, 1) := by decide +kernel
theorem d_M_dip_95 : decode b_M_dip 95 = .ok (.isub, 1) := by decide +kernel
theorem d_M_dip_96 : decode b_M_dip 96 = .ok (.i2l, 1) := by decide +kernel
theorem d_M_dip_97 : decode b_M_dip 97 = .ok (.iload_n 1, 1) := by decide +kernel
theorem d_M_dip_98 : decode b_M_dip 98 = .ok (.aload_n 0, 1) := by decide +kernel
theorem d_M_dip_99 : decode b_M_dip 99 = .ok (.getfield 89, 3) := by decide +kernel
theorem d_M_dip_102 : decode b_M_dip 102 = .ok (.iload_n 2, 1) := by decide +kernel
theorem d_M_dip_103 : decode b_M_dip 103 = .ok (.iconst 1, 1) := by decide +kernel
theorem d_M_dip_104 : decode b_M_dip 104 = .ok (.isub, 1) := by decide +kernel
theorem d_M_dip_105 : decode b_M_dip 105 = .ok (.iaload, 1) := by decide +kernel
theorem d_M_dip_106 : decode b_M_dip 106 = .ok (.isub, 1) := by decide +kernel
theorem d_M_dip_107 : decode b_M_dip 107 = .ok (.i2l, 1) := by decide +kernel
theorem d_M_dip_108 : decode b_M_dip 108 = .ok (.lmul, 1) := by decide +kernel
theorem d_M_dip_109 : decode b_M_dip 109 = .ok (.aload_n 0, 1) := by decide +kernel
theorem d_M_dip_110 : decode b_M_dip 110 = .ok (.getfield 89, 3) := by decide +kernel
theorem d_M_dip_113 : decode b_M_dip 113 = .ok (.iload_n 2, 1) := by decide +kernel
theorem d_M_dip_114 : decode b_M_dip 114 = .ok (.iaload, 1) := by decide +kernel
theorem d_M_dip_115 : decode b_M_dip 115 = .ok (.aload_n 0, 1) := by decide +kernel
theorem d_M_dip_116 : decode b_M_dip 116 = .ok (.getfield 89, 3) := by decide +kernel
theorem d_M_dip_119 : decode b_M_dip 119 = .ok (.iload_n 2, 1) := by decide +kernel
theorem d_M_dip_120 : decode b_M_dip 120 = .ok (.iconst 1, 1) := by decide +kernel
theorem d_M_dip_121 : decode b_M_dip 121 = .ok (.isub, 1) := by decide +kernel
theorem d_M_dip_122 : decode b_M_dip 122 = .ok (.iaload, 1) := by decide +kernel
theorem d_M_dip_123 : decode b_M_dip 123 = .ok (.isub, 1) := by decide +kernel
theorem d_M_dip_124 : decode b_M_dip 124 = .ok (.i2l, 1) := by decide +kernel
theorem d_M_dip_125 : decode b_M_dip 125 = .ok (.ldiv, 1) := by decide +kernel
theorem d_M_dip_126 : decode b_M_dip 126 = .ok (.l2i, 1) := by decide +kernel
theorem d_M_dip_127 : decode b_M_dip 127 = .ok (.iadd, 1) := by decide +kernel
theorem d_M_dip_128 : decode b_M_dip 128 = .ok (.ireturn, 1) := by decide +kernel
theorem d_M_dip_129 : decode b_M_dip 129 = .ok (.iinc 2 1, 3) := by decide +kernel
theorem d_M_dip_132 : decode b_M_dip 132 = .ok (.goto (-110), 3) := by decide +kernel
theorem d_M_dip_135 : decode b_M_dip 135 = .ok (.iconst (-1), 1) := by decide +kernel
theorem d_M_dip_136 : decode b_M_dip 136 = .ok (.ireturn, 1) := by decide +kernel
theorem d_M_tick_0 : decode b_M_tick 0 = .ok (.aload_n 0, 1) := by decide +kernel
theorem d_M_tick_1 : decode b_M_tick 1 = .ok (.iconst 2, 1) := by decide +kernel
theorem d_M_tick_2 : decode b_M_tick 2 = .ok (.iconst 1, 1) := by decide +kernel
theorem d_M_tick_3 : decode b_M_tick 3 = .ok (.iload_n 1, 1) := by decide +kernel
theorem d_M_tick_4 : decode b_M_tick 4 = .ok (.iconst 1, 1) := by decide +kernel
theorem d_M_tick_5 : decode b_M_tick 5 = .ok (.sipush 1000, 3) := by decide +kernel
theorem d_M_tick_8 : decode b_M_tick 8 = .ok (.invokestatic 102, 3) := by decide +kernel
theorem d_M_tick_11 : decode b_M_tick 11 = .ok (.ifCond .eq 19, 3) := by decide +kernel
theorem d_M_tick_14 : decode b_M_tick 14 = .ok (.iload_n 1, 1) := by decide +kernel
theorem d_M_tick_15 : decode b_M_tick 15 = .ok (.sipush 9999, 3) := by decide +kernel
theorem d_M_tick_18 : decode b_M_tick 18 = .ok (.aload_n 0, 1) := by decide +kernel
theorem d_M_tick_19 : decode b_M_tick 19 = .ok (.getfield 136, 3) := by decide +kernel
theorem d_M_tick_22 : decode b_M_tick 22 = .ok (.isub, 1) := by decide +kernel
theorem d_M_tick_23 : decode b_M_tick 23 = .ok (.if_icmp .gt 7, 3) := by decide +kernel
theorem d_M_tick_26 : decode b_M_tick 26 = .ok (.iconst 1, 1) := by decide +kernel
theorem d_M_tick_27 : decode b_M_tick 27 = .ok (.goto 4, 3) := by decide +kernel
theorem d_M_tick_30 : decode b_M_tick 30 = .ok (.iconst 0, 1) := by decide +kernel
theorem d_M_tick_31 : decode b_M_tick 31 = .ok (.iconst 1, 1) := by decide +kernel
theorem d_M_tick_32 : decode b_M_tick 32 = .ok (.iconst 1, 1) := by decide +kernel
theorem d_M_tick_33 : decode b_M_tick 33 = .ok (.invokevirtual 116, 3) := by decide +kernel
theorem d_M_tick_36 : decode b_M_tick 36 = .ok (.ifCond .ne 5, 3) := by decide +kernel
theorem d_M_tick_39 : decode b_M_tick 39 = .ok (.iconst 0, 1) := by decide +kernel
theorem d_M_tick_40 : decode b_M_tick 40 = .ok (.ireturn, 1) := by decide +kernel
theorem d_M_tick_41 : decode b_M_tick 41 = .ok (.iconst 0, 1) := by decide +kernel
theorem d_M_tick_42 : decode b_M_tick 42 = .ok (.istore_n 2, 1) := by decide +kernel
theorem d_M_tick_43 : decode b_M_tick 43 = .ok (.iconst 0, 1) := by decide +kernel
theorem d_M_tick_44 : decode b_M_tick 44 = .ok (.istore_n 3, 1) := by decide +kernel
theorem d_M_tick_45 : decode b_M_tick 45 = .ok (.iload_n 3, 1) := by decide +kernel
theorem d_M_tick_46 : decode b_M_tick 46 = .ok (.iload_n 1, 1) := by decide +kernel
theorem d_M_tick_47 : decode b_M_tick 47 = .ok (.if_icmp .ge 100, 3) := by decide +kernel
theorem d_M_tick_50 : decode b_M_tick 50 = .ok (.aload_n 0, 1) := by decide +kernel
theorem d_M_tick_51 : decode b_M_tick 51 = .ok (.dup, 1) := by decide +kernel
theorem d_M_tick_52 : decode b_M_tick 52 = .ok (.getfield 136, 3) := by decide +kernel
theorem d_M_tick_55 : decode b_M_tick 55 = .ok (.iconst 1, 1) := by decide +kernel
theorem d_M_tick_56 : decode b_M_tick 56 = .ok (.iadd, 1) := by decide +kernel
theorem d_M_tick_57 : decode b_M_tick 57 = .ok (.putfield 136, 3) := by decide +kernel
theorem d_M_tick_60 : decode b_M_tick 60 = .ok (.iconst 0, 1) := by decide +kernel
theorem d_M_tick_61 : decode b_M_tick 61 = .ok (.istore 4, 2) := by decide +kernel
theorem d_M_tick_63 : decode b_M_tick 63 = .ok (.iload 4, 2) := by decide +kernel
theorem d_M_tick_65 : decode b_M_tick 65 = .ok (.aload_n 0, 1) := by decide +kernel
theorem d_M_tick_66 : decode b_M_tick 66 = .ok (.getfield 133, 3) := by decide +kernel
theorem d_M_tick_69 : decode b_M_tick 69 = .ok (.if_icmp .ge 72, 3) := by decide +kernel
theorem d_M_tick_72 : decode b_M_tick 72 = .ok (.aload_n 0, 1) := by decide +kernel
theorem d_M_tick_73 : decode b_M_tick 73 = .ok (.getfield 40, 3) := by decide +kernel
theorem d_M_tick_76 : decode b_M_tick 76 = .ok (.iload 4, 2) := by decide +kernel
theorem d_M_tick_78 : decode b_M_tick 78 = .ok (.baload, 1) := by decide +kernel
theorem d_M_tick_79 : decode b_M_tick 79 = .ok (.ifCond .eq 56, 3) := by decide +kernel
theorem d_M_tick_82 : decode b_M_tick 82 = .ok (.aload_n 0, 1) := by decide +kernel
theorem d_M_tick_83 : decode b_M_tick 83 = .ok (.getfield 37, 3) := by decide +kernel
theorem d_M_tick_86 : decode b_M_tick 86 = .ok (.iload 4, 2) := by decide +kernel
theorem d_M_tick_88 : decode b_M_tick 88 = .ok (.iaload, 1) := by decide +kernel
theorem d_M_tick_89 : decode b_M_tick 89 = .ok (.aload_n 0, 1) := by decide +kernel
theorem d_M_tick_90 : decode b_M_tick 90 = .ok (.getfield 136, 3) := by decide +kernel
theorem d_M_tick_93 : decode b_M_tick 93 = .ok (.if_icmp .eq 6, 3) := by decide +kernel
theorem d_M_tick_96 : decode b_M_tick 96 = .ok (.goto 39, 3) := by decide +kernel
theorem d_M_tick_99 : decode b_M_tick 99 = .ok (.aload_n 0, 1) := by decide +kernel
theorem d_M_tick_100 : decode b_M_tick 100 = .ok (.getfield 40, 3) := by decide +kernel
theorem d_M_tick_103 : decode b_M_tick 103 = .ok (.iload 4, 2) := by decide +kernel
theorem d_M_tick_105 : decode b_M_tick 105 = .ok (.iconst 0, 1) := by decide +kernel
theorem d_M_tick_106 : decode b_M_tick 106 = .ok (.bastore, 1) := by decide +kernel
theorem d_M_tick_107 : decode b_M_tick 107 = .ok (.aload_n 0, 1) := by decide +kernel
theorem d_M_tick_108 : decode b_M_tick 108 = .ok (.aload_n 0, 1) := by decide +kernel
theorem d_M_tick_109 : decode b_M_tick 109 = .ok (.getfield 28, 3) := by decide +kernel
theorem d_M_tick_112 : decode b_M_tick 112 = .ok (.iload 4, 2) := by decide +kernel
theorem d_M_tick_114 : decode b_M_tick 114 = .ok (.iaload, 1) := by decide +kernel
theorem d_M_tick_115 : decode b_M_tick 115 = .ok (.aload_n 0, 1) := by decide +kernel
theorem d_M_tick_116 : decode b_M_tick 116 = .ok (.getfield 31, 3) := by decide +kernel
theorem d_M_tick_119 : decode b_M_tick 119 = .ok (.iload 4, 2) := by decide +kernel
theorem d_M_tick_121 : decode b_M_tick 121 = .ok (.iaload, 1) := by decide +kernel
theorem d_M_tick_122 : decode b_M_tick 122 = .ok (.aload_n 0, 1) := by decide +kernel
theorem d_M_tick_123 : decode b_M_tick 123 = .ok (.getfield 34, 3) := by decide +kernel
theorem d_M_tick_126 : decode b_M_tick 126 = .ok (.iload 4, 2) := by decide +kernel
theorem d_M_tick_128 : decode b_M_tick 128 = .ok (.iaload, 1) := by decide +kernel
theorem d_M_tick_129 : decode b_M_tick 129 = .ok (.invokevirtual 139, 3) := by decide +kernel
theorem d_M_tick_132 : decode b_M_tick 132 = .ok (.iinc 2 1, 3) := by decide +kernel
theorem d_M_tick_135 : decode b_M_tick 135 = .ok (.iinc 4 1, 3) := by decide +kernel
theorem d_M_tick_138 : decode b_M_tick 138 = .ok (.goto (-75), 3) := by decide +kernel
theorem d_M_tick_141 : decode b_M_tick 141 = .ok (.iinc 3 1, 3) := by decide +kernel
theorem d_M_tick_144 : decode b_M_tick 144 = .ok (.goto (-99), 3) := by decide +kernel
theorem d_M_tick_147 : decode b_M_tick 147 = .ok (.iload_n 2, 1) := by decide +kernel
theorem d_M_tick_148 : decode b_M_tick 148 = .ok (.ireturn, 1) := by decide +kernel
