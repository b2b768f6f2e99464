theorem d_M_init_0 : decode b_M_init 0 = .ok (.aload_n 0, 1) := by decide +kernel
theorem d_M_init_1 : decode b_M_init 1 = .ok (.invokespecial 1, 3) := by decide +kernel
theorem d_M_init_4 : decode b_M_init 4 = .ok (.aload_n 0, 1) := by decide +kernel
theorem d_M_init_5 : decode b_M_init 5 = .ok (.bipush 60, 2) := by decide +kernel
theorem d_M_init_7 : decode b_M_init 7 = .ok (.newarray .int, 2) := by decide +kernel
theorem d_M_init_9 : decode b_M_init 9 = .ok (.putfield 7, 3) := by decide +kernel
theorem d_M_init_12 : decode b_M_init 12 = .ok (.aload_n 0, 1) := by decide +kernel
theorem d_M_init_13 : decode b_M_init 13 = .ok (.bipush 60, 2) := by decide +kernel
theorem d_M_init_15 : decode b_M_init 15 = .ok (.newarray .int, 2) := by decide +kernel
theorem d_M_init_17 : decode b_M_init 17 = .ok (.putfield 13, 3) := by decide +kernel
theorem d_M_init_20 : decode b_M_init 20 = .ok (.aload_n 0, 1) := by decide +kernel
theorem d_M_init_21 : decode b_M_init 21 = .ok (.bipush 60, 2) := by decide +kernel
theorem d_M_init_23 : decode b_M_init 23 = .ok (.newarray .int, 2) := by decide +kernel
theorem d_M_init_25 : decode b_M_init 25 = .ok (.putfield 16, 3) := by decide +kernel
theorem d_M_init_28 : decode b_M_init 28 = .ok (.aload_n 0, 1) := by decide +kernel
theorem d_M_init_29 : decode b_M_init 29 = .ok (.bipush 60, 2) := by decide +kernel
theorem d_M_init_31 : decode b_M_init 31 = .ok (.newarray .int, 2) := by decide +kernel
theorem d_M_init_33 : decode b_M_init 33 = .ok (.putfield 19, 3) := by decide +kernel
theorem d_M_init_36 : decode b_M_init 36 = .ok (.aload_n 0, 1) := by decide +kernel
theorem d_M_init_37 : decode b_M_init 37 = .ok (.bipush 60, 2) := by decide +kernel
theorem d_M_init_39 : decode b_M_init 39 = .ok (.newarray .int, 2) := by decide +kernel
theorem d_M_init_41 : decode b_M_init 41 = .ok (.putfield 22, 3) := by decide +kernel
theorem d_M_init_44 : decode b_M_init 44 = .ok (.aload_n 0, 1) := by decide +kernel
theorem d_M_init_45 : decode b_M_init 45 = .ok (.sipush 480, 3) := by decide +kernel
theorem d_M_init_48 : decode b_M_init 48 = .ok (.newarray .int, 2) := by decide +kernel
theorem d_M_init_50 : decode b_M_init 50 = .ok (.putfield 25, 3) := by decide +kernel
theorem d_M_init_53 : decode b_M_init 53 = .ok (.aload_n 0, 1) := by decide +kernel
theorem d_M_init_54 : decode b_M_init 54 = .ok (.bipush 60, 2) := by decide +kernel
theorem d_M_init_56 : decode b_M_init 56 = .ok (.newarray .int, 2) := by decide +kernel
theorem d_M_init_58 : decode b_M_init 58 = .ok (.putfield 28, 3) := by decide +kernel
theorem d_M_init_61 : decode b_M_init 61 = .ok (.aload_n 0, 1) := by decide +kernel
theorem d_M_init_62 : decode b_M_init 62 = .ok (.bipush 60, 2) := by decide +kernel
theorem d_M_init_64 : decode b_M_init 64 = .ok (.newarray .int, 2) := by decide +kernel
theorem d_M_init_66 : decode b_M_init 66 = .ok (.putfield 31, 3) := by decide +kernel
theorem d_M_init_69 : decode b_M_init 69 = .ok (.aload_n 0, 1) := by decide +kernel
theorem d_M_init_70 : decode b_M_init 70 = .ok (.bipush 60, 2) := by decide +kernel
theorem d_M_init_72 : decode b_M_init 72 = .ok (.newarray .int, 2) := by decide +kernel
theorem d_M_init_74 : decode b_M_init 74 = .ok (.putfield 34, 3) := by decide +kernel
theorem d_M_init_77 : decode b_M_init 77 = .ok (.aload_n 0, 1) := by decide +kernel
theorem d_M_init_78 : decode b_M_init 78 = .ok (.bipush 60, 2) := by decide +kernel
theorem d_M_init_80 : decode b_M_init 80 = .ok (.newarray .int, 2) := by decide +kernel
theorem d_M_init_82 : decode b_M_init 82 = .ok (.putfield 37, 3) := by decide +kernel
theorem d_M_init_85 : decode b_M_init 85 = .ok (.aload_n 0, 1) := by decide +kernel
theorem d_M_init_86 : decode b_M_init 86 = .ok (.bipush 60, 2) := by decide +kernel
theorem d_M_init_88 : decode b_M_init 88 = .ok (.newarray .boolean, 2) := by decide +kernel
theorem d_M_init_90 : decode b_M_init 90 = .ok (.putfield 40, 3) := by decide +kernel
theorem d_M_init_93 : decode b_M_init 93 = .ok (.aload_n 0, 1) := by decide +kernel
theorem d_M_init_94 : decode b_M_init 94 = .ok (.bipush 80, 2) := by decide +kernel
theorem d_M_init_96 : decode b_M_init 96 = .ok (.newarray .boolean, 2) := by decide +kernel
theorem d_M_init_98 : decode b_M_init 98 = .ok (.putfield 44, 3) := by decide +kernel
theorem d_M_init_101 : decode b_M_init 101 = .ok (.aload_n 0, 1) := by decide +kernel
theorem d_M_init_102 : decode b_M_init 102 = .ok (.bipush 80, 2) := by decide +kernel
theorem d_M_init_104 : decode b_M_init 104 = .ok (.newarray .int, 2) := by decide +kernel
theorem d_M_init_106 : decode b_M_init 106 = .ok (.putfield 47, 3) := by decide +kernel
theorem d_M_init_109 : decode b_M_init 109 = .ok (.aload_n 0, 1) := by decide +kernel
theorem d_M_init_110 : decode b_M_init 110 = .ok (.bipush 80, 2) := by decide +kernel
theorem d_M_init_112 : decode b_M_init 112 = .ok (.newarray .int, 2) := by decide +kernel
theorem d_M_init_114 : decode b_M_init 114 = .ok (.putfield 50, 3) := by decide +kernel
theorem d_M_init_117 : decode b_M_init 117 = .ok (.aload_n 0, 1) := by decide +kernel
theorem d_M_init_118 : decode b_M_init 118 = .ok (.bipush 80, 2) := by decide +kernel
theorem d_M_init_120 : decode b_M_init 120 = .ok (.newarray .int, 2) := by decide +kernel
theorem d_M_init_122 : decode b_M_init 122 = .ok (.putfield 53, 3) := by decide +kernel
theorem d_M_init_125 : decode b_M_init 125 = .ok (.aload_n 0, 1) := by decide +kernel
theorem d_M_init_126 : decode b_M_init 126 = .ok (.bipush 80, 2) := by decide +kernel
theorem d_M_init_128 : decode b_M_init 128 = .ok (.newarray .int, 2) := by decide +kernel
theorem d_M_init_130 : decode b_M_init 130 = .ok (.putfield 56, 3) := by decide +kernel
theorem d_M_init_133 : decode b_M_init 133 = .ok (.aload_n 0, 1) := by decide +kernel
theorem d_M_init_134 : decode b_M_init 134 = .ok (.bipush 80, 2) := by decide +kernel
theorem d_M_init_136 : decode b_M_init 136 = .ok (.newarray .int, 2) := by decide +kernel
theorem d_M_init_138 : decode b_M_init 138 = .ok (.putfield 59, 3) := by decide +kernel
theorem d_M_init_141 : decode b_M_init 141 = .ok (.aload_n 0, 1) := by decide +kernel
theorem d_M_init_142 : decode b_M_init 142 = .ok (.bipush 80, 2) := by decide +kernel
theorem d_M_init_144 : decode b_M_init 144 = .ok (.newarray .int, 2) := by decide +kernel
theorem d_M_init_146 : decode b_M_init 146 = .ok (.putfield 62, 3) := by decide +kernel
theorem d_M_init_149 : decode b_M_init 149 = .ok (.aload_n 0, 1) := by decide +kernel
theorem d_M_init_150 : decode b_M_init 150 = .ok (.bipush 80, 2) := by decide +kernel
theorem d_M_init_152 : decode b_M_init 152 = .ok (.newarray .boolean, 2) := by decide +kernel
theorem d_M_init_154 : decode b_M_init 154 = .ok (.putfield 65, 3) := by decide +kernel
theorem d_M_init_157 : decode b_M_init 157 = .ok (.aload_n 0, 1) := by decide +kernel
theorem d_M_init_158 : decode b_M_init 158 = .ok (.bipush 20, 2) := by decide +kernel
theorem d_M_init_160 : decode b_M_init 160 = .ok (.newarray .int, 2) := by decide +kernel
theorem d_M_init_162 : decode b_M_init 162 = .ok (.putfield 68, 3) := by decide +kernel
theorem d_M_init_165 : decode b_M_init 165 = .ok (.aload_n 0, 1) := by decide +kernel
theorem d_M_init_166 : decode b_M_init 166 = .ok (.bipush 20, 2) := by decide +kernel
theorem d_M_init_168 : decode b_M_init 168 = .ok (.newarray .int, 2) := by decide +kernel
theorem d_M_init_170 : decode b_M_init 170 = .ok (.putfield 71, 3) := by decide +kernel
theorem d_M_init_173 : decode b_M_init 173 = .ok (.aload_n 0, 1) := by decide +kernel
theorem d_M_init_174 : decode b_M_init 174 = .ok (.bipush 20, 2) := by decide +kernel
theorem d_M_init_176 : decode b_M_init 176 = .ok (.newarray .int, 2) := by decide +kernel
theorem d_M_init_178 : decode b_M_init 178 = .ok (.putfield 74, 3) := by decide +kernel
theorem d_M_init_181 : decode b_M_init 181 = .ok (.aload_n 0, 1) := by decide +kernel
theorem d_M_init_182 : decode b_M_init 182 = .ok (.bipush 20, 2) := by decide +kernel
theorem d_M_init_184 : decode b_M_init 184 = .ok (.newarray .int, 2) := by decide +kernel
theorem d_M_init_186 : decode b_M_init 186 = .ok (.putfield 77, 3) := by decide +kernel
theorem d_M_init_189 : decode b_M_init 189 = .ok (.aload_n 0, 1) := by decide +kernel
theorem d_M_init_190 : decode b_M_init 190 = .ok (.bipush 20, 2) := by decide +kernel
theorem d_M_init_192 : decode b_M_init 192 = .ok (.newarray .boolean, 2) := by decide +kernel
theorem d_M_init_194 : decode b_M_init 194 = .ok (.putfield 80, 3) := by decide +kernel
theorem d_M_init_197 : decode b_M_init 197 = .ok (.aload_n 0, 1) := by decide +kernel
theorem d_M_init_198 : decode b_M_init 198 = .ok (.sipush 400, 3) := by decide +kernel
theorem d_M_init_201 : decode b_M_init 201 = .ok (.newarray .int, 2) := by decide +kernel
theorem d_M_init_203 : decode b_M_init 203 = .ok (.putfield 83, 3) := by decide +kernel
theorem d_M_init_206 : decode b_M_init 206 = .ok (.aload_n 0, 1) := by decide +kernel
theorem d_M_init_207 : decode b_M_init 207 = .ok (.bipush 50, 2) := by decide +kernel
theorem d_M_init_209 : decode b_M_init 209 = .ok (.newarray .int, 2) := by decide +kernel
theorem d_M_init_211 : decode b_M_init 211 = .ok (.putfield 86, 3) := by decide +kernel
theorem d_M_init_214 : decode b_M_init 214 = .ok (.aload_n 0, 1) := by decide +kernel
theorem d_M_init_215 : decode b_M_init 215 = .ok (.bipush 10, 2) := by decide +kernel
theorem d_M_init_217 : decode b_M_init 217 = .ok (.newarray .int, 2) := by decide +kernel
theorem d_M_init_219 : decode b_M_init 219 = .ok (.putfield 89, 3) := by decide +kernel
theorem d_M_init_222 : decode b_M_init 222 = .ok (.aload_n 0, 1) := by decide +kernel
theorem d_M_init_223 : decode b_M_init 223 = .ok (.bipush 10, 2) := by decide +kernel
theorem d_M_init_225 : decode b_M_init 225 = .ok (.newarray .int, 2) := by decide +kernel
theorem d_M_init_227 : decode b_M_init 227 = .ok (.putfield 92, 3) := by decide +kernel
theorem d_M_init_230 : decode b_M_init 230 = .ok (.return_, 1) := by decide +kernel
theorem d_M_thrown_0 : decode b_M_thrown 0 = .ok (.aload_n 0, 1) := by decide +kernel
theorem d_M_thrown_1 : decode b_M_thrown 1 = .ok (.getfield 95, 3) := by decide +kernel
theorem d_M_thrown_4 : decode b_M_thrown 4 = .ok (.ireturn, 1) := by decide +kernel
theorem d_M_in_0 : decode b_M_in 0 = .ok (.iload_n 0, 1) := by decide +kernel
theorem d_M_in_1 : decode b_M_in 1 = .ok (.iload_n 1, 1) := by decide +kernel
theorem d_M_in_2 : decode b_M_in 2 = .ok (.if_icmp .lt 12, 3) := by decide +kernel
theorem d_M_in_5 : decode b_M_in 5 = .ok (.iload_n 0, 1) := by decide +kernel
theorem d_M_in_6 : decode b_M_in 6 = .ok (.iload_n 2, 1) := by decide +kernel
theorem d_M_in_7 : decode b_M_in 7 = .ok (.if_icmp .gt 7, 3) := by decide +kernel
theorem d_M_in_10 : decode b_M_in 10 = .ok (.iconst 1, 1) := by decide +kernel
theorem d_M_in_11 : decode b_M_in 11 = .ok (.goto 4, 3) := by decide +kernel
theorem d_M_in_14 : decode b_M_in 14 = .ok (.iconst 0, 1) := by decide +kernel
theorem d_M_in_15 : decode b_M_in 15 = .ok (.ireturn, 1) := by decide +kernel
theorem d_M_goes_0 : decode b_M_goes 0 = .ok (.iload_n 2, 1) := by decide +kernel
theorem d_M_goes_1 : decode b_M_goes 1 = .ok (.ifCond .ne 7, 3) := by decide +kernel
theorem d_M_goes_4 : decode b_M_goes 4 = .ok (.iconst 1, 1) := by decide +kernel
theorem d_M_goes_5 : decode b_M_goes 5 = .ok (.goto 31, 3) := by decide +kernel
theorem d_M_goes_8 : decode b_M_goes 8 = .ok (.iload_n 3, 1) := by decide +kernel
theorem d_M_goes_9 : decode b_M_goes 9 = .ok (.ifCond .ne 7, 3) := by decide +kernel
theorem d_M_goes_12 : decode b_M_goes 12 = .ok (.iconst 2, 1) := by decide +kernel
theorem d_M_goes_13 : decode b_M_goes 13 = .ok (.goto 23, 3) := by decide +kernel
theorem d_M_goes_16 : decode b_M_goes 16 = .ok (.iload 4, 2) := by decide +kernel
theorem d_M_goes_18 : decode b_M_goes 18 = .ok (.ifCond .ne 7, 3) := by decide +kernel
theorem d_M_goes_21 : decode b_M_goes 21 = .ok (.iconst 4, 1) := by decide +kernel
theorem d_M_goes_22 : decode b_M_goes 22 = .ok (.goto 14, 3) := by decide +kernel
theorem d_M_goes_25 : decode b_M_goes 25 = .ok (.iload 5, 2) := by decide +kernel
theorem d_M_goes_27 : decode b_M_goes 27 = .ok (.ifCond .ne 8, 3) := by decide +kernel
theorem d_M_goes_30 : decode b_M_goes 30 = .ok (.bipush 8, 2) := by decide +kernel
theorem d_M_goes_32 : decode b_M_goes 32 = .ok (.goto 4, 3) := by decide +kernel
theorem d_M_goes_35 : decode b_M_goes 35 = .ok (.iconst 0, 1) := by decide +kernel
theorem d_M_goes_36 : decode b_M_goes 36 = .ok (.istore 6, 2) := by decide +kernel
theorem d_M_goes_38 : decode b_M_goes 38 = .ok (.aload_n 0, 1) := by decide +kernel
theorem d_M_goes_39 : decode b_M_goes 39 = .ok (.iconst 0, 1) := by decide +kernel
theorem d_M_goes_40 : decode b_M_goes 40 = .ok (.putfield 95, 3) := by decide +kernel
theorem d_M_goes_43 : decode b_M_goes 43 = .ok (.iconst 1, 1) := by decide +kernel
theorem d_M_goes_44 : decode b_M_goes 44 = .ok (.istore 7, 2) := by decide +kernel
theorem d_M_goes_46 : decode b_M_goes 46 = .ok (.iload 7, 2) := by decide +kernel
theorem d_M_goes_48 : decode b_M_goes 48 = .ok (.iload 6, 2) := by decide +kernel
theorem d_M_goes_50 : decode b_M_goes 50 = .ok (.if_icmp .gt 29, 3) := by decide +kernel
theorem d_M_goes_53 : decode b_M_goes 53 = .ok (.iload_n 1, 1) := by decide +kernel
theorem d_M_goes_54 : decode b_M_goes 54 = .ok (.iload 7, 2) := by decide +kernel
theorem d_M_goes_56 : decode b_M_goes 56 = .ok (.iand, 1) := by decide +kernel
theorem d_M_goes_57 : decode b_M_goes 57 = .ok (.ifCond .le 13, 3) := by decide +kernel
theorem d_M_goes_60 : decode b_M_goes 60 = .ok (.aload_n 0, 1) := by decide +kernel
theorem d_M_goes_61 : decode b_M_goes 61 = .ok (.dup, 1) := by decide +kernel
theorem d_M_goes_62 : decode b_M_goes 62 = .ok (.getfield 95, 3) := by decide +kernel
theorem d_M_goes_65 : decode b_M_goes 65 = .ok (.iconst 1, 1) := by decide +kernel
theorem d_M_goes_66 : decode b_M_goes 66 = .ok (.iadd, 1) := by decide +kernel
theorem d_M_goes_67 : decode b_M_goes 67 = .ok (.putfield 95, 3) := by decide +kernel
theorem d_M_goes_70 : decode b_M_goes 70 = .ok (.iconst 2, 1) := by decide +kernel
theorem d_M_goes_71 : decode b_M_goes 71 = .ok (.iload 7, 2) := by decide +kernel
theorem d_M_goes_73 : decode b_M_goes 73 = .ok (.imul, 1) := by decide +kernel
theorem d_M_goes_74 : decode b_M_goes 74 = .ok (.istore 7, 2) := by decide +kernel
theorem d_M_goes_76 : decode b_M_goes 76 = .ok (.goto (-30), 3) := by decide +kernel
theorem d_M_goes_79 : decode b_M_goes 79 = .ok (.iload 6, 2) := by decide +kernel
theorem d_M_goes_81 : decode b_M_goes 81 = .ok (.ifCond .ne 7, 3) := by decide +kernel
theorem d_M_goes_84 : decode b_M_goes 84 = .ok (.iconst 1, 1) := by decide +kernel
theorem d_M_goes_85 : decode b_M_goes 85 = .ok (.goto 4, 3) := by decide +kernel
theorem d_M_goes_88 : decode b_M_goes 88 = .ok (.iconst 0, 1) := by decide +kernel
theorem d_M_goes_89 : decode b_M_goes 89 = .ok (.ireturn, 1) := by decide +kernel
theorem d_M_isStore_0 : decode b_M_isStore 0 = .ok (.iload_n 1, 1) := by decide +kernel
theorem d_M_isStore_1 : decode b_M_isStore 1 = .ok (.iconst 0, 1) := by decide +kernel
theorem d_M_isStore_2 : decode b_M_isStore 2 = .ok (.aload_n 0, 1) := by decide +kernel
theorem d_M_isStore_3 : decode b_M_isStore 3 = .ok (.getfield 99, 3) := by decide +kernel
theorem d_M_isStore_6 : decode b_M_isStore 6 = .ok (.iconst 1, 1) := by decide +kernel
theorem d_M_isStore_7 : decode b_M_isStore 7 = .ok (.isub, 1) := by decide +kernel
theorem d_M_isStore_8 : decode b_M_isStore 8 = .ok (.invokestatic 102, 3) := by decide +kernel
theorem d_M_isStore_11 : decode b_M_isStore 11 = .ok (.ireturn, 1) := by decide +kernel
theorem d_M_isKind_0 : decode b_M_isKind 0 = .ok (.iload_n 0, 1) := by decide +kernel
theorem d_M_isKind_1 : decode b_M_isKind 1 = .ok (.iconst 0, 1) := by decide +kernel
theorem d_M_isKind_2 : decode b_M_isKind 2 = .ok (.bipush 9, 2) := by decide +kernel
theorem d_M_isKind_4 : decode b_M_isKind 4 = .ok (.invokestatic 102, 3) := by decide +kernel
theorem d_M_isKind_7 : decode b_M_isKind 7 = .ok (.ireturn, 1) := by decide +kernel
theorem d_M_isLot_0 : decode b_M_isLot 0 = .ok (.iload_n 1, 1) := by decide +kernel
theorem d_M_isLot_1 : decode b_M_isLot 1 = .ok (.iconst 0, 1) := by decide +kernel
theorem d_M_isLot_2 : decode b_M_isLot 2 = .ok (.aload_n 0, 1) := by decide +kernel
theorem d_M_isLot_3 : decode b_M_isLot 3 = .ok (.getfield 106, 3) := by decide +kernel
theorem d_M_isLot_6 : decode b_M_isLot 6 = .ok (.iconst 1, 1) := by decide +kernel
theorem d_M_isLot_7 : decode b_M_isLot 7 = .ok (.isub, 1) := by decide +kernel
theorem d_M_isLot_8 : decode b_M_isLot 8 = .ok (.invokestatic 102, 3) := by decide +kernel
theorem d_M_isLot_11 : decode b_M_isLot 11 = .ok (.ireturn, 1) := by decide +kernel
theorem d_M_isMany_0 : decode b_M_isMany 0 = .ok (.iload_n 0, 1) := by decide +kernel
theorem d_M_isMany_1 : decode b_M_isMany 1 = .ok (.iconst 1, 1) := by decide +kernel
theorem d_M_isMany_2 : decode b_M_isMany 2 = .ok (.sipush 9999, 3) := by decide +kernel
theorem d_M_isMany_5 : decode b_M_isMany 5 = .ok (.invokestatic 102, 3) := by decide +kernel
theorem d_M_isMany_8 : decode b_M_isMany 8 = .ok (.ireturn, 1) := by decide +kernel
theorem d_M_at_0 : decode b_M_at 0 = .ok (.aload_n 0, 1) := by decide +kernel
theorem d_M_at_1 : decode b_M_at 1 = .ok (.iload_n 1, 1) := by decide +kernel
theorem d_M_at_2 : decode b_M_at 2 = .ok (.invokevirtual 109, 3) := by decide +kernel
theorem d_M_at_5 : decode b_M_at 5 = .ok (.ifCond .eq 25, 3) := by decide +kernel
theorem d_M_at_8 : decode b_M_at 8 = .ok (.aload_n 0, 1) := by decide +kernel
theorem d_M_at_9 : decode b_M_at 9 = .ok (.iload_n 2, 1) := by decide +kernel
theorem d_M_at_10 : decode b_M_at 10 = .ok (.invokevirtual 113, 3) := by decide +kernel
theorem d_M_at_13 : decode b_M_at 13 = .ok (.ifCond .eq 17, 3) := by decide +kernel
theorem d_M_at_16 : decode b_M_at 16 = .ok (.aload_n 0, 1) := by decide +kernel
theorem d_M_at_17 : decode b_M_at 17 = .ok (.getfield 25, 3) := by decide +kernel
theorem d_M_at_20 : decode b_M_at 20 = .ok (.iload_n 1, 1) := by decide +kernel
theorem d_M_at_21 : decode b_M_at 21 = .ok (.bipush 60, 2) := by decide +kernel
theorem d_M_at_23 : decode b_M_at 23 = .ok (.imul, 1) := by decide +kernel
theorem d_M_at_24 : decode b_M_at 24 = .ok (.iload_n 2, 1) := by decide +kernel
theorem d_M_at_25 : decode b_M_at 25 = .ok (.iadd, 1) := by decide +kernel
theorem d_M_at_26 : decode b_M_at 26 = .ok (.iaload, 1) := by decide +kernel
theorem d_M_at_27 : decode b_M_at 27 = .ok (.goto 4, 3) := by decide +kernel
theorem d_M_at_30 : decode b_M_at 30 = .ok (.iconst 0, 1) := by decide +kernel
theorem d_M_at_31 : decode b_M_at 31 = .ok (.ireturn, 1) := by decide +kernel
theorem d_M_lesser_0 : decode b_M_lesser 0 = .ok (.iload_n 0, 1) := by decide +kernel
theorem d_M_lesser_1 : decode b_M_lesser 1 = .ok (.iload_n 1, 1) := by decide +kernel
theorem d_M_lesser_2 : decode b_M_lesser 2 = .ok (.if_icmp .ge 7, 3) := by decide +kernel
theorem d_M_lesser_5 : decode b_M_lesser 5 = .ok (.iload_n 0, 1) := by decide +kernel
theorem d_M_lesser_6 : decode b_M_lesser 6 = .ok (.goto 4, 3) := by decide +kernel
theorem d_M_lesser_9 : decode b_M_lesser 9 = .ok (.iload_n 1, 1) := by decide +kernel
theorem d_M_lesser_10 : decode b_M_lesser 10 = .ok (.ireturn, 1) := by decide +kernel
theorem d_M_store_0 : decode b_M_store 0 = .ok (.aload_n 0, 1) := by decide +kernel
theorem d_M_store_1 : decode b_M_store 1 = .ok (.bipush 8, 2) := by decide +kernel
theorem d_M_store_3 : decode b_M_store 3 = .ok (.iconst 1, 1) := by decide +kernel
theorem d_M_store_4 : decode b_M_store 4 = .ok (.iconst 1, 1) := by decide +kernel
theorem d_M_store_5 : decode b_M_store 5 = .ok (.iconst 1, 1) := by decide +kernel
theorem d_M_store_6 : decode b_M_store 6 = .ok (.aload_n 0, 1) := by decide +kernel
theorem d_M_store_7 : decode b_M_store 7 = .ok (.getfield 99, 3) := by decide +kernel
theorem d_M_store_10 : decode b_M_store 10 = .ok (.bipush 8, 2) := by decide +kernel
theorem d_M_store_12 : decode b_M_store 12 = .ok (.if_icmp .ge 7, 3) := by decide +kernel
theorem d_M_store_15 : decode b_M_store 15 = .ok (.iconst 1, 1) := by decide +kernel
theorem d_M_store_16 : decode b_M_store 16 = .ok (.goto 4, 3) := by decide +kernel
theorem d_M_store_19 : decode b_M_store 19 = .ok (.iconst 0, 1) := by decide +kernel
theorem d_M_store_20 : decode b_M_store 20 = .ok (.invokevirtual 116, 3) := by decide +kernel
theorem d_M_store_23 : decode b_M_store 23 = .ok (.ifCond .ne 5, 3) := by decide +kernel
theorem d_M_store_26 : decode b_M_store 26 = .ok (.iconst 0, 1) := by decide +kernel
theorem d_M_store_27 : decode b_M_store 27 = .ok (.ireturn, 1) := by decide +kernel
theorem d_M_store_28 : decode b_M_store 28 = .ok (.aload_n 0, 1) := by decide +kernel
theorem d_M_store_29 : decode b_M_store 29 = .ok (.dup, 1) := by decide +kernel
theorem d_M_store_30 : decode b_M_store 30 = .ok (.getfield 99, 3) := by decide +kernel
theorem d_M_store_33 : decode b_M_store 33 = .ok (.iconst 1, 1) := by decide +kernel
theorem d_M_store_34 : decode b_M_store 34 = .ok (.iadd, 1) := by decide +kernel
theorem d_M_store_35 : decode b_M_store 35 = .ok (.putfield 99, 3) := by decide +kernel
theorem d_M_store_38 : decode b_M_store 38 = .ok (.aload_n 0, 1) := by decide +kernel
theorem d_M_store_39 : decode b_M_store 39 = .ok (.getfield 99, 3) := by decide +kernel
theorem d_M_store_42 : decode b_M_store 42 = .ok (.iconst 1, 1) := by decide +kernel
theorem d_M_store_43 : decode b_M_store 43 = .ok (.isub, 1) := by decide +kernel
theorem d_M_store_44 : decode b_M_store 44 = .ok (.ireturn, 1) := by decide +kernel
theorem d_M_lot_0 : decode b_M_lot 0 = .ok (.aload_n 0, 1) := by decide +kernel
theorem d_M_lot_1 : decode b_M_lot 1 = .ok (.bipush 11, 2) := by decide +kernel
theorem d_M_lot_3 : decode b_M_lot 3 = .ok (.iload_n 1, 1) := by decide +kernel
theorem d_M_lot_4 : decode b_M_lot 4 = .ok (.invokestatic 120, 3) := by decide +kernel
theorem d_M_lot_7 : decode b_M_lot 7 = .ok (.iload_n 2, 1) := by decide +kernel
theorem d_M_lot_8 : decode b_M_lot 8 = .ok (.iconst 0, 1) := by decide +kernel
theorem d_M_lot_9 : decode b_M_lot 9 = .ok (.sipush 9999, 3) := by decide +kernel
theorem d_M_lot_12 : decode b_M_lot 12 = .ok (.invokestatic 102, 3) := by decide +kernel
theorem d_M_lot_15 : decode b_M_lot 15 = .ok (.iconst 1, 1) := by decide +kernel
theorem d_M_lot_16 : decode b_M_lot 16 = .ok (.aload_n 0, 1) := by decide +kernel
theorem d_M_lot_17 : decode b_M_lot 17 = .ok (.getfield 106, 3) := by decide +kernel
theorem d_M_lot_20 : decode b_M_lot 20 = .ok (.bipush 60, 2) := by decide +kernel
theorem d_M_lot_22 : decode b_M_lot 22 = .ok (.if_icmp .ge 7, 3) := by decide +kernel
theorem d_M_lot_25 : decode b_M_lot 25 = .ok (.iconst 1, 1) := by decide +kernel
theorem d_M_lot_26 : decode b_M_lot 26 = .ok (.goto 4, 3) := by decide +kernel
theorem d_M_lot_29 : decode b_M_lot 29 = .ok (.iconst 0, 1) := by decide +kernel
theorem d_M_lot_30 : decode b_M_lot 30 = .ok (.invokevirtual 116, 3) := by decide +kernel
theorem d_M_lot_33 : decode b_M_lot 33 = .ok (.ifCond .ne 5, 3) := by decide +kernel
theorem d_M_lot_36 : decode b_M_lot 36 = .ok (.iconst 0, 1) := by decide +kernel
theorem d_M_lot_37 : decode b_M_lot 37 = .ok (.ireturn, 1) := by decide +kernel
theorem d_M_lot_38 : decode b_M_lot 38 = .ok (.aload_n 0, 1) := by decide +kernel
theorem d_M_lot_39 : decode b_M_lot 39 = .ok (.getfield 7, 3) := by decide +kernel
theorem d_M_lot_42 : decode b_M_lot 42 = .ok (.aload_n 0, 1) := by decide +kernel
theorem d_M_lot_43 : decode b_M_lot 43 = .ok (.getfield 106, 3) := by decide +kernel
theorem d_M_lot_46 : decode b_M_lot 46 = .ok (.iload_n 1, 1) := by decide +kernel
theorem d_M_lot_47 : decode b_M_lot 47 = .ok (.iastore, 1) := by decide +kernel
theorem d_M_lot_48 : decode b_M_lot 48 = .ok (.aload_n 0, 1) := by decide +kernel
theorem d_M_lot_49 : decode b_M_lot 49 = .ok (.getfield 13, 3) := by decide +kernel
theorem d_M_lot_52 : decode b_M_lot 52 = .ok (.aload_n 0, 1) := by decide +kernel
theorem d_M_lot_53 : decode b_M_lot 53 = .ok (.getfield 106, 3) := by decide +kernel
theorem d_M_lot_56 : decode b_M_lot 56 = .ok (.iload_n 2, 1) := by decide +kernel
theorem d_M_lot_57 : decode b_M_lot 57 = .ok (.iastore, 1) := by decide +kernel
theorem d_M_lot_58 : decode b_M_lot 58 = .ok (.aload_n 0, 1) := by decide +kernel
theorem d_M_lot_59 : decode b_M_lot 59 = .ok (.dup, 1) := by decide +kernel
theorem d_M_lot_60 : decode b_M_lot 60 = .ok (.getfield 106, 3) := by decide +kernel
theorem d_M_lot_63 : decode b_M_lot 63 = .ok (.iconst 1, 1) := by decide +kernel
theorem d_M_lot_64 : decode b_M_lot 64 = .ok (.iadd, 1) := by decide +kernel
theorem d_M_lot_65 : decode b_M_lot 65 = .ok (.putfield 106, 3) := by decide +kernel
theorem d_M_lot_68 : decode b_M_lot 68 = .ok (.aload_n 0, 1) := by decide +kernel
theorem d_M_lot_69 : decode b_M_lot 69 = .ok (.getfield 106, 3) := by decide +kernel
theorem d_M_lot_72 : decode b_M_lot 72 = .ok (.iconst 1, 1) := by decide +kernel
theorem d_M_lot_73 : decode b_M_lot 73 = .ok (.isub, 1) := by decide +kernel
theorem d_M_lot_74 : decode b_M_lot 74 = .ok (.ireturn, 1) := by decide +kernel
theorem d_M_bring_0 : decode b_M_bring 0 = .ok (.aload_n 0, 1) := by decide +kernel
theorem d_M_bring_1 : decode b_M_bring 1 = .ok (.bipush 11, 2) := by decide +kernel
theorem d_M_bring_3 : decode b_M_bring 3 = .ok (.aload_n 0, 1) := by decide +kernel
theorem d_M_bring_4 : decode b_M_bring 4 = .ok (.iload_n 1, 1) := by decide +kernel
theorem d_M_bring_5 : decode b_M_bring 5 = .ok (.invokevirtual 109, 3) := by decide +kernel
theorem d_M_bring_8 : decode b_M_bring 8 = .ok (.ifCond .eq 15, 3) := by decide +kernel
theorem d_M_bring_11 : decode b_M_bring 11 = .ok (.aload_n 0, 1) := by decide +kernel
theorem d_M_bring_12 : decode b_M_bring 12 = .ok (.iload_n 2, 1) := by decide +kernel
theorem d_M_bring_13 : decode b_M_bring 13 = .ok (.invokevirtual 113, 3) := by decide +kernel
theorem d_M_bring_16 : decode b_M_bring 16 = .ok (.ifCond .eq 7, 3) := by decide +kernel
theorem d_M_bring_19 : decode b_M_bring 19 = .ok (.iconst 1, 1) := by decide +kernel
theorem d_M_bring_20 : decode b_M_bring 20 = .ok (.goto 4, 3) := by decide +kernel
theorem d_M_bring_23 : decode b_M_bring 23 = .ok (.iconst 0, 1) := by decide +kernel
theorem d_M_bring_24 : decode b_M_bring 24 = .ok (.iload_n 3, 1) := by decide +kernel
theorem d_M_bring_25 : decode b_M_bring 25 = .ok (.invokestatic 123, 3) := by decide +kernel
theorem d_M_bring_28 : decode b_M_bring 28 = .ok (.iconst 1, 1) := by decide +kernel
theorem d_M_bring_29 : decode b_M_bring 29 = .ok (.aload_n 0, 1) := by decide +kernel
theorem d_M_bring_30 : decode b_M_bring 30 = .ok (.iload_n 1, 1) := by decide +kernel
theorem d_M_bring_31 : decode b_M_bring 31 = .ok (.iload_n 2, 1) := by decide +kernel
theorem d_M_bring_32 : decode b_M_bring 32 = .ok (.invokevirtual 126, 3) := by decide +kernel
theorem d_M_bring_35 : decode b_M_bring 35 = .ok (.iload_n 3, 1) := by decide +kernel
theorem d_M_bring_36 : decode b_M_bring 36 = .ok (.iadd, 1) := by decide +kernel
theorem d_M_bring_37 : decode b_M_bring 37 = .ok (.sipush 9999, 3) := by decide +kernel
theorem d_M_bring_40 : decode b_M_bring 40 = .ok (.if_icmp .gt 7, 3) := by decide +kernel
theorem d_M_bring_43 : decode b_M_bring 43 = .ok (.iconst 1, 1) := by decide +kernel
theorem d_M_bring_44 : decode b_M_bring 44 = .ok (.goto 4, 3) := by decide +kernel
theorem d_M_bring_47 : decode b_M_bring 47 = .ok (.iconst 0, 1) := by decide +kernel
theorem d_M_bring_48 : decode b_M_bring 48 = .ok (.invokevirtual 116, 3) := by decide +kernel
theorem d_M_bring_51 : decode b_M_bring 51 = .ok (.ifCond .ne 5, 3) := by decide +kernel
theorem d_M_bring_54 : decode b_M_bring 54 = .ok (.iconst 0, 1) := by decide +kernel
theorem d_M_bring_55 : decode b_M_bring 55 = .ok (.ireturn, 1) := by decide +kernel
theorem d_M_bring_56 : decode b_M_bring 56 = .ok (.aload_n 0, 1) := by decide +kernel
theorem d_M_bring_57 : decode b_M_bring 57 = .ok (.getfield 25, 3) := by decide +kernel
theorem d_M_bring_60 : decode b_M_bring 60 = .ok (.iload_n 1, 1) := by decide +kernel
theorem d_M_bring_61 : decode b_M_bring 61 = .ok (.bipush 60, 2) := by decide +kernel
theorem d_M_bring_63 : decode b_M_bring 63 = .ok (.imul, 1) := by decide +kernel
theorem d_M_bring_64 : decode b_M_bring 64 = .ok (.iload_n 2, 1) := by decide +kernel
theorem d_M_bring_65 : decode b_M_bring 65 = .ok (.iadd, 1) := by decide +kernel
theorem d_M_bring_66 : decode b_M_bring 66 = .ok (.aload_n 0, 1) := by decide +kernel
theorem d_M_bring_67 : decode b_M_bring 67 = .ok (.iload_n 1, 1) := by decide +kernel
theorem d_M_bring_68 : decode b_M_bring 68 = .ok (.iload_n 2, 1) := by decide +kernel
theorem d_M_bring_69 : decode b_M_bring 69 = .ok (.invokevirtual 126, 3) := by decide +kernel
theorem d_M_bring_72 : decode b_M_bring 72 = .ok (.iload_n 3, 1) := by decide +kernel
theorem d_M_bring_73 : decode b_M_bring 73 = .ok (.iadd, 1) := by decide +kernel
theorem d_M_bring_74 : decode b_M_bring 74 = .ok (.iastore, 1) := by decide +kernel
theorem d_M_bring_75 : decode b_M_bring 75 = .ok (.aload_n 0, 1) := by decide +kernel
theorem d_M_bring_76 : decode b_M_bring 76 = .ok (.iload_n 1, 1) := by decide +kernel
theorem d_M_bring_77 : decode b_M_bring 77 = .ok (.iload_n 2, 1) := by decide +kernel
theorem d_M_bring_78 : decode b_M_bring 78 = .ok (.invokevirtual 126, 3) := by decide +kernel
theorem d_M_bring_81 : decode b_M_bring 81 = .ok (.ireturn, 1) := by decide +kernel
theorem d_M_comes_0 : decode b_M_comes 0 = .ok (.aload_n 0, 1) := by decide +kernel
theorem d_M_comes_1 : decode b_M_comes 1 = .ok (.getfield 25, 3) := by decide +kernel
theorem d_M_comes_4 : decode b_M_comes 4 = .ok (.iload_n 1, 1) := by decide +kernel
theorem d_M_comes_5 : decode b_M_comes 5 = .ok (.bipush 60, 2) := by decide +kernel
theorem d_M_comes_7 : decode b_M_comes 7 = .ok (.imul, 1) := by decide +kernel
theorem d_M_comes_8 : decode b_M_comes 8 = .ok (.iload_n 2, 1) := by decide +kernel
theorem d_M_comes_9 : decode b_M_comes 9 = .ok (.iadd, 1) := by decide +kernel
theorem d_M_comes_10 : decode b_M_comes 10 = .ok (.aload_n 0, 1) := by decide +kernel
theorem d_M_comes_11 : decode b_M_comes 11 = .ok (.getfield 25, 3) := by decide +kernel
theorem d_M_comes_14 : decode b_M_comes 14 = .ok (.iload_n 1, 1) := by decide +kernel
theorem d_M_comes_15 : decode b_M_comes 15 = .ok (.bipush 60, 2) := by decide +kernel
theorem d_M_comes_17 : decode b_M_comes 17 = .ok (.imul, 1) := by decide +kernel
theorem d_M_comes_18 : decode b_M_comes 18 = .ok (.iload_n 2, 1) := by decide +kernel
theorem d_M_comes_19 : decode b_M_comes 19 = .ok (.iadd, 1) := by decide +kernel
theorem d_M_comes_20 : decode b_M_comes 20 = .ok (.iaload, 1) := by decide +kernel
theorem d_M_comes_21 : decode b_M_comes 21 = .ok (.iload_n 3, 1) := by decide +kernel
theorem d_M_comes_22 : decode b_M_comes 22 = .ok (.iadd, 1) := by decide +kernel
theorem d_M_comes_23 : decode b_M_comes 23 = .ok (.sipush 9999, 3) := by decide +kernel
theorem d_M_comes_26 : decode b_M_comes 26 = .ok (.invokestatic 130, 3) := by decide +kernel
theorem d_M_comes_29 : decode b_M_comes 29 = .ok (.iastore, 1) := by decide +kernel
theorem d_M_comes_30 : decode b_M_comes 30 = .ok (.return_, 1) := by decide +kernel
theorem d_M_move_0 : decode b_M_move 0 = .ok (.aload_n 0, 1) := by decide +kernel
theorem d_M_move_1 : decode b_M_move 1 = .ok (.iload_n 1, 1) := by decide +kernel
theorem d_M_move_2 : decode b_M_move 2 = .ok (.invokevirtual 109, 3) := by decide +kernel
theorem d_M_move_5 : decode b_M_move 5 = .ok (.ifCond .eq 28, 3) := by decide +kernel
theorem d_M_move_8 : decode b_M_move 8 = .ok (.aload_n 0, 1) := by decide +kernel
theorem d_M_move_9 : decode b_M_move 9 = .ok (.iload_n 2, 1) := by decide +kernel
theorem d_M_move_10 : decode b_M_move 10 = .ok (.invokevirtual 109, 3) := by decide +kernel
theorem d_M_move_13 : decode b_M_move 13 = .ok (.ifCond .eq 20, 3) := by decide +kernel
theorem d_M_move_16 : decode b_M_move 16 = .ok (.iload_n 1, 1) := by decide +kernel
theorem d_M_move_17 : decode b_M_move 17 = .ok (.iload_n 2, 1) := by decide +kernel
theorem d_M_move_18 : decode b_M_move 18 = .ok (.if_icmp .eq 15, 3) := by decide +kernel
theorem d_M_move_21 : decode b_M_move 21 = .ok (.aload_n 0, 1) := by decide +kernel
theorem d_M_move_22 : decode b_M_move 22 = .ok (.iload_n 3, 1) := by decide +kernel
theorem d_M_move_23 : decode b_M_move 23 = .ok (.invokevirtual 113, 3) := by decide +kernel
theorem d_M_move_26 : decode b_M_move 26 = .ok (.ifCond .eq 7, 3) := by decide +kernel
theorem d_M_move_29 : decode b_M_move 29 = .ok (.iconst 1, 1) := by decide +kernel
theorem d_M_move_30 : decode b_M_move 30 = .ok (.goto 4, 3) := by decide +kernel
theorem d_M_move_33 : decode b_M_move 33 = .ok (.iconst 0, 1) := by decide +kernel
theorem d_M_move_34 : decode b_M_move 34 = .ok (.istore 6, 2) := by decide +kernel
theorem d_M_move_36 : decode b_M_move 36 = .ok (.aload_n 0, 1) := by decide +kernel
theorem d_M_move_37 : decode b_M_move 37 = .ok (.bipush 15, 2) := by decide +kernel
theorem d_M_move_39 : decode b_M_move 39 = .ok (.iload 6, 2) := by decide +kernel
theorem d_M_move_41 : decode b_M_move 41 = .ok (.iload 4, 2) := by decide +kernel
theorem d_M_move_43 : decode b_M_move 43 = .ok (.invokestatic 123, 3) := by decide +kernel
theorem d_M_move_46 : decode b_M_move 46 = .ok (.ifCond .eq 18, 3) := by decide +kernel
theorem d_M_move_49 : decode b_M_move 49 = .ok (.iload 5, 2) := by decide +kernel
theorem d_M_move_51 : decode b_M_move 51 = .ok (.iconst 0, 1) := by decide +kernel
theorem d_M_move_52 : decode b_M_move 52 = .ok (.bipush 30, 2) := by decide +kernel
theorem d_M_move_54 : decode b_M_move 54 = .ok (.invokestatic 102, 3) := by decide +kernel
theorem d_M_move_57 : decode b_M_move 57 = .ok (.ifCond .eq 7, 3) := by decide +kernel
theorem d_M_move_60 : decode b_M_move 60 = .ok (.iconst 1, 1) := by decide +kernel
theorem d_M_move_61 : decode b_M_move 61 = .ok (.goto 4, 3) := by decide +kernel
theorem d_M_move_64 : decode b_M_move 64 = .ok (.iconst 0, 1) := by decide +kernel
theorem d_M_move_65 : decode b_M_move 65 = .ok (.iload 6, 2) := by decide +kernel
theorem d_M_move_67 : decode b_M_move 67 = .ok (.ifCond .eq 18, 3) := by decide +kernel
theorem d_M_move_70 : decode b_M_move 70 = .ok (.aload_n 0, 1) := by decide +kernel
theorem d_M_move_71 : decode b_M_move 71 = .ok (.iload_n 1, 1) := by decide +kernel
theorem d_M_move_72 : decode b_M_move 72 = .ok (.iload_n 3, 1) := by decide +kernel
theorem d_M_move_73 : decode b_M_move 73 = .ok (.invokevirtual 126, 3) := by decide +kernel
theorem d_M_move_76 : decode b_M_move 76 = .ok (.iload 4, 2) := by decide +kernel
theorem d_M_move_78 : decode b_M_move 78 = .ok (.if_icmp .lt 7, 3) := by decide +kernel
theorem d_M_move_81 : decode b_M_move 81 = .ok (.iconst 1, 1) := by decide +kernel
theorem d_M_move_82 : decode b_M_move 82 = .ok (.goto 4, 3) := by decide +kernel
theorem d_M_move_85 : decode b_M_move 85 = .ok (.iconst 0, 1) := by decide +kernel
theorem d_M_move_86 : decode b_M_move 86 = .ok (.aload_n 0, 1) := by decide +kernel
theorem d_M_move_87 : decode b_M_move 87 = .ok (.getfield 133, 3) := by decide +kernel
theorem d_M_move_90 : decode b_M_move 90 = .ok (.bipush 60, 2) := by decide +kernel
theorem d_M_move_92 : decode b_M_move 92 = .ok (.if_icmp .ge 7, 3) := by decide +kernel
theorem d_M_move_95 : decode b_M_move 95 = .ok (.iconst 1, 1) := by decide +kernel
theorem d_M_move_96 : decode b_M_move 96 = .ok (.goto 4, 3) := by decide +kernel
theorem d_M_move_99 : decode b_M_move 99 = .ok (.iconst 0, 1) := by decide +kernel
theorem d_M_move_100 : decode b_M_move 100 = .ok (.invokevirtual 116, 3) := by decide +kernel
theorem d_M_move_103 : decode b_M_move 103 = .ok (.ifCond .ne 5, 3) := by decide +kernel
theorem d_M_move_106 : decode b_M_move 106 = .ok (.iconst 0, 1) := by decide +kernel
theorem d_M_move_107 : decode b_M_move 107 = .ok (.ireturn, 1) := by decide +kernel
theorem d_M_move_108 : decode b_M_move 108 = .ok (.aload_n 0, 1) := by decide +kernel
theorem d_M_move_109 : decode b_M_move 109 = .ok (.getfield 25, 3) := by decide +kernel
theorem d_M_move_112 : decode b_M_move 112 = .ok (.iload_n 1, 1) := by decide +kernel
theorem d_M_move_113 : decode b_M_move 113 = .ok (.bipush 60, 2) := by decide +kernel
theorem d_M_move_115 : decode b_M_move 115 = .ok (.imul, 1) := by decide +kernel
theorem d_M_move_116 : decode b_M_move 116 = .ok (.iload_n 3, 1) := by decide +kernel
theorem d_M_move_117 : decode b_M_move 117 = .ok (.iadd, 1) := by decide +kernel
theorem d_M_move_118 : decode b_M_move 118 = .ok (.aload_n 0, 1) := by decide +kernel
theorem d_M_move_119 : decode b_M_move 119 = .ok (.iload_n 1, 1) := by decide +kernel
theorem d_M_move_120 : decode b_M_move 120 = .ok (.iload_n 3, 1) := by decide +kernel
theorem d_M_move_121 : decode b_M_move 121 = .ok (.invokevirtual 126, 3) := by decide +kernel
theorem d_M_move_124 : decode b_M_move 124 = .ok (.iload 4, 2) := by decide +kernel
theorem d_M_move_126 : decode b_M_move 126 = .ok (.isub, 1) := by decide +kernel
theorem d_M_move_127 : decode b_M_move 127 = .ok (.iastore, 1) := by decide +kernel
theorem d_M_move_128 : decode b_M_move 128 = .ok (.aload_n 0, 1) := by decide +kernel
theorem d_M_move_129 : decode b_M_move 129 = .ok (.getfield 28, 3) := by decide +kernel
theorem d_M_move_132 : decode b_M_move 132 = .ok (.aload_n 0, 1) := by decide +kernel
theorem d_M_move_133 : decode b_M_move 133 = .ok (.getfield 133, 3) := by decide +kernel
theorem d_M_move_136 : decode b_M_move 136 = .ok (.iload_n 2, 1) := by decide +kernel
theorem d_M_move_137 : decode b_M_move 137 = .ok (.iastore, 1) := by decide +kernel
theorem d_M_move_138 : decode b_M_move 138 = .ok (.aload_n 0, 1) := by decide +kernel
theorem d_M_move_139 : decode b_M_move 139 = .ok (.getfield 31, 3) := by decide +kernel
theorem d_M_move_142 : decode b_M_move 142 = .ok (.aload_n 0, 1) := by decide +kernel
theorem d_M_move_143 : decode b_M_move 143 = .ok (.getfield 133, 3) := by decide +kernel
theorem d_M_move_146 : decode b_M_move 146 = .ok (.iload_n 3, 1) := by decide +kernel
theorem d_M_move_147 : decode b_M_move 147 = .ok (.iastore, 1) := by decide +kernel
theorem d_M_move_148 : decode b_M_move 148 = .ok (.aload_n 0, 1) := by decide +kernel
theorem d_M_move_149 : decode b_M_move 149 = .ok (.getfield 34, 3) := by decide +kernel
theorem d_M_move_152 : decode b_M_move 152 = .ok (.aload_n 0, 1) := by decide +kernel
theorem d_M_move_153 : decode b_M_move 153 = .ok (.getfield 133, 3) := by decide +kernel
theorem d_M_move_156 : decode b_M_move 156 = .ok (.iload 4, 2) := by decide +kernel
theorem d_M_move_158 : decode b_M_move 158 = .ok (.iastore, 1) := by decide +kernel
theorem d_M_move_159 : decode b_M_move 159 = .ok (.aload_n 0, 1) := by decide +kernel
theorem d_M_move_160 : decode b_M_move 160 = .ok (.getfield 37, 3) := by decide +kernel
theorem d_M_move_163 : decode b_M_move 163 = .ok (.aload_n 0, 1) := by decide +kernel
theorem d_M_move_164 : decode b_M_move 164 = .ok (.getfield 133, 3) := by decide +kernel
theorem d_M_move_167 : decode b_M_move 167 = .ok (.aload_n 0, 1) := by decide +kernel
theorem d_M_move_168 : decode b_M_move 168 = .ok (.getfield 136, 3) := by decide +kernel
theorem d_M_move_171 : decode b_M_move 171 = .ok (.iload 5, 2) := by decide +kernel
theorem d_M_move_173 : decode b_M_move 173 = .ok (.iadd, 1) := by decide +kernel
theorem d_M_move_174 : decode b_M_move 174 = .ok (.iastore, 1) := by decide +kernel
theorem d_M_move_175 : decode b_M_move 175 = .ok (.aload_n 0, 1) := by decide +kernel
theorem d_M_move_176 : decode b_M_move 176 = .ok (.getfield 40, 3) := by decide +kernel
theorem d_M_move_179 : decode b_M_move 179 = .ok (.aload_n 0, 1) := by decide +kernel
theorem d_M_move_180 : decode b_M_move 180 = .ok (.getfield 133, 3) := by decide +kernel
theorem d_M_move_183 : decode b_M_move 183 = .ok (.iload 5, 2) := by decide +kernel
theorem d_M_move_185 : decode b_M_move 185 = .ok (.ifCond .le 7, 3) := by decide +kernel
theorem d_M_move_188 : decode b_M_move 188 = .ok (.iconst 1, 1) := by decide +kernel
theorem d_M_move_189 : decode b_M_move 189 = .ok (.goto 4, 3) := by decide +kernel
theorem d_M_move_192 : decode b_M_move 192 = .ok (.iconst 0, 1) := by decide +kernel
theorem d_M_move_193 : decode b_M_move 193 = .ok (.bastore, 1) := by decide +kernel
theorem d_M_move_194 : decode b_M_move 194 = .ok (.iload 5, 2) := by decide +kernel
theorem d_M_move_196 : decode b_M_move 196 = .ok (.ifCond .ne 11, 3) := by decide +kernel
theorem d_M_move_199 : decode b_M_move 199 = .ok (.aload_n 0, 1) := by decide +kernel
theorem d_M_move_200 : decode b_M_move 200 = .ok (.iload_n 2, 1) := by decide +kernel
theorem d_M_move_201 : decode b_M_move 201 = .ok (.iload_n 3, 1) := by decide +kernel
theorem d_M_move_202 : decode b_M_move 202 = .ok (.iload 4, 2) := by decide +kernel
theorem d_M_move_204 : decode b_M_move 204 = .ok (.invokevirtual 139, 3) := by decide +kernel
theorem d_M_move_207 : decode b_M_move 207 = .ok (.aload_n 0, 1) := by decide +kernel
theorem d_M_move_208 : decode b_M_move 208 = .ok (.dup, 1) := by decide +kernel
theorem d_M_move_209 : decode b_M_move 209 = .ok (.getfield 133, 3) := by decide +kernel
theorem d_M_move_212 : decode b_M_move 212 = .ok (.iconst 1, 1) := by decide +kernel
theorem d_M_move_213 : decode b_M_move 213 = .ok (.iadd, 1) := by decide +kernel
theorem d_M_move_214 : decode b_M_move 214 = .ok (.putfield 133, 3) := by decide +kernel
theorem d_M_move_217 : decode b_M_move 217 = .ok (.aload_n 0, 1) := by decide +kernel
theorem d_M_move_218 : decode b_M_move 218 = .ok (.getfield 133, 3) := by decide +kernel
theorem d_M_move_221 : decode b_M_move 221 = .ok (.iconst 1, 1) := by decide +kernel
theorem d_M_move_222 : decode b_M_move 222 = .ok (.isub, 1) := by decide +kernel
theorem d_M_move_223 : decode b_M_move 223 = .ok (.ireturn, 1) := by decide +kernel
theorem d_M_isGood_0 : decode b_M_isGood 0 = .ok (.aload_n 0, 1) := by decide +kernel
theorem d_M_isGood_1 : decode b_M_isGood 1 = .ok (.getfield 13, 3) := by decide +kernel
theorem d_M_isGood_4 : decode b_M_isGood 4 = .ok (.iload_n 1, 1) := by decide +kernel
theorem d_M_isGood_5 : decode b_M_isGood 5 = .ok (.iaload, 1) := by decide +kernel
theorem d_M_isGood_6 : decode b_M_isGood 6 = .ok (.aload_n 0, 1) := by decide +kernel
theorem d_M_isGood_7 : decode b_M_isGood 7 = .ok (.getfield 136, 3) := by decide +kernel
theorem d_M_isGood_10 : decode b_M_isGood 10 = .ok (.if_icmp .lt 7, 3) := by decide +kernel
theorem d_M_isGood_13 : decode b_M_isGood 13 = .ok (.iconst 1, 1) := by decide +kernel
theorem d_M_isGood_14 : decode b_M_isGood 14 = .ok (.goto 4, 3) := by decide +kernel
theorem d_M_isGood_17 : decode b_M_isGood 17 = .ok (.iconst 0, 1) := by decide +kernel
theorem d_M_isGood_18 : decode b_M_isGood 18 = .ok (.ireturn, 1) := by decide +kernel
theorem d_M_good_0 : decode b_M_good 0 = .ok (.iconst 0, 1) := by decide +kernel
theorem d_M_good_1 : decode b_M_good 1 = .ok (.istore_n 3, 1) := by decide +kernel
theorem d_M_good_2 : decode b_M_good 2 = .ok (.iconst 0, 1) := by decide +kernel
theorem d_M_good_3 : decode b_M_good 3 = .ok (.istore 4, 2) := by decide +kernel
theorem d_M_good_5 : decode b_M_good 5 = .ok (.iload 4, 2) := by decide +kernel
theorem d_M_good_7 : decode b_M_good 7 = .ok (.aload_n 0, 1) := by decide +kernel
theorem d_M_good_8 : decode b_M_good 8 = .ok (.getfield 106, 3) := by decide +kernel
theorem d_M_good_11 : decode b_M_good 11 = .ok (.if_icmp .ge 39, 3) := by decide +kernel
theorem d_M_good_14 : decode b_M_good 14 = .ok (.aload_n 0, 1) := by decide +kernel
theorem d_M_good_15 : decode b_M_good 15 = .ok (.getfield 7, 3) := by decide +kernel
theorem d_M_good_18 : decode b_M_good 18 = .ok (.iload 4, 2) := by decide +kernel
theorem d_M_good_20 : decode b_M_good 20 = .ok (.iaload, 1) := by decide +kernel
theorem d_M_good_21 : decode b_M_good 21 = .ok (.iload_n 2, 1) := by decide +kernel
theorem d_M_good_22 : decode b_M_good 22 = .ok (.if_icmp .ne 22, 3) := by decide +kernel
theorem d_M_good_25 : decode b_M_good 25 = .ok (.aload_n 0, 1) := by decide +kernel
theorem d_M_good_26 : decode b_M_good 26 = .ok (.iload 4, 2) := by decide +kernel
theorem d_M_good_28 : decode b_M_good 28 = .ok (.invokevirtual 143, 3) := by decide +kernel
theorem d_M_good_31 : decode b_M_good 31 = .ok (.ifCond .eq 13, 3) := by decide +kernel
theorem d_M_good_34 : decode b_M_good 34 = .ok (.iload_n 3, 1) := by decide +kernel
theorem d_M_good_35 : decode b_M_good 35 = .ok (.aload_n 0, 1) := by decide +kernel
theorem d_M_good_36 : decode b_M_good 36 = .ok (.iload_n 1, 1) := by decide +kernel
theorem d_M_good_37 : decode b_M_good 37 = .ok (.iload 4, 2) := by decide +kernel
theorem d_M_good_39 : decode b_M_good 39 = .ok (.invokevirtual 126, 3) := by decide +kernel
theorem d_M_good_42 : decode b_M_good 42 = .ok (.iadd, 1) := by decide +kernel
theorem d_M_good_43 : decode b_M_good 43 = .ok (.istore_n 3, 1) := by decide +kernel
theorem d_M_good_44 : decode b_M_good 44 = .ok (.iinc 4 1, 3) := by decide +kernel
theorem d_M_good_47 : decode b_M_good 47 = .ok (.goto (-42), 3) := by decide +kernel
theorem d_M_good_50 : decode b_M_good 50 = .ok (.iload_n 3, 1) := by decide +kernel
theorem d_M_good_51 : decode b_M_good 51 = .ok (.ireturn, 1) := by decide +kernel
theorem d_M_takes_0 : decode b_M_takes 0 = .ok (.iload_n 3, 1) := by decide +kernel
theorem d_M_takes_1 : decode b_M_takes 1 = .ok (.istore 4, 2) := by decide +kernel
theorem d_M_takes_3 : decode b_M_takes 3 = .ok (.iload 4, 2) := by decide +kernel
theorem d_M_takes_5 : decode b_M_takes 5 = .ok (.ifCond .le 180, 3) := by decide +kernel
theorem d_M_takes_8 : decode b_M_takes 8 = .ok (.iconst (-1), 1) := by decide +kernel
theorem d_M_takes_9 : decode b_M_takes 9 = .ok (.istore 5, 2) := by decide +kernel
theorem d_M_takes_11 : decode b_M_takes 11 = .ok (.iconst 0, 1) := by decide +kernel
theorem d_M_takes_12 : decode b_M_takes 12 = .ok (.istore 6, 2) := by decide +kernel
theorem d_M_takes_14 : decode b_M_takes 14 = .ok (.iload 6, 2) := by decide +kernel
theorem d_M_takes_16 : decode b_M_takes 16 = .ok (.aload_n 0, 1) := by decide +kernel
theorem d_M_takes_17 : decode b_M_takes 17 = .ok (.getfield 106, 3) := by decide +kernel
theorem d_M_takes_20 : decode b_M_takes 20 = .ok (.if_icmp .ge 102, 3) := by decide +kernel
theorem d_M_takes_23 : decode b_M_takes 23 = .ok (.aload_n 0, 1) := by decide +kernel
theorem d_M_takes_24 : decode b_M_takes 24 = .ok (.getfield 7, 3) := by decide +kernel
theorem d_M_takes_27 : decode b_M_takes 27 = .ok (.iload 6, 2) := by decide +kernel
theorem d_M_takes_29 : decode b_M_takes 29 = .ok (.iaload, 1) := by decide +kernel
theorem d_M_takes_30 : decode b_M_takes 30 = .ok (.iload_n 2, 1) := by decide +kernel
theorem d_M_takes_31 : decode b_M_takes 31 = .ok (.if_icmp .ne 85, 3) := by decide +kernel
theorem d_M_takes_34 : decode b_M_takes 34 = .ok (.aload_n 0, 1) := by decide +kernel
theorem d_M_takes_35 : decode b_M_takes 35 = .ok (.iload 6, 2) := by decide +kernel
theorem d_M_takes_37 : decode b_M_takes 37 = .ok (.invokevirtual 143, 3) := by decide +kernel
theorem d_M_takes_40 : decode b_M_takes 40 = .ok (.ifCond .eq 76, 3) := by decide +kernel
theorem d_M_takes_43 : decode b_M_takes 43 = .ok (.aload_n 0, 1) := by decide +kernel
theorem d_M_takes_44 : decode b_M_takes 44 = .ok (.iload_n 1, 1) := by decide +kernel
theorem d_M_takes_45 : decode b_M_takes 45 = .ok (.iload 6, 2) := by decide +kernel
theorem d_M_takes_47 : decode b_M_takes 47 = .ok (.invokevirtual 126, 3) := by decide +kernel
theorem d_M_takes_50 : decode b_M_takes 50 = .ok (.ifCond .ne 6, 3) := by decide +kernel
theorem d_M_takes_53 : decode b_M_takes 53 = .ok (.goto 63, 3) := by decide +kernel
theorem d_M_takes_56 : decode b_M_takes 56 = .ok (.iload 5, 2) := by decide +kernel
theorem d_M_takes_58 : decode b_M_takes 58 = .ok (.ifCond .lt 54, 3) := by decide +kernel
theorem d_M_takes_61 : decode b_M_takes 61 = .ok (.aload_n 0, 1) := by decide +kernel
theorem d_M_takes_62 : decode b_M_takes 62 = .ok (.getfield 13, 3) := by decide +kernel
theorem d_M_takes_65 : decode b_M_takes 65 = .ok (.iload 6, 2) := by decide +kernel
theorem d_M_takes_67 : decode b_M_takes 67 = .ok (.iaload, 1) := by decide +kernel
theorem d_M_takes_68 : decode b_M_takes 68 = .ok (.aload_n 0, 1) := by decide +kernel
theorem d_M_takes_69 : decode b_M_takes 69 = .ok (.getfield 13, 3) := by decide +kernel
theorem d_M_takes_72 : decode b_M_takes 72 = .ok (.iload 5, 2) := by decide +kernel
theorem d_M_takes_74 : decode b_M_takes 74 = .ok (.iaload, 1) := by decide +kernel
theorem d_M_takes_75 : decode b_M_takes 75 = .ok (.if_icmp .lt 37, 3) := by decide +kernel
theorem d_M_takes_78 : decode b_M_takes 78 = .ok (.aload_n 0, 1) := by decide +kernel
theorem d_M_takes_79 : decode b_M_takes 79 = .ok (.getfield 13, 3) := by decide +kernel
theorem d_M_takes_82 : decode b_M_takes 82 = .ok (.iload 6, 2) := by decide +kernel
theorem d_M_takes_84 : decode b_M_takes 84 = .ok (.iaload, 1) := by decide +kernel
theorem d_M_takes_85 : decode b_M_takes 85 = .ok (.aload_n 0, 1) := by decide +kernel
theorem d_M_takes_86 : decode b_M_takes 86 = .ok (.getfield 13, 3) := by decide +kernel
theorem d_M_takes_89 : decode b_M_takes 89 = .ok (.iload 5, 2) := by decide +kernel
theorem d_M_takes_91 : decode b_M_takes 91 = .ok (.iaload, 1) := by decide +kernel
theorem d_M_takes_92 : decode b_M_takes 92 = .ok (.if_icmp .ne 24, 3) := by decide +kernel
theorem d_M_takes_95 : decode b_M_takes 95 = .ok (.aload_n 0, 1) := by decide +kernel
theorem d_M_takes_96 : decode b_M_takes 96 = .ok (.iload_n 1, 1) := by decide +kernel
theorem d_M_takes_97 : decode b_M_takes 97 = .ok (.iload 6, 2) := by decide +kernel
theorem d_M_takes_99 : decode b_M_takes 99 = .ok (.invokevirtual 126, 3) := by decide +kernel
theorem d_M_takes_102 : decode b_M_takes 102 = .ok (.aload_n 0, 1) := by decide +kernel
theorem d_M_takes_103 : decode b_M_takes 103 = .ok (.iload_n 1, 1) := by decide +kernel
theorem d_M_takes_104 : decode b_M_takes 104 = .ok (.iload 5, 2) := by decide +kernel
theorem d_M_takes_106 : decode b_M_takes 106 = .ok (.invokevirtual 126, 3) := by decide +kernel
theorem d_M_takes_109 : decode b_M_takes 109 = .ok (.if_icmp .ge 7, 3) := by decide +kernel
theorem d_M_takes_112 : decode b_M_takes 112 = .ok (.iload 6, 2) := by decide +kernel
theorem d_M_takes_114 : decode b_M_takes 114 = .ok (.istore 5, 2) := by decide +kernel
theorem d_M_takes_116 : decode b_M_takes 116 = .ok (.iinc 6 1, 3) := by decide +kernel
theorem d_M_takes_119 : decode b_M_takes 119 = .ok (.goto (-105), 3) := by decide +kernel
theorem d_M_takes_122 : decode b_M_takes 122 = .ok (.iload 4, 2) := by decide +kernel
theorem d_M_takes_124 : decode b_M_takes 124 = .ok (.aload_n 0, 1) := by decide +kernel
theorem d_M_takes_125 : decode b_M_takes 125 = .ok (.iload_n 1, 1) := by decide +kernel
theorem d_M_takes_126 : decode b_M_takes 126 = .ok (.iload 5, 2) := by decide +kernel
theorem d_M_takes_128 : decode b_M_takes 128 = .ok (.invokevirtual 126, 3) := by decide +kernel
theorem d_M_takes_131 : decode b_M_takes 131 = .ok (.invokestatic 130, 3) := by decide +kernel
theorem d_M_takes_134 : decode b_M_takes 134 = .ok (.istore 6, 2) := by decide +kernel
theorem d_M_takes_136 : decode b_M_takes 136 = .ok (.aload_n 0, 1) := by decide +kernel
theorem d_M_takes_137 : decode b_M_takes 137 = .ok (.getfield 25, 3) := by decide +kernel
theorem d_M_takes_140 : decode b_M_takes 140 = .ok (.iload_n 1, 1) := by decide +kernel
theorem d_M_takes_141 : decode b_M_takes 141 = .ok (.bipush 60, 2) := by decide +kernel
theorem d_M_takes_143 : decode b_M_takes 143 = .ok (.imul, 1) := by decide +kernel
theorem d_M_takes_144 : decode b_M_takes 144 = .ok (.iload 5, 2) := by decide +kernel
theorem d_M_takes_146 : decode b_M_takes 146 = .ok (.iadd, 1) := by decide +kernel
theorem d_M_takes_147 : decode b_M_takes 147 = .ok (.aload_n 0, 1) := by decide +kernel
theorem d_M_takes_148 : decode b_M_takes 148 = .ok (.iload_n 1, 1) := by decide +kernel
theorem d_M_takes_149 : decode b_M_takes 149 = .ok (.iload 5, 2) := by decide +kernel
theorem d_M_takes_151 : decode b_M_takes 151 = .ok (.invokevirtual 126, 3) := by decide +kernel
theorem d_M_takes_154 : decode b_M_takes 154 = .ok (.iload 6, 2) := by decide +kernel
theorem d_M_takes_156 : decode b_M_takes 156 = .ok (.isub, 1) := by decide +kernel
theorem d_M_takes_157 : decode b_M_takes 157 = .ok (.iastore, 1) := by decide +kernel
theorem d_M_takes_158 : decode b_M_takes 158 = .ok (.aload_n 0, 1) := by decide +kernel
theorem d_M_takes_159 : decode b_M_takes 159 = .ok (.getfield 16, 3) := by decide +kernel
theorem d_M_takes_162 : decode b_M_takes 162 = .ok (.iload 5, 2) := by decide +kernel
theorem d_M_takes_164 : decode b_M_takes 164 = .ok (.aload_n 0, 1) := by decide +kernel
theorem d_M_takes_165 : decode b_M_takes 165 = .ok (.getfield 16, 3) := by decide +kernel
theorem d_M_takes_168 : decode b_M_takes 168 = .ok (.iload 5, 2) := by decide +kernel
theorem d_M_takes_170 : decode b_M_takes 170 = .ok (.iaload, 1) := by decide +kernel
theorem d_M_takes_171 : decode b_M_takes 171 = .ok (.iload 6, 2) := by decide +kernel
theorem d_M_takes_173 : decode b_M_takes 173 = .ok (.iadd, 1) := by decide +kernel
theorem d_M_takes_174 : decode b_M_takes 174 = .ok (.iastore, 1) := by decide +kernel
theorem d_M_takes_175 : decode b_M_takes 175 = .ok (.iload 4, 2) := by decide +kernel
theorem d_M_takes_177 : decode b_M_takes 177 = .ok (.iload 6, 2) := by decide +kernel
theorem d_M_takes_179 : decode b_M_takes 179 = .ok (.isub, 1) := by decide +kernel
theorem d_M_takes_180 : decode b_M_takes 180 = .ok (.istore 4, 2) := by decide +kernel
theorem d_M_takes_182 : decode b_M_takes 182 = .ok (.goto (-179), 3) := by decide +kernel
theorem d_M_takes_185 : decode b_M_takes 185 = .ok (.return_, 1) := by decide +kernel
theorem d_M_use_0 : decode b_M_use 0 = .ok (.aload_n 0, 1) := by decide +kernel
theorem d_M_use_1 : decode b_M_use 1 = .ok (.iload_n 1, 1) := by decide +kernel
theorem d_M_use_2 : decode b_M_use 2 = .ok (.invokevirtual 109, 3) := by decide +kernel
theorem d_M_use_5 : decode b_M_use 5 = .ok (.ifCond .eq 14, 3) := by decide +kernel
theorem d_M_use_8 : decode b_M_use 8 = .ok (.iload_n 2, 1) := by decide +kernel
theorem d_M_use_9 : decode b_M_use 9 = .ok (.invokestatic 120, 3) := by decide +kernel
theorem d_M_use_12 : decode b_M_use 12 = .ok (.ifCond .eq 7, 3) := by decide +kernel
theorem d_M_use_15 : decode b_M_use 15 = .ok (.iconst 1, 1) := by decide +kernel
theorem d_M_use_16 : decode b_M_use 16 = .ok (.goto 4, 3) := by decide +kernel
theorem d_M_use_19 : decode b_M_use 19 = .ok (.iconst 0, 1) := by decide +kernel
theorem d_M_use_20 : decode b_M_use 20 = .ok (.istore 4, 2) := by decide +kernel
theorem d_M_use_22 : decode b_M_use 22 = .ok (.aload_n 0, 1) := by decide +kernel
theorem d_M_use_23 : decode b_M_use 23 = .ok (.bipush 7, 2) := by decide +kernel
theorem d_M_use_25 : decode b_M_use 25 = .ok (.iload 4, 2) := by decide +kernel
theorem d_M_use_27 : decode b_M_use 27 = .ok (.iload_n 3, 1) := by decide +kernel
theorem d_M_use_28 : decode b_M_use 28 = .ok (.invokestatic 123, 3) := by decide +kernel
theorem d_M_use_31 : decode b_M_use 31 = .ok (.iload 4, 2) := by decide +kernel
theorem d_M_use_33 : decode b_M_use 33 = .ok (.ifCond .eq 17, 3) := by decide +kernel
theorem d_M_use_36 : decode b_M_use 36 = .ok (.aload_n 0, 1) := by decide +kernel
theorem d_M_use_37 : decode b_M_use 37 = .ok (.iload_n 1, 1) := by decide +kernel
theorem d_M_use_38 : decode b_M_use 38 = .ok (.iload_n 2, 1) := by decide +kernel
theorem d_M_use_39 : decode b_M_use 39 = .ok (.invokevirtual 146, 3) := by decide +kernel
theorem d_M_use_42 : decode b_M_use 42 = .ok (.iload_n 3, 1) := by decide +kernel
theorem d_M_use_43 : decode b_M_use 43 = .ok (.if_icmp .lt 7, 3) := by decide +kernel
theorem d_M_use_46 : decode b_M_use 46 = .ok (.iconst 1, 1) := by decide +kernel
theorem d_M_use_47 : decode b_M_use 47 = .ok (.goto 4, 3) := by decide +kernel
theorem d_M_use_50 : decode b_M_use 50 = .ok (.iconst 0, 1) := by decide +kernel
theorem d_M_use_51 : decode b_M_use 51 = .ok (.iconst 1, 1) := by decide +kernel
theorem d_M_use_52 : decode b_M_use 52 = .ok (.invokevirtual 116, 3) := by decide +kernel
theorem d_M_use_55 : decode b_M_use 55 = .ok (.ifCond .ne 5, 3) := by decide +kernel
theorem d_M_use_58 : decode b_M_use 58 = .ok (.iconst 0, 1) := by decide +kernel
theorem d_M_use_59 : decode b_M_use 59 = .ok (.ireturn, 1) := by decide +kernel
theorem d_M_use_60 : decode b_M_use 60 = .ok (.aload_n 0, 1) := by decide +kernel
theorem d_M_use_61 : decode b_M_use 61 = .ok (.iload_n 1, 1) := by decide +kernel
theorem d_M_use_62 : decode b_M_use 62 = .ok (.iload_n 2, 1) := by decide +kernel
theorem d_M_use_63 : decode b_M_use 63 = .ok (.iload_n 3, 1) := by decide +kernel
theorem d_M_use_64 : decode b_M_use 64 = .ok (.invokevirtual 149, 3) := by decide +kernel
theorem d_M_use_67 : decode b_M_use 67 = .ok (.aload_n 0, 1) := by decide +kernel
theorem d_M_use_68 : decode b_M_use 68 = .ok (.iload_n 1, 1) := by decide +kernel
theorem d_M_use_69 : decode b_M_use 69 = .ok (.iload_n 2, 1) := by decide +kernel
theorem d_M_use_70 : decode b_M_use 70 = .ok (.invokevirtual 146, 3) := by decide +kernel
theorem d_M_use_73 : decode b_M_use 73 = .ok (.ireturn, 1) := by decide +kernel
theorem d_M_sum_0 : decode b_M_sum 0 = .ok (.aload_n 0, 1) := by decide +kernel
theorem d_M_sum_1 : decode b_M_sum 1 = .ok (.iconst 1, 1) := by decide +kernel
theorem d_M_sum_2 : decode b_M_sum 2 = .ok (.aload_n 0, 1) := by decide +kernel
theorem d_M_sum_3 : decode b_M_sum 3 = .ok (.iload_n 1, 1) := by decide +kernel
theorem d_M_sum_4 : decode b_M_sum 4 = .ok (.invokevirtual 109, 3) := by decide +kernel
theorem d_M_sum_7 : decode b_M_sum 7 = .ok (.ifCond .eq 23, 3) := by decide +kernel
theorem d_M_sum_10 : decode b_M_sum 10 = .ok (.iload_n 2, 1) := by decide +kernel
theorem d_M_sum_11 : decode b_M_sum 11 = .ok (.invokestatic 120, 3) := by decide +kernel
theorem d_M_sum_14 : decode b_M_sum 14 = .ok (.ifCond .eq 16, 3) := by decide +kernel
theorem d_M_sum_17 : decode b_M_sum 17 = .ok (.iload_n 3, 1) := by decide +kernel
theorem d_M_sum_18 : decode b_M_sum 18 = .ok (.iconst 0, 1) := by decide +kernel
theorem d_M_sum_19 : decode b_M_sum 19 = .ok (.iconst 2, 1) := by decide +kernel
theorem d_M_sum_20 : decode b_M_sum 20 = .ok (.invokestatic 102, 3) := by decide +kernel
theorem d_M_sum_23 : decode b_M_sum 23 = .ok (.ifCond .eq 7, 3) := by decide +kernel
theorem d_M_sum_26 : decode b_M_sum 26 = .ok (.iconst 1, 1) := by decide +kernel
theorem d_M_sum_27 : decode b_M_sum 27 = .ok (.goto 4, 3) := by decide +kernel
theorem d_M_sum_30 : decode b_M_sum 30 = .ok (.iconst 0, 1) := by decide +kernel
theorem d_M_sum_31 : decode b_M_sum 31 = .ok (.iconst 1, 1) := by decide +kernel
theorem d_M_sum_32 : decode b_M_sum 32 = .ok (.iconst 1, 1) := by decide +kernel
theorem d_M_sum_33 : decode b_M_sum 33 = .ok (.iconst 1, 1) := by decide +kernel
theorem d_M_sum_34 : decode b_M_sum 34 = .ok (.invokevirtual 116, 3) := by decide +kernel
theorem d_M_sum_37 : decode b_M_sum 37 = .ok (.ifCond .ne 5, 3) := by decide +kernel
theorem d_M_sum_40 : decode b_M_sum 40 = .ok (.iconst 0, 1) := by decide +kernel
theorem d_M_sum_41 : decode b_M_sum 41 = .ok (.ireturn, 1) := by decide +kernel
theorem d_M_sum_42 : decode b_M_sum 42 = .ok (.iconst 0, 1) := by decide +kernel
theorem d_M_sum_43 : decode b_M_sum 43 = .ok (.istore 4, 2) := by decide +kernel
theorem d_M_sum_45 : decode b_M_sum 45 = .ok (.iload_n 3, 1) := by decide +kernel
theorem d_M_sum_46 : decode b_M_sum 46 = .ok (.ifCond .ne 10, 3) := by decide +kernel
theorem d_M_sum_49 : decode b_M_sum 49 = .ok (.aload_n 0, 1) := by decide +kernel
theorem d_M_sum_50 : decode b_M_sum 50 = .ok (.iload_n 1, 1) := by decide +kernel
theorem d_M_sum_51 : decode b_M_sum 51 = .ok (.iload_n 2, 1) := by decide +kernel
theorem d_M_sum_52 : decode b_M_sum 52 = .ok (.invokevirtual 146, 3) := by decide +kernel
theorem d_M_sum_55 : decode b_M_sum 55 = .ok (.ireturn, 1) := by decide +kernel
theorem d_M_sum_56 : decode b_M_sum 56 = .ok (.iconst 0, 1) := by decide +kernel
theorem d_M_sum_57 : decode b_M_sum 57 = .ok (.istore 5, 2) := by decide +kernel
theorem d_M_sum_59 : decode b_M_sum 59 = .ok (.iload 5, 2) := by decide +kernel
theorem d_M_sum_61 : decode b_M_sum 61 = .ok (.aload_n 0, 1) := by decide +kernel
theorem d_M_sum_62 : decode b_M_sum 62 = .ok (.getfield 106, 3) := by decide +kernel
theorem d_M_sum_65 : decode b_M_sum 65 = .ok (.if_icmp .ge 46, 3) := by decide +kernel
theorem d_M_sum_68 : decode b_M_sum 68 = .ok (.iload_n 3, 1) := by decide +kernel
theorem d_M_sum_69 : decode b_M_sum 69 = .ok (.iconst 1, 1) := by decide +kernel
theorem d_M_sum_70 : decode b_M_sum 70 = .ok (.if_icmp .ne 41, 3) := by decide +kernel
theorem d_M_sum_73 : decode b_M_sum 73 = .ok (.aload_n 0, 1) := by decide +kernel
theorem d_M_sum_74 : decode b_M_sum 74 = .ok (.getfield 7, 3) := by decide +kernel
theorem d_M_sum_77 : decode b_M_sum 77 = .ok (.iload 5, 2) := by decide +kernel
theorem d_M_sum_79 : decode b_M_sum 79 = .ok (.iaload, 1) := by decide +kernel
theorem d_M_sum_80 : decode b_M_sum 80 = .ok (.iload_n 2, 1) := by decide +kernel
theorem d_M_sum_81 : decode b_M_sum 81 = .ok (.if_icmp .ne 24, 3) := by decide +kernel
theorem d_M_sum_84 : decode b_M_sum 84 = .ok (.aload_n 0, 1) := by decide +kernel
theorem d_M_sum_85 : decode b_M_sum 85 = .ok (.iload 5, 2) := by decide +kernel
theorem d_M_sum_87 : decode b_M_sum 87 = .ok (.invokevirtual 143, 3) := by decide +kernel
theorem d_M_sum_90 : decode b_M_sum 90 = .ok (.ifCond .ne 15, 3) := by decide +kernel
theorem d_M_sum_93 : decode b_M_sum 93 = .ok (.iload 4, 2) := by decide +kernel
theorem d_M_sum_95 : decode b_M_sum 95 = .ok (.aload_n 0, 1) := by decide +kernel
theorem d_M_sum_96 : decode b_M_sum 96 = .ok (.iload_n 1, 1) := by decide +kernel
theorem d_M_sum_97 : decode b_M_sum 97 = .ok (.iload 5, 2) := by decide +kernel
theorem d_M_sum_99 : decode b_M_sum 99 = .ok (.invokevirtual 126, 3) := by decide +kernel
theorem d_M_sum_102 : decode b_M_sum 102 = .ok (.iadd, 1) := by decide +kernel
theorem d_M_sum_103 : decode b_M_sum 103 = .ok (.istore 4, 2) := by decide +kernel
theorem d_M_sum_105 : decode b_M_sum 105 = .ok (.iinc 5 1, 3) := by decide +kernel
theorem d_M_sum_108 : decode b_M_sum 108 = .ok (.goto (-49), 3) := by decide +kernel
theorem d_M_sum_111 : decode b_M_sum 111 = .ok (.iconst 0, 1) := by decide +kernel
theorem d_M_sum_112 : decode b_M_sum 112 = .ok (.istore 5, 2) := by decide +kernel
theorem d_M_sum_114 : decode b_M_sum 114 = .ok (.iload 5, 2) := by decide +kernel
theorem d_M_sum_116 : decode b_M_sum 116 = .ok (.aload_n 0, 1) := by decide +kernel
theorem d_M_sum_117 : decode b_M_sum 117 = .ok (.getfield 133, 3) := by decide +kernel
theorem d_M_sum_120 : decode b_M_sum 120 = .ok (.if_icmp .ge 63, 3) := by decide +kernel
theorem d_M_sum_123 : decode b_M_sum 123 = .ok (.iload_n 3, 1) := by decide +kernel
theorem d_M_sum_124 : decode b_M_sum 124 = .ok (.iconst 2, 1) := by decide +kernel
theorem d_M_sum_125 : decode b_M_sum 125 = .ok (.if_icmp .ne 58, 3) := by decide +kernel
theorem d_M_sum_128 : decode b_M_sum 128 = .ok (.aload_n 0, 1) := by decide +kernel
theorem d_M_sum_129 : decode b_M_sum 129 = .ok (.getfield 40, 3) := by decide +kernel
theorem d_M_sum_132 : decode b_M_sum 132 = .ok (.iload 5, 2) := by decide +kernel
theorem d_M_sum_134 : decode b_M_sum 134 = .ok (.baload, 1) := by decide +kernel
theorem d_M_sum_135 : decode b_M_sum 135 = .ok (.ifCond .eq 42, 3) := by decide +kernel
theorem d_M_sum_138 : decode b_M_sum 138 = .ok (.aload_n 0, 1) := by decide +kernel
theorem d_M_sum_139 : decode b_M_sum 139 = .ok (.getfield 28, 3) := by decide +kernel
theorem d_M_sum_142 : decode b_M_sum 142 = .ok (.iload 5, 2) := by decide +kernel
