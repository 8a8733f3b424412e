theorem dX1_table_75 : decode cX1_table 75 = .ok (.ireturn, 1) := by decide +kernel
theorem dX1_table_76 : decode cX1_table 76 = .ok (.aload_n 0, 1) := by decide +kernel
theorem dX1_table_77 : decode cX1_table 77 = .ok (.getfield 22, 3) := by decide +kernel
theorem dX1_table_80 : decode cX1_table 80 = .ok (.aload_n 0, 1) := by decide +kernel
theorem dX1_table_81 : decode cX1_table 81 = .ok (.getfield 86, 3) := by decide +kernel
theorem dX1_table_84 : decode cX1_table 84 = .ok (.iload_n 1, 1) := by decide +kernel
theorem dX1_table_85 : decode cX1_table 85 = .ok (.iastore, 1) := by decide +kernel
theorem dX1_table_86 : decode cX1_table 86 = .ok (.aload_n 0, 1) := by decide +kernel
theorem dX1_table_87 : decode cX1_table 87 = .ok (.getfield 25, 3) := by decide +kernel
theorem dX1_table_90 : decode cX1_table 90 = .ok (.aload_n 0, 1) := by decide +kernel
theorem dX1_table_91 : decode cX1_table 91 = .ok (.getfield 86, 3) := by decide +kernel
theorem dX1_table_94 : decode cX1_table 94 = .ok (.iload_n 2, 1) := by decide +kernel
theorem dX1_table_95 : decode cX1_table 95 = .ok (.iastore, 1) := by decide +kernel
theorem dX1_table_96 : decode cX1_table 96 = .ok (.aload_n 0, 1) := by decide +kernel
theorem dX1_table_97 : decode cX1_table 97 = .ok (.dup, 1) := by decide +kernel
theorem dX1_table_98 : decode cX1_table 98 = .ok (.getfield 86, 3) := by decide +kernel
theorem dX1_table_101 : decode cX1_table 101 = .ok (.iconst 1, 1) := by decide +kernel
theorem dX1_table_102 : decode cX1_table 102 = .ok (.iadd, 1) := by decide +kernel
theorem dX1_table_103 : decode cX1_table 103 = .ok (.putfield 86, 3) := by decide +kernel
theorem dX1_table_106 : decode cX1_table 106 = .ok (.aload_n 0, 1) := by decide +kernel
theorem dX1_table_107 : decode cX1_table 107 = .ok (.getfield 86, 3) := by decide +kernel
theorem dX1_table_110 : decode cX1_table 110 = .ok (.ireturn, 1) := by decide +kernel
theorem dX1_convert_0 : decode cX1_convert 0 = .ok (.aload_n 0, 1) := by decide +kernel
theorem dX1_convert_1 : decode cX1_convert 1 = .ok (.getfield 86, 3) := by decide +kernel
theorem dX1_convert_4 : decode cX1_convert 4 = .ok (.ifCond .le 32, 3) := by decide +kernel
theorem dX1_convert_7 : decode cX1_convert 7 = .ok (.iload_n 1, 1) := by decide +kernel
theorem dX1_convert_8 : decode cX1_convert 8 = .ok (.aload_n 0, 1) := by decide +kernel
theorem dX1_convert_9 : decode cX1_convert 9 = .ok (.getfield 22, 3) := by decide +kernel
theorem dX1_convert_12 : decode cX1_convert 12 = .ok (.iconst 0, 1) := by decide +kernel
theorem dX1_convert_13 : decode cX1_convert 13 = .ok (.iaload, 1) := by decide +kernel
theorem dX1_convert_14 : decode cX1_convert 14 = .ok (.if_icmp .lt 22, 3) := by decide +kernel
theorem dX1_convert_17 : decode cX1_convert 17 = .ok (.iload_n 1, 1) := by decide +kernel
theorem dX1_convert_18 : decode cX1_convert 18 = .ok (.aload_n 0, 1) := by decide +kernel
theorem dX1_convert_19 : decode cX1_convert 19 = .ok (.getfield 22, 3) := by decide +kernel
theorem dX1_convert_22 : decode cX1_convert 22 = .ok (.aload_n 0, 1) := by decide +kernel
theorem dX1_convert_23 : decode cX1_convert 23 = .ok (.getfield 86, 3) := by decide +kernel
theorem dX1_convert_26 : decode cX1_convert 26 = .ok (.iconst 1, 1) := by decide +kernel
theorem dX1_convert_27 : decode cX1_convert 27 = .ok (.isub, 1) := by decide +kernel
theorem dX1_convert_28 : decode cX1_convert 28 = .ok (.iaload, 1) := by decide +kernel
theorem dX1_convert_29 : decode cX1_convert 29 = .ok (.if_icmp .gt 7, 3) := by decide +kernel
theorem dX1_convert_32 : decode cX1_convert 32 = .ok (.iconst 1, 1) := by decide +kernel
theorem dX1_convert_33 : decode cX1_convert 33 = .ok (.goto 4, 3) := by decide +kernel
theorem dX1_convert_36 : decode cX1_convert 36 = .ok (.iconst 0, 1) := by decide +kernel
theorem dX1_convert_37 : decode cX1_convert 37 = .ok (.istore_n 3, 1) := by decide +kernel
theorem dX1_convert_38 : decode cX1_convert 38 = .ok (.aload_n 0, 1) := by decide +kernel
theorem dX1_convert_39 : decode cX1_convert 39 = .ok (.iload_n 2, 1) := by decide +kernel
theorem dX1_convert_40 : decode cX1_convert 40 = .ok (.iconst 0, 1) := by decide +kernel
theorem dX1_convert_41 : decode cX1_convert 41 = .ok (.iconst 2, 1) := by decide +kernel
theorem dX1_convert_42 : decode cX1_convert 42 = .ok (.invokestatic 40, 3) := by decide +kernel
theorem dX1_convert_45 : decode cX1_convert 45 = .ok (.aload_n 0, 1) := by decide +kernel
theorem dX1_convert_46 : decode cX1_convert 46 = .ok (.getfield 86, 3) := by decide +kernel
theorem dX1_convert_49 : decode cX1_convert 49 = .ok (.ifCond .le 7, 3) := by decide +kernel
theorem dX1_convert_52 : decode cX1_convert 52 = .ok (.iconst 1, 1) := by decide +kernel
theorem dX1_convert_53 : decode cX1_convert 53 = .ok (.goto 4, 3) := by decide +kernel
theorem dX1_convert_56 : decode cX1_convert 56 = .ok (.iconst 0, 1) := by decide +kernel
theorem dX1_convert_57 : decode cX1_convert 57 = .ok (.iload_n 1, 1) := by decide +kernel
theorem dX1_convert_58 : decode cX1_convert 58 = .ok (.iconst 0, 1) := by decide +kernel
theorem dX1_convert_59 : decode cX1_convert 59 = .ok (.sipush 2000, 3) := by decide +kernel
theorem dX1_convert_62 : decode cX1_convert 62 = .ok (.invokestatic 40, 3) := by decide +kernel
theorem dX1_convert_65 : decode cX1_convert 65 = .ok (.iload_n 3, 1) := by decide +kernel
theorem dX1_convert_66 : decode cX1_convert 66 = .ok (.invokevirtual 47, 3) := by decide +kernel
theorem dX1_convert_69 : decode cX1_convert 69 = .ok (.ifCond .ne 5, 3) := by decide +kernel
theorem dX1_convert_72 : decode cX1_convert 72 = .ok (.iconst 0, 1) := by decide +kernel
theorem dX1_convert_73 : decode cX1_convert 73 = .ok (.ireturn, 1) := by decide +kernel
theorem dX1_convert_74 : decode cX1_convert 74 = .ok (.iconst 0, 1) := by decide +kernel
theorem dX1_convert_75 : decode cX1_convert 75 = .ok (.istore 4, 2) := by decide +kernel
theorem dX1_convert_77 : decode cX1_convert 77 = .ok (.iload 4, 2) := by decide +kernel
theorem dX1_convert_79 : decode cX1_convert 79 = .ok (.aload_n 0, 1) := by decide +kernel
theorem dX1_convert_80 : decode cX1_convert 80 = .ok (.getfield 86, 3) := by decide +kernel
theorem dX1_convert_83 : decode cX1_convert 83 = .ok (.if_icmp .ge 113, 3) := by decide +kernel
theorem dX1_convert_86 : decode cX1_convert 86 = .ok (.iload_n 1, 1) := by decide +kernel
theorem dX1_convert_87 : decode cX1_convert 87 = .ok (.aload_n 0, 1) := by decide +kernel
theorem dX1_convert_88 : decode cX1_convert 88 = .ok (.getfield 22, 3) := by decide +kernel
theorem dX1_convert_91 : decode cX1_convert 91 = .ok (.iload 4, 2) := by decide +kernel
theorem dX1_convert_93 : decode cX1_convert 93 = .ok (.iaload, 1) := by decide +kernel
theorem dX1_convert_94 : decode cX1_convert 94 = .ok (.if_icmp .le 6, 3) := by decide +kernel
theorem dX1_convert_97 : decode cX1_convert 97 = .ok (.goto 93, 3) := by decide +kernel
theorem dX1_convert_100 : decode cX1_convert 100 = .ok (.iload_n 1, 1) := by decide +kernel
theorem dX1_convert_101 : decode cX1_convert 101 = .ok (.aload_n 0, 1) := by decide +kernel
theorem dX1_convert_102 : decode cX1_convert 102 = .ok (.getfield 22, 3) := by decide +kernel
theorem dX1_convert_105 : decode cX1_convert 105 = .ok (.iload 4, 2) := by decide +kernel
theorem dX1_convert_107 : decode cX1_convert 107 = .ok (.iaload, 1) := by decide +kernel
theorem dX1_convert_108 : decode cX1_convert 108 = .ok (.if_icmp .ne 11, 3) := by decide +kernel
theorem dX1_convert_111 : decode cX1_convert 111 = .ok (.aload_n 0, 1) := by decide +kernel
theorem dX1_convert_112 : decode cX1_convert 112 = .ok (.getfield 25, 3) := by decide +kernel
theorem dX1_convert_115 : decode cX1_convert 115 = .ok (.iload 4, 2) := by decide +kernel
theorem dX1_convert_117 : decode cX1_convert 117 = .ok (.iaload, 1) := by decide +kernel
theorem dX1_convert_118 : decode cX1_convert 118 = .ok (.ireturn, 1) := by decide +kernel
theorem dX1_convert_119 : decode cX1_convert 119 = .ok (.aload_n 0, 1) := by decide +kernel
theorem dX1_convert_120 : decode cX1_convert 120 = .ok (.getfield 22, 3) := by decide +kernel
theorem dX1_convert_123 : decode cX1_convert 123 = .ok (.iload 4, 2) := by decide +kernel
theorem dX1_convert_125 : decode cX1_convert 125 = .ok (.iaload, 1) := by decide +kernel
theorem dX1_convert_126 : decode cX1_convert 126 = .ok (.aload_n 0, 1) := by decide +kernel
theorem dX1_convert_127 : decode cX1_convert 127 = .ok (.getfield 22, 3) := by decide +kernel
theorem dX1_convert_130 : decode cX1_convert 130 = .ok (.iload 4, 2) := by decide +kernel
theorem dX1_convert_132 : decode cX1_convert 132 = .ok (.iconst 1, 1) := by decide +kernel
theorem dX1_convert_133 : decode cX1_convert 133 = .ok (.isub, 1) := by decide +kernel
theorem dX1_convert_134 : decode cX1_convert 134 = .ok (.iaload, 1) := by decide +kernel
theorem dX1_convert_135 : decode cX1_convert 135 = .ok (.isub, 1) := by decide +kernel
theorem dX1_convert_136 : decode cX1_convert 136 = .ok (.istore 5, 2) := by decide +kernel
theorem dX1_convert_138 : decode cX1_convert 138 = .ok (.aload_n 0, 1) := by decide +kernel
theorem dX1_convert_139 : decode cX1_convert 139 = .ok (.getfield 25, 3) := by decide +kernel
theorem dX1_convert_142 : decode cX1_convert 142 = .ok (.iload 4, 2) := by decide +kernel
theorem dX1_convert_144 : decode cX1_convert 144 = .ok (.iconst 1, 1) := by decide +kernel
theorem dX1_convert_145 : decode cX1_convert 145 = .ok (.isub, 1) := by decide +kernel
theorem dX1_convert_146 : decode cX1_convert 146 = .ok (.iaload, 1) := by decide +kernel
theorem dX1_convert_147 : decode cX1_convert 147 = .ok (.iload 5, 2) := by decide +kernel
theorem dX1_convert_149 : decode cX1_convert 149 = .ok (.imul, 1) := by decide +kernel
theorem dX1_convert_150 : decode cX1_convert 150 = .ok (.aload_n 0, 1) := by decide +kernel
theorem dX1_convert_151 : decode cX1_convert 151 = .ok (.getfield 25, 3) := by decide +kernel
theorem dX1_convert_154 : decode cX1_convert 154 = .ok (.iload 4, 2) := by decide +kernel
theorem dX1_convert_156 : decode cX1_convert 156 = .ok (.iaload, 1) := by decide +kernel
theorem dX1_convert_157 : decode cX1_convert 157 = .ok (.aload_n 0, 1) := by decide +kernel
theorem dX1_convert_158 : decode cX1_convert 158 = .ok (.getfield 25, 3) := by decide +kernel
theorem dX1_convert_161 : decode cX1_convert 161 = .ok (.iload 4, 2) := by decide +kernel
theorem dX1_convert_163 : decode cX1_convert 163 = .ok (.iconst 1, 1) := by decide +kernel
theorem dX1_convert_164 : decode cX1_convert 164 = .ok (.isub, 1) := by decide +kernel
theorem dX1_convert_165 : decode cX1_convert 165 = .ok (.iaload, 1) := by decide +kernel
theorem dX1_convert_166 : decode cX1_convert 166 = .ok (.isub, 1) := by decide +kernel
theorem dX1_convert_167 : decode cX1_convert 167 = .ok (.iload_n 1, 1) := by decide +kernel
theorem dX1_convert_168 : decode cX1_convert 168 = .ok (.aload_n 0, 1) := by decide +kernel
theorem dX1_convert_169 : decode cX1_convert 169 = .ok (.getfield 22, 3) := by decide +kernel
theorem dX1_convert_172 : decode cX1_convert 172 = .ok (.iload 4, 2) := by decide +kernel
theorem dX1_convert_174 : decode cX1_convert 174 = .ok (.iconst 1, 1) := by decide +kernel
theorem dX1_convert_175 : decode cX1_convert 175 = .ok (.isub, 1) := by decide +kernel
theorem dX1_convert_176 : decode cX1_convert 176 = .ok (.iaload, 1) := by decide +kernel
theorem dX1_convert_177 : decode cX1_convert 177 = .ok (.isub, 1) := by decide +kernel
theorem dX1_convert_178 : decode cX1_convert 178 = .ok (.imul, 1) := by decide +kernel
theorem dX1_convert_179 : decode cX1_convert 179 = .ok (.iadd, 1) := by decide +kernel
theorem dX1_convert_180 : decode cX1_convert 180 = .ok (.i2l, 1) := by decide +kernel
theorem dX1_convert_181 : decode cX1_convert 181 = .ok (.iload 5, 2) := by decide +kernel
theorem dX1_convert_183 : decode cX1_convert 183 = .ok (.i2l, 1) := by decide +kernel
theorem dX1_convert_184 : decode cX1_convert 184 = .ok (.iload_n 2, 1) := by decide +kernel
theorem dX1_convert_185 : decode cX1_convert 185 = .ok (.invokestatic 89, 3) := by decide +kernel
theorem dX1_convert_188 : decode cX1_convert 188 = .ok (.l2i, 1) := by decide +kernel
theorem dX1_convert_189 : decode cX1_convert 189 = .ok (.ireturn, 1) := by decide +kernel
theorem dX1_convert_190 : decode cX1_convert 190 = .ok (.iinc 4 1, 3) := by decide +kernel
theorem dX1_convert_193 : decode cX1_convert 193 = .ok (.goto (-116), 3) := by decide +kernel
theorem dX1_convert_196 : decode cX1_convert 196 = .ok (.iconst 0, 1) := by decide +kernel
theorem dX1_convert_197 : decode cX1_convert 197 = .ok (.ireturn, 1) := by decide +kernel
theorem dX1_rounded_0 : decode cX1_rounded 0 = .ok (.lload_n 0, 1) := by decide +kernel
theorem dX1_rounded_1 : decode cX1_rounded 1 = .ok (.lload_n 2, 1) := by decide +kernel
theorem dX1_rounded_2 : decode cX1_rounded 2 = .ok (.ldiv, 1) := by decide +kernel
theorem dX1_rounded_3 : decode cX1_rounded 3 = .ok (.lstore 5, 2) := by decide +kernel
theorem dX1_rounded_5 : decode cX1_rounded 5 = .ok (.lload 5, 2) := by decide +kernel
theorem dX1_rounded_7 : decode cX1_rounded 7 = .ok (.lload_n 2, 1) := by decide +kernel
theorem dX1_rounded_8 : decode cX1_rounded 8 = .ok (.lmul, 1) := by decide +kernel
theorem dX1_rounded_9 : decode cX1_rounded 9 = .ok (.lload_n 0, 1) := by decide +kernel
theorem dX1_rounded_10 : decode cX1_rounded 10 = .ok (.lcmp, 1) := by decide +kernel
theorem dX1_rounded_11 : decode cX1_rounded 11 = .ok (.ifCond .le 9, 3) := by decide +kernel
theorem dX1_rounded_14 : decode cX1_rounded 14 = .ok (.lload 5, 2) := by decide +kernel
theorem dX1_rounded_16 : decode cX1_rounded 16 = .ok (.lconst 1, 1) := by decide +kernel
theorem dX1_rounded_17 : decode cX1_rounded 17 = .ok (.lsub, 1) := by decide +kernel
theorem dX1_rounded_18 : decode cX1_rounded 18 = .ok (.lstore 5, 2) := by decide +kernel
theorem dX1_rounded_20 : decode cX1_rounded 20 = .ok (.lload_n 0, 1) := by decide +kernel
theorem dX1_rounded_21 : decode cX1_rounded 21 = .ok (.lload 5, 2) := by decide +kernel
theorem dX1_rounded_23 : decode cX1_rounded 23 = .ok (.lload_n 2, 1) := by decide +kernel
theorem dX1_rounded_24 : decode cX1_rounded 24 = .ok (.lmul, 1) := by decide +kernel
theorem dX1_rounded_25 : decode cX1_rounded 25 = .ok (.lsub, 1) := by decide +kernel
theorem dX1_rounded_26 : decode cX1_rounded 26 = .ok (.lstore 7, 2) := by decide +kernel
theorem dX1_rounded_28 : decode cX1_rounded 28 = .ok (.iload 4, 2) := by decide +kernel
theorem dX1_rounded_30 : decode cX1_rounded 30 = .ok (.ifCond .ne 22, 3) := by decide +kernel
theorem dX1_rounded_33 : decode cX1_rounded 33 = .ok (.ldc2_w 84, 3) := by decide +kernel
theorem dX1_rounded_36 : decode cX1_rounded 36 = .ok (.lload 7, 2) := by decide +kernel
theorem dX1_rounded_38 : decode cX1_rounded 38 = .ok (.lmul, 1) := by decide +kernel
theorem dX1_rounded_39 : decode cX1_rounded 39 = .ok (.lload_n 2, 1) := by decide +kernel
theorem dX1_rounded_40 : decode cX1_rounded 40 = .ok (.lcmp, 1) := by decide +kernel
theorem dX1_rounded_41 : decode cX1_rounded 41 = .ok (.ifCond .lt 7, 3) := by decide +kernel
theorem dX1_rounded_44 : decode cX1_rounded 44 = .ok (.iconst 1, 1) := by decide +kernel
theorem dX1_rounded_45 : decode cX1_rounded 45 = .ok (.goto 49, 3) := by decide +kernel
theorem dX1_rounded_48 : decode cX1_rounded 48 = .ok (.iconst 0, 1) := by decide +kernel
theorem dX1_rounded_49 : decode cX1_rounded 49 = .ok (.goto 45, 3) := by decide +kernel
theorem dX1_rounded_52 : decode cX1_rounded 52 = .ok (.iload 4, 2) := by decide +kernel
theorem dX1_rounded_54 : decode cX1_rounded 54 = .ok (.iconst 1, 1) := by decide +kernel
theorem dX1_rounded_55 : decode cX1_rounded 55 = .ok (.if_icmp .ne 38, 3) := by decide +kernel
theorem dX1_rounded_58 : decode cX1_rounded 58 = .ok (.ldc2_w 84, 3) := by decide +kernel
theorem dX1_rounded_61 : decode cX1_rounded 61 = .ok (.lload 7, 2) := by decide +kernel
theorem dX1_rounded_63 : decode cX1_rounded 63 = .ok (.lmul, 1) := by decide +kernel
theorem dX1_rounded_64 : decode cX1_rounded 64 = .ok (.lload_n 2, 1) := by decide +kernel
theorem dX1_rounded_65 : decode cX1_rounded 65 = .ok (.lcmp, 1) := by decide +kernel
theorem dX1_rounded_66 : decode cX1_rounded 66 = .ok (.ifCond .gt 23, 3) := by decide +kernel
theorem dX1_rounded_69 : decode cX1_rounded 69 = .ok (.ldc2_w 84, 3) := by decide +kernel
theorem dX1_rounded_72 : decode cX1_rounded 72 = .ok (.lload 7, 2) := by decide +kernel
theorem dX1_rounded_74 : decode cX1_rounded 74 = .ok (.lmul, 1) := by decide +kernel
theorem dX1_rounded_75 : decode cX1_rounded 75 = .ok (.lload_n 2, 1) := by decide +kernel
theorem dX1_rounded_76 : decode cX1_rounded 76 = .ok (.lcmp, 1) := by decide +kernel
theorem dX1_rounded_77 : decode cX1_rounded 77 = .ok (.ifCond .ne 16, 3) := by decide +kernel
theorem dX1_rounded_80 : decode cX1_rounded 80 = .ok (.lload 5, 2) := by decide +kernel
theorem dX1_rounded_82 : decode cX1_rounded 82 = .ok (.lconst 1, 1) := by decide +kernel
theorem dX1_rounded_83 : decode cX1_rounded 83 = .ok (.land, 1) := by decide +kernel
theorem dX1_rounded_84 : decode cX1_rounded 84 = .ok (.lconst 1, 1) := by decide +kernel
theorem dX1_rounded_85 : decode cX1_rounded 85 = .ok (.lcmp, 1) := by decide +kernel
theorem dX1_rounded_86 : decode cX1_rounded 86 = .ok (.ifCond .ne 7, 3) := by decide +kernel
theorem dX1_rounded_89 : decode cX1_rounded 89 = .ok (.iconst 1, 1) := by decide +kernel
theorem dX1_rounded_90 : decode cX1_rounded 90 = .ok (.goto 4, 3) := by decide +kernel
theorem dX1_rounded_93 : decode cX1_rounded 93 = .ok (.iconst 0, 1) := by decide +kernel
theorem dX1_rounded_94 : decode cX1_rounded 94 = .ok (.istore 9, 2) := by decide +kernel
theorem dX1_rounded_96 : decode cX1_rounded 96 = .ok (.iload 9, 2) := by decide +kernel
theorem dX1_rounded_98 : decode cX1_rounded 98 = .ok (.ifCond .eq 10, 3) := by decide +kernel
theorem dX1_rounded_101 : decode cX1_rounded 101 = .ok (.lload 5, 2) := by decide +kernel
theorem dX1_rounded_103 : decode cX1_rounded 103 = .ok (.lconst 1, 1) := by decide +kernel
theorem dX1_rounded_104 : decode cX1_rounded 104 = .ok (.ladd, 1) := by decide +kernel
theorem dX1_rounded_105 : decode cX1_rounded 105 = .ok (.goto 5, 3) := by decide +kernel
theorem dX1_rounded_108 : decode cX1_rounded 108 = .ok (.lload 5, 2) := by decide +kernel
theorem dX1_rounded_110 : decode cX1_rounded 110 = .ok (.lreturn, 1) := by decide +kernel
theorem dX1_round_0 : decode cX1_round 0 = .ok (.aload_n 0, 1) := by decide +kernel
theorem dX1_round_1 : decode cX1_round 1 = .ok (.iload 5, 2) := by decide +kernel
theorem dX1_round_3 : decode cX1_round 3 = .ok (.iconst 0, 1) := by decide +kernel
theorem dX1_round_4 : decode cX1_round 4 = .ok (.iconst 2, 1) := by decide +kernel
theorem dX1_round_5 : decode cX1_round 5 = .ok (.invokestatic 40, 3) := by decide +kernel
theorem dX1_round_8 : decode cX1_round 8 = .ok (.lload_n 3, 1) := by decide +kernel
theorem dX1_round_9 : decode cX1_round 9 = .ok (.lconst 1, 1) := by decide +kernel
theorem dX1_round_10 : decode cX1_round 10 = .ok (.ldc2_w 92, 3) := by decide +kernel
theorem dX1_round_13 : decode cX1_round 13 = .ok (.invokestatic 94, 3) := by decide +kernel
theorem dX1_round_16 : decode cX1_round 16 = .ok (.ifCond .eq 20, 3) := by decide +kernel
theorem dX1_round_19 : decode cX1_round 19 = .ok (.lload_n 1, 1) := by decide +kernel
theorem dX1_round_20 : decode cX1_round 20 = .ok (.ldc2_w 98, 3) := by decide +kernel
theorem dX1_round_23 : decode cX1_round 23 = .ok (.ldc2_w 92, 3) := by decide +kernel
theorem dX1_round_26 : decode cX1_round 26 = .ok (.invokestatic 94, 3) := by decide +kernel
theorem dX1_round_29 : decode cX1_round 29 = .ok (.ifCond .eq 7, 3) := by decide +kernel
theorem dX1_round_32 : decode cX1_round 32 = .ok (.iconst 1, 1) := by decide +kernel
theorem dX1_round_33 : decode cX1_round 33 = .ok (.goto 4, 3) := by decide +kernel
theorem dX1_round_36 : decode cX1_round 36 = .ok (.iconst 0, 1) := by decide +kernel
theorem dX1_round_37 : decode cX1_round 37 = .ok (.iconst 1, 1) := by decide +kernel
theorem dX1_round_38 : decode cX1_round 38 = .ok (.iconst 1, 1) := by decide +kernel
theorem dX1_round_39 : decode cX1_round 39 = .ok (.invokevirtual 47, 3) := by decide +kernel
theorem dX1_round_42 : decode cX1_round 42 = .ok (.ifCond .ne 5, 3) := by decide +kernel
theorem dX1_round_45 : decode cX1_round 45 = .ok (.lconst 0, 1) := by decide +kernel
theorem dX1_round_46 : decode cX1_round 46 = .ok (.lreturn, 1) := by decide +kernel
theorem dX1_round_47 : decode cX1_round 47 = .ok (.lload_n 1, 1) := by decide +kernel
theorem dX1_round_48 : decode cX1_round 48 = .ok (.lload_n 3, 1) := by decide +kernel
theorem dX1_round_49 : decode cX1_round 49 = .ok (.iload 5, 2) := by decide +kernel
theorem dX1_round_51 : decode cX1_round 51 = .ok (.invokestatic 89, 3) := by decide +kernel
theorem dX1_round_54 : decode cX1_round 54 = .ok (.lreturn, 1) := by decide +kernel
theorem dX1_in8_0 : decode cX1_in8 0 = .ok (.lload_n 0, 1) := by decide +kernel
theorem dX1_in8_1 : decode cX1_in8 1 = .ok (.lload_n 2, 1) := by decide +kernel
theorem dX1_in8_2 : decode cX1_in8 2 = .ok (.lcmp, 1) := by decide +kernel
theorem dX1_in8_3 : decode cX1_in8 3 = .ok (.ifCond .lt 14, 3) := by decide +kernel
theorem dX1_in8_6 : decode cX1_in8 6 = .ok (.lload_n 0, 1) := by decide +kernel
theorem dX1_in8_7 : decode cX1_in8 7 = .ok (.lload 4, 2) := by decide +kernel
theorem dX1_in8_9 : decode cX1_in8 9 = .ok (.lcmp, 1) := by decide +kernel
theorem dX1_in8_10 : decode cX1_in8 10 = .ok (.ifCond .gt 7, 3) := by decide +kernel
theorem dX1_in8_13 : decode cX1_in8 13 = .ok (.iconst 1, 1) := by decide +kernel
theorem dX1_in8_14 : decode cX1_in8 14 = .ok (.goto 4, 3) := by decide +kernel
theorem dX1_in8_17 : decode cX1_in8 17 = .ok (.iconst 0, 1) := by decide +kernel
theorem dX1_in8_18 : decode cX1_in8 18 = .ok (.ireturn, 1) := by decide +kernel
theorem dX1_machine_0 : decode cX1_machine 0 = .ok (.aload_n 0, 1) := by decide +kernel
theorem dX1_machine_1 : decode cX1_machine 1 = .ok (.iload_n 1, 1) := by decide +kernel
theorem dX1_machine_2 : decode cX1_machine 2 = .ok (.iconst 1, 1) := by decide +kernel
theorem dX1_machine_3 : decode cX1_machine 3 = .ok (.ldc 39, 2) := by decide +kernel
theorem dX1_machine_5 : decode cX1_machine 5 = .ok (.invokestatic 40, 3) := by decide +kernel
theorem dX1_machine_8 : decode cX1_machine 8 = .ok (.ifCond .eq 17, 3) := by decide +kernel
theorem dX1_machine_11 : decode cX1_machine 11 = .ok (.iload_n 2, 1) := by decide +kernel
theorem dX1_machine_12 : decode cX1_machine 12 = .ok (.iconst 1, 1) := by decide +kernel
theorem dX1_machine_13 : decode cX1_machine 13 = .ok (.ldc 39, 2) := by decide +kernel
theorem dX1_machine_15 : decode cX1_machine 15 = .ok (.invokestatic 40, 3) := by decide +kernel
theorem dX1_machine_18 : decode cX1_machine 18 = .ok (.ifCond .eq 7, 3) := by decide +kernel
theorem dX1_machine_21 : decode cX1_machine 21 = .ok (.iconst 1, 1) := by decide +kernel
theorem dX1_machine_22 : decode cX1_machine 22 = .ok (.goto 4, 3) := by decide +kernel
theorem dX1_machine_25 : decode cX1_machine 25 = .ok (.iconst 0, 1) := by decide +kernel
theorem dX1_machine_26 : decode cX1_machine 26 = .ok (.iconst 1, 1) := by decide +kernel
theorem dX1_machine_27 : decode cX1_machine 27 = .ok (.iconst 1, 1) := by decide +kernel
theorem dX1_machine_28 : decode cX1_machine 28 = .ok (.iconst 1, 1) := by decide +kernel
theorem dX1_machine_29 : decode cX1_machine 29 = .ok (.invokevirtual 47, 3) := by decide +kernel
theorem dX1_machine_32 : decode cX1_machine 32 = .ok (.ifCond .ne 5, 3) := by decide +kernel
theorem dX1_machine_35 : decode cX1_machine 35 = .ok (.iconst 0, 1) := by decide +kernel
theorem dX1_machine_36 : decode cX1_machine 36 = .ok (.ireturn, 1) := by decide +kernel
theorem dX1_machine_37 : decode cX1_machine 37 = .ok (.iload_n 1, 1) := by decide +kernel
theorem dX1_machine_38 : decode cX1_machine 38 = .ok (.iload_n 2, 1) := by decide +kernel
theorem dX1_machine_39 : decode cX1_machine 39 = .ok (.if_icmp .le 9, 3) := by decide +kernel
theorem dX1_machine_42 : decode cX1_machine 42 = .ok (.iload_n 1, 1) := by decide +kernel
theorem dX1_machine_43 : decode cX1_machine 43 = .ok (.iload_n 2, 1) := by decide +kernel
theorem dX1_machine_44 : decode cX1_machine 44 = .ok (.isub, 1) := by decide +kernel
theorem dX1_machine_45 : decode cX1_machine 45 = .ok (.goto 6, 3) := by decide +kernel
theorem dX1_machine_48 : decode cX1_machine 48 = .ok (.iload_n 2, 1) := by decide +kernel
theorem dX1_machine_49 : decode cX1_machine 49 = .ok (.iload_n 1, 1) := by decide +kernel
theorem dX1_machine_50 : decode cX1_machine 50 = .ok (.isub, 1) := by decide +kernel
theorem dX1_machine_51 : decode cX1_machine 51 = .ok (.istore_n 3, 1) := by decide +kernel
theorem dX1_machine_52 : decode cX1_machine 52 = .ok (.aload_n 0, 1) := by decide +kernel
theorem dX1_machine_53 : decode cX1_machine 53 = .ok (.iload_n 3, 1) := by decide +kernel
theorem dX1_machine_54 : decode cX1_machine 54 = .ok (.bipush 100, 2) := by decide +kernel
theorem dX1_machine_56 : decode cX1_machine 56 = .ok (.imul, 1) := by decide +kernel
theorem dX1_machine_57 : decode cX1_machine 57 = .ok (.iload_n 1, 1) := by decide +kernel
theorem dX1_machine_58 : decode cX1_machine 58 = .ok (.if_icmp .le 7, 3) := by decide +kernel
theorem dX1_machine_61 : decode cX1_machine 61 = .ok (.iconst 1, 1) := by decide +kernel
theorem dX1_machine_62 : decode cX1_machine 62 = .ok (.goto 4, 3) := by decide +kernel
theorem dX1_machine_65 : decode cX1_machine 65 = .ok (.iconst 0, 1) := by decide +kernel
theorem dX1_machine_66 : decode cX1_machine 66 = .ok (.putfield 100, 3) := by decide +kernel
theorem dX1_machine_69 : decode cX1_machine 69 = .ok (.aload_n 0, 1) := by decide +kernel
theorem dX1_machine_70 : decode cX1_machine 70 = .ok (.getfield 100, 3) := by decide +kernel
theorem dX1_machine_73 : decode cX1_machine 73 = .ok (.ireturn, 1) := by decide +kernel
theorem dX1_invalid_0 : decode cX1_invalid 0 = .ok (.aload_n 0, 1) := by decide +kernel
theorem dX1_invalid_1 : decode cX1_invalid 1 = .ok (.iconst 0, 1) := by decide +kernel
theorem dX1_invalid_2 : decode cX1_invalid 2 = .ok (.putfield 28, 3) := by decide +kernel
theorem dX1_invalid_5 : decode cX1_invalid 5 = .ok (.aload_n 0, 1) := by decide +kernel
theorem dX1_invalid_6 : decode cX1_invalid 6 = .ok (.getfield 51, 3) := by decide +kernel
theorem dX1_invalid_9 : decode cX1_invalid 9 = .ok (.ifCond .ne 5, 3) := by decide +kernel
theorem dX1_invalid_12 : decode cX1_invalid 12 = .ok (.iconst 1, 1) := by decide +kernel
theorem dX1_invalid_13 : decode cX1_invalid 13 = .ok (.ireturn, 1) := by decide +kernel
theorem dX1_invalid_14 : decode cX1_invalid 14 = .ok (.aload_n 0, 1) := by decide +kernel
theorem dX1_invalid_15 : decode cX1_invalid 15 = .ok (.getfield 44, 3) := by decide +kernel
theorem dX1_invalid_18 : decode cX1_invalid 18 = .ok (.iconst 5, 1) := by decide +kernel
theorem dX1_invalid_19 : decode cX1_invalid 19 = .ok (.if_icmp .ge 5, 3) := by decide +kernel
theorem dX1_invalid_22 : decode cX1_invalid 22 = .ok (.iconst 2, 1) := by decide +kernel
theorem dX1_invalid_23 : decode cX1_invalid 23 = .ok (.ireturn, 1) := by decide +kernel
theorem dX1_invalid_24 : decode cX1_invalid 24 = .ok (.aload_n 0, 1) := by decide +kernel
theorem dX1_invalid_25 : decode cX1_invalid 25 = .ok (.invokevirtual 77, 3) := by decide +kernel
theorem dX1_invalid_28 : decode cX1_invalid 28 = .ok (.istore_n 1, 1) := by decide +kernel
theorem dX1_invalid_29 : decode cX1_invalid 29 = .ok (.iload_n 1, 1) := by decide +kernel
theorem dX1_invalid_30 : decode cX1_invalid 30 = .ok (.ifCond .ne 5, 3) := by decide +kernel
theorem dX1_invalid_33 : decode cX1_invalid 33 = .ok (.iconst 3, 1) := by decide +kernel
theorem dX1_invalid_34 : decode cX1_invalid 34 = .ok (.ireturn, 1) := by decide +kernel
theorem dX1_invalid_35 : decode cX1_invalid 35 = .ok (.iload_n 1, 1) := by decide +kernel
theorem dX1_invalid_36 : decode cX1_invalid 36 = .ok (.aload_n 0, 1) := by decide +kernel
theorem dX1_invalid_37 : decode cX1_invalid 37 = .ok (.getfield 44, 3) := by decide +kernel
theorem dX1_invalid_40 : decode cX1_invalid 40 = .ok (.iconst 1, 1) := by decide +kernel
theorem dX1_invalid_41 : decode cX1_invalid 41 = .ok (.isub, 1) := by decide +kernel
theorem dX1_invalid_42 : decode cX1_invalid 42 = .ok (.if_icmp .ne 7, 3) := by decide +kernel
theorem dX1_invalid_45 : decode cX1_invalid 45 = .ok (.iconst 1, 1) := by decide +kernel
theorem dX1_invalid_46 : decode cX1_invalid 46 = .ok (.goto 4, 3) := by decide +kernel
theorem dX1_invalid_49 : decode cX1_invalid 49 = .ok (.iconst 0, 1) := by decide +kernel
theorem dX1_invalid_50 : decode cX1_invalid 50 = .ok (.istore_n 2, 1) := by decide +kernel
theorem dX1_invalid_51 : decode cX1_invalid 51 = .ok (.iload_n 1, 1) := by decide +kernel
theorem dX1_invalid_52 : decode cX1_invalid 52 = .ok (.iconst 1, 1) := by decide +kernel
theorem dX1_invalid_53 : decode cX1_invalid 53 = .ok (.iadd, 1) := by decide +kernel
theorem dX1_invalid_54 : decode cX1_invalid 54 = .ok (.istore_n 3, 1) := by decide +kernel
theorem dX1_invalid_55 : decode cX1_invalid 55 = .ok (.iload_n 3, 1) := by decide +kernel
theorem dX1_invalid_56 : decode cX1_invalid 56 = .ok (.aload_n 0, 1) := by decide +kernel
theorem dX1_invalid_57 : decode cX1_invalid 57 = .ok (.getfield 44, 3) := by decide +kernel
theorem dX1_invalid_60 : decode cX1_invalid 60 = .ok (.if_icmp .ge 28, 3) := by decide +kernel
theorem dX1_invalid_63 : decode cX1_invalid 63 = .ok (.iconst 2, 1) := by decide +kernel
theorem dX1_invalid_64 : decode cX1_invalid 64 = .ok (.aload_n 0, 1) := by decide +kernel
theorem dX1_invalid_65 : decode cX1_invalid 65 = .ok (.getfield 13, 3) := by decide +kernel
theorem dX1_invalid_68 : decode cX1_invalid 68 = .ok (.iload_n 3, 1) := by decide +kernel
theorem dX1_invalid_69 : decode cX1_invalid 69 = .ok (.iaload, 1) := by decide +kernel
theorem dX1_invalid_70 : decode cX1_invalid 70 = .ok (.imul, 1) := by decide +kernel
theorem dX1_invalid_71 : decode cX1_invalid 71 = .ok (.aload_n 0, 1) := by decide +kernel
theorem dX1_invalid_72 : decode cX1_invalid 72 = .ok (.getfield 13, 3) := by decide +kernel
theorem dX1_invalid_75 : decode cX1_invalid 75 = .ok (.iload_n 1, 1) := by decide +kernel
theorem dX1_invalid_76 : decode cX1_invalid 76 = .ok (.iaload, 1) := by decide +kernel
theorem dX1_invalid_77 : decode cX1_invalid 77 = .ok (.if_icmp .ge 5, 3) := by decide +kernel
theorem dX1_invalid_80 : decode cX1_invalid 80 = .ok (.iconst 1, 1) := by decide +kernel
theorem dX1_invalid_81 : decode cX1_invalid 81 = .ok (.istore_n 2, 1) := by decide +kernel
theorem dX1_invalid_82 : decode cX1_invalid 82 = .ok (.iinc 3 1, 3) := by decide +kernel
theorem dX1_invalid_85 : decode cX1_invalid 85 = .ok (.goto (-30), 3) := by decide +kernel
theorem dX1_invalid_88 : decode cX1_invalid 88 = .ok (.iload_n 2, 1) := by decide +kernel
theorem dX1_invalid_89 : decode cX1_invalid 89 = .ok (.ifCond .ne 5, 3) := by decide +kernel
theorem dX1_invalid_92 : decode cX1_invalid 92 = .ok (.iconst 4, 1) := by decide +kernel
theorem dX1_invalid_93 : decode cX1_invalid 93 = .ok (.ireturn, 1) := by decide +kernel
theorem dX1_invalid_94 : decode cX1_invalid 94 = .ok (.aload_n 0, 1) := by decide +kernel
theorem dX1_invalid_95 : decode cX1_invalid 95 = .ok (.getfield 100, 3) := by decide +kernel
theorem dX1_invalid_98 : decode cX1_invalid 98 = .ok (.ifCond .eq 7, 3) := by decide +kernel
theorem dX1_invalid_101 : decode cX1_invalid 101 = .ok (.iconst 5, 1) := by decide +kernel
theorem dX1_invalid_102 : decode cX1_invalid 102 = .ok (.goto 4, 3) := by decide +kernel
theorem dX1_invalid_105 : decode cX1_invalid 105 = .ok (.iconst 0, 1) := by decide +kernel
theorem dX1_invalid_106 : decode cX1_invalid 106 = .ok (.ireturn, 1) := by decide +kernel
theorem dX1_clear_0 : decode cX1_clear 0 = .ok (.aload_n 0, 1) := by decide +kernel
theorem dX1_clear_1 : decode cX1_clear 1 = .ok (.iconst 0, 1) := by decide +kernel
theorem dX1_clear_2 : decode cX1_clear 2 = .ok (.putfield 28, 3) := by decide +kernel
theorem dX1_clear_5 : decode cX1_clear 5 = .ok (.aload_n 0, 1) := by decide +kernel
theorem dX1_clear_6 : decode cX1_clear 6 = .ok (.iconst 0, 1) := by decide +kernel
theorem dX1_clear_7 : decode cX1_clear 7 = .ok (.putfield 44, 3) := by decide +kernel
theorem dX1_clear_10 : decode cX1_clear 10 = .ok (.aload_n 0, 1) := by decide +kernel
theorem dX1_clear_11 : decode cX1_clear 11 = .ok (.iconst 0, 1) := by decide +kernel
theorem dX1_clear_12 : decode cX1_clear 12 = .ok (.putfield 51, 3) := by decide +kernel
theorem dX1_clear_15 : decode cX1_clear 15 = .ok (.aload_n 0, 1) := by decide +kernel
theorem dX1_clear_16 : decode cX1_clear 16 = .ok (.iconst 0, 1) := by decide +kernel
theorem dX1_clear_17 : decode cX1_clear 17 = .ok (.putfield 54, 3) := by decide +kernel
theorem dX1_clear_20 : decode cX1_clear 20 = .ok (.aload_n 0, 1) := by decide +kernel
theorem dX1_clear_21 : decode cX1_clear 21 = .ok (.iconst 0, 1) := by decide +kernel
theorem dX1_clear_22 : decode cX1_clear 22 = .ok (.putfield 61, 3) := by decide +kernel
theorem dX1_clear_25 : decode cX1_clear 25 = .ok (.aload_n 0, 1) := by decide +kernel
theorem dX1_clear_26 : decode cX1_clear 26 = .ok (.iconst 0, 1) := by decide +kernel
theorem dX1_clear_27 : decode cX1_clear 27 = .ok (.putfield 100, 3) := by decide +kernel
theorem dX1_clear_30 : decode cX1_clear 30 = .ok (.return_, 1) := by decide +kernel
theorem dL_law_0 : decode cL_law 0 = .ok (.new 8, 3) := by decide +kernel
theorem dL_law_3 : decode cL_law 3 = .ok (.dup, 1) := by decide +kernel
theorem dL_law_4 : decode cL_law 4 = .ok (.invokespecial 60, 3) := by decide +kernel
theorem dL_law_7 : decode cL_law 7 = .ok (.astore_n 1, 1) := by decide +kernel
theorem dL_law_8 : decode cL_law 8 = .ok (.new 61, 3) := by decide +kernel
theorem dL_law_11 : decode cL_law 11 = .ok (.dup, 1) := by decide +kernel
theorem dL_law_12 : decode cL_law 12 = .ok (.invokespecial 63, 3) := by decide +kernel
theorem dL_law_15 : decode cL_law 15 = .ok (.astore_n 2, 1) := by decide +kernel
theorem dL_law_16 : decode cL_law 16 = .ok (.iconst 1, 1) := by decide +kernel
theorem dL_law_17 : decode cL_law 17 = .ok (.newarray .long, 2) := by decide +kernel
theorem dL_law_19 : decode cL_law 19 = .ok (.astore_n 3, 1) := by decide +kernel
theorem dL_law_20 : decode cL_law 20 = .ok (.iconst 0, 1) := by decide +kernel
theorem dL_law_21 : decode cL_law 21 = .ok (.istore 4, 2) := by decide +kernel
theorem dL_law_23 : decode cL_law 23 = .ok (.iload 4, 2) := by decide +kernel
theorem dL_law_25 : decode cL_law 25 = .ok (.aload_n 0, 1) := by decide +kernel
theorem dL_law_26 : decode cL_law 26 = .ok (.arraylength, 1) := by decide +kernel
theorem dL_law_27 : decode cL_law 27 = .ok (.bipush 6, 2) := by decide +kernel
theorem dL_law_29 : decode cL_law 29 = .ok (.isub, 1) := by decide +kernel
theorem dL_law_30 : decode cL_law 30 = .ok (.if_icmp .gt 998, 3) := by decide +kernel
theorem dL_law_33 : decode cL_law 33 = .ok (.aload_n 0, 1) := by decide +kernel
theorem dL_law_34 : decode cL_law 34 = .ok (.iload 4, 2) := by decide +kernel
theorem dL_law_36 : decode cL_law 36 = .ok (.iaload, 1) := by decide +kernel
theorem dL_law_37 : decode cL_law 37 = .ok (.bipush 15, 2) := by decide +kernel
theorem dL_law_39 : decode cL_law 39 = .ok (.iand, 1) := by decide +kernel
theorem dL_law_40 : decode cL_law 40 = .ok (.tableswitch 982 0 13 #[72, 140, 188, 267, 334, 390, 469, 537, 604, 672, 740, 883, 958, 971], 72) := by decide +kernel
