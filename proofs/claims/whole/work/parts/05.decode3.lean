theorem dX10_mark_57 : decode cX10_mark 57 = .ok (.ldc2_w 180, 3) := by decide +kernel
theorem dX10_mark_60 : decode cX10_mark 60 = .ok (.goto 6, 3) := by decide +kernel
theorem dX10_mark_63 : decode cX10_mark 63 = .ok (.ldc2_w 182, 3) := by decide +kernel
theorem dX10_mark_66 : decode cX10_mark 66 = .ok (.invokestatic 155, 3) := by decide +kernel
theorem dX10_mark_69 : decode cX10_mark 69 = .ok (.ifCond .ne 6, 3) := by decide +kernel
theorem dX10_mark_72 : decode cX10_mark 72 = .ok (.bipush (-102), 2) := by decide +kernel
theorem dX10_mark_74 : decode cX10_mark 74 = .ok (.ireturn, 1) := by decide +kernel
theorem dX10_mark_75 : decode cX10_mark 75 = .ok (.aload_n 0, 1) := by decide +kernel
theorem dX10_mark_76 : decode cX10_mark 76 = .ok (.invokevirtual 152, 3) := by decide +kernel
theorem dX10_mark_79 : decode cX10_mark 79 = .ok (.iload_n 2, 1) := by decide +kernel
theorem dX10_mark_80 : decode cX10_mark 80 = .ok (.ifCond .ne 20, 3) := by decide +kernel
theorem dX10_mark_83 : decode cX10_mark 83 = .ok (.aload_n 0, 1) := by decide +kernel
theorem dX10_mark_84 : decode cX10_mark 84 = .ok (.getfield 29, 3) := by decide +kernel
theorem dX10_mark_87 : decode cX10_mark 87 = .ok (.iload_n 1, 1) := by decide +kernel
theorem dX10_mark_88 : decode cX10_mark 88 = .ok (.baload, 1) := by decide +kernel
theorem dX10_mark_89 : decode cX10_mark 89 = .ok (.ifCond .eq 7, 3) := by decide +kernel
theorem dX10_mark_92 : decode cX10_mark 92 = .ok (.iconst 1, 1) := by decide +kernel
theorem dX10_mark_93 : decode cX10_mark 93 = .ok (.goto 27, 3) := by decide +kernel
theorem dX10_mark_96 : decode cX10_mark 96 = .ok (.iconst 0, 1) := by decide +kernel
theorem dX10_mark_97 : decode cX10_mark 97 = .ok (.goto 23, 3) := by decide +kernel
theorem dX10_mark_100 : decode cX10_mark 100 = .ok (.iload_n 2, 1) := by decide +kernel
theorem dX10_mark_101 : decode cX10_mark 101 = .ok (.iconst 1, 1) := by decide +kernel
theorem dX10_mark_102 : decode cX10_mark 102 = .ok (.if_icmp .ne 12, 3) := by decide +kernel
theorem dX10_mark_105 : decode cX10_mark 105 = .ok (.aload_n 0, 1) := by decide +kernel
theorem dX10_mark_106 : decode cX10_mark 106 = .ok (.getfield 33, 3) := by decide +kernel
theorem dX10_mark_109 : decode cX10_mark 109 = .ok (.iload_n 1, 1) := by decide +kernel
theorem dX10_mark_110 : decode cX10_mark 110 = .ok (.iaload, 1) := by decide +kernel
theorem dX10_mark_111 : decode cX10_mark 111 = .ok (.goto 9, 3) := by decide +kernel
theorem dX10_mark_114 : decode cX10_mark 114 = .ok (.aload_n 0, 1) := by decide +kernel
theorem dX10_mark_115 : decode cX10_mark 115 = .ok (.getfield 36, 3) := by decide +kernel
theorem dX10_mark_118 : decode cX10_mark 118 = .ok (.iload_n 1, 1) := by decide +kernel
theorem dX10_mark_119 : decode cX10_mark 119 = .ok (.iaload, 1) := by decide +kernel
theorem dX10_mark_120 : decode cX10_mark 120 = .ok (.istore 4, 2) := by decide +kernel
theorem dX10_mark_122 : decode cX10_mark 122 = .ok (.iload_n 2, 1) := by decide +kernel
theorem dX10_mark_123 : decode cX10_mark 123 = .ok (.ifCond .ne 22, 3) := by decide +kernel
theorem dX10_mark_126 : decode cX10_mark 126 = .ok (.aload_n 0, 1) := by decide +kernel
theorem dX10_mark_127 : decode cX10_mark 127 = .ok (.getfield 29, 3) := by decide +kernel
theorem dX10_mark_130 : decode cX10_mark 130 = .ok (.iload_n 1, 1) := by decide +kernel
theorem dX10_mark_131 : decode cX10_mark 131 = .ok (.iload_n 3, 1) := by decide +kernel
theorem dX10_mark_132 : decode cX10_mark 132 = .ok (.iconst 1, 1) := by decide +kernel
theorem dX10_mark_133 : decode cX10_mark 133 = .ok (.if_icmp .ne 7, 3) := by decide +kernel
theorem dX10_mark_136 : decode cX10_mark 136 = .ok (.iconst 1, 1) := by decide +kernel
theorem dX10_mark_137 : decode cX10_mark 137 = .ok (.goto 4, 3) := by decide +kernel
theorem dX10_mark_140 : decode cX10_mark 140 = .ok (.iconst 0, 1) := by decide +kernel
theorem dX10_mark_141 : decode cX10_mark 141 = .ok (.bastore, 1) := by decide +kernel
theorem dX10_mark_142 : decode cX10_mark 142 = .ok (.goto 25, 3) := by decide +kernel
theorem dX10_mark_145 : decode cX10_mark 145 = .ok (.iload_n 2, 1) := by decide +kernel
theorem dX10_mark_146 : decode cX10_mark 146 = .ok (.iconst 1, 1) := by decide +kernel
theorem dX10_mark_147 : decode cX10_mark 147 = .ok (.if_icmp .ne 13, 3) := by decide +kernel
theorem dX10_mark_150 : decode cX10_mark 150 = .ok (.aload_n 0, 1) := by decide +kernel
theorem dX10_mark_151 : decode cX10_mark 151 = .ok (.getfield 33, 3) := by decide +kernel
theorem dX10_mark_154 : decode cX10_mark 154 = .ok (.iload_n 1, 1) := by decide +kernel
theorem dX10_mark_155 : decode cX10_mark 155 = .ok (.iload_n 3, 1) := by decide +kernel
theorem dX10_mark_156 : decode cX10_mark 156 = .ok (.iastore, 1) := by decide +kernel
theorem dX10_mark_157 : decode cX10_mark 157 = .ok (.goto 10, 3) := by decide +kernel
theorem dX10_mark_160 : decode cX10_mark 160 = .ok (.aload_n 0, 1) := by decide +kernel
theorem dX10_mark_161 : decode cX10_mark 161 = .ok (.getfield 36, 3) := by decide +kernel
theorem dX10_mark_164 : decode cX10_mark 164 = .ok (.iload_n 1, 1) := by decide +kernel
theorem dX10_mark_165 : decode cX10_mark 165 = .ok (.iload_n 3, 1) := by decide +kernel
theorem dX10_mark_166 : decode cX10_mark 166 = .ok (.iastore, 1) := by decide +kernel
theorem dX10_mark_167 : decode cX10_mark 167 = .ok (.iload 4, 2) := by decide +kernel
theorem dX10_mark_169 : decode cX10_mark 169 = .ok (.ireturn, 1) := by decide +kernel
theorem dX10_symbol_0 : decode cX10_symbol 0 = .ok (.iload_n 1, 1) := by decide +kernel
theorem dX10_symbol_1 : decode cX10_symbol 1 = .ok (.i2l, 1) := by decide +kernel
theorem dX10_symbol_2 : decode cX10_symbol 2 = .ok (.lconst 0, 1) := by decide +kernel
theorem dX10_symbol_3 : decode cX10_symbol 3 = .ok (.aload_n 0, 1) := by decide +kernel
theorem dX10_symbol_4 : decode cX10_symbol 4 = .ok (.getfield 149, 3) := by decide +kernel
theorem dX10_symbol_7 : decode cX10_symbol 7 = .ok (.iconst 1, 1) := by decide +kernel
theorem dX10_symbol_8 : decode cX10_symbol 8 = .ok (.isub, 1) := by decide +kernel
theorem dX10_symbol_9 : decode cX10_symbol 9 = .ok (.i2l, 1) := by decide +kernel
theorem dX10_symbol_10 : decode cX10_symbol 10 = .ok (.invokestatic 155, 3) := by decide +kernel
theorem dX10_symbol_13 : decode cX10_symbol 13 = .ok (.ifCond .eq 31, 3) := by decide +kernel
theorem dX10_symbol_16 : decode cX10_symbol 16 = .ok (.iload_n 3, 1) := by decide +kernel
theorem dX10_symbol_17 : decode cX10_symbol 17 = .ok (.bipush (-17), 2) := by decide +kernel
theorem dX10_symbol_19 : decode cX10_symbol 19 = .ok (.if_icmp .lt 25, 3) := by decide +kernel
theorem dX10_symbol_22 : decode cX10_symbol 22 = .ok (.iload_n 3, 1) := by decide +kernel
theorem dX10_symbol_23 : decode cX10_symbol 23 = .ok (.aload_n 0, 1) := by decide +kernel
theorem dX10_symbol_24 : decode cX10_symbol 24 = .ok (.getfield 165, 3) := by decide +kernel
theorem dX10_symbol_27 : decode cX10_symbol 27 = .ok (.if_icmp .ge 17, 3) := by decide +kernel
theorem dX10_symbol_30 : decode cX10_symbol 30 = .ok (.iload_n 3, 1) := by decide +kernel
theorem dX10_symbol_31 : decode cX10_symbol 31 = .ok (.ifCond .lt 16, 3) := by decide +kernel
theorem dX10_symbol_34 : decode cX10_symbol 34 = .ok (.aload_n 0, 1) := by decide +kernel
theorem dX10_symbol_35 : decode cX10_symbol 35 = .ok (.getfield 13, 3) := by decide +kernel
theorem dX10_symbol_38 : decode cX10_symbol 38 = .ok (.iload_n 3, 1) := by decide +kernel
theorem dX10_symbol_39 : decode cX10_symbol 39 = .ok (.iaload, 1) := by decide +kernel
theorem dX10_symbol_40 : decode cX10_symbol 40 = .ok (.iload_n 1, 1) := by decide +kernel
theorem dX10_symbol_41 : decode cX10_symbol 41 = .ok (.if_icmp .eq 6, 3) := by decide +kernel
theorem dX10_symbol_44 : decode cX10_symbol 44 = .ok (.bipush (-101), 2) := by decide +kernel
theorem dX10_symbol_46 : decode cX10_symbol 46 = .ok (.ireturn, 1) := by decide +kernel
theorem dX10_symbol_47 : decode cX10_symbol 47 = .ok (.iload_n 3, 1) := by decide +kernel
theorem dX10_symbol_48 : decode cX10_symbol 48 = .ok (.ifCond .lt 7, 3) := by decide +kernel
theorem dX10_symbol_51 : decode cX10_symbol 51 = .ok (.iconst 1, 1) := by decide +kernel
theorem dX10_symbol_52 : decode cX10_symbol 52 = .ok (.goto 4, 3) := by decide +kernel
theorem dX10_symbol_55 : decode cX10_symbol 55 = .ok (.iconst 0, 1) := by decide +kernel
theorem dX10_symbol_56 : decode cX10_symbol 56 = .ok (.istore 6, 2) := by decide +kernel
theorem dX10_symbol_58 : decode cX10_symbol 58 = .ok (.iload 6, 2) := by decide +kernel
theorem dX10_symbol_60 : decode cX10_symbol 60 = .ok (.ifCond .eq 16, 3) := by decide +kernel
theorem dX10_symbol_63 : decode cX10_symbol 63 = .ok (.iload 5, 2) := by decide +kernel
theorem dX10_symbol_65 : decode cX10_symbol 65 = .ok (.i2l, 1) := by decide +kernel
theorem dX10_symbol_66 : decode cX10_symbol 66 = .ok (.lconst 0, 1) := by decide +kernel
theorem dX10_symbol_67 : decode cX10_symbol 67 = .ok (.ldc2_w 178, 3) := by decide +kernel
theorem dX10_symbol_70 : decode cX10_symbol 70 = .ok (.invokestatic 155, 3) := by decide +kernel
theorem dX10_symbol_73 : decode cX10_symbol 73 = .ok (.goto 31, 3) := by decide +kernel
theorem dX10_symbol_76 : decode cX10_symbol 76 = .ok (.iload_n 3, 1) := by decide +kernel
theorem dX10_symbol_77 : decode cX10_symbol 77 = .ok (.iconst (-1), 1) := by decide +kernel
theorem dX10_symbol_78 : decode cX10_symbol 78 = .ok (.if_icmp .ne 16, 3) := by decide +kernel
theorem dX10_symbol_81 : decode cX10_symbol 81 = .ok (.iload 5, 2) := by decide +kernel
theorem dX10_symbol_83 : decode cX10_symbol 83 = .ok (.i2l, 1) := by decide +kernel
theorem dX10_symbol_84 : decode cX10_symbol 84 = .ok (.lconst 1, 1) := by decide +kernel
theorem dX10_symbol_85 : decode cX10_symbol 85 = .ok (.ldc2_w 178, 3) := by decide +kernel
theorem dX10_symbol_88 : decode cX10_symbol 88 = .ok (.invokestatic 155, 3) := by decide +kernel
theorem dX10_symbol_91 : decode cX10_symbol 91 = .ok (.goto 13, 3) := by decide +kernel
theorem dX10_symbol_94 : decode cX10_symbol 94 = .ok (.iload 5, 2) := by decide +kernel
theorem dX10_symbol_96 : decode cX10_symbol 96 = .ok (.ifCond .ne 7, 3) := by decide +kernel
theorem dX10_symbol_99 : decode cX10_symbol 99 = .ok (.iconst 1, 1) := by decide +kernel
theorem dX10_symbol_100 : decode cX10_symbol 100 = .ok (.goto 4, 3) := by decide +kernel
theorem dX10_symbol_103 : decode cX10_symbol 103 = .ok (.iconst 0, 1) := by decide +kernel
theorem dX10_symbol_104 : decode cX10_symbol 104 = .ok (.istore 7, 2) := by decide +kernel
theorem dX10_symbol_106 : decode cX10_symbol 106 = .ok (.iload_n 2, 1) := by decide +kernel
theorem dX10_symbol_107 : decode cX10_symbol 107 = .ok (.i2l, 1) := by decide +kernel
theorem dX10_symbol_108 : decode cX10_symbol 108 = .ok (.lconst 0, 1) := by decide +kernel
theorem dX10_symbol_109 : decode cX10_symbol 109 = .ok (.ldc2_w 184, 3) := by decide +kernel
theorem dX10_symbol_112 : decode cX10_symbol 112 = .ok (.invokestatic 155, 3) := by decide +kernel
theorem dX10_symbol_115 : decode cX10_symbol 115 = .ok (.ifCond .eq 34, 3) := by decide +kernel
theorem dX10_symbol_118 : decode cX10_symbol 118 = .ok (.iload 4, 2) := by decide +kernel
theorem dX10_symbol_120 : decode cX10_symbol 120 = .ok (.i2l, 1) := by decide +kernel
theorem dX10_symbol_121 : decode cX10_symbol 121 = .ok (.lconst 0, 1) := by decide +kernel
theorem dX10_symbol_122 : decode cX10_symbol 122 = .ok (.iload 6, 2) := by decide +kernel
theorem dX10_symbol_124 : decode cX10_symbol 124 = .ok (.ifCond .eq 13, 3) := by decide +kernel
theorem dX10_symbol_127 : decode cX10_symbol 127 = .ok (.aload_n 0, 1) := by decide +kernel
theorem dX10_symbol_128 : decode cX10_symbol 128 = .ok (.getfield 20, 3) := by decide +kernel
theorem dX10_symbol_131 : decode cX10_symbol 131 = .ok (.iload_n 3, 1) := by decide +kernel
theorem dX10_symbol_132 : decode cX10_symbol 132 = .ok (.iaload, 1) := by decide +kernel
theorem dX10_symbol_133 : decode cX10_symbol 133 = .ok (.i2l, 1) := by decide +kernel
theorem dX10_symbol_134 : decode cX10_symbol 134 = .ok (.goto 4, 3) := by decide +kernel
theorem dX10_symbol_137 : decode cX10_symbol 137 = .ok (.lconst 0, 1) := by decide +kernel
theorem dX10_symbol_138 : decode cX10_symbol 138 = .ok (.invokestatic 155, 3) := by decide +kernel
theorem dX10_symbol_141 : decode cX10_symbol 141 = .ok (.ifCond .eq 8, 3) := by decide +kernel
theorem dX10_symbol_144 : decode cX10_symbol 144 = .ok (.iload 7, 2) := by decide +kernel
theorem dX10_symbol_146 : decode cX10_symbol 146 = .ok (.ifCond .ne 6, 3) := by decide +kernel
theorem dX10_symbol_149 : decode cX10_symbol 149 = .ok (.bipush (-102), 2) := by decide +kernel
theorem dX10_symbol_151 : decode cX10_symbol 151 = .ok (.ireturn, 1) := by decide +kernel
theorem dX10_symbol_152 : decode cX10_symbol 152 = .ok (.aload_n 0, 1) := by decide +kernel
theorem dX10_symbol_153 : decode cX10_symbol 153 = .ok (.getfield 186, 3) := by decide +kernel
theorem dX10_symbol_156 : decode cX10_symbol 156 = .ok (.bipush 120, 2) := by decide +kernel
theorem dX10_symbol_158 : decode cX10_symbol 158 = .ok (.if_icmp .ne 6, 3) := by decide +kernel
theorem dX10_symbol_161 : decode cX10_symbol 161 = .ok (.bipush (-104), 2) := by decide +kernel
theorem dX10_symbol_163 : decode cX10_symbol 163 = .ok (.ireturn, 1) := by decide +kernel
theorem dX10_symbol_164 : decode cX10_symbol 164 = .ok (.aload_n 0, 1) := by decide +kernel
theorem dX10_symbol_165 : decode cX10_symbol 165 = .ok (.invokevirtual 152, 3) := by decide +kernel
theorem dX10_symbol_168 : decode cX10_symbol 168 = .ok (.aload_n 0, 1) := by decide +kernel
theorem dX10_symbol_169 : decode cX10_symbol 169 = .ok (.getfield 186, 3) := by decide +kernel
theorem dX10_symbol_172 : decode cX10_symbol 172 = .ok (.istore 8, 2) := by decide +kernel
theorem dX10_symbol_174 : decode cX10_symbol 174 = .ok (.aload_n 0, 1) := by decide +kernel
theorem dX10_symbol_175 : decode cX10_symbol 175 = .ok (.getfield 43, 3) := by decide +kernel
theorem dX10_symbol_178 : decode cX10_symbol 178 = .ok (.iload 8, 2) := by decide +kernel
theorem dX10_symbol_180 : decode cX10_symbol 180 = .ok (.iload_n 1, 1) := by decide +kernel
theorem dX10_symbol_181 : decode cX10_symbol 181 = .ok (.iastore, 1) := by decide +kernel
theorem dX10_symbol_182 : decode cX10_symbol 182 = .ok (.aload_n 0, 1) := by decide +kernel
theorem dX10_symbol_183 : decode cX10_symbol 183 = .ok (.getfield 46, 3) := by decide +kernel
theorem dX10_symbol_186 : decode cX10_symbol 186 = .ok (.iload 8, 2) := by decide +kernel
theorem dX10_symbol_188 : decode cX10_symbol 188 = .ok (.iload_n 2, 1) := by decide +kernel
theorem dX10_symbol_189 : decode cX10_symbol 189 = .ok (.iastore, 1) := by decide +kernel
theorem dX10_symbol_190 : decode cX10_symbol 190 = .ok (.aload_n 0, 1) := by decide +kernel
theorem dX10_symbol_191 : decode cX10_symbol 191 = .ok (.getfield 49, 3) := by decide +kernel
theorem dX10_symbol_194 : decode cX10_symbol 194 = .ok (.iload 8, 2) := by decide +kernel
theorem dX10_symbol_196 : decode cX10_symbol 196 = .ok (.iload_n 3, 1) := by decide +kernel
theorem dX10_symbol_197 : decode cX10_symbol 197 = .ok (.iastore, 1) := by decide +kernel
theorem dX10_symbol_198 : decode cX10_symbol 198 = .ok (.aload_n 0, 1) := by decide +kernel
theorem dX10_symbol_199 : decode cX10_symbol 199 = .ok (.getfield 52, 3) := by decide +kernel
theorem dX10_symbol_202 : decode cX10_symbol 202 = .ok (.iload 8, 2) := by decide +kernel
theorem dX10_symbol_204 : decode cX10_symbol 204 = .ok (.iload 4, 2) := by decide +kernel
theorem dX10_symbol_206 : decode cX10_symbol 206 = .ok (.iastore, 1) := by decide +kernel
theorem dX10_symbol_207 : decode cX10_symbol 207 = .ok (.aload_n 0, 1) := by decide +kernel
theorem dX10_symbol_208 : decode cX10_symbol 208 = .ok (.getfield 55, 3) := by decide +kernel
theorem dX10_symbol_211 : decode cX10_symbol 211 = .ok (.iload 8, 2) := by decide +kernel
theorem dX10_symbol_213 : decode cX10_symbol 213 = .ok (.iload 5, 2) := by decide +kernel
theorem dX10_symbol_215 : decode cX10_symbol 215 = .ok (.iastore, 1) := by decide +kernel
theorem dX10_symbol_216 : decode cX10_symbol 216 = .ok (.aload_n 0, 1) := by decide +kernel
theorem dX10_symbol_217 : decode cX10_symbol 217 = .ok (.dup, 1) := by decide +kernel
theorem dX10_symbol_218 : decode cX10_symbol 218 = .ok (.getfield 186, 3) := by decide +kernel
theorem dX10_symbol_221 : decode cX10_symbol 221 = .ok (.iconst 1, 1) := by decide +kernel
theorem dX10_symbol_222 : decode cX10_symbol 222 = .ok (.iadd, 1) := by decide +kernel
theorem dX10_symbol_223 : decode cX10_symbol 223 = .ok (.putfield 186, 3) := by decide +kernel
theorem dX10_symbol_226 : decode cX10_symbol 226 = .ok (.iload 8, 2) := by decide +kernel
theorem dX10_symbol_228 : decode cX10_symbol 228 = .ok (.ireturn, 1) := by decide +kernel
theorem dX10_wide_0 : decode cX10_wide 0 = .ok (.iload_n 0, 1) := by decide +kernel
theorem dX10_wide_1 : decode cX10_wide 1 = .ok (.ifCond .eq 8, 3) := by decide +kernel
theorem dX10_wide_4 : decode cX10_wide 4 = .ok (.iload_n 0, 1) := by decide +kernel
theorem dX10_wide_5 : decode cX10_wide 5 = .ok (.iconst 2, 1) := by decide +kernel
theorem dX10_wide_6 : decode cX10_wide 6 = .ok (.if_icmp .ne 7, 3) := by decide +kernel
theorem dX10_wide_9 : decode cX10_wide 9 = .ok (.iconst 4, 1) := by decide +kernel
theorem dX10_wide_10 : decode cX10_wide 10 = .ok (.goto 13, 3) := by decide +kernel
theorem dX10_wide_13 : decode cX10_wide 13 = .ok (.iload_n 0, 1) := by decide +kernel
theorem dX10_wide_14 : decode cX10_wide 14 = .ok (.iconst 4, 1) := by decide +kernel
theorem dX10_wide_15 : decode cX10_wide 15 = .ok (.if_icmp .ne 7, 3) := by decide +kernel
theorem dX10_wide_18 : decode cX10_wide 18 = .ok (.iconst 1, 1) := by decide +kernel
theorem dX10_wide_19 : decode cX10_wide 19 = .ok (.goto 4, 3) := by decide +kernel
theorem dX10_wide_22 : decode cX10_wide 22 = .ok (.iconst 2, 1) := by decide +kernel
theorem dX10_wide_23 : decode cX10_wide 23 = .ok (.ireturn, 1) := by decide +kernel
theorem dX10_relocation_0 : decode cX10_relocation 0 = .ok (.aload_n 0, 1) := by decide +kernel
theorem dX10_relocation_1 : decode cX10_relocation 1 = .ok (.iload_n 1, 1) := by decide +kernel
theorem dX10_relocation_2 : decode cX10_relocation 2 = .ok (.invokevirtual 174, 3) := by decide +kernel
theorem dX10_relocation_5 : decode cX10_relocation 5 = .ok (.ifCond .eq 36, 3) := by decide +kernel
theorem dX10_relocation_8 : decode cX10_relocation 8 = .ok (.iload 4, 2) := by decide +kernel
theorem dX10_relocation_10 : decode cX10_relocation 10 = .ok (.i2l, 1) := by decide +kernel
theorem dX10_relocation_11 : decode cX10_relocation 11 = .ok (.lconst 0, 1) := by decide +kernel
theorem dX10_relocation_12 : decode cX10_relocation 12 = .ok (.aload_n 0, 1) := by decide +kernel
theorem dX10_relocation_13 : decode cX10_relocation 13 = .ok (.getfield 186, 3) := by decide +kernel
theorem dX10_relocation_16 : decode cX10_relocation 16 = .ok (.iconst 1, 1) := by decide +kernel
theorem dX10_relocation_17 : decode cX10_relocation 17 = .ok (.isub, 1) := by decide +kernel
theorem dX10_relocation_18 : decode cX10_relocation 18 = .ok (.i2l, 1) := by decide +kernel
theorem dX10_relocation_19 : decode cX10_relocation 19 = .ok (.invokestatic 155, 3) := by decide +kernel
theorem dX10_relocation_22 : decode cX10_relocation 22 = .ok (.ifCond .eq 19, 3) := by decide +kernel
theorem dX10_relocation_25 : decode cX10_relocation 25 = .ok (.aload_n 0, 1) := by decide +kernel
theorem dX10_relocation_26 : decode cX10_relocation 26 = .ok (.getfield 43, 3) := by decide +kernel
theorem dX10_relocation_29 : decode cX10_relocation 29 = .ok (.iload 4, 2) := by decide +kernel
theorem dX10_relocation_31 : decode cX10_relocation 31 = .ok (.iaload, 1) := by decide +kernel
theorem dX10_relocation_32 : decode cX10_relocation 32 = .ok (.aload_n 0, 1) := by decide +kernel
theorem dX10_relocation_33 : decode cX10_relocation 33 = .ok (.getfield 13, 3) := by decide +kernel
theorem dX10_relocation_36 : decode cX10_relocation 36 = .ok (.iload_n 1, 1) := by decide +kernel
theorem dX10_relocation_37 : decode cX10_relocation 37 = .ok (.iaload, 1) := by decide +kernel
theorem dX10_relocation_38 : decode cX10_relocation 38 = .ok (.if_icmp .eq 6, 3) := by decide +kernel
theorem dX10_relocation_41 : decode cX10_relocation 41 = .ok (.bipush (-101), 2) := by decide +kernel
theorem dX10_relocation_43 : decode cX10_relocation 43 = .ok (.ireturn, 1) := by decide +kernel
theorem dX10_relocation_44 : decode cX10_relocation 44 = .ok (.iload_n 3, 1) := by decide +kernel
theorem dX10_relocation_45 : decode cX10_relocation 45 = .ok (.i2l, 1) := by decide +kernel
theorem dX10_relocation_46 : decode cX10_relocation 46 = .ok (.lconst 0, 1) := by decide +kernel
theorem dX10_relocation_47 : decode cX10_relocation 47 = .ok (.ldc2_w 189, 3) := by decide +kernel
theorem dX10_relocation_50 : decode cX10_relocation 50 = .ok (.invokestatic 155, 3) := by decide +kernel
theorem dX10_relocation_53 : decode cX10_relocation 53 = .ok (.ifCond .eq 38, 3) := by decide +kernel
theorem dX10_relocation_56 : decode cX10_relocation 56 = .ok (.iload_n 2, 1) := by decide +kernel
theorem dX10_relocation_57 : decode cX10_relocation 57 = .ok (.i2l, 1) := by decide +kernel
theorem dX10_relocation_58 : decode cX10_relocation 58 = .ok (.lconst 0, 1) := by decide +kernel
theorem dX10_relocation_59 : decode cX10_relocation 59 = .ok (.aload_n 0, 1) := by decide +kernel
theorem dX10_relocation_60 : decode cX10_relocation 60 = .ok (.getfield 20, 3) := by decide +kernel
theorem dX10_relocation_63 : decode cX10_relocation 63 = .ok (.iload_n 1, 1) := by decide +kernel
theorem dX10_relocation_64 : decode cX10_relocation 64 = .ok (.iaload, 1) := by decide +kernel
theorem dX10_relocation_65 : decode cX10_relocation 65 = .ok (.iload_n 3, 1) := by decide +kernel
theorem dX10_relocation_66 : decode cX10_relocation 66 = .ok (.invokestatic 191, 3) := by decide +kernel
theorem dX10_relocation_69 : decode cX10_relocation 69 = .ok (.isub, 1) := by decide +kernel
theorem dX10_relocation_70 : decode cX10_relocation 70 = .ok (.i2l, 1) := by decide +kernel
theorem dX10_relocation_71 : decode cX10_relocation 71 = .ok (.invokestatic 155, 3) := by decide +kernel
theorem dX10_relocation_74 : decode cX10_relocation 74 = .ok (.ifCond .eq 17, 3) := by decide +kernel
theorem dX10_relocation_77 : decode cX10_relocation 77 = .ok (.iload_n 3, 1) := by decide +kernel
theorem dX10_relocation_78 : decode cX10_relocation 78 = .ok (.iconst 3, 1) := by decide +kernel
theorem dX10_relocation_79 : decode cX10_relocation 79 = .ok (.if_icmp .ne 15, 3) := by decide +kernel
theorem dX10_relocation_82 : decode cX10_relocation 82 = .ok (.aload_n 0, 1) := by decide +kernel
theorem dX10_relocation_83 : decode cX10_relocation 83 = .ok (.getfield 17, 3) := by decide +kernel
theorem dX10_relocation_86 : decode cX10_relocation 86 = .ok (.iload_n 1, 1) := by decide +kernel
theorem dX10_relocation_87 : decode cX10_relocation 87 = .ok (.iaload, 1) := by decide +kernel
theorem dX10_relocation_88 : decode cX10_relocation 88 = .ok (.ifCond .eq 6, 3) := by decide +kernel
theorem dX10_relocation_91 : decode cX10_relocation 91 = .ok (.bipush (-102), 2) := by decide +kernel
theorem dX10_relocation_93 : decode cX10_relocation 93 = .ok (.ireturn, 1) := by decide +kernel
theorem dX10_relocation_94 : decode cX10_relocation 94 = .ok (.aload_n 0, 1) := by decide +kernel
theorem dX10_relocation_95 : decode cX10_relocation 95 = .ok (.getfield 195, 3) := by decide +kernel
theorem dX10_relocation_98 : decode cX10_relocation 98 = .ok (.sipush 200, 3) := by decide +kernel
theorem dX10_relocation_101 : decode cX10_relocation 101 = .ok (.if_icmp .ne 6, 3) := by decide +kernel
theorem dX10_relocation_104 : decode cX10_relocation 104 = .ok (.bipush (-104), 2) := by decide +kernel
theorem dX10_relocation_106 : decode cX10_relocation 106 = .ok (.ireturn, 1) := by decide +kernel
theorem dX10_relocation_107 : decode cX10_relocation 107 = .ok (.aload_n 0, 1) := by decide +kernel
theorem dX10_relocation_108 : decode cX10_relocation 108 = .ok (.invokevirtual 152, 3) := by decide +kernel
theorem dX10_relocation_111 : decode cX10_relocation 111 = .ok (.aload_n 0, 1) := by decide +kernel
theorem dX10_relocation_112 : decode cX10_relocation 112 = .ok (.getfield 195, 3) := by decide +kernel
theorem dX10_relocation_115 : decode cX10_relocation 115 = .ok (.istore 6, 2) := by decide +kernel
theorem dX10_relocation_117 : decode cX10_relocation 117 = .ok (.aload_n 0, 1) := by decide +kernel
theorem dX10_relocation_118 : decode cX10_relocation 118 = .ok (.getfield 58, 3) := by decide +kernel
theorem dX10_relocation_121 : decode cX10_relocation 121 = .ok (.iload 6, 2) := by decide +kernel
theorem dX10_relocation_123 : decode cX10_relocation 123 = .ok (.iload_n 1, 1) := by decide +kernel
theorem dX10_relocation_124 : decode cX10_relocation 124 = .ok (.iastore, 1) := by decide +kernel
theorem dX10_relocation_125 : decode cX10_relocation 125 = .ok (.aload_n 0, 1) := by decide +kernel
theorem dX10_relocation_126 : decode cX10_relocation 126 = .ok (.getfield 61, 3) := by decide +kernel
theorem dX10_relocation_129 : decode cX10_relocation 129 = .ok (.iload 6, 2) := by decide +kernel
theorem dX10_relocation_131 : decode cX10_relocation 131 = .ok (.iload_n 2, 1) := by decide +kernel
theorem dX10_relocation_132 : decode cX10_relocation 132 = .ok (.iastore, 1) := by decide +kernel
theorem dX10_relocation_133 : decode cX10_relocation 133 = .ok (.aload_n 0, 1) := by decide +kernel
theorem dX10_relocation_134 : decode cX10_relocation 134 = .ok (.getfield 64, 3) := by decide +kernel
theorem dX10_relocation_137 : decode cX10_relocation 137 = .ok (.iload 6, 2) := by decide +kernel
theorem dX10_relocation_139 : decode cX10_relocation 139 = .ok (.iload_n 3, 1) := by decide +kernel
theorem dX10_relocation_140 : decode cX10_relocation 140 = .ok (.iastore, 1) := by decide +kernel
theorem dX10_relocation_141 : decode cX10_relocation 141 = .ok (.aload_n 0, 1) := by decide +kernel
theorem dX10_relocation_142 : decode cX10_relocation 142 = .ok (.getfield 67, 3) := by decide +kernel
theorem dX10_relocation_145 : decode cX10_relocation 145 = .ok (.iload 6, 2) := by decide +kernel
theorem dX10_relocation_147 : decode cX10_relocation 147 = .ok (.iload 4, 2) := by decide +kernel
theorem dX10_relocation_149 : decode cX10_relocation 149 = .ok (.iastore, 1) := by decide +kernel
theorem dX10_relocation_150 : decode cX10_relocation 150 = .ok (.aload_n 0, 1) := by decide +kernel
theorem dX10_relocation_151 : decode cX10_relocation 151 = .ok (.getfield 70, 3) := by decide +kernel
theorem dX10_relocation_154 : decode cX10_relocation 154 = .ok (.iload 6, 2) := by decide +kernel
theorem dX10_relocation_156 : decode cX10_relocation 156 = .ok (.iload 5, 2) := by decide +kernel
theorem dX10_relocation_158 : decode cX10_relocation 158 = .ok (.iastore, 1) := by decide +kernel
theorem dX10_relocation_159 : decode cX10_relocation 159 = .ok (.aload_n 0, 1) := by decide +kernel
theorem dX10_relocation_160 : decode cX10_relocation 160 = .ok (.dup, 1) := by decide +kernel
theorem dX10_relocation_161 : decode cX10_relocation 161 = .ok (.getfield 195, 3) := by decide +kernel
theorem dX10_relocation_164 : decode cX10_relocation 164 = .ok (.iconst 1, 1) := by decide +kernel
theorem dX10_relocation_165 : decode cX10_relocation 165 = .ok (.iadd, 1) := by decide +kernel
theorem dX10_relocation_166 : decode cX10_relocation 166 = .ok (.putfield 195, 3) := by decide +kernel
theorem dX10_relocation_169 : decode cX10_relocation 169 = .ok (.iload 6, 2) := by decide +kernel
theorem dX10_relocation_171 : decode cX10_relocation 171 = .ok (.ireturn, 1) := by decide +kernel
theorem dX10_root_0 : decode cX10_root 0 = .ok (.iload_n 1, 1) := by decide +kernel
theorem dX10_root_1 : decode cX10_root 1 = .ok (.i2l, 1) := by decide +kernel
theorem dX10_root_2 : decode cX10_root 2 = .ok (.lconst 0, 1) := by decide +kernel
theorem dX10_root_3 : decode cX10_root 3 = .ok (.ldc2_w 184, 3) := by decide +kernel
theorem dX10_root_6 : decode cX10_root 6 = .ok (.invokestatic 155, 3) := by decide +kernel
theorem dX10_root_9 : decode cX10_root 9 = .ok (.ifCond .ne 6, 3) := by decide +kernel
theorem dX10_root_12 : decode cX10_root 12 = .ok (.bipush (-102), 2) := by decide +kernel
theorem dX10_root_14 : decode cX10_root 14 = .ok (.ireturn, 1) := by decide +kernel
theorem dX10_root_15 : decode cX10_root 15 = .ok (.aload_n 0, 1) := by decide +kernel
theorem dX10_root_16 : decode cX10_root 16 = .ok (.getfield 198, 3) := by decide +kernel
theorem dX10_root_19 : decode cX10_root 19 = .ok (.bipush 8, 2) := by decide +kernel
theorem dX10_root_21 : decode cX10_root 21 = .ok (.if_icmp .ne 6, 3) := by decide +kernel
theorem dX10_root_24 : decode cX10_root 24 = .ok (.bipush (-104), 2) := by decide +kernel
theorem dX10_root_26 : decode cX10_root 26 = .ok (.ireturn, 1) := by decide +kernel
theorem dX10_root_27 : decode cX10_root 27 = .ok (.aload_n 0, 1) := by decide +kernel
theorem dX10_root_28 : decode cX10_root 28 = .ok (.invokevirtual 152, 3) := by decide +kernel
theorem dX10_root_31 : decode cX10_root 31 = .ok (.aload_n 0, 1) := by decide +kernel
theorem dX10_root_32 : decode cX10_root 32 = .ok (.getfield 73, 3) := by decide +kernel
theorem dX10_root_35 : decode cX10_root 35 = .ok (.aload_n 0, 1) := by decide +kernel
theorem dX10_root_36 : decode cX10_root 36 = .ok (.getfield 198, 3) := by decide +kernel
theorem dX10_root_39 : decode cX10_root 39 = .ok (.iload_n 1, 1) := by decide +kernel
theorem dX10_root_40 : decode cX10_root 40 = .ok (.iastore, 1) := by decide +kernel
theorem dX10_root_41 : decode cX10_root 41 = .ok (.aload_n 0, 1) := by decide +kernel
theorem dX10_root_42 : decode cX10_root 42 = .ok (.dup, 1) := by decide +kernel
theorem dX10_root_43 : decode cX10_root 43 = .ok (.getfield 198, 3) := by decide +kernel
theorem dX10_root_46 : decode cX10_root 46 = .ok (.iconst 1, 1) := by decide +kernel
theorem dX10_root_47 : decode cX10_root 47 = .ok (.iadd, 1) := by decide +kernel
theorem dX10_root_48 : decode cX10_root 48 = .ok (.putfield 198, 3) := by decide +kernel
theorem dX10_root_51 : decode cX10_root 51 = .ok (.aload_n 0, 1) := by decide +kernel
theorem dX10_root_52 : decode cX10_root 52 = .ok (.getfield 198, 3) := by decide +kernel
theorem dX10_root_55 : decode cX10_root 55 = .ok (.ireturn, 1) := by decide +kernel
theorem dX10_base_0 : decode cX10_base 0 = .ok (.iload_n 1, 1) := by decide +kernel
theorem dX10_base_1 : decode cX10_base 1 = .ok (.i2l, 1) := by decide +kernel
theorem dX10_base_2 : decode cX10_base 2 = .ok (.lconst 0, 1) := by decide +kernel
theorem dX10_base_3 : decode cX10_base 3 = .ok (.ldc2_w 159, 3) := by decide +kernel
theorem dX10_base_6 : decode cX10_base 6 = .ok (.invokestatic 155, 3) := by decide +kernel
theorem dX10_base_9 : decode cX10_base 9 = .ok (.ifCond .eq 17, 3) := by decide +kernel
theorem dX10_base_12 : decode cX10_base 12 = .ok (.iload_n 2, 1) := by decide +kernel
theorem dX10_base_13 : decode cX10_base 13 = .ok (.i2l, 1) := by decide +kernel
theorem dX10_base_14 : decode cX10_base 14 = .ok (.ldc2_w 76, 3) := by decide +kernel
theorem dX10_base_17 : decode cX10_base 17 = .ok (.ldc2_w 201, 3) := by decide +kernel
theorem dX10_base_20 : decode cX10_base 20 = .ok (.invokestatic 155, 3) := by decide +kernel
theorem dX10_base_23 : decode cX10_base 23 = .ok (.ifCond .ne 6, 3) := by decide +kernel
theorem dX10_base_26 : decode cX10_base 26 = .ok (.bipush (-102), 2) := by decide +kernel
theorem dX10_base_28 : decode cX10_base 28 = .ok (.ireturn, 1) := by decide +kernel
theorem dX10_base_29 : decode cX10_base 29 = .ok (.aload_n 0, 1) := by decide +kernel
theorem dX10_base_30 : decode cX10_base 30 = .ok (.invokevirtual 152, 3) := by decide +kernel
theorem dX10_base_33 : decode cX10_base 33 = .ok (.aload_n 0, 1) := by decide +kernel
theorem dX10_base_34 : decode cX10_base 34 = .ok (.getfield 78, 3) := by decide +kernel
theorem dX10_base_37 : decode cX10_base 37 = .ok (.iload_n 1, 1) := by decide +kernel
theorem dX10_base_38 : decode cX10_base 38 = .ok (.laload, 1) := by decide +kernel
theorem dX10_base_39 : decode cX10_base 39 = .ok (.l2i, 1) := by decide +kernel
theorem dX10_base_40 : decode cX10_base 40 = .ok (.istore_n 3, 1) := by decide +kernel
theorem dX10_base_41 : decode cX10_base 41 = .ok (.aload_n 0, 1) := by decide +kernel
theorem dX10_base_42 : decode cX10_base 42 = .ok (.getfield 78, 3) := by decide +kernel
theorem dX10_base_45 : decode cX10_base 45 = .ok (.iload_n 1, 1) := by decide +kernel
theorem dX10_base_46 : decode cX10_base 46 = .ok (.iload_n 2, 1) := by decide +kernel
theorem dX10_base_47 : decode cX10_base 47 = .ok (.i2l, 1) := by decide +kernel
theorem dX10_base_48 : decode cX10_base 48 = .ok (.lastore, 1) := by decide +kernel
theorem dX10_base_49 : decode cX10_base 49 = .ok (.iload_n 3, 1) := by decide +kernel
theorem dX10_base_50 : decode cX10_base 50 = .ok (.ireturn, 1) := by decide +kernel
theorem dX10_names_0 : decode cX10_names 0 = .ok (.iconst 0, 1) := by decide +kernel
theorem dX10_names_1 : decode cX10_names 1 = .ok (.istore_n 1, 1) := by decide +kernel
theorem dX10_names_2 : decode cX10_names 2 = .ok (.iload_n 1, 1) := by decide +kernel
theorem dX10_names_3 : decode cX10_names 3 = .ok (.aload_n 0, 1) := by decide +kernel
theorem dX10_names_4 : decode cX10_names 4 = .ok (.getfield 165, 3) := by decide +kernel
theorem dX10_names_7 : decode cX10_names 7 = .ok (.if_icmp .ge 92, 3) := by decide +kernel
theorem dX10_names_10 : decode cX10_names 10 = .ok (.aload_n 0, 1) := by decide +kernel
theorem dX10_names_11 : decode cX10_names 11 = .ok (.getfield 85, 3) := by decide +kernel
theorem dX10_names_14 : decode cX10_names 14 = .ok (.iload_n 1, 1) := by decide +kernel
theorem dX10_names_15 : decode cX10_names 15 = .ok (.iconst 0, 1) := by decide +kernel
theorem dX10_names_16 : decode cX10_names 16 = .ok (.bastore, 1) := by decide +kernel
theorem dX10_names_17 : decode cX10_names 17 = .ok (.iconst 0, 1) := by decide +kernel
theorem dX10_names_18 : decode cX10_names 18 = .ok (.istore_n 2, 1) := by decide +kernel
theorem dX10_names_19 : decode cX10_names 19 = .ok (.iload_n 2, 1) := by decide +kernel
theorem dX10_names_20 : decode cX10_names 20 = .ok (.aload_n 0, 1) := by decide +kernel
theorem dX10_names_21 : decode cX10_names 21 = .ok (.getfield 165, 3) := by decide +kernel
theorem dX10_names_24 : decode cX10_names 24 = .ok (.if_icmp .ge 69, 3) := by decide +kernel
theorem dX10_names_27 : decode cX10_names 27 = .ok (.aload_n 0, 1) := by decide +kernel
theorem dX10_names_28 : decode cX10_names 28 = .ok (.getfield 85, 3) := by decide +kernel
theorem dX10_names_31 : decode cX10_names 31 = .ok (.iload_n 1, 1) := by decide +kernel
theorem dX10_names_32 : decode cX10_names 32 = .ok (.aload_n 0, 1) := by decide +kernel
theorem dX10_names_33 : decode cX10_names 33 = .ok (.getfield 85, 3) := by decide +kernel
theorem dX10_names_36 : decode cX10_names 36 = .ok (.iload_n 1, 1) := by decide +kernel
theorem dX10_names_37 : decode cX10_names 37 = .ok (.baload, 1) := by decide +kernel
theorem dX10_names_38 : decode cX10_names 38 = .ok (.ifCond .ne 43, 3) := by decide +kernel
theorem dX10_names_41 : decode cX10_names 41 = .ok (.aload_n 0, 1) := by decide +kernel
theorem dX10_names_42 : decode cX10_names 42 = .ok (.getfield 36, 3) := by decide +kernel
theorem dX10_names_45 : decode cX10_names 45 = .ok (.iload_n 1, 1) := by decide +kernel
theorem dX10_names_46 : decode cX10_names 46 = .ok (.iaload, 1) := by decide +kernel
theorem dX10_names_47 : decode cX10_names 47 = .ok (.iconst (-1), 1) := by decide +kernel
theorem dX10_names_48 : decode cX10_names 48 = .ok (.if_icmp .eq 37, 3) := by decide +kernel
theorem dX10_names_51 : decode cX10_names 51 = .ok (.aload_n 0, 1) := by decide +kernel
theorem dX10_names_52 : decode cX10_names 52 = .ok (.getfield 36, 3) := by decide +kernel
theorem dX10_names_55 : decode cX10_names 55 = .ok (.iload_n 2, 1) := by decide +kernel
theorem dX10_names_56 : decode cX10_names 56 = .ok (.iaload, 1) := by decide +kernel
theorem dX10_names_57 : decode cX10_names 57 = .ok (.aload_n 0, 1) := by decide +kernel
theorem dX10_names_58 : decode cX10_names 58 = .ok (.getfield 36, 3) := by decide +kernel
theorem dX10_names_61 : decode cX10_names 61 = .ok (.iload_n 1, 1) := by decide +kernel
theorem dX10_names_62 : decode cX10_names 62 = .ok (.iaload, 1) := by decide +kernel
theorem dX10_names_63 : decode cX10_names 63 = .ok (.if_icmp .ne 22, 3) := by decide +kernel
theorem dX10_names_66 : decode cX10_names 66 = .ok (.aload_n 0, 1) := by decide +kernel
theorem dX10_names_67 : decode cX10_names 67 = .ok (.getfield 13, 3) := by decide +kernel
theorem dX10_names_70 : decode cX10_names 70 = .ok (.iload_n 2, 1) := by decide +kernel
theorem dX10_names_71 : decode cX10_names 71 = .ok (.iaload, 1) := by decide +kernel
theorem dX10_names_72 : decode cX10_names 72 = .ok (.aload_n 0, 1) := by decide +kernel
theorem dX10_names_73 : decode cX10_names 73 = .ok (.getfield 13, 3) := by decide +kernel
theorem dX10_names_76 : decode cX10_names 76 = .ok (.iload_n 1, 1) := by decide +kernel
theorem dX10_names_77 : decode cX10_names 77 = .ok (.iaload, 1) := by decide +kernel
theorem dX10_names_78 : decode cX10_names 78 = .ok (.if_icmp .ge 7, 3) := by decide +kernel
theorem dX10_names_81 : decode cX10_names 81 = .ok (.iconst 1, 1) := by decide +kernel
theorem dX10_names_82 : decode cX10_names 82 = .ok (.goto 4, 3) := by decide +kernel
theorem dX10_names_85 : decode cX10_names 85 = .ok (.iconst 0, 1) := by decide +kernel
theorem dX10_names_86 : decode cX10_names 86 = .ok (.bastore, 1) := by decide +kernel
theorem dX10_names_87 : decode cX10_names 87 = .ok (.iinc 2 1, 3) := by decide +kernel
theorem dX10_names_90 : decode cX10_names 90 = .ok (.goto (-71), 3) := by decide +kernel
theorem dX10_names_93 : decode cX10_names 93 = .ok (.iinc 1 1, 3) := by decide +kernel
theorem dX10_names_96 : decode cX10_names 96 = .ok (.goto (-94), 3) := by decide +kernel
theorem dX10_names_99 : decode cX10_names 99 = .ok (.iconst (-1), 1) := by decide +kernel
theorem dX10_names_100 : decode cX10_names 100 = .ok (.istore_n 1, 1) := by decide +kernel
theorem dX10_names_101 : decode cX10_names 101 = .ok (.iconst 0, 1) := by decide +kernel
theorem dX10_names_102 : decode cX10_names 102 = .ok (.istore_n 2, 1) := by decide +kernel
theorem dX10_names_103 : decode cX10_names 103 = .ok (.iload_n 2, 1) := by decide +kernel
theorem dX10_names_104 : decode cX10_names 104 = .ok (.bipush 64, 2) := by decide +kernel
theorem dX10_names_106 : decode cX10_names 106 = .ok (.if_icmp .ge 198, 3) := by decide +kernel
theorem dX10_names_109 : decode cX10_names 109 = .ok (.aload_n 0, 1) := by decide +kernel
theorem dX10_names_110 : decode cX10_names 110 = .ok (.getfield 88, 3) := by decide +kernel
theorem dX10_names_113 : decode cX10_names 113 = .ok (.iload_n 2, 1) := by decide +kernel
theorem dX10_names_114 : decode cX10_names 114 = .ok (.iconst (-1), 1) := by decide +kernel
theorem dX10_names_115 : decode cX10_names 115 = .ok (.iastore, 1) := by decide +kernel
theorem dX10_names_116 : decode cX10_names 116 = .ok (.iconst (-1), 1) := by decide +kernel
theorem dX10_names_117 : decode cX10_names 117 = .ok (.istore_n 3, 1) := by decide +kernel
theorem dX10_names_118 : decode cX10_names 118 = .ok (.iconst 0, 1) := by decide +kernel
theorem dX10_names_119 : decode cX10_names 119 = .ok (.istore 4, 2) := by decide +kernel
theorem dX10_names_121 : decode cX10_names 121 = .ok (.iload 4, 2) := by decide +kernel
theorem dX10_names_123 : decode cX10_names 123 = .ok (.aload_n 0, 1) := by decide +kernel
theorem dX10_names_124 : decode cX10_names 124 = .ok (.getfield 186, 3) := by decide +kernel
theorem dX10_names_127 : decode cX10_names 127 = .ok (.if_icmp .ge 145, 3) := by decide +kernel
theorem dX10_names_130 : decode cX10_names 130 = .ok (.aload_n 0, 1) := by decide +kernel
theorem dX10_names_131 : decode cX10_names 131 = .ok (.getfield 46, 3) := by decide +kernel
theorem dX10_names_134 : decode cX10_names 134 = .ok (.iload 4, 2) := by decide +kernel
theorem dX10_names_136 : decode cX10_names 136 = .ok (.iaload, 1) := by decide +kernel
theorem dX10_names_137 : decode cX10_names 137 = .ok (.iload_n 2, 1) := by decide +kernel
theorem dX10_names_138 : decode cX10_names 138 = .ok (.if_icmp .ne 42, 3) := by decide +kernel
theorem dX10_names_141 : decode cX10_names 141 = .ok (.aload_n 0, 1) := by decide +kernel
theorem dX10_names_142 : decode cX10_names 142 = .ok (.getfield 55, 3) := by decide +kernel
theorem dX10_names_145 : decode cX10_names 145 = .ok (.iload 4, 2) := by decide +kernel
theorem dX10_names_147 : decode cX10_names 147 = .ok (.iaload, 1) := by decide +kernel
theorem dX10_names_148 : decode cX10_names 148 = .ok (.ifCond .le 32, 3) := by decide +kernel
theorem dX10_names_151 : decode cX10_names 151 = .ok (.aload_n 0, 1) := by decide +kernel
theorem dX10_names_152 : decode cX10_names 152 = .ok (.getfield 49, 3) := by decide +kernel
theorem dX10_names_155 : decode cX10_names 155 = .ok (.iload 4, 2) := by decide +kernel
theorem dX10_names_157 : decode cX10_names 157 = .ok (.iaload, 1) := by decide +kernel
theorem dX10_names_158 : decode cX10_names 158 = .ok (.ifCond .lt 22, 3) := by decide +kernel
theorem dX10_names_161 : decode cX10_names 161 = .ok (.aload_n 0, 1) := by decide +kernel
theorem dX10_names_162 : decode cX10_names 162 = .ok (.getfield 85, 3) := by decide +kernel
theorem dX10_names_165 : decode cX10_names 165 = .ok (.aload_n 0, 1) := by decide +kernel
theorem dX10_names_166 : decode cX10_names 166 = .ok (.getfield 49, 3) := by decide +kernel
theorem dX10_names_169 : decode cX10_names 169 = .ok (.iload 4, 2) := by decide +kernel
theorem dX10_names_171 : decode cX10_names 171 = .ok (.iaload, 1) := by decide +kernel
theorem dX10_names_172 : decode cX10_names 172 = .ok (.baload, 1) := by decide +kernel
theorem dX10_names_173 : decode cX10_names 173 = .ok (.ifCond .ne 7, 3) := by decide +kernel
theorem dX10_names_176 : decode cX10_names 176 = .ok (.iconst 1, 1) := by decide +kernel
theorem dX10_names_177 : decode cX10_names 177 = .ok (.goto 4, 3) := by decide +kernel
theorem dX10_names_180 : decode cX10_names 180 = .ok (.iconst 0, 1) := by decide +kernel
theorem dX10_names_181 : decode cX10_names 181 = .ok (.istore 5, 2) := by decide +kernel
theorem dX10_names_183 : decode cX10_names 183 = .ok (.iload 5, 2) := by decide +kernel
theorem dX10_names_185 : decode cX10_names 185 = .ok (.ifCond .eq 53, 3) := by decide +kernel
theorem dX10_names_188 : decode cX10_names 188 = .ok (.aload_n 0, 1) := by decide +kernel
theorem dX10_names_189 : decode cX10_names 189 = .ok (.getfield 55, 3) := by decide +kernel
theorem dX10_names_192 : decode cX10_names 192 = .ok (.iload 4, 2) := by decide +kernel
theorem dX10_names_194 : decode cX10_names 194 = .ok (.iaload, 1) := by decide +kernel
theorem dX10_names_195 : decode cX10_names 195 = .ok (.iconst 1, 1) := by decide +kernel
theorem dX10_names_196 : decode cX10_names 196 = .ok (.if_icmp .ne 42, 3) := by decide +kernel
theorem dX10_names_199 : decode cX10_names 199 = .ok (.aload_n 0, 1) := by decide +kernel
theorem dX10_names_200 : decode cX10_names 200 = .ok (.getfield 88, 3) := by decide +kernel
theorem dX10_names_203 : decode cX10_names 203 = .ok (.iload_n 2, 1) := by decide +kernel
theorem dX10_names_204 : decode cX10_names 204 = .ok (.iaload, 1) := by decide +kernel
theorem dX10_names_205 : decode cX10_names 205 = .ok (.iconst (-1), 1) := by decide +kernel
theorem dX10_names_206 : decode cX10_names 206 = .ok (.if_icmp .ne 14, 3) := by decide +kernel
theorem dX10_names_209 : decode cX10_names 209 = .ok (.aload_n 0, 1) := by decide +kernel
theorem dX10_names_210 : decode cX10_names 210 = .ok (.getfield 88, 3) := by decide +kernel
theorem dX10_names_213 : decode cX10_names 213 = .ok (.iload_n 2, 1) := by decide +kernel
theorem dX10_names_214 : decode cX10_names 214 = .ok (.iload 4, 2) := by decide +kernel
theorem dX10_names_216 : decode cX10_names 216 = .ok (.iastore, 1) := by decide +kernel
theorem dX10_names_217 : decode cX10_names 217 = .ok (.goto 21, 3) := by decide +kernel
theorem dX10_names_220 : decode cX10_names 220 = .ok (.iload_n 1, 1) := by decide +kernel
theorem dX10_names_221 : decode cX10_names 221 = .ok (.iconst (-1), 1) := by decide +kernel
theorem dX10_names_222 : decode cX10_names 222 = .ok (.if_icmp .eq 9, 3) := by decide +kernel
theorem dX10_names_225 : decode cX10_names 225 = .ok (.iload 4, 2) := by decide +kernel
theorem dX10_names_227 : decode cX10_names 227 = .ok (.iload_n 1, 1) := by decide +kernel
theorem dX10_names_228 : decode cX10_names 228 = .ok (.if_icmp .ge 8, 3) := by decide +kernel
theorem dX10_names_231 : decode cX10_names 231 = .ok (.iload 4, 2) := by decide +kernel
theorem dX10_names_233 : decode cX10_names 233 = .ok (.goto 4, 3) := by decide +kernel
theorem dX10_names_236 : decode cX10_names 236 = .ok (.iload_n 1, 1) := by decide +kernel
theorem dX10_names_237 : decode cX10_names 237 = .ok (.istore_n 1, 1) := by decide +kernel
theorem dX10_names_238 : decode cX10_names 238 = .ok (.iload 5, 2) := by decide +kernel
theorem dX10_names_240 : decode cX10_names 240 = .ok (.ifCond .eq 24, 3) := by decide +kernel
theorem dX10_names_243 : decode cX10_names 243 = .ok (.aload_n 0, 1) := by decide +kernel
theorem dX10_names_244 : decode cX10_names 244 = .ok (.getfield 55, 3) := by decide +kernel
theorem dX10_names_247 : decode cX10_names 247 = .ok (.iload 4, 2) := by decide +kernel
theorem dX10_names_249 : decode cX10_names 249 = .ok (.iaload, 1) := by decide +kernel
theorem dX10_names_250 : decode cX10_names 250 = .ok (.iconst 2, 1) := by decide +kernel
theorem dX10_names_251 : decode cX10_names 251 = .ok (.if_icmp .ne 13, 3) := by decide +kernel
theorem dX10_names_254 : decode cX10_names 254 = .ok (.iload_n 3, 1) := by decide +kernel
theorem dX10_names_255 : decode cX10_names 255 = .ok (.iconst (-1), 1) := by decide +kernel
theorem dX10_names_256 : decode cX10_names 256 = .ok (.if_icmp .ne 8, 3) := by decide +kernel
theorem dX10_names_259 : decode cX10_names 259 = .ok (.iload 4, 2) := by decide +kernel
theorem dX10_names_261 : decode cX10_names 261 = .ok (.goto 4, 3) := by decide +kernel
theorem dX10_names_264 : decode cX10_names 264 = .ok (.iload_n 3, 1) := by decide +kernel
theorem dX10_names_265 : decode cX10_names 265 = .ok (.istore_n 3, 1) := by decide +kernel
theorem dX10_names_266 : decode cX10_names 266 = .ok (.iinc 4 1, 3) := by decide +kernel
theorem dX10_names_269 : decode cX10_names 269 = .ok (.goto (-148), 3) := by decide +kernel
theorem dX10_names_272 : decode cX10_names 272 = .ok (.aload_n 0, 1) := by decide +kernel
theorem dX10_names_273 : decode cX10_names 273 = .ok (.getfield 88, 3) := by decide +kernel
theorem dX10_names_276 : decode cX10_names 276 = .ok (.iload_n 2, 1) := by decide +kernel
theorem dX10_names_277 : decode cX10_names 277 = .ok (.aload_n 0, 1) := by decide +kernel
theorem dX10_names_278 : decode cX10_names 278 = .ok (.getfield 88, 3) := by decide +kernel
theorem dX10_names_281 : decode cX10_names 281 = .ok (.iload_n 2, 1) := by decide +kernel
theorem dX10_names_282 : decode cX10_names 282 = .ok (.iaload, 1) := by decide +kernel
theorem dX10_names_283 : decode cX10_names 283 = .ok (.iconst (-1), 1) := by decide +kernel
theorem dX10_names_284 : decode cX10_names 284 = .ok (.if_icmp .ne 7, 3) := by decide +kernel
theorem dX10_names_287 : decode cX10_names 287 = .ok (.iload_n 3, 1) := by decide +kernel
theorem dX10_names_288 : decode cX10_names 288 = .ok (.goto 9, 3) := by decide +kernel
theorem dX10_names_291 : decode cX10_names 291 = .ok (.aload_n 0, 1) := by decide +kernel
theorem dX10_names_292 : decode cX10_names 292 = .ok (.getfield 88, 3) := by decide +kernel
theorem dX10_names_295 : decode cX10_names 295 = .ok (.iload_n 2, 1) := by decide +kernel
theorem dX10_names_296 : decode cX10_names 296 = .ok (.iaload, 1) := by decide +kernel
theorem dX10_names_297 : decode cX10_names 297 = .ok (.iastore, 1) := by decide +kernel
theorem dX10_names_298 : decode cX10_names 298 = .ok (.iinc 2 1, 3) := by decide +kernel
theorem dX10_names_301 : decode cX10_names 301 = .ok (.goto (-198), 3) := by decide +kernel
theorem dX10_names_304 : decode cX10_names 304 = .ok (.iconst 0, 1) := by decide +kernel
theorem dX10_names_305 : decode cX10_names 305 = .ok (.istore_n 2, 1) := by decide +kernel
theorem dX10_names_306 : decode cX10_names 306 = .ok (.iload_n 2, 1) := by decide +kernel
theorem dX10_names_307 : decode cX10_names 307 = .ok (.aload_n 0, 1) := by decide +kernel
theorem dX10_names_308 : decode cX10_names 308 = .ok (.getfield 186, 3) := by decide +kernel
theorem dX10_names_311 : decode cX10_names 311 = .ok (.if_icmp .ge 160, 3) := by decide +kernel
theorem dX10_names_314 : decode cX10_names 314 = .ok (.aload_n 0, 1) := by decide +kernel
theorem dX10_names_315 : decode cX10_names 315 = .ok (.getfield 49, 3) := by decide +kernel
theorem dX10_names_318 : decode cX10_names 318 = .ok (.iload_n 2, 1) := by decide +kernel
theorem dX10_names_319 : decode cX10_names 319 = .ok (.iaload, 1) := by decide +kernel
theorem dX10_names_320 : decode cX10_names 320 = .ok (.istore_n 3, 1) := by decide +kernel
theorem dX10_names_321 : decode cX10_names 321 = .ok (.aload_n 0, 1) := by decide +kernel
theorem dX10_names_322 : decode cX10_names 322 = .ok (.getfield 55, 3) := by decide +kernel
theorem dX10_names_325 : decode cX10_names 325 = .ok (.iload_n 2, 1) := by decide +kernel
theorem dX10_names_326 : decode cX10_names 326 = .ok (.iaload, 1) := by decide +kernel
theorem dX10_names_327 : decode cX10_names 327 = .ok (.ifCond .ne 7, 3) := by decide +kernel
theorem dX10_names_330 : decode cX10_names 330 = .ok (.iload_n 2, 1) := by decide +kernel
theorem dX10_names_331 : decode cX10_names 331 = .ok (.goto 14, 3) := by decide +kernel
theorem dX10_names_334 : decode cX10_names 334 = .ok (.aload_n 0, 1) := by decide +kernel
theorem dX10_names_335 : decode cX10_names 335 = .ok (.getfield 88, 3) := by decide +kernel
theorem dX10_names_338 : decode cX10_names 338 = .ok (.aload_n 0, 1) := by decide +kernel
theorem dX10_names_339 : decode cX10_names 339 = .ok (.getfield 46, 3) := by decide +kernel
theorem dX10_names_342 : decode cX10_names 342 = .ok (.iload_n 2, 1) := by decide +kernel
theorem dX10_names_343 : decode cX10_names 343 = .ok (.iaload, 1) := by decide +kernel
theorem dX10_names_344 : decode cX10_names 344 = .ok (.iaload, 1) := by decide +kernel
theorem dX10_names_345 : decode cX10_names 345 = .ok (.istore 4, 2) := by decide +kernel
theorem dX10_names_347 : decode cX10_names 347 = .ok (.iload_n 3, 1) := by decide +kernel
theorem dX10_names_348 : decode cX10_names 348 = .ok (.iconst (-1), 1) := by decide +kernel
theorem dX10_names_349 : decode cX10_names 349 = .ok (.if_icmp .ge 53, 3) := by decide +kernel
theorem dX10_names_352 : decode cX10_names 352 = .ok (.aload_n 0, 1) := by decide +kernel
theorem dX10_names_353 : decode cX10_names 353 = .ok (.getfield 91, 3) := by decide +kernel
theorem dX10_names_356 : decode cX10_names 356 = .ok (.iload_n 2, 1) := by decide +kernel
theorem dX10_names_357 : decode cX10_names 357 = .ok (.iload_n 3, 1) := by decide +kernel
theorem dX10_names_358 : decode cX10_names 358 = .ok (.bipush (-10), 2) := by decide +kernel
theorem dX10_names_360 : decode cX10_names 360 = .ok (.if_icmp .le 7, 3) := by decide +kernel
theorem dX10_names_363 : decode cX10_names 363 = .ok (.iconst 2, 1) := by decide +kernel
theorem dX10_names_364 : decode cX10_names 364 = .ok (.goto 4, 3) := by decide +kernel
theorem dX10_names_367 : decode cX10_names 367 = .ok (.iconst 3, 1) := by decide +kernel
theorem dX10_names_368 : decode cX10_names 368 = .ok (.iastore, 1) := by decide +kernel
theorem dX10_names_369 : decode cX10_names 369 = .ok (.aload_n 0, 1) := by decide +kernel
theorem dX10_names_370 : decode cX10_names 370 = .ok (.getfield 94, 3) := by decide +kernel
theorem dX10_names_373 : decode cX10_names 373 = .ok (.iload_n 2, 1) := by decide +kernel
theorem dX10_names_374 : decode cX10_names 374 = .ok (.iload_n 3, 1) := by decide +kernel
theorem dX10_names_375 : decode cX10_names 375 = .ok (.bipush (-10), 2) := by decide +kernel
theorem dX10_names_377 : decode cX10_names 377 = .ok (.if_icmp .le 10, 3) := by decide +kernel
theorem dX10_names_380 : decode cX10_names 380 = .ok (.bipush (-2), 2) := by decide +kernel
theorem dX10_names_382 : decode cX10_names 382 = .ok (.iload_n 3, 1) := by decide +kernel
theorem dX10_names_383 : decode cX10_names 383 = .ok (.isub, 1) := by decide +kernel
theorem dX10_names_384 : decode cX10_names 384 = .ok (.goto 7, 3) := by decide +kernel
theorem dX10_names_387 : decode cX10_names 387 = .ok (.bipush (-10), 2) := by decide +kernel
theorem dX10_names_389 : decode cX10_names 389 = .ok (.iload_n 3, 1) := by decide +kernel
theorem dX10_names_390 : decode cX10_names 390 = .ok (.isub, 1) := by decide +kernel
theorem dX10_names_391 : decode cX10_names 391 = .ok (.iastore, 1) := by decide +kernel
theorem dX10_names_392 : decode cX10_names 392 = .ok (.aload_n 0, 1) := by decide +kernel
theorem dX10_names_393 : decode cX10_names 393 = .ok (.getfield 97, 3) := by decide +kernel
theorem dX10_names_396 : decode cX10_names 396 = .ok (.iload_n 2, 1) := by decide +kernel
theorem dX10_names_397 : decode cX10_names 397 = .ok (.iconst 0, 1) := by decide +kernel
theorem dX10_names_398 : decode cX10_names 398 = .ok (.iastore, 1) := by decide +kernel
theorem dX10_names_399 : decode cX10_names 399 = .ok (.goto 66, 3) := by decide +kernel
theorem dX10_names_402 : decode cX10_names 402 = .ok (.aload_n 0, 1) := by decide +kernel
theorem dX10_names_403 : decode cX10_names 403 = .ok (.getfield 91, 3) := by decide +kernel
theorem dX10_names_406 : decode cX10_names 406 = .ok (.iload_n 2, 1) := by decide +kernel
theorem dX10_names_407 : decode cX10_names 407 = .ok (.iload 4, 2) := by decide +kernel
theorem dX10_names_409 : decode cX10_names 409 = .ok (.iconst (-1), 1) := by decide +kernel
theorem dX10_names_410 : decode cX10_names 410 = .ok (.if_icmp .ne 7, 3) := by decide +kernel
theorem dX10_names_413 : decode cX10_names 413 = .ok (.iconst 0, 1) := by decide +kernel
theorem dX10_names_414 : decode cX10_names 414 = .ok (.goto 4, 3) := by decide +kernel
theorem dX10_names_417 : decode cX10_names 417 = .ok (.iconst 1, 1) := by decide +kernel
theorem dX10_names_418 : decode cX10_names 418 = .ok (.iastore, 1) := by decide +kernel
theorem dX10_names_419 : decode cX10_names 419 = .ok (.aload_n 0, 1) := by decide +kernel
theorem dX10_names_420 : decode cX10_names 420 = .ok (.getfield 94, 3) := by decide +kernel
theorem dX10_names_423 : decode cX10_names 423 = .ok (.iload_n 2, 1) := by decide +kernel
theorem dX10_names_424 : decode cX10_names 424 = .ok (.iload 4, 2) := by decide +kernel
theorem dX10_names_426 : decode cX10_names 426 = .ok (.iconst (-1), 1) := by decide +kernel
theorem dX10_names_427 : decode cX10_names 427 = .ok (.if_icmp .ne 7, 3) := by decide +kernel
theorem dX10_names_430 : decode cX10_names 430 = .ok (.iconst (-1), 1) := by decide +kernel
theorem dX10_names_431 : decode cX10_names 431 = .ok (.goto 10, 3) := by decide +kernel
theorem dX10_names_434 : decode cX10_names 434 = .ok (.aload_n 0, 1) := by decide +kernel
theorem dX10_names_435 : decode cX10_names 435 = .ok (.getfield 49, 3) := by decide +kernel
theorem dX10_names_438 : decode cX10_names 438 = .ok (.iload 4, 2) := by decide +kernel
theorem dX10_names_440 : decode cX10_names 440 = .ok (.iaload, 1) := by decide +kernel
theorem dX10_names_441 : decode cX10_names 441 = .ok (.iastore, 1) := by decide +kernel
theorem dX10_names_442 : decode cX10_names 442 = .ok (.aload_n 0, 1) := by decide +kernel
theorem dX10_names_443 : decode cX10_names 443 = .ok (.getfield 97, 3) := by decide +kernel
theorem dX10_names_446 : decode cX10_names 446 = .ok (.iload_n 2, 1) := by decide +kernel
theorem dX10_names_447 : decode cX10_names 447 = .ok (.iload 4, 2) := by decide +kernel
theorem dX10_names_449 : decode cX10_names 449 = .ok (.iconst (-1), 1) := by decide +kernel
theorem dX10_names_450 : decode cX10_names 450 = .ok (.if_icmp .ne 7, 3) := by decide +kernel
theorem dX10_names_453 : decode cX10_names 453 = .ok (.iconst 0, 1) := by decide +kernel
theorem dX10_names_454 : decode cX10_names 454 = .ok (.goto 10, 3) := by decide +kernel
theorem dX10_names_457 : decode cX10_names 457 = .ok (.aload_n 0, 1) := by decide +kernel
theorem dX10_names_458 : decode cX10_names 458 = .ok (.getfield 52, 3) := by decide +kernel
theorem dX10_names_461 : decode cX10_names 461 = .ok (.iload 4, 2) := by decide +kernel
theorem dX10_names_463 : decode cX10_names 463 = .ok (.iaload, 1) := by decide +kernel
theorem dX10_names_464 : decode cX10_names 464 = .ok (.iastore, 1) := by decide +kernel
theorem dX10_names_465 : decode cX10_names 465 = .ok (.iinc 2 1, 3) := by decide +kernel
theorem dX10_names_468 : decode cX10_names 468 = .ok (.goto (-162), 3) := by decide +kernel
theorem dX10_names_471 : decode cX10_names 471 = .ok (.iload_n 1, 1) := by decide +kernel
theorem dX10_names_472 : decode cX10_names 472 = .ok (.ireturn, 1) := by decide +kernel
theorem dX10_keeps_0 : decode cX10_keeps 0 = .ok (.aload_n 0, 1) := by decide +kernel
theorem dX10_keeps_1 : decode cX10_keeps 1 = .ok (.getfield 103, 3) := by decide +kernel
theorem dX10_keeps_4 : decode cX10_keeps 4 = .ok (.iload_n 1, 1) := by decide +kernel
theorem dX10_keeps_5 : decode cX10_keeps 5 = .ok (.baload, 1) := by decide +kernel
theorem dX10_keeps_6 : decode cX10_keeps 6 = .ok (.ifCond .ne 56, 3) := by decide +kernel
theorem dX10_keeps_9 : decode cX10_keeps 9 = .ok (.aload_n 0, 1) := by decide +kernel
theorem dX10_keeps_10 : decode cX10_keeps 10 = .ok (.getfield 85, 3) := by decide +kernel
theorem dX10_keeps_13 : decode cX10_keeps 13 = .ok (.iload_n 1, 1) := by decide +kernel
theorem dX10_keeps_14 : decode cX10_keeps 14 = .ok (.baload, 1) := by decide +kernel
theorem dX10_keeps_15 : decode cX10_keeps 15 = .ok (.ifCond .ne 47, 3) := by decide +kernel
theorem dX10_keeps_18 : decode cX10_keeps 18 = .ok (.aload_n 0, 1) := by decide +kernel
theorem dX10_keeps_19 : decode cX10_keeps 19 = .ok (.getfield 103, 3) := by decide +kernel
theorem dX10_keeps_22 : decode cX10_keeps 22 = .ok (.iload_n 1, 1) := by decide +kernel
theorem dX10_keeps_23 : decode cX10_keeps 23 = .ok (.iconst 1, 1) := by decide +kernel
theorem dX10_keeps_24 : decode cX10_keeps 24 = .ok (.bastore, 1) := by decide +kernel
theorem dX10_keeps_25 : decode cX10_keeps 25 = .ok (.aload_n 0, 1) := by decide +kernel
theorem dX10_keeps_26 : decode cX10_keeps 26 = .ok (.getfield 106, 3) := by decide +kernel
theorem dX10_keeps_29 : decode cX10_keeps 29 = .ok (.iload_n 1, 1) := by decide +kernel
theorem dX10_keeps_30 : decode cX10_keeps 30 = .ok (.iload_n 2, 1) := by decide +kernel
theorem dX10_keeps_31 : decode cX10_keeps 31 = .ok (.iastore, 1) := by decide +kernel
theorem dX10_keeps_32 : decode cX10_keeps 32 = .ok (.aload_n 0, 1) := by decide +kernel
theorem dX10_keeps_33 : decode cX10_keeps 33 = .ok (.getfield 109, 3) := by decide +kernel
theorem dX10_keeps_36 : decode cX10_keeps 36 = .ok (.iload_n 1, 1) := by decide +kernel
theorem dX10_keeps_37 : decode cX10_keeps 37 = .ok (.aload_n 0, 1) := by decide +kernel
theorem dX10_keeps_38 : decode cX10_keeps 38 = .ok (.getfield 203, 3) := by decide +kernel
theorem dX10_keeps_41 : decode cX10_keeps 41 = .ok (.iastore, 1) := by decide +kernel
theorem dX10_keeps_42 : decode cX10_keeps 42 = .ok (.aload_n 0, 1) := by decide +kernel
theorem dX10_keeps_43 : decode cX10_keeps 43 = .ok (.getfield 100, 3) := by decide +kernel
theorem dX10_keeps_46 : decode cX10_keeps 46 = .ok (.aload_n 0, 1) := by decide +kernel
theorem dX10_keeps_47 : decode cX10_keeps 47 = .ok (.getfield 203, 3) := by decide +kernel
theorem dX10_keeps_50 : decode cX10_keeps 50 = .ok (.iload_n 1, 1) := by decide +kernel
theorem dX10_keeps_51 : decode cX10_keeps 51 = .ok (.iastore, 1) := by decide +kernel
theorem dX10_keeps_52 : decode cX10_keeps 52 = .ok (.aload_n 0, 1) := by decide +kernel
theorem dX10_keeps_53 : decode cX10_keeps 53 = .ok (.dup, 1) := by decide +kernel
theorem dX10_keeps_54 : decode cX10_keeps 54 = .ok (.getfield 203, 3) := by decide +kernel
theorem dX10_keeps_57 : decode cX10_keeps 57 = .ok (.iconst 1, 1) := by decide +kernel
theorem dX10_keeps_58 : decode cX10_keeps 58 = .ok (.iadd, 1) := by decide +kernel
theorem dX10_keeps_59 : decode cX10_keeps 59 = .ok (.putfield 203, 3) := by decide +kernel
theorem dX10_keeps_62 : decode cX10_keeps 62 = .ok (.return_, 1) := by decide +kernel
theorem dX10_keepAll_0 : decode cX10_keepAll 0 = .ok (.aload_n 0, 1) := by decide +kernel
theorem dX10_keepAll_1 : decode cX10_keepAll 1 = .ok (.iconst 0, 1) := by decide +kernel
theorem dX10_keepAll_2 : decode cX10_keepAll 2 = .ok (.putfield 203, 3) := by decide +kernel
theorem dX10_keepAll_5 : decode cX10_keepAll 5 = .ok (.iconst 0, 1) := by decide +kernel
theorem dX10_keepAll_6 : decode cX10_keepAll 6 = .ok (.istore_n 1, 1) := by decide +kernel
theorem dX10_keepAll_7 : decode cX10_keepAll 7 = .ok (.iload_n 1, 1) := by decide +kernel
theorem dX10_keepAll_8 : decode cX10_keepAll 8 = .ok (.bipush 60, 2) := by decide +kernel
theorem dX10_keepAll_10 : decode cX10_keepAll 10 = .ok (.if_icmp .ge 30, 3) := by decide +kernel
theorem dX10_keepAll_13 : decode cX10_keepAll 13 = .ok (.aload_n 0, 1) := by decide +kernel
theorem dX10_keepAll_14 : decode cX10_keepAll 14 = .ok (.getfield 103, 3) := by decide +kernel
theorem dX10_keepAll_17 : decode cX10_keepAll 17 = .ok (.iload_n 1, 1) := by decide +kernel
theorem dX10_keepAll_18 : decode cX10_keepAll 18 = .ok (.iconst 0, 1) := by decide +kernel
theorem dX10_keepAll_19 : decode cX10_keepAll 19 = .ok (.bastore, 1) := by decide +kernel
theorem dX10_keepAll_20 : decode cX10_keepAll 20 = .ok (.aload_n 0, 1) := by decide +kernel
theorem dX10_keepAll_21 : decode cX10_keepAll 21 = .ok (.getfield 106, 3) := by decide +kernel
theorem dX10_keepAll_24 : decode cX10_keepAll 24 = .ok (.iload_n 1, 1) := by decide +kernel
theorem dX10_keepAll_25 : decode cX10_keepAll 25 = .ok (.iconst (-1), 1) := by decide +kernel
theorem dX10_keepAll_26 : decode cX10_keepAll 26 = .ok (.iastore, 1) := by decide +kernel
theorem dX10_keepAll_27 : decode cX10_keepAll 27 = .ok (.aload_n 0, 1) := by decide +kernel
theorem dX10_keepAll_28 : decode cX10_keepAll 28 = .ok (.getfield 109, 3) := by decide +kernel
theorem dX10_keepAll_31 : decode cX10_keepAll 31 = .ok (.iload_n 1, 1) := by decide +kernel
theorem dX10_keepAll_32 : decode cX10_keepAll 32 = .ok (.iconst (-1), 1) := by decide +kernel
theorem dX10_keepAll_33 : decode cX10_keepAll 33 = .ok (.iastore, 1) := by decide +kernel
theorem dX10_keepAll_34 : decode cX10_keepAll 34 = .ok (.iinc 1 1, 3) := by decide +kernel
theorem dX10_keepAll_37 : decode cX10_keepAll 37 = .ok (.goto (-30), 3) := by decide +kernel
theorem dX10_keepAll_40 : decode cX10_keepAll 40 = .ok (.iconst 0, 1) := by decide +kernel
theorem dX10_keepAll_41 : decode cX10_keepAll 41 = .ok (.istore_n 1, 1) := by decide +kernel
theorem dX10_keepAll_42 : decode cX10_keepAll 42 = .ok (.iload_n 1, 1) := by decide +kernel
theorem dX10_keepAll_43 : decode cX10_keepAll 43 = .ok (.aload_n 0, 1) := by decide +kernel
theorem dX10_keepAll_44 : decode cX10_keepAll 44 = .ok (.getfield 165, 3) := by decide +kernel
theorem dX10_keepAll_47 : decode cX10_keepAll 47 = .ok (.if_icmp .ge 24, 3) := by decide +kernel
theorem dX10_keepAll_50 : decode cX10_keepAll 50 = .ok (.aload_n 0, 1) := by decide +kernel
theorem dX10_keepAll_51 : decode cX10_keepAll 51 = .ok (.getfield 29, 3) := by decide +kernel
theorem dX10_keepAll_54 : decode cX10_keepAll 54 = .ok (.iload_n 1, 1) := by decide +kernel
theorem dX10_keepAll_55 : decode cX10_keepAll 55 = .ok (.baload, 1) := by decide +kernel
theorem dX10_keepAll_56 : decode cX10_keepAll 56 = .ok (.ifCond .eq 9, 3) := by decide +kernel
theorem dX10_keepAll_59 : decode cX10_keepAll 59 = .ok (.aload_n 0, 1) := by decide +kernel
theorem dX10_keepAll_60 : decode cX10_keepAll 60 = .ok (.iload_n 1, 1) := by decide +kernel
theorem dX10_keepAll_61 : decode cX10_keepAll 61 = .ok (.iconst (-1), 1) := by decide +kernel
theorem dX10_keepAll_62 : decode cX10_keepAll 62 = .ok (.invokevirtual 206, 3) := by decide +kernel
theorem dX10_keepAll_65 : decode cX10_keepAll 65 = .ok (.iinc 1 1, 3) := by decide +kernel
theorem dX10_keepAll_68 : decode cX10_keepAll 68 = .ok (.goto (-26), 3) := by decide +kernel
theorem dX10_keepAll_71 : decode cX10_keepAll 71 = .ok (.iconst 0, 1) := by decide +kernel
theorem dX10_keepAll_72 : decode cX10_keepAll 72 = .ok (.istore_n 1, 1) := by decide +kernel
theorem dX10_keepAll_73 : decode cX10_keepAll 73 = .ok (.iload_n 1, 1) := by decide +kernel
theorem dX10_keepAll_74 : decode cX10_keepAll 74 = .ok (.aload_n 0, 1) := by decide +kernel
theorem dX10_keepAll_75 : decode cX10_keepAll 75 = .ok (.getfield 198, 3) := by decide +kernel
theorem dX10_keepAll_78 : decode cX10_keepAll 78 = .ok (.if_icmp .ge 37, 3) := by decide +kernel
theorem dX10_keepAll_81 : decode cX10_keepAll 81 = .ok (.aload_n 0, 1) := by decide +kernel
theorem dX10_keepAll_82 : decode cX10_keepAll 82 = .ok (.getfield 88, 3) := by decide +kernel
theorem dX10_keepAll_85 : decode cX10_keepAll 85 = .ok (.aload_n 0, 1) := by decide +kernel
theorem dX10_keepAll_86 : decode cX10_keepAll 86 = .ok (.getfield 73, 3) := by decide +kernel
theorem dX10_keepAll_89 : decode cX10_keepAll 89 = .ok (.iload_n 1, 1) := by decide +kernel
theorem dX10_keepAll_90 : decode cX10_keepAll 90 = .ok (.iaload, 1) := by decide +kernel
theorem dX10_keepAll_91 : decode cX10_keepAll 91 = .ok (.iaload, 1) := by decide +kernel
theorem dX10_keepAll_92 : decode cX10_keepAll 92 = .ok (.istore_n 2, 1) := by decide +kernel
theorem dX10_keepAll_93 : decode cX10_keepAll 93 = .ok (.iload_n 2, 1) := by decide +kernel
theorem dX10_keepAll_94 : decode cX10_keepAll 94 = .ok (.iconst (-1), 1) := by decide +kernel
theorem dX10_keepAll_95 : decode cX10_keepAll 95 = .ok (.if_icmp .eq 14, 3) := by decide +kernel
theorem dX10_keepAll_98 : decode cX10_keepAll 98 = .ok (.aload_n 0, 1) := by decide +kernel
theorem dX10_keepAll_99 : decode cX10_keepAll 99 = .ok (.aload_n 0, 1) := by decide +kernel
theorem dX10_keepAll_100 : decode cX10_keepAll 100 = .ok (.getfield 49, 3) := by decide +kernel
theorem dX10_keepAll_103 : decode cX10_keepAll 103 = .ok (.iload_n 2, 1) := by decide +kernel
theorem dX10_keepAll_104 : decode cX10_keepAll 104 = .ok (.iaload, 1) := by decide +kernel
theorem dX10_keepAll_105 : decode cX10_keepAll 105 = .ok (.iconst (-1), 1) := by decide +kernel
theorem dX10_keepAll_106 : decode cX10_keepAll 106 = .ok (.invokevirtual 206, 3) := by decide +kernel
theorem dX10_keepAll_109 : decode cX10_keepAll 109 = .ok (.iinc 1 1, 3) := by decide +kernel
theorem dX10_keepAll_112 : decode cX10_keepAll 112 = .ok (.goto (-39), 3) := by decide +kernel
theorem dX10_keepAll_115 : decode cX10_keepAll 115 = .ok (.iconst 0, 1) := by decide +kernel
theorem dX10_keepAll_116 : decode cX10_keepAll 116 = .ok (.istore_n 1, 1) := by decide +kernel
theorem dX10_keepAll_117 : decode cX10_keepAll 117 = .ok (.iload_n 1, 1) := by decide +kernel
theorem dX10_keepAll_118 : decode cX10_keepAll 118 = .ok (.aload_n 0, 1) := by decide +kernel
theorem dX10_keepAll_119 : decode cX10_keepAll 119 = .ok (.getfield 203, 3) := by decide +kernel
theorem dX10_keepAll_122 : decode cX10_keepAll 122 = .ok (.if_icmp .ge 100, 3) := by decide +kernel
theorem dX10_keepAll_125 : decode cX10_keepAll 125 = .ok (.aload_n 0, 1) := by decide +kernel
theorem dX10_keepAll_126 : decode cX10_keepAll 126 = .ok (.getfield 100, 3) := by decide +kernel
theorem dX10_keepAll_129 : decode cX10_keepAll 129 = .ok (.iload_n 1, 1) := by decide +kernel
theorem dX10_keepAll_130 : decode cX10_keepAll 130 = .ok (.iaload, 1) := by decide +kernel
theorem dX10_keepAll_131 : decode cX10_keepAll 131 = .ok (.istore_n 2, 1) := by decide +kernel
theorem dX10_keepAll_132 : decode cX10_keepAll 132 = .ok (.iconst 0, 1) := by decide +kernel
theorem dX10_keepAll_133 : decode cX10_keepAll 133 = .ok (.istore_n 3, 1) := by decide +kernel
theorem dX10_keepAll_134 : decode cX10_keepAll 134 = .ok (.iload_n 3, 1) := by decide +kernel
theorem dX10_keepAll_135 : decode cX10_keepAll 135 = .ok (.aload_n 0, 1) := by decide +kernel
theorem dX10_keepAll_136 : decode cX10_keepAll 136 = .ok (.getfield 195, 3) := by decide +kernel
theorem dX10_keepAll_139 : decode cX10_keepAll 139 = .ok (.if_icmp .ge 30, 3) := by decide +kernel
theorem dX10_keepAll_142 : decode cX10_keepAll 142 = .ok (.aload_n 0, 1) := by decide +kernel
theorem dX10_keepAll_143 : decode cX10_keepAll 143 = .ok (.getfield 58, 3) := by decide +kernel
theorem dX10_keepAll_146 : decode cX10_keepAll 146 = .ok (.iload_n 3, 1) := by decide +kernel
theorem dX10_keepAll_147 : decode cX10_keepAll 147 = .ok (.iaload, 1) := by decide +kernel
theorem dX10_keepAll_148 : decode cX10_keepAll 148 = .ok (.iload_n 2, 1) := by decide +kernel
theorem dX10_keepAll_149 : decode cX10_keepAll 149 = .ok (.if_icmp .ne 14, 3) := by decide +kernel
theorem dX10_keepAll_152 : decode cX10_keepAll 152 = .ok (.aload_n 0, 1) := by decide +kernel
theorem dX10_keepAll_153 : decode cX10_keepAll 153 = .ok (.iload_n 2, 1) := by decide +kernel
theorem dX10_keepAll_154 : decode cX10_keepAll 154 = .ok (.aload_n 0, 1) := by decide +kernel
theorem dX10_keepAll_155 : decode cX10_keepAll 155 = .ok (.getfield 67, 3) := by decide +kernel
theorem dX10_keepAll_158 : decode cX10_keepAll 158 = .ok (.iload_n 3, 1) := by decide +kernel
theorem dX10_keepAll_159 : decode cX10_keepAll 159 = .ok (.iaload, 1) := by decide +kernel
theorem dX10_keepAll_160 : decode cX10_keepAll 160 = .ok (.invokevirtual 210, 3) := by decide +kernel
theorem dX10_keepAll_163 : decode cX10_keepAll 163 = .ok (.iinc 3 1, 3) := by decide +kernel
theorem dX10_keepAll_166 : decode cX10_keepAll 166 = .ok (.goto (-32), 3) := by decide +kernel
theorem dX10_keepAll_169 : decode cX10_keepAll 169 = .ok (.iconst 0, 1) := by decide +kernel
theorem dX10_keepAll_170 : decode cX10_keepAll 170 = .ok (.istore_n 3, 1) := by decide +kernel
theorem dX10_keepAll_171 : decode cX10_keepAll 171 = .ok (.iload_n 3, 1) := by decide +kernel
theorem dX10_keepAll_172 : decode cX10_keepAll 172 = .ok (.aload_n 0, 1) := by decide +kernel
theorem dX10_keepAll_173 : decode cX10_keepAll 173 = .ok (.getfield 165, 3) := by decide +kernel
theorem dX10_keepAll_176 : decode cX10_keepAll 176 = .ok (.if_icmp .ge 40, 3) := by decide +kernel
theorem dX10_keepAll_179 : decode cX10_keepAll 179 = .ok (.aload_n 0, 1) := by decide +kernel
theorem dX10_keepAll_180 : decode cX10_keepAll 180 = .ok (.getfield 36, 3) := by decide +kernel
theorem dX10_keepAll_183 : decode cX10_keepAll 183 = .ok (.iload_n 2, 1) := by decide +kernel
theorem dX10_keepAll_184 : decode cX10_keepAll 184 = .ok (.iaload, 1) := by decide +kernel
theorem dX10_keepAll_185 : decode cX10_keepAll 185 = .ok (.iconst (-1), 1) := by decide +kernel
theorem dX10_keepAll_186 : decode cX10_keepAll 186 = .ok (.if_icmp .eq 24, 3) := by decide +kernel
theorem dX10_keepAll_189 : decode cX10_keepAll 189 = .ok (.aload_n 0, 1) := by decide +kernel
theorem dX10_keepAll_190 : decode cX10_keepAll 190 = .ok (.getfield 36, 3) := by decide +kernel
theorem dX10_keepAll_193 : decode cX10_keepAll 193 = .ok (.iload_n 3, 1) := by decide +kernel
theorem dX10_keepAll_194 : decode cX10_keepAll 194 = .ok (.iaload, 1) := by decide +kernel
theorem dX10_keepAll_195 : decode cX10_keepAll 195 = .ok (.aload_n 0, 1) := by decide +kernel
theorem dX10_keepAll_196 : decode cX10_keepAll 196 = .ok (.getfield 36, 3) := by decide +kernel
theorem dX10_keepAll_199 : decode cX10_keepAll 199 = .ok (.iload_n 2, 1) := by decide +kernel
theorem dX10_keepAll_200 : decode cX10_keepAll 200 = .ok (.iaload, 1) := by decide +kernel
theorem dX10_keepAll_201 : decode cX10_keepAll 201 = .ok (.if_icmp .ne 9, 3) := by decide +kernel
theorem dX10_keepAll_204 : decode cX10_keepAll 204 = .ok (.aload_n 0, 1) := by decide +kernel
theorem dX10_keepAll_205 : decode cX10_keepAll 205 = .ok (.iload_n 3, 1) := by decide +kernel
theorem dX10_keepAll_206 : decode cX10_keepAll 206 = .ok (.iload_n 2, 1) := by decide +kernel
theorem dX10_keepAll_207 : decode cX10_keepAll 207 = .ok (.invokevirtual 206, 3) := by decide +kernel
theorem dX10_keepAll_210 : decode cX10_keepAll 210 = .ok (.iinc 3 1, 3) := by decide +kernel
theorem dX10_keepAll_213 : decode cX10_keepAll 213 = .ok (.goto (-42), 3) := by decide +kernel
theorem dX10_keepAll_216 : decode cX10_keepAll 216 = .ok (.iinc 1 1, 3) := by decide +kernel
theorem dX10_keepAll_219 : decode cX10_keepAll 219 = .ok (.goto (-102), 3) := by decide +kernel
theorem dX10_keepAll_222 : decode cX10_keepAll 222 = .ok (.return_, 1) := by decide +kernel
theorem dX10_comesBy_0 : decode cX10_comesBy 0 = .ok (.aload_n 0, 1) := by decide +kernel
theorem dX10_comesBy_1 : decode cX10_comesBy 1 = .ok (.getfield 91, 3) := by decide +kernel
theorem dX10_comesBy_4 : decode cX10_comesBy 4 = .ok (.iload_n 2, 1) := by decide +kernel
theorem dX10_comesBy_5 : decode cX10_comesBy 5 = .ok (.iaload, 1) := by decide +kernel
theorem dX10_comesBy_6 : decode cX10_comesBy 6 = .ok (.iconst 1, 1) := by decide +kernel
theorem dX10_comesBy_7 : decode cX10_comesBy 7 = .ok (.if_icmp .ne 14, 3) := by decide +kernel
theorem dX10_comesBy_10 : decode cX10_comesBy 10 = .ok (.aload_n 0, 1) := by decide +kernel
theorem dX10_comesBy_11 : decode cX10_comesBy 11 = .ok (.aload_n 0, 1) := by decide +kernel
theorem dX10_comesBy_12 : decode cX10_comesBy 12 = .ok (.getfield 94, 3) := by decide +kernel
theorem dX10_comesBy_15 : decode cX10_comesBy 15 = .ok (.iload_n 2, 1) := by decide +kernel
theorem dX10_comesBy_16 : decode cX10_comesBy 16 = .ok (.iaload, 1) := by decide +kernel
theorem dX10_comesBy_17 : decode cX10_comesBy 17 = .ok (.iload_n 1, 1) := by decide +kernel
theorem dX10_comesBy_18 : decode cX10_comesBy 18 = .ok (.invokevirtual 206, 3) := by decide +kernel
theorem dX10_comesBy_21 : decode cX10_comesBy 21 = .ok (.iconst 0, 1) := by decide +kernel
theorem dX10_comesBy_22 : decode cX10_comesBy 22 = .ok (.istore_n 3, 1) := by decide +kernel
theorem dX10_comesBy_23 : decode cX10_comesBy 23 = .ok (.iload_n 3, 1) := by decide +kernel
theorem dX10_comesBy_24 : decode cX10_comesBy 24 = .ok (.aload_n 0, 1) := by decide +kernel
theorem dX10_comesBy_25 : decode cX10_comesBy 25 = .ok (.getfield 165, 3) := by decide +kernel
theorem dX10_comesBy_28 : decode cX10_comesBy 28 = .ok (.if_icmp .ge 40, 3) := by decide +kernel
theorem dX10_comesBy_31 : decode cX10_comesBy 31 = .ok (.aload_n 0, 1) := by decide +kernel
theorem dX10_comesBy_32 : decode cX10_comesBy 32 = .ok (.getfield 91, 3) := by decide +kernel
theorem dX10_comesBy_35 : decode cX10_comesBy 35 = .ok (.iload_n 2, 1) := by decide +kernel
theorem dX10_comesBy_36 : decode cX10_comesBy 36 = .ok (.iaload, 1) := by decide +kernel
theorem dX10_comesBy_37 : decode cX10_comesBy 37 = .ok (.iconst 1, 1) := by decide +kernel
theorem dX10_comesBy_38 : decode cX10_comesBy 38 = .ok (.if_icmp .le 24, 3) := by decide +kernel
theorem dX10_comesBy_41 : decode cX10_comesBy 41 = .ok (.aload_n 0, 1) := by decide +kernel
theorem dX10_comesBy_42 : decode cX10_comesBy 42 = .ok (.getfield 33, 3) := by decide +kernel
theorem dX10_comesBy_45 : decode cX10_comesBy 45 = .ok (.iload_n 3, 1) := by decide +kernel
theorem dX10_comesBy_46 : decode cX10_comesBy 46 = .ok (.iaload, 1) := by decide +kernel
theorem dX10_comesBy_47 : decode cX10_comesBy 47 = .ok (.aload_n 0, 1) := by decide +kernel
theorem dX10_comesBy_48 : decode cX10_comesBy 48 = .ok (.getfield 94, 3) := by decide +kernel
theorem dX10_comesBy_51 : decode cX10_comesBy 51 = .ok (.iload_n 2, 1) := by decide +kernel
theorem dX10_comesBy_52 : decode cX10_comesBy 52 = .ok (.iaload, 1) := by decide +kernel
theorem dX10_comesBy_53 : decode cX10_comesBy 53 = .ok (.if_icmp .ne 9, 3) := by decide +kernel
theorem dX10_comesBy_56 : decode cX10_comesBy 56 = .ok (.aload_n 0, 1) := by decide +kernel
theorem dX10_comesBy_57 : decode cX10_comesBy 57 = .ok (.iload_n 3, 1) := by decide +kernel
theorem dX10_comesBy_58 : decode cX10_comesBy 58 = .ok (.iload_n 1, 1) := by decide +kernel
theorem dX10_comesBy_59 : decode cX10_comesBy 59 = .ok (.invokevirtual 206, 3) := by decide +kernel
theorem dX10_comesBy_62 : decode cX10_comesBy 62 = .ok (.iinc 3 1, 3) := by decide +kernel
theorem dX10_comesBy_65 : decode cX10_comesBy 65 = .ok (.goto (-42), 3) := by decide +kernel
theorem dX10_comesBy_68 : decode cX10_comesBy 68 = .ok (.return_, 1) := by decide +kernel
theorem dX10_relocationsOf_0 : decode cX10_relocationsOf 0 = .ok (.iconst 0, 1) := by decide +kernel
theorem dX10_relocationsOf_1 : decode cX10_relocationsOf 1 = .ok (.istore_n 2, 1) := by decide +kernel
theorem dX10_relocationsOf_2 : decode cX10_relocationsOf 2 = .ok (.iconst 0, 1) := by decide +kernel
theorem dX10_relocationsOf_3 : decode cX10_relocationsOf 3 = .ok (.istore_n 3, 1) := by decide +kernel
theorem dX10_relocationsOf_4 : decode cX10_relocationsOf 4 = .ok (.iload_n 3, 1) := by decide +kernel
theorem dX10_relocationsOf_5 : decode cX10_relocationsOf 5 = .ok (.aload_n 0, 1) := by decide +kernel
theorem dX10_relocationsOf_6 : decode cX10_relocationsOf 6 = .ok (.getfield 195, 3) := by decide +kernel
theorem dX10_relocationsOf_9 : decode cX10_relocationsOf 9 = .ok (.if_icmp .ge 27, 3) := by decide +kernel
theorem dX10_relocationsOf_12 : decode cX10_relocationsOf 12 = .ok (.iload_n 2, 1) := by decide +kernel
theorem dX10_relocationsOf_13 : decode cX10_relocationsOf 13 = .ok (.aload_n 0, 1) := by decide +kernel
theorem dX10_relocationsOf_14 : decode cX10_relocationsOf 14 = .ok (.getfield 58, 3) := by decide +kernel
theorem dX10_relocationsOf_17 : decode cX10_relocationsOf 17 = .ok (.iload_n 3, 1) := by decide +kernel
theorem dX10_relocationsOf_18 : decode cX10_relocationsOf 18 = .ok (.iaload, 1) := by decide +kernel
theorem dX10_relocationsOf_19 : decode cX10_relocationsOf 19 = .ok (.iload_n 1, 1) := by decide +kernel
theorem dX10_relocationsOf_20 : decode cX10_relocationsOf 20 = .ok (.if_icmp .ne 7, 3) := by decide +kernel
theorem dX10_relocationsOf_23 : decode cX10_relocationsOf 23 = .ok (.iconst 1, 1) := by decide +kernel
theorem dX10_relocationsOf_24 : decode cX10_relocationsOf 24 = .ok (.goto 4, 3) := by decide +kernel
theorem dX10_relocationsOf_27 : decode cX10_relocationsOf 27 = .ok (.iconst 0, 1) := by decide +kernel
theorem dX10_relocationsOf_28 : decode cX10_relocationsOf 28 = .ok (.iadd, 1) := by decide +kernel
theorem dX10_relocationsOf_29 : decode cX10_relocationsOf 29 = .ok (.istore_n 2, 1) := by decide +kernel
theorem dX10_relocationsOf_30 : decode cX10_relocationsOf 30 = .ok (.iinc 3 1, 3) := by decide +kernel
theorem dX10_relocationsOf_33 : decode cX10_relocationsOf 33 = .ok (.goto (-29), 3) := by decide +kernel
theorem dX10_relocationsOf_36 : decode cX10_relocationsOf 36 = .ok (.iload_n 2, 1) := by decide +kernel
theorem dX10_relocationsOf_37 : decode cX10_relocationsOf 37 = .ok (.ireturn, 1) := by decide +kernel
theorem dX10_nth_0 : decode cX10_nth 0 = .ok (.iload_n 2, 1) := by decide +kernel
theorem dX10_nth_1 : decode cX10_nth 1 = .ok (.istore_n 3, 1) := by decide +kernel
theorem dX10_nth_2 : decode cX10_nth 2 = .ok (.iconst 0, 1) := by decide +kernel
theorem dX10_nth_3 : decode cX10_nth 3 = .ok (.istore 4, 2) := by decide +kernel
theorem dX10_nth_5 : decode cX10_nth 5 = .ok (.iload 4, 2) := by decide +kernel
theorem dX10_nth_7 : decode cX10_nth 7 = .ok (.aload_n 0, 1) := by decide +kernel
theorem dX10_nth_8 : decode cX10_nth 8 = .ok (.getfield 195, 3) := by decide +kernel
theorem dX10_nth_11 : decode cX10_nth 11 = .ok (.if_icmp .ge 30, 3) := by decide +kernel
theorem dX10_nth_14 : decode cX10_nth 14 = .ok (.aload_n 0, 1) := by decide +kernel
theorem dX10_nth_15 : decode cX10_nth 15 = .ok (.getfield 58, 3) := by decide +kernel
theorem dX10_nth_18 : decode cX10_nth 18 = .ok (.iload 4, 2) := by decide +kernel
theorem dX10_nth_20 : decode cX10_nth 20 = .ok (.iaload, 1) := by decide +kernel
theorem dX10_nth_21 : decode cX10_nth 21 = .ok (.iload_n 1, 1) := by decide +kernel
theorem dX10_nth_22 : decode cX10_nth 22 = .ok (.if_icmp .ne 13, 3) := by decide +kernel
theorem dX10_nth_25 : decode cX10_nth 25 = .ok (.iload_n 3, 1) := by decide +kernel
theorem dX10_nth_26 : decode cX10_nth 26 = .ok (.ifCond .ne 6, 3) := by decide +kernel
theorem dX10_nth_29 : decode cX10_nth 29 = .ok (.iload 4, 2) := by decide +kernel
theorem dX10_nth_31 : decode cX10_nth 31 = .ok (.ireturn, 1) := by decide +kernel
theorem dX10_nth_32 : decode cX10_nth 32 = .ok (.iinc 3 (-1), 3) := by decide +kernel
theorem dX10_nth_35 : decode cX10_nth 35 = .ok (.iinc 4 1, 3) := by decide +kernel
theorem dX10_nth_38 : decode cX10_nth 38 = .ok (.goto (-33), 3) := by decide +kernel
theorem dX10_nth_41 : decode cX10_nth 41 = .ok (.iconst (-1), 1) := by decide +kernel
theorem dX10_nth_42 : decode cX10_nth 42 = .ok (.ireturn, 1) := by decide +kernel
theorem dX10_startsAlike_0 : decode cX10_startsAlike 0 = .ok (.aload_n 0, 1) := by decide +kernel
theorem dX10_startsAlike_1 : decode cX10_startsAlike 1 = .ok (.getfield 17, 3) := by decide +kernel
theorem dX10_startsAlike_4 : decode cX10_startsAlike 4 = .ok (.iload_n 1, 1) := by decide +kernel
theorem dX10_startsAlike_5 : decode cX10_startsAlike 5 = .ok (.iaload, 1) := by decide +kernel
theorem dX10_startsAlike_6 : decode cX10_startsAlike 6 = .ok (.aload_n 0, 1) := by decide +kernel
theorem dX10_startsAlike_7 : decode cX10_startsAlike 7 = .ok (.getfield 17, 3) := by decide +kernel
theorem dX10_startsAlike_10 : decode cX10_startsAlike 10 = .ok (.iload_n 2, 1) := by decide +kernel
theorem dX10_startsAlike_11 : decode cX10_startsAlike 11 = .ok (.iaload, 1) := by decide +kernel
theorem dX10_startsAlike_12 : decode cX10_startsAlike 12 = .ok (.if_icmp .ne 46, 3) := by decide +kernel
theorem dX10_startsAlike_15 : decode cX10_startsAlike 15 = .ok (.aload_n 0, 1) := by decide +kernel
theorem dX10_startsAlike_16 : decode cX10_startsAlike 16 = .ok (.getfield 20, 3) := by decide +kernel
theorem dX10_startsAlike_19 : decode cX10_startsAlike 19 = .ok (.iload_n 1, 1) := by decide +kernel
theorem dX10_startsAlike_20 : decode cX10_startsAlike 20 = .ok (.iaload, 1) := by decide +kernel
theorem dX10_startsAlike_21 : decode cX10_startsAlike 21 = .ok (.aload_n 0, 1) := by decide +kernel
theorem dX10_startsAlike_22 : decode cX10_startsAlike 22 = .ok (.getfield 20, 3) := by decide +kernel
theorem dX10_startsAlike_25 : decode cX10_startsAlike 25 = .ok (.iload_n 2, 1) := by decide +kernel
theorem dX10_startsAlike_26 : decode cX10_startsAlike 26 = .ok (.iaload, 1) := by decide +kernel
theorem dX10_startsAlike_27 : decode cX10_startsAlike 27 = .ok (.if_icmp .ne 31, 3) := by decide +kernel
theorem dX10_startsAlike_30 : decode cX10_startsAlike 30 = .ok (.aload_n 0, 1) := by decide +kernel
theorem dX10_startsAlike_31 : decode cX10_startsAlike 31 = .ok (.getfield 23, 3) := by decide +kernel
theorem dX10_startsAlike_34 : decode cX10_startsAlike 34 = .ok (.iload_n 1, 1) := by decide +kernel
theorem dX10_startsAlike_35 : decode cX10_startsAlike 35 = .ok (.iaload, 1) := by decide +kernel
theorem dX10_startsAlike_36 : decode cX10_startsAlike 36 = .ok (.aload_n 0, 1) := by decide +kernel
theorem dX10_startsAlike_37 : decode cX10_startsAlike 37 = .ok (.getfield 23, 3) := by decide +kernel
theorem dX10_startsAlike_40 : decode cX10_startsAlike 40 = .ok (.iload_n 2, 1) := by decide +kernel
theorem dX10_startsAlike_41 : decode cX10_startsAlike 41 = .ok (.iaload, 1) := by decide +kernel
theorem dX10_startsAlike_42 : decode cX10_startsAlike 42 = .ok (.if_icmp .ne 16, 3) := by decide +kernel
theorem dX10_startsAlike_45 : decode cX10_startsAlike 45 = .ok (.aload_n 0, 1) := by decide +kernel
theorem dX10_startsAlike_46 : decode cX10_startsAlike 46 = .ok (.iload_n 1, 1) := by decide +kernel
theorem dX10_startsAlike_47 : decode cX10_startsAlike 47 = .ok (.invokevirtual 213, 3) := by decide +kernel
theorem dX10_startsAlike_50 : decode cX10_startsAlike 50 = .ok (.aload_n 0, 1) := by decide +kernel
theorem dX10_startsAlike_51 : decode cX10_startsAlike 51 = .ok (.iload_n 2, 1) := by decide +kernel
theorem dX10_startsAlike_52 : decode cX10_startsAlike 52 = .ok (.invokevirtual 213, 3) := by decide +kernel
theorem dX10_startsAlike_55 : decode cX10_startsAlike 55 = .ok (.if_icmp .eq 5, 3) := by decide +kernel
theorem dX10_startsAlike_58 : decode cX10_startsAlike 58 = .ok (.iconst 0, 1) := by decide +kernel
theorem dX10_startsAlike_59 : decode cX10_startsAlike 59 = .ok (.ireturn, 1) := by decide +kernel
theorem dX10_startsAlike_60 : decode cX10_startsAlike 60 = .ok (.iconst 0, 1) := by decide +kernel
theorem dX10_startsAlike_61 : decode cX10_startsAlike 61 = .ok (.istore_n 3, 1) := by decide +kernel
theorem dX10_startsAlike_62 : decode cX10_startsAlike 62 = .ok (.iload_n 3, 1) := by decide +kernel
theorem dX10_startsAlike_63 : decode cX10_startsAlike 63 = .ok (.aload_n 0, 1) := by decide +kernel
theorem dX10_startsAlike_64 : decode cX10_startsAlike 64 = .ok (.getfield 20, 3) := by decide +kernel
theorem dX10_startsAlike_67 : decode cX10_startsAlike 67 = .ok (.iload_n 1, 1) := by decide +kernel
theorem dX10_startsAlike_68 : decode cX10_startsAlike 68 = .ok (.iaload, 1) := by decide +kernel
theorem dX10_startsAlike_69 : decode cX10_startsAlike 69 = .ok (.if_icmp .ge 40, 3) := by decide +kernel
theorem dX10_startsAlike_72 : decode cX10_startsAlike 72 = .ok (.aload_n 0, 1) := by decide +kernel
theorem dX10_startsAlike_73 : decode cX10_startsAlike 73 = .ok (.getfield 40, 3) := by decide +kernel
theorem dX10_startsAlike_76 : decode cX10_startsAlike 76 = .ok (.aload_n 0, 1) := by decide +kernel
theorem dX10_startsAlike_77 : decode cX10_startsAlike 77 = .ok (.getfield 26, 3) := by decide +kernel
theorem dX10_startsAlike_80 : decode cX10_startsAlike 80 = .ok (.iload_n 1, 1) := by decide +kernel
theorem dX10_startsAlike_81 : decode cX10_startsAlike 81 = .ok (.iaload, 1) := by decide +kernel
theorem dX10_startsAlike_82 : decode cX10_startsAlike 82 = .ok (.iload_n 3, 1) := by decide +kernel
theorem dX10_startsAlike_83 : decode cX10_startsAlike 83 = .ok (.iadd, 1) := by decide +kernel
theorem dX10_startsAlike_84 : decode cX10_startsAlike 84 = .ok (.iaload, 1) := by decide +kernel
theorem dX10_startsAlike_85 : decode cX10_startsAlike 85 = .ok (.aload_n 0, 1) := by decide +kernel
theorem dX10_startsAlike_86 : decode cX10_startsAlike 86 = .ok (.getfield 40, 3) := by decide +kernel
theorem dX10_startsAlike_89 : decode cX10_startsAlike 89 = .ok (.aload_n 0, 1) := by decide +kernel
theorem dX10_startsAlike_90 : decode cX10_startsAlike 90 = .ok (.getfield 26, 3) := by decide +kernel
theorem dX10_startsAlike_93 : decode cX10_startsAlike 93 = .ok (.iload_n 2, 1) := by decide +kernel
theorem dX10_startsAlike_94 : decode cX10_startsAlike 94 = .ok (.iaload, 1) := by decide +kernel
theorem dX10_startsAlike_95 : decode cX10_startsAlike 95 = .ok (.iload_n 3, 1) := by decide +kernel
theorem dX10_startsAlike_96 : decode cX10_startsAlike 96 = .ok (.iadd, 1) := by decide +kernel
theorem dX10_startsAlike_97 : decode cX10_startsAlike 97 = .ok (.iaload, 1) := by decide +kernel
theorem dX10_startsAlike_98 : decode cX10_startsAlike 98 = .ok (.if_icmp .eq 5, 3) := by decide +kernel
theorem dX10_startsAlike_101 : decode cX10_startsAlike 101 = .ok (.iconst 0, 1) := by decide +kernel
theorem dX10_startsAlike_102 : decode cX10_startsAlike 102 = .ok (.ireturn, 1) := by decide +kernel
theorem dX10_startsAlike_103 : decode cX10_startsAlike 103 = .ok (.iinc 3 1, 3) := by decide +kernel
theorem dX10_startsAlike_106 : decode cX10_startsAlike 106 = .ok (.goto (-44), 3) := by decide +kernel
theorem dX10_startsAlike_109 : decode cX10_startsAlike 109 = .ok (.iconst 1, 1) := by decide +kernel
theorem dX10_startsAlike_110 : decode cX10_startsAlike 110 = .ok (.ireturn, 1) := by decide +kernel
theorem dX10_staysAlike_0 : decode cX10_staysAlike 0 = .ok (.aload_n 0, 1) := by decide +kernel
theorem dX10_staysAlike_1 : decode cX10_staysAlike 1 = .ok (.iload_n 1, 1) := by decide +kernel
theorem dX10_staysAlike_2 : decode cX10_staysAlike 2 = .ok (.invokevirtual 213, 3) := by decide +kernel
theorem dX10_staysAlike_5 : decode cX10_staysAlike 5 = .ok (.istore_n 3, 1) := by decide +kernel
theorem dX10_staysAlike_6 : decode cX10_staysAlike 6 = .ok (.iconst 0, 1) := by decide +kernel
theorem dX10_staysAlike_7 : decode cX10_staysAlike 7 = .ok (.istore 4, 2) := by decide +kernel
theorem dX10_staysAlike_9 : decode cX10_staysAlike 9 = .ok (.iload 4, 2) := by decide +kernel
theorem dX10_staysAlike_11 : decode cX10_staysAlike 11 = .ok (.iload_n 3, 1) := by decide +kernel
theorem dX10_staysAlike_12 : decode cX10_staysAlike 12 = .ok (.if_icmp .ge 210, 3) := by decide +kernel
theorem dX10_staysAlike_15 : decode cX10_staysAlike 15 = .ok (.aload_n 0, 1) := by decide +kernel
theorem dX10_staysAlike_16 : decode cX10_staysAlike 16 = .ok (.iload_n 1, 1) := by decide +kernel
theorem dX10_staysAlike_17 : decode cX10_staysAlike 17 = .ok (.iload 4, 2) := by decide +kernel
theorem dX10_staysAlike_19 : decode cX10_staysAlike 19 = .ok (.invokevirtual 216, 3) := by decide +kernel
theorem dX10_staysAlike_22 : decode cX10_staysAlike 22 = .ok (.istore 5, 2) := by decide +kernel
theorem dX10_staysAlike_24 : decode cX10_staysAlike 24 = .ok (.aload_n 0, 1) := by decide +kernel
theorem dX10_staysAlike_25 : decode cX10_staysAlike 25 = .ok (.iload_n 2, 1) := by decide +kernel
theorem dX10_staysAlike_26 : decode cX10_staysAlike 26 = .ok (.iload 4, 2) := by decide +kernel
theorem dX10_staysAlike_28 : decode cX10_staysAlike 28 = .ok (.invokevirtual 216, 3) := by decide +kernel
theorem dX10_staysAlike_31 : decode cX10_staysAlike 31 = .ok (.istore 6, 2) := by decide +kernel
theorem dX10_staysAlike_33 : decode cX10_staysAlike 33 = .ok (.aload_n 0, 1) := by decide +kernel
theorem dX10_staysAlike_34 : decode cX10_staysAlike 34 = .ok (.getfield 67, 3) := by decide +kernel
theorem dX10_staysAlike_37 : decode cX10_staysAlike 37 = .ok (.iload 5, 2) := by decide +kernel
theorem dX10_staysAlike_39 : decode cX10_staysAlike 39 = .ok (.iaload, 1) := by decide +kernel
theorem dX10_staysAlike_40 : decode cX10_staysAlike 40 = .ok (.istore 7, 2) := by decide +kernel
theorem dX10_staysAlike_42 : decode cX10_staysAlike 42 = .ok (.aload_n 0, 1) := by decide +kernel
theorem dX10_staysAlike_43 : decode cX10_staysAlike 43 = .ok (.getfield 67, 3) := by decide +kernel
theorem dX10_staysAlike_46 : decode cX10_staysAlike 46 = .ok (.iload 6, 2) := by decide +kernel
theorem dX10_staysAlike_48 : decode cX10_staysAlike 48 = .ok (.iaload, 1) := by decide +kernel
theorem dX10_staysAlike_49 : decode cX10_staysAlike 49 = .ok (.istore 8, 2) := by decide +kernel
theorem dX10_staysAlike_51 : decode cX10_staysAlike 51 = .ok (.aload_n 0, 1) := by decide +kernel
theorem dX10_staysAlike_52 : decode cX10_staysAlike 52 = .ok (.getfield 61, 3) := by decide +kernel
theorem dX10_staysAlike_55 : decode cX10_staysAlike 55 = .ok (.iload 5, 2) := by decide +kernel
theorem dX10_staysAlike_57 : decode cX10_staysAlike 57 = .ok (.iaload, 1) := by decide +kernel
theorem dX10_staysAlike_58 : decode cX10_staysAlike 58 = .ok (.aload_n 0, 1) := by decide +kernel
theorem dX10_staysAlike_59 : decode cX10_staysAlike 59 = .ok (.getfield 61, 3) := by decide +kernel
theorem dX10_staysAlike_62 : decode cX10_staysAlike 62 = .ok (.iload 6, 2) := by decide +kernel
theorem dX10_staysAlike_64 : decode cX10_staysAlike 64 = .ok (.iaload, 1) := by decide +kernel
theorem dX10_staysAlike_65 : decode cX10_staysAlike 65 = .ok (.if_icmp .ne 54, 3) := by decide +kernel
theorem dX10_staysAlike_68 : decode cX10_staysAlike 68 = .ok (.aload_n 0, 1) := by decide +kernel
theorem dX10_staysAlike_69 : decode cX10_staysAlike 69 = .ok (.getfield 64, 3) := by decide +kernel
theorem dX10_staysAlike_72 : decode cX10_staysAlike 72 = .ok (.iload 5, 2) := by decide +kernel
theorem dX10_staysAlike_74 : decode cX10_staysAlike 74 = .ok (.iaload, 1) := by decide +kernel
theorem dX10_staysAlike_75 : decode cX10_staysAlike 75 = .ok (.aload_n 0, 1) := by decide +kernel
theorem dX10_staysAlike_76 : decode cX10_staysAlike 76 = .ok (.getfield 64, 3) := by decide +kernel
theorem dX10_staysAlike_79 : decode cX10_staysAlike 79 = .ok (.iload 6, 2) := by decide +kernel
theorem dX10_staysAlike_81 : decode cX10_staysAlike 81 = .ok (.iaload, 1) := by decide +kernel
theorem dX10_staysAlike_82 : decode cX10_staysAlike 82 = .ok (.if_icmp .ne 37, 3) := by decide +kernel
theorem dX10_staysAlike_85 : decode cX10_staysAlike 85 = .ok (.aload_n 0, 1) := by decide +kernel
theorem dX10_staysAlike_86 : decode cX10_staysAlike 86 = .ok (.getfield 70, 3) := by decide +kernel
theorem dX10_staysAlike_89 : decode cX10_staysAlike 89 = .ok (.iload 5, 2) := by decide +kernel
theorem dX10_staysAlike_91 : decode cX10_staysAlike 91 = .ok (.iaload, 1) := by decide +kernel
theorem dX10_staysAlike_92 : decode cX10_staysAlike 92 = .ok (.aload_n 0, 1) := by decide +kernel
theorem dX10_staysAlike_93 : decode cX10_staysAlike 93 = .ok (.getfield 70, 3) := by decide +kernel
theorem dX10_staysAlike_96 : decode cX10_staysAlike 96 = .ok (.iload 6, 2) := by decide +kernel
theorem dX10_staysAlike_98 : decode cX10_staysAlike 98 = .ok (.iaload, 1) := by decide +kernel
theorem dX10_staysAlike_99 : decode cX10_staysAlike 99 = .ok (.if_icmp .ne 20, 3) := by decide +kernel
theorem dX10_staysAlike_102 : decode cX10_staysAlike 102 = .ok (.aload_n 0, 1) := by decide +kernel
theorem dX10_staysAlike_103 : decode cX10_staysAlike 103 = .ok (.getfield 91, 3) := by decide +kernel
theorem dX10_staysAlike_106 : decode cX10_staysAlike 106 = .ok (.iload 7, 2) := by decide +kernel
theorem dX10_staysAlike_108 : decode cX10_staysAlike 108 = .ok (.iaload, 1) := by decide +kernel
theorem dX10_staysAlike_109 : decode cX10_staysAlike 109 = .ok (.aload_n 0, 1) := by decide +kernel
theorem dX10_staysAlike_110 : decode cX10_staysAlike 110 = .ok (.getfield 91, 3) := by decide +kernel
theorem dX10_staysAlike_113 : decode cX10_staysAlike 113 = .ok (.iload 8, 2) := by decide +kernel
theorem dX10_staysAlike_115 : decode cX10_staysAlike 115 = .ok (.iaload, 1) := by decide +kernel
theorem dX10_staysAlike_116 : decode cX10_staysAlike 116 = .ok (.if_icmp .eq 5, 3) := by decide +kernel
theorem dX10_staysAlike_119 : decode cX10_staysAlike 119 = .ok (.iconst 0, 1) := by decide +kernel
theorem dX10_staysAlike_120 : decode cX10_staysAlike 120 = .ok (.ireturn, 1) := by decide +kernel
theorem dX10_staysAlike_121 : decode cX10_staysAlike 121 = .ok (.aload_n 0, 1) := by decide +kernel
theorem dX10_staysAlike_122 : decode cX10_staysAlike 122 = .ok (.getfield 94, 3) := by decide +kernel
theorem dX10_staysAlike_125 : decode cX10_staysAlike 125 = .ok (.iload 7, 2) := by decide +kernel
theorem dX10_staysAlike_127 : decode cX10_staysAlike 127 = .ok (.iaload, 1) := by decide +kernel
theorem dX10_staysAlike_128 : decode cX10_staysAlike 128 = .ok (.aload_n 0, 1) := by decide +kernel
theorem dX10_staysAlike_129 : decode cX10_staysAlike 129 = .ok (.getfield 94, 3) := by decide +kernel
theorem dX10_staysAlike_132 : decode cX10_staysAlike 132 = .ok (.iload 8, 2) := by decide +kernel
theorem dX10_staysAlike_134 : decode cX10_staysAlike 134 = .ok (.iaload, 1) := by decide +kernel
theorem dX10_staysAlike_135 : decode cX10_staysAlike 135 = .ok (.if_icmp .eq 40, 3) := by decide +kernel
theorem dX10_staysAlike_138 : decode cX10_staysAlike 138 = .ok (.aload_n 0, 1) := by decide +kernel
theorem dX10_staysAlike_139 : decode cX10_staysAlike 139 = .ok (.getfield 91, 3) := by decide +kernel
theorem dX10_staysAlike_142 : decode cX10_staysAlike 142 = .ok (.iload 7, 2) := by decide +kernel
theorem dX10_staysAlike_144 : decode cX10_staysAlike 144 = .ok (.iaload, 1) := by decide +kernel
theorem dX10_staysAlike_145 : decode cX10_staysAlike 145 = .ok (.iconst 1, 1) := by decide +kernel
theorem dX10_staysAlike_146 : decode cX10_staysAlike 146 = .ok (.if_icmp .ne 33, 3) := by decide +kernel
theorem dX10_staysAlike_149 : decode cX10_staysAlike 149 = .ok (.aload_n 0, 1) := by decide +kernel
theorem dX10_staysAlike_150 : decode cX10_staysAlike 150 = .ok (.getfield 118, 3) := by decide +kernel
theorem dX10_staysAlike_153 : decode cX10_staysAlike 153 = .ok (.bipush 60, 2) := by decide +kernel
theorem dX10_staysAlike_155 : decode cX10_staysAlike 155 = .ok (.aload_n 0, 1) := by decide +kernel
theorem dX10_staysAlike_156 : decode cX10_staysAlike 156 = .ok (.getfield 94, 3) := by decide +kernel
theorem dX10_staysAlike_159 : decode cX10_staysAlike 159 = .ok (.iload 7, 2) := by decide +kernel
theorem dX10_staysAlike_161 : decode cX10_staysAlike 161 = .ok (.iaload, 1) := by decide +kernel
theorem dX10_staysAlike_162 : decode cX10_staysAlike 162 = .ok (.imul, 1) := by decide +kernel
theorem dX10_staysAlike_163 : decode cX10_staysAlike 163 = .ok (.aload_n 0, 1) := by decide +kernel
theorem dX10_staysAlike_164 : decode cX10_staysAlike 164 = .ok (.getfield 94, 3) := by decide +kernel
theorem dX10_staysAlike_167 : decode cX10_staysAlike 167 = .ok (.iload 8, 2) := by decide +kernel
theorem dX10_staysAlike_169 : decode cX10_staysAlike 169 = .ok (.iaload, 1) := by decide +kernel
theorem dX10_staysAlike_170 : decode cX10_staysAlike 170 = .ok (.iadd, 1) := by decide +kernel
theorem dX10_staysAlike_171 : decode cX10_staysAlike 171 = .ok (.baload, 1) := by decide +kernel
theorem dX10_staysAlike_172 : decode cX10_staysAlike 172 = .ok (.ifCond .eq 7, 3) := by decide +kernel
theorem dX10_staysAlike_175 : decode cX10_staysAlike 175 = .ok (.iconst 1, 1) := by decide +kernel
theorem dX10_staysAlike_176 : decode cX10_staysAlike 176 = .ok (.goto 4, 3) := by decide +kernel
theorem dX10_staysAlike_179 : decode cX10_staysAlike 179 = .ok (.iconst 0, 1) := by decide +kernel
theorem dX10_staysAlike_180 : decode cX10_staysAlike 180 = .ok (.istore 9, 2) := by decide +kernel
theorem dX10_staysAlike_182 : decode cX10_staysAlike 182 = .ok (.aload_n 0, 1) := by decide +kernel
theorem dX10_staysAlike_183 : decode cX10_staysAlike 183 = .ok (.getfield 91, 3) := by decide +kernel
theorem dX10_staysAlike_186 : decode cX10_staysAlike 186 = .ok (.iload 7, 2) := by decide +kernel
theorem dX10_staysAlike_188 : decode cX10_staysAlike 188 = .ok (.iaload, 1) := by decide +kernel
theorem dX10_staysAlike_189 : decode cX10_staysAlike 189 = .ok (.ifCond .eq 27, 3) := by decide +kernel
theorem dX10_staysAlike_192 : decode cX10_staysAlike 192 = .ok (.iload 9, 2) := by decide +kernel
theorem dX10_staysAlike_194 : decode cX10_staysAlike 194 = .ok (.ifCond .eq 20, 3) := by decide +kernel
theorem dX10_staysAlike_197 : decode cX10_staysAlike 197 = .ok (.aload_n 0, 1) := by decide +kernel
theorem dX10_staysAlike_198 : decode cX10_staysAlike 198 = .ok (.getfield 97, 3) := by decide +kernel
theorem dX10_staysAlike_201 : decode cX10_staysAlike 201 = .ok (.iload 7, 2) := by decide +kernel
theorem dX10_staysAlike_203 : decode cX10_staysAlike 203 = .ok (.iaload, 1) := by decide +kernel
theorem dX10_staysAlike_204 : decode cX10_staysAlike 204 = .ok (.aload_n 0, 1) := by decide +kernel
theorem dX10_staysAlike_205 : decode cX10_staysAlike 205 = .ok (.getfield 97, 3) := by decide +kernel
theorem dX10_staysAlike_208 : decode cX10_staysAlike 208 = .ok (.iload 8, 2) := by decide +kernel
theorem dX10_staysAlike_210 : decode cX10_staysAlike 210 = .ok (.iaload, 1) := by decide +kernel
theorem dX10_staysAlike_211 : decode cX10_staysAlike 211 = .ok (.if_icmp .eq 5, 3) := by decide +kernel
theorem dX10_staysAlike_214 : decode cX10_staysAlike 214 = .ok (.iconst 0, 1) := by decide +kernel
theorem dX10_staysAlike_215 : decode cX10_staysAlike 215 = .ok (.ireturn, 1) := by decide +kernel
theorem dX10_staysAlike_216 : decode cX10_staysAlike 216 = .ok (.iinc 4 1, 3) := by decide +kernel
theorem dX10_staysAlike_219 : decode cX10_staysAlike 219 = .ok (.goto (-210), 3) := by decide +kernel
theorem dX10_staysAlike_222 : decode cX10_staysAlike 222 = .ok (.iconst 1, 1) := by decide +kernel
theorem dX10_staysAlike_223 : decode cX10_staysAlike 223 = .ok (.ireturn, 1) := by decide +kernel
theorem dX10_foldAll_0 : decode cX10_foldAll 0 = .ok (.iconst 0, 1) := by decide +kernel
theorem dX10_foldAll_1 : decode cX10_foldAll 1 = .ok (.istore_n 2, 1) := by decide +kernel
theorem dX10_foldAll_2 : decode cX10_foldAll 2 = .ok (.iload_n 2, 1) := by decide +kernel
theorem dX10_foldAll_3 : decode cX10_foldAll 3 = .ok (.bipush 60, 2) := by decide +kernel
theorem dX10_foldAll_5 : decode cX10_foldAll 5 = .ok (.if_icmp .ge 77, 3) := by decide +kernel
theorem dX10_foldAll_8 : decode cX10_foldAll 8 = .ok (.aload_n 0, 1) := by decide +kernel
theorem dX10_foldAll_9 : decode cX10_foldAll 9 = .ok (.getfield 112, 3) := by decide +kernel
theorem dX10_foldAll_12 : decode cX10_foldAll 12 = .ok (.iload_n 2, 1) := by decide +kernel
theorem dX10_foldAll_13 : decode cX10_foldAll 13 = .ok (.iconst (-1), 1) := by decide +kernel
theorem dX10_foldAll_14 : decode cX10_foldAll 14 = .ok (.iastore, 1) := by decide +kernel
theorem dX10_foldAll_15 : decode cX10_foldAll 15 = .ok (.aload_n 0, 1) := by decide +kernel
theorem dX10_foldAll_16 : decode cX10_foldAll 16 = .ok (.getfield 115, 3) := by decide +kernel
theorem dX10_foldAll_19 : decode cX10_foldAll 19 = .ok (.iload_n 2, 1) := by decide +kernel
theorem dX10_foldAll_20 : decode cX10_foldAll 20 = .ok (.iload_n 1, 1) := by decide +kernel
theorem dX10_foldAll_21 : decode cX10_foldAll 21 = .ok (.ifCond .eq 53, 3) := by decide +kernel
theorem dX10_foldAll_24 : decode cX10_foldAll 24 = .ok (.iload_n 2, 1) := by decide +kernel
theorem dX10_foldAll_25 : decode cX10_foldAll 25 = .ok (.aload_n 0, 1) := by decide +kernel
theorem dX10_foldAll_26 : decode cX10_foldAll 26 = .ok (.getfield 165, 3) := by decide +kernel
theorem dX10_foldAll_29 : decode cX10_foldAll 29 = .ok (.if_icmp .ge 45, 3) := by decide +kernel
theorem dX10_foldAll_32 : decode cX10_foldAll 32 = .ok (.aload_n 0, 1) := by decide +kernel
theorem dX10_foldAll_33 : decode cX10_foldAll 33 = .ok (.getfield 103, 3) := by decide +kernel
theorem dX10_foldAll_36 : decode cX10_foldAll 36 = .ok (.iload_n 2, 1) := by decide +kernel
theorem dX10_foldAll_37 : decode cX10_foldAll 37 = .ok (.baload, 1) := by decide +kernel
theorem dX10_foldAll_38 : decode cX10_foldAll 38 = .ok (.ifCond .eq 36, 3) := by decide +kernel
theorem dX10_foldAll_41 : decode cX10_foldAll 41 = .ok (.aload_n 0, 1) := by decide +kernel
theorem dX10_foldAll_42 : decode cX10_foldAll 42 = .ok (.getfield 17, 3) := by decide +kernel
theorem dX10_foldAll_45 : decode cX10_foldAll 45 = .ok (.iload_n 2, 1) := by decide +kernel
theorem dX10_foldAll_46 : decode cX10_foldAll 46 = .ok (.iaload, 1) := by decide +kernel
theorem dX10_foldAll_47 : decode cX10_foldAll 47 = .ok (.iconst 2, 1) := by decide +kernel
theorem dX10_foldAll_48 : decode cX10_foldAll 48 = .ok (.if_icmp .ge 26, 3) := by decide +kernel
theorem dX10_foldAll_51 : decode cX10_foldAll 51 = .ok (.aload_n 0, 1) := by decide +kernel
theorem dX10_foldAll_52 : decode cX10_foldAll 52 = .ok (.getfield 29, 3) := by decide +kernel
theorem dX10_foldAll_55 : decode cX10_foldAll 55 = .ok (.iload_n 2, 1) := by decide +kernel
theorem dX10_foldAll_56 : decode cX10_foldAll 56 = .ok (.baload, 1) := by decide +kernel
theorem dX10_foldAll_57 : decode cX10_foldAll 57 = .ok (.ifCond .ne 17, 3) := by decide +kernel
theorem dX10_foldAll_60 : decode cX10_foldAll 60 = .ok (.aload_n 0, 1) := by decide +kernel
theorem dX10_foldAll_61 : decode cX10_foldAll 61 = .ok (.getfield 33, 3) := by decide +kernel
theorem dX10_foldAll_64 : decode cX10_foldAll 64 = .ok (.iload_n 2, 1) := by decide +kernel
theorem dX10_foldAll_65 : decode cX10_foldAll 65 = .ok (.iaload, 1) := by decide +kernel
theorem dX10_foldAll_66 : decode cX10_foldAll 66 = .ok (.iconst (-1), 1) := by decide +kernel
theorem dX10_foldAll_67 : decode cX10_foldAll 67 = .ok (.if_icmp .ne 7, 3) := by decide +kernel
theorem dX10_foldAll_70 : decode cX10_foldAll 70 = .ok (.iconst 1, 1) := by decide +kernel
theorem dX10_foldAll_71 : decode cX10_foldAll 71 = .ok (.goto 4, 3) := by decide +kernel
theorem dX10_foldAll_74 : decode cX10_foldAll 74 = .ok (.iconst 0, 1) := by decide +kernel
theorem dX10_foldAll_75 : decode cX10_foldAll 75 = .ok (.bastore, 1) := by decide +kernel
theorem dX10_foldAll_76 : decode cX10_foldAll 76 = .ok (.iinc 2 1, 3) := by decide +kernel
theorem dX10_foldAll_79 : decode cX10_foldAll 79 = .ok (.goto (-77), 3) := by decide +kernel
theorem dX10_foldAll_82 : decode cX10_foldAll 82 = .ok (.iconst 0, 1) := by decide +kernel
theorem dX10_foldAll_83 : decode cX10_foldAll 83 = .ok (.istore_n 2, 1) := by decide +kernel
theorem dX10_foldAll_84 : decode cX10_foldAll 84 = .ok (.iload_n 2, 1) := by decide +kernel
theorem dX10_foldAll_85 : decode cX10_foldAll 85 = .ok (.aload_n 0, 1) := by decide +kernel
theorem dX10_foldAll_86 : decode cX10_foldAll 86 = .ok (.getfield 195, 3) := by decide +kernel
theorem dX10_foldAll_89 : decode cX10_foldAll 89 = .ok (.if_icmp .ge 62, 3) := by decide +kernel
theorem dX10_foldAll_92 : decode cX10_foldAll 92 = .ok (.aload_n 0, 1) := by decide +kernel
theorem dX10_foldAll_93 : decode cX10_foldAll 93 = .ok (.getfield 67, 3) := by decide +kernel
theorem dX10_foldAll_96 : decode cX10_foldAll 96 = .ok (.iload_n 2, 1) := by decide +kernel
theorem dX10_foldAll_97 : decode cX10_foldAll 97 = .ok (.iaload, 1) := by decide +kernel
theorem dX10_foldAll_98 : decode cX10_foldAll 98 = .ok (.istore_n 3, 1) := by decide +kernel
theorem dX10_foldAll_99 : decode cX10_foldAll 99 = .ok (.aload_n 0, 1) := by decide +kernel
theorem dX10_foldAll_100 : decode cX10_foldAll 100 = .ok (.getfield 103, 3) := by decide +kernel
theorem dX10_foldAll_103 : decode cX10_foldAll 103 = .ok (.aload_n 0, 1) := by decide +kernel
theorem dX10_foldAll_104 : decode cX10_foldAll 104 = .ok (.getfield 58, 3) := by decide +kernel
theorem dX10_foldAll_107 : decode cX10_foldAll 107 = .ok (.iload_n 2, 1) := by decide +kernel
theorem dX10_foldAll_108 : decode cX10_foldAll 108 = .ok (.iaload, 1) := by decide +kernel
theorem dX10_foldAll_109 : decode cX10_foldAll 109 = .ok (.baload, 1) := by decide +kernel
theorem dX10_foldAll_110 : decode cX10_foldAll 110 = .ok (.ifCond .eq 35, 3) := by decide +kernel
theorem dX10_foldAll_113 : decode cX10_foldAll 113 = .ok (.aload_n 0, 1) := by decide +kernel
theorem dX10_foldAll_114 : decode cX10_foldAll 114 = .ok (.getfield 91, 3) := by decide +kernel
theorem dX10_foldAll_117 : decode cX10_foldAll 117 = .ok (.iload_n 3, 1) := by decide +kernel
theorem dX10_foldAll_118 : decode cX10_foldAll 118 = .ok (.iaload, 1) := by decide +kernel
theorem dX10_foldAll_119 : decode cX10_foldAll 119 = .ok (.iconst 1, 1) := by decide +kernel
theorem dX10_foldAll_120 : decode cX10_foldAll 120 = .ok (.if_icmp .ne 25, 3) := by decide +kernel
theorem dX10_foldAll_123 : decode cX10_foldAll 123 = .ok (.aload_n 0, 1) := by decide +kernel
theorem dX10_foldAll_124 : decode cX10_foldAll 124 = .ok (.getfield 64, 3) := by decide +kernel
theorem dX10_foldAll_127 : decode cX10_foldAll 127 = .ok (.iload_n 2, 1) := by decide +kernel
theorem dX10_foldAll_128 : decode cX10_foldAll 128 = .ok (.iaload, 1) := by decide +kernel
theorem dX10_foldAll_129 : decode cX10_foldAll 129 = .ok (.iconst 3, 1) := by decide +kernel
theorem dX10_foldAll_130 : decode cX10_foldAll 130 = .ok (.if_icmp .eq 15, 3) := by decide +kernel
theorem dX10_foldAll_133 : decode cX10_foldAll 133 = .ok (.aload_n 0, 1) := by decide +kernel
theorem dX10_foldAll_134 : decode cX10_foldAll 134 = .ok (.getfield 115, 3) := by decide +kernel
theorem dX10_foldAll_137 : decode cX10_foldAll 137 = .ok (.aload_n 0, 1) := by decide +kernel
theorem dX10_foldAll_138 : decode cX10_foldAll 138 = .ok (.getfield 94, 3) := by decide +kernel
theorem dX10_foldAll_141 : decode cX10_foldAll 141 = .ok (.iload_n 3, 1) := by decide +kernel
theorem dX10_foldAll_142 : decode cX10_foldAll 142 = .ok (.iaload, 1) := by decide +kernel
theorem dX10_foldAll_143 : decode cX10_foldAll 143 = .ok (.iconst 0, 1) := by decide +kernel
theorem dX10_foldAll_144 : decode cX10_foldAll 144 = .ok (.bastore, 1) := by decide +kernel
theorem dX10_foldAll_145 : decode cX10_foldAll 145 = .ok (.iinc 2 1, 3) := by decide +kernel
theorem dX10_foldAll_148 : decode cX10_foldAll 148 = .ok (.goto (-64), 3) := by decide +kernel
theorem dX10_foldAll_151 : decode cX10_foldAll 151 = .ok (.iconst 0, 1) := by decide +kernel
theorem dX10_foldAll_152 : decode cX10_foldAll 152 = .ok (.istore_n 2, 1) := by decide +kernel
theorem dX10_foldAll_153 : decode cX10_foldAll 153 = .ok (.iload_n 2, 1) := by decide +kernel
theorem dX10_foldAll_154 : decode cX10_foldAll 154 = .ok (.aload_n 0, 1) := by decide +kernel
theorem dX10_foldAll_155 : decode cX10_foldAll 155 = .ok (.getfield 165, 3) := by decide +kernel
theorem dX10_foldAll_158 : decode cX10_foldAll 158 = .ok (.if_icmp .ge 73, 3) := by decide +kernel
theorem dX10_foldAll_161 : decode cX10_foldAll 161 = .ok (.iconst 0, 1) := by decide +kernel
theorem dX10_foldAll_162 : decode cX10_foldAll 162 = .ok (.istore_n 3, 1) := by decide +kernel
theorem dX10_foldAll_163 : decode cX10_foldAll 163 = .ok (.iload_n 3, 1) := by decide +kernel
theorem dX10_foldAll_164 : decode cX10_foldAll 164 = .ok (.aload_n 0, 1) := by decide +kernel
theorem dX10_foldAll_165 : decode cX10_foldAll 165 = .ok (.getfield 165, 3) := by decide +kernel
theorem dX10_foldAll_168 : decode cX10_foldAll 168 = .ok (.if_icmp .ge 57, 3) := by decide +kernel
theorem dX10_foldAll_171 : decode cX10_foldAll 171 = .ok (.aload_n 0, 1) := by decide +kernel
theorem dX10_foldAll_172 : decode cX10_foldAll 172 = .ok (.getfield 118, 3) := by decide +kernel
theorem dX10_foldAll_175 : decode cX10_foldAll 175 = .ok (.bipush 60, 2) := by decide +kernel
theorem dX10_foldAll_177 : decode cX10_foldAll 177 = .ok (.iload_n 2, 1) := by decide +kernel
theorem dX10_foldAll_178 : decode cX10_foldAll 178 = .ok (.imul, 1) := by decide +kernel
theorem dX10_foldAll_179 : decode cX10_foldAll 179 = .ok (.iload_n 3, 1) := by decide +kernel
theorem dX10_foldAll_180 : decode cX10_foldAll 180 = .ok (.iadd, 1) := by decide +kernel
theorem dX10_foldAll_181 : decode cX10_foldAll 181 = .ok (.iload_n 2, 1) := by decide +kernel
theorem dX10_foldAll_182 : decode cX10_foldAll 182 = .ok (.iload_n 3, 1) := by decide +kernel
theorem dX10_foldAll_183 : decode cX10_foldAll 183 = .ok (.if_icmp .eq 34, 3) := by decide +kernel
theorem dX10_foldAll_186 : decode cX10_foldAll 186 = .ok (.aload_n 0, 1) := by decide +kernel
theorem dX10_foldAll_187 : decode cX10_foldAll 187 = .ok (.getfield 115, 3) := by decide +kernel
theorem dX10_foldAll_190 : decode cX10_foldAll 190 = .ok (.iload_n 2, 1) := by decide +kernel
theorem dX10_foldAll_191 : decode cX10_foldAll 191 = .ok (.baload, 1) := by decide +kernel
theorem dX10_foldAll_192 : decode cX10_foldAll 192 = .ok (.ifCond .eq 25, 3) := by decide +kernel
theorem dX10_foldAll_195 : decode cX10_foldAll 195 = .ok (.aload_n 0, 1) := by decide +kernel
theorem dX10_foldAll_196 : decode cX10_foldAll 196 = .ok (.getfield 115, 3) := by decide +kernel
theorem dX10_foldAll_199 : decode cX10_foldAll 199 = .ok (.iload_n 3, 1) := by decide +kernel
theorem dX10_foldAll_200 : decode cX10_foldAll 200 = .ok (.baload, 1) := by decide +kernel
theorem dX10_foldAll_201 : decode cX10_foldAll 201 = .ok (.ifCond .eq 16, 3) := by decide +kernel
theorem dX10_foldAll_204 : decode cX10_foldAll 204 = .ok (.aload_n 0, 1) := by decide +kernel
theorem dX10_foldAll_205 : decode cX10_foldAll 205 = .ok (.iload_n 2, 1) := by decide +kernel
theorem dX10_foldAll_206 : decode cX10_foldAll 206 = .ok (.iload_n 3, 1) := by decide +kernel
theorem dX10_foldAll_207 : decode cX10_foldAll 207 = .ok (.invokevirtual 220, 3) := by decide +kernel
theorem dX10_foldAll_210 : decode cX10_foldAll 210 = .ok (.ifCond .eq 7, 3) := by decide +kernel
theorem dX10_foldAll_213 : decode cX10_foldAll 213 = .ok (.iconst 1, 1) := by decide +kernel
theorem dX10_foldAll_214 : decode cX10_foldAll 214 = .ok (.goto 4, 3) := by decide +kernel
theorem dX10_foldAll_217 : decode cX10_foldAll 217 = .ok (.iconst 0, 1) := by decide +kernel
theorem dX10_foldAll_218 : decode cX10_foldAll 218 = .ok (.bastore, 1) := by decide +kernel
theorem dX10_foldAll_219 : decode cX10_foldAll 219 = .ok (.iinc 3 1, 3) := by decide +kernel
theorem dX10_foldAll_222 : decode cX10_foldAll 222 = .ok (.goto (-59), 3) := by decide +kernel
theorem dX10_foldAll_225 : decode cX10_foldAll 225 = .ok (.iinc 2 1, 3) := by decide +kernel
theorem dX10_foldAll_228 : decode cX10_foldAll 228 = .ok (.goto (-75), 3) := by decide +kernel
theorem dX10_foldAll_231 : decode cX10_foldAll 231 = .ok (.iconst 1, 1) := by decide +kernel
theorem dX10_foldAll_232 : decode cX10_foldAll 232 = .ok (.istore_n 2, 1) := by decide +kernel
theorem dX10_foldAll_233 : decode cX10_foldAll 233 = .ok (.iload_n 2, 1) := by decide +kernel
theorem dX10_foldAll_234 : decode cX10_foldAll 234 = .ok (.ifCond .eq 82, 3) := by decide +kernel
theorem dX10_foldAll_237 : decode cX10_foldAll 237 = .ok (.iconst 0, 1) := by decide +kernel
theorem dX10_foldAll_238 : decode cX10_foldAll 238 = .ok (.istore_n 2, 1) := by decide +kernel
theorem dX10_foldAll_239 : decode cX10_foldAll 239 = .ok (.iconst 0, 1) := by decide +kernel
theorem dX10_foldAll_240 : decode cX10_foldAll 240 = .ok (.istore_n 3, 1) := by decide +kernel
theorem dX10_foldAll_241 : decode cX10_foldAll 241 = .ok (.iload_n 3, 1) := by decide +kernel
theorem dX10_foldAll_242 : decode cX10_foldAll 242 = .ok (.aload_n 0, 1) := by decide +kernel
theorem dX10_foldAll_243 : decode cX10_foldAll 243 = .ok (.getfield 165, 3) := by decide +kernel
theorem dX10_foldAll_246 : decode cX10_foldAll 246 = .ok (.if_icmp .ge 67, 3) := by decide +kernel
theorem dX10_foldAll_249 : decode cX10_foldAll 249 = .ok (.iconst 0, 1) := by decide +kernel
theorem dX10_foldAll_250 : decode cX10_foldAll 250 = .ok (.istore 4, 2) := by decide +kernel
theorem dX10_foldAll_252 : decode cX10_foldAll 252 = .ok (.iload 4, 2) := by decide +kernel
theorem dX10_foldAll_254 : decode cX10_foldAll 254 = .ok (.aload_n 0, 1) := by decide +kernel
theorem dX10_foldAll_255 : decode cX10_foldAll 255 = .ok (.getfield 165, 3) := by decide +kernel
theorem dX10_foldAll_258 : decode cX10_foldAll 258 = .ok (.if_icmp .ge 49, 3) := by decide +kernel
theorem dX10_foldAll_261 : decode cX10_foldAll 261 = .ok (.aload_n 0, 1) := by decide +kernel
theorem dX10_foldAll_262 : decode cX10_foldAll 262 = .ok (.getfield 118, 3) := by decide +kernel
theorem dX10_foldAll_265 : decode cX10_foldAll 265 = .ok (.bipush 60, 2) := by decide +kernel
theorem dX10_foldAll_267 : decode cX10_foldAll 267 = .ok (.iload_n 3, 1) := by decide +kernel
theorem dX10_foldAll_268 : decode cX10_foldAll 268 = .ok (.imul, 1) := by decide +kernel
theorem dX10_foldAll_269 : decode cX10_foldAll 269 = .ok (.iload 4, 2) := by decide +kernel
theorem dX10_foldAll_271 : decode cX10_foldAll 271 = .ok (.iadd, 1) := by decide +kernel
theorem dX10_foldAll_272 : decode cX10_foldAll 272 = .ok (.baload, 1) := by decide +kernel
theorem dX10_foldAll_273 : decode cX10_foldAll 273 = .ok (.ifCond .eq 28, 3) := by decide +kernel
theorem dX10_foldAll_276 : decode cX10_foldAll 276 = .ok (.aload_n 0, 1) := by decide +kernel
theorem dX10_foldAll_277 : decode cX10_foldAll 277 = .ok (.iload_n 3, 1) := by decide +kernel
theorem dX10_foldAll_278 : decode cX10_foldAll 278 = .ok (.iload 4, 2) := by decide +kernel
theorem dX10_foldAll_280 : decode cX10_foldAll 280 = .ok (.invokevirtual 224, 3) := by decide +kernel
theorem dX10_foldAll_283 : decode cX10_foldAll 283 = .ok (.ifCond .ne 18, 3) := by decide +kernel
theorem dX10_foldAll_286 : decode cX10_foldAll 286 = .ok (.aload_n 0, 1) := by decide +kernel
theorem dX10_foldAll_287 : decode cX10_foldAll 287 = .ok (.getfield 118, 3) := by decide +kernel
theorem dX10_foldAll_290 : decode cX10_foldAll 290 = .ok (.bipush 60, 2) := by decide +kernel
theorem dX10_foldAll_292 : decode cX10_foldAll 292 = .ok (.iload_n 3, 1) := by decide +kernel
theorem dX10_foldAll_293 : decode cX10_foldAll 293 = .ok (.imul, 1) := by decide +kernel
theorem dX10_foldAll_294 : decode cX10_foldAll 294 = .ok (.iload 4, 2) := by decide +kernel
theorem dX10_foldAll_296 : decode cX10_foldAll 296 = .ok (.iadd, 1) := by decide +kernel
theorem dX10_foldAll_297 : decode cX10_foldAll 297 = .ok (.iconst 0, 1) := by decide +kernel
theorem dX10_foldAll_298 : decode cX10_foldAll 298 = .ok (.bastore, 1) := by decide +kernel
theorem dX10_foldAll_299 : decode cX10_foldAll 299 = .ok (.iconst 1, 1) := by decide +kernel
theorem dX10_foldAll_300 : decode cX10_foldAll 300 = .ok (.istore_n 2, 1) := by decide +kernel
theorem dX10_foldAll_301 : decode cX10_foldAll 301 = .ok (.iinc 4 1, 3) := by decide +kernel
theorem dX10_foldAll_304 : decode cX10_foldAll 304 = .ok (.goto (-52), 3) := by decide +kernel
theorem dX10_foldAll_307 : decode cX10_foldAll 307 = .ok (.iinc 3 1, 3) := by decide +kernel
theorem dX10_foldAll_310 : decode cX10_foldAll 310 = .ok (.goto (-69), 3) := by decide +kernel
theorem dX10_foldAll_313 : decode cX10_foldAll 313 = .ok (.goto (-80), 3) := by decide +kernel
theorem dX10_foldAll_316 : decode cX10_foldAll 316 = .ok (.iconst 0, 1) := by decide +kernel
theorem dX10_foldAll_317 : decode cX10_foldAll 317 = .ok (.istore_n 3, 1) := by decide +kernel
theorem dX10_foldAll_318 : decode cX10_foldAll 318 = .ok (.iload_n 3, 1) := by decide +kernel
theorem dX10_foldAll_319 : decode cX10_foldAll 319 = .ok (.aload_n 0, 1) := by decide +kernel
theorem dX10_foldAll_320 : decode cX10_foldAll 320 = .ok (.getfield 165, 3) := by decide +kernel
theorem dX10_foldAll_323 : decode cX10_foldAll 323 = .ok (.if_icmp .ge 61, 3) := by decide +kernel
theorem dX10_foldAll_326 : decode cX10_foldAll 326 = .ok (.iconst 0, 1) := by decide +kernel
theorem dX10_foldAll_327 : decode cX10_foldAll 327 = .ok (.istore 4, 2) := by decide +kernel
theorem dX10_foldAll_329 : decode cX10_foldAll 329 = .ok (.iload 4, 2) := by decide +kernel
theorem dX10_foldAll_331 : decode cX10_foldAll 331 = .ok (.iload_n 3, 1) := by decide +kernel
theorem dX10_foldAll_332 : decode cX10_foldAll 332 = .ok (.if_icmp .ge 46, 3) := by decide +kernel
theorem dX10_foldAll_335 : decode cX10_foldAll 335 = .ok (.aload_n 0, 1) := by decide +kernel
theorem dX10_foldAll_336 : decode cX10_foldAll 336 = .ok (.getfield 112, 3) := by decide +kernel
theorem dX10_foldAll_339 : decode cX10_foldAll 339 = .ok (.iload_n 3, 1) := by decide +kernel
theorem dX10_foldAll_340 : decode cX10_foldAll 340 = .ok (.iaload, 1) := by decide +kernel
theorem dX10_foldAll_341 : decode cX10_foldAll 341 = .ok (.iconst (-1), 1) := by decide +kernel
theorem dX10_foldAll_342 : decode cX10_foldAll 342 = .ok (.if_icmp .ne 36, 3) := by decide +kernel
theorem dX10_foldAll_345 : decode cX10_foldAll 345 = .ok (.aload_n 0, 1) := by decide +kernel
theorem dX10_foldAll_346 : decode cX10_foldAll 346 = .ok (.getfield 112, 3) := by decide +kernel
theorem dX10_foldAll_349 : decode cX10_foldAll 349 = .ok (.iload_n 3, 1) := by decide +kernel
theorem dX10_foldAll_350 : decode cX10_foldAll 350 = .ok (.aload_n 0, 1) := by decide +kernel
theorem dX10_foldAll_351 : decode cX10_foldAll 351 = .ok (.getfield 118, 3) := by decide +kernel
theorem dX10_foldAll_354 : decode cX10_foldAll 354 = .ok (.bipush 60, 2) := by decide +kernel
theorem dX10_foldAll_356 : decode cX10_foldAll 356 = .ok (.iload 4, 2) := by decide +kernel
theorem dX10_foldAll_358 : decode cX10_foldAll 358 = .ok (.imul, 1) := by decide +kernel
theorem dX10_foldAll_359 : decode cX10_foldAll 359 = .ok (.iload_n 3, 1) := by decide +kernel
theorem dX10_foldAll_360 : decode cX10_foldAll 360 = .ok (.iadd, 1) := by decide +kernel
theorem dX10_foldAll_361 : decode cX10_foldAll 361 = .ok (.baload, 1) := by decide +kernel
theorem dX10_foldAll_362 : decode cX10_foldAll 362 = .ok (.ifCond .eq 8, 3) := by decide +kernel
theorem dX10_foldAll_365 : decode cX10_foldAll 365 = .ok (.iload 4, 2) := by decide +kernel
theorem dX10_foldAll_367 : decode cX10_foldAll 367 = .ok (.goto 4, 3) := by decide +kernel
theorem dX10_foldAll_370 : decode cX10_foldAll 370 = .ok (.iconst (-1), 1) := by decide +kernel
theorem dX10_foldAll_371 : decode cX10_foldAll 371 = .ok (.iastore, 1) := by decide +kernel
theorem dX10_foldAll_372 : decode cX10_foldAll 372 = .ok (.iinc 4 1, 3) := by decide +kernel
theorem dX10_foldAll_375 : decode cX10_foldAll 375 = .ok (.goto (-46), 3) := by decide +kernel
theorem dX10_foldAll_378 : decode cX10_foldAll 378 = .ok (.iinc 3 1, 3) := by decide +kernel
theorem dX10_foldAll_381 : decode cX10_foldAll 381 = .ok (.goto (-63), 3) := by decide +kernel
theorem dX10_foldAll_384 : decode cX10_foldAll 384 = .ok (.return_, 1) := by decide +kernel
theorem dX10_isPlaced_0 : decode cX10_isPlaced 0 = .ok (.aload_n 0, 1) := by decide +kernel
theorem dX10_isPlaced_1 : decode cX10_isPlaced 1 = .ok (.getfield 103, 3) := by decide +kernel
theorem dX10_isPlaced_4 : decode cX10_isPlaced 4 = .ok (.iload_n 1, 1) := by decide +kernel
theorem dX10_isPlaced_5 : decode cX10_isPlaced 5 = .ok (.baload, 1) := by decide +kernel
theorem dX10_isPlaced_6 : decode cX10_isPlaced 6 = .ok (.ifCond .eq 17, 3) := by decide +kernel
theorem dX10_isPlaced_9 : decode cX10_isPlaced 9 = .ok (.aload_n 0, 1) := by decide +kernel
theorem dX10_isPlaced_10 : decode cX10_isPlaced 10 = .ok (.getfield 112, 3) := by decide +kernel
theorem dX10_isPlaced_13 : decode cX10_isPlaced 13 = .ok (.iload_n 1, 1) := by decide +kernel
theorem dX10_isPlaced_14 : decode cX10_isPlaced 14 = .ok (.iaload, 1) := by decide +kernel
theorem dX10_isPlaced_15 : decode cX10_isPlaced 15 = .ok (.iconst (-1), 1) := by decide +kernel
theorem dX10_isPlaced_16 : decode cX10_isPlaced 16 = .ok (.if_icmp .ne 7, 3) := by decide +kernel
theorem dX10_isPlaced_19 : decode cX10_isPlaced 19 = .ok (.iconst 1, 1) := by decide +kernel
theorem dX10_isPlaced_20 : decode cX10_isPlaced 20 = .ok (.goto 4, 3) := by decide +kernel
theorem dX10_isPlaced_23 : decode cX10_isPlaced 23 = .ok (.iconst 0, 1) := by decide +kernel
theorem dX10_isPlaced_24 : decode cX10_isPlaced 24 = .ok (.ireturn, 1) := by decide +kernel
theorem dX10_veneersOf_0 : decode cX10_veneersOf 0 = .ok (.iconst 0, 1) := by decide +kernel
theorem dX10_veneersOf_1 : decode cX10_veneersOf 1 = .ok (.istore_n 2, 1) := by decide +kernel
theorem dX10_veneersOf_2 : decode cX10_veneersOf 2 = .ok (.iconst 0, 1) := by decide +kernel
theorem dX10_veneersOf_3 : decode cX10_veneersOf 3 = .ok (.istore_n 3, 1) := by decide +kernel
theorem dX10_veneersOf_4 : decode cX10_veneersOf 4 = .ok (.iload_n 3, 1) := by decide +kernel
theorem dX10_veneersOf_5 : decode cX10_veneersOf 5 = .ok (.aload_n 0, 1) := by decide +kernel
theorem dX10_veneersOf_6 : decode cX10_veneersOf 6 = .ok (.getfield 227, 3) := by decide +kernel
theorem dX10_veneersOf_9 : decode cX10_veneersOf 9 = .ok (.if_icmp .ge 27, 3) := by decide +kernel
theorem dX10_veneersOf_12 : decode cX10_veneersOf 12 = .ok (.iload_n 2, 1) := by decide +kernel
theorem dX10_veneersOf_13 : decode cX10_veneersOf 13 = .ok (.aload_n 0, 1) := by decide +kernel
theorem dX10_veneersOf_14 : decode cX10_veneersOf 14 = .ok (.getfield 130, 3) := by decide +kernel
theorem dX10_veneersOf_17 : decode cX10_veneersOf 17 = .ok (.iload_n 3, 1) := by decide +kernel
theorem dX10_veneersOf_18 : decode cX10_veneersOf 18 = .ok (.iaload, 1) := by decide +kernel
theorem dX10_veneersOf_19 : decode cX10_veneersOf 19 = .ok (.iload_n 1, 1) := by decide +kernel
theorem dX10_veneersOf_20 : decode cX10_veneersOf 20 = .ok (.if_icmp .ne 7, 3) := by decide +kernel
theorem dX10_veneersOf_23 : decode cX10_veneersOf 23 = .ok (.iconst 1, 1) := by decide +kernel
theorem dX10_veneersOf_24 : decode cX10_veneersOf 24 = .ok (.goto 4, 3) := by decide +kernel
theorem dX10_veneersOf_27 : decode cX10_veneersOf 27 = .ok (.iconst 0, 1) := by decide +kernel
theorem dX10_veneersOf_28 : decode cX10_veneersOf 28 = .ok (.iadd, 1) := by decide +kernel
theorem dX10_veneersOf_29 : decode cX10_veneersOf 29 = .ok (.istore_n 2, 1) := by decide +kernel
theorem dX10_veneersOf_30 : decode cX10_veneersOf 30 = .ok (.iinc 3 1, 3) := by decide +kernel
theorem dX10_veneersOf_33 : decode cX10_veneersOf 33 = .ok (.goto (-29), 3) := by decide +kernel
theorem dX10_veneersOf_36 : decode cX10_veneersOf 36 = .ok (.iload_n 2, 1) := by decide +kernel
theorem dX10_veneersOf_37 : decode cX10_veneersOf 37 = .ok (.ireturn, 1) := by decide +kernel
theorem dX10_up_0 : decode cX10_up 0 = .ok (.lload_n 0, 1) := by decide +kernel
theorem dX10_up_1 : decode cX10_up 1 = .ok (.lload_n 2, 1) := by decide +kernel
theorem dX10_up_2 : decode cX10_up 2 = .ok (.ladd, 1) := by decide +kernel
theorem dX10_up_3 : decode cX10_up 3 = .ok (.lconst 1, 1) := by decide +kernel
theorem dX10_up_4 : decode cX10_up 4 = .ok (.lsub, 1) := by decide +kernel
theorem dX10_up_5 : decode cX10_up 5 = .ok (.lload_n 2, 1) := by decide +kernel
theorem dX10_up_6 : decode cX10_up 6 = .ok (.ldiv, 1) := by decide +kernel
theorem dX10_up_7 : decode cX10_up 7 = .ok (.lload_n 2, 1) := by decide +kernel
theorem dX10_up_8 : decode cX10_up 8 = .ok (.lmul, 1) := by decide +kernel
theorem dX10_up_9 : decode cX10_up 9 = .ok (.lreturn, 1) := by decide +kernel
theorem dX10_placeAll_0 : decode cX10_placeAll 0 = .ok (.aload_n 0, 1) := by decide +kernel
theorem dX10_placeAll_1 : decode cX10_placeAll 1 = .ok (.dup, 1) := by decide +kernel
theorem dX10_placeAll_2 : decode cX10_placeAll 2 = .ok (.getfield 230, 3) := by decide +kernel
theorem dX10_placeAll_5 : decode cX10_placeAll 5 = .ok (.iconst 1, 1) := by decide +kernel
theorem dX10_placeAll_6 : decode cX10_placeAll 6 = .ok (.iadd, 1) := by decide +kernel
theorem dX10_placeAll_7 : decode cX10_placeAll 7 = .ok (.putfield 230, 3) := by decide +kernel
theorem dX10_placeAll_10 : decode cX10_placeAll 10 = .ok (.ldc2_w 233, 3) := by decide +kernel
theorem dX10_placeAll_13 : decode cX10_placeAll 13 = .ok (.lstore_n 1, 1) := by decide +kernel
theorem dX10_placeAll_14 : decode cX10_placeAll 14 = .ok (.iconst 0, 1) := by decide +kernel
theorem dX10_placeAll_15 : decode cX10_placeAll 15 = .ok (.istore_n 3, 1) := by decide +kernel
theorem dX10_placeAll_16 : decode cX10_placeAll 16 = .ok (.iload_n 3, 1) := by decide +kernel
theorem dX10_placeAll_17 : decode cX10_placeAll 17 = .ok (.iconst 4, 1) := by decide +kernel
theorem dX10_placeAll_18 : decode cX10_placeAll 18 = .ok (.if_icmp .ge 153, 3) := by decide +kernel
theorem dX10_placeAll_21 : decode cX10_placeAll 21 = .ok (.aload_n 0, 1) := by decide +kernel
theorem dX10_placeAll_22 : decode cX10_placeAll 22 = .ok (.getfield 78, 3) := by decide +kernel
theorem dX10_placeAll_25 : decode cX10_placeAll 25 = .ok (.iload_n 3, 1) := by decide +kernel
theorem dX10_placeAll_26 : decode cX10_placeAll 26 = .ok (.laload, 1) := by decide +kernel
theorem dX10_placeAll_27 : decode cX10_placeAll 27 = .ok (.lconst 0, 1) := by decide +kernel
theorem dX10_placeAll_28 : decode cX10_placeAll 28 = .ok (.lcmp, 1) := by decide +kernel
theorem dX10_placeAll_29 : decode cX10_placeAll 29 = .ok (.ifCond .lt 12, 3) := by decide +kernel
theorem dX10_placeAll_32 : decode cX10_placeAll 32 = .ok (.aload_n 0, 1) := by decide +kernel
theorem dX10_placeAll_33 : decode cX10_placeAll 33 = .ok (.getfield 78, 3) := by decide +kernel
theorem dX10_placeAll_36 : decode cX10_placeAll 36 = .ok (.iload_n 3, 1) := by decide +kernel
theorem dX10_placeAll_37 : decode cX10_placeAll 37 = .ok (.laload, 1) := by decide +kernel
theorem dX10_placeAll_38 : decode cX10_placeAll 38 = .ok (.goto 4, 3) := by decide +kernel
theorem dX10_placeAll_41 : decode cX10_placeAll 41 = .ok (.lload_n 1, 1) := by decide +kernel
theorem dX10_placeAll_42 : decode cX10_placeAll 42 = .ok (.lstore_n 1, 1) := by decide +kernel
theorem dX10_placeAll_43 : decode cX10_placeAll 43 = .ok (.aload_n 0, 1) := by decide +kernel
theorem dX10_placeAll_44 : decode cX10_placeAll 44 = .ok (.getfield 124, 3) := by decide +kernel
theorem dX10_placeAll_47 : decode cX10_placeAll 47 = .ok (.iload_n 3, 1) := by decide +kernel
theorem dX10_placeAll_48 : decode cX10_placeAll 48 = .ok (.lload_n 1, 1) := by decide +kernel
theorem dX10_placeAll_49 : decode cX10_placeAll 49 = .ok (.lastore, 1) := by decide +kernel
theorem dX10_placeAll_50 : decode cX10_placeAll 50 = .ok (.iconst 0, 1) := by decide +kernel
theorem dX10_placeAll_51 : decode cX10_placeAll 51 = .ok (.istore 4, 2) := by decide +kernel
theorem dX10_placeAll_53 : decode cX10_placeAll 53 = .ok (.iload 4, 2) := by decide +kernel
theorem dX10_placeAll_55 : decode cX10_placeAll 55 = .ok (.aload_n 0, 1) := by decide +kernel
theorem dX10_placeAll_56 : decode cX10_placeAll 56 = .ok (.getfield 165, 3) := by decide +kernel
theorem dX10_placeAll_59 : decode cX10_placeAll 59 = .ok (.if_icmp .ge 99, 3) := by decide +kernel
theorem dX10_placeAll_62 : decode cX10_placeAll 62 = .ok (.aload_n 0, 1) := by decide +kernel
theorem dX10_placeAll_63 : decode cX10_placeAll 63 = .ok (.getfield 17, 3) := by decide +kernel
theorem dX10_placeAll_66 : decode cX10_placeAll 66 = .ok (.iload 4, 2) := by decide +kernel
theorem dX10_placeAll_68 : decode cX10_placeAll 68 = .ok (.iaload, 1) := by decide +kernel
theorem dX10_placeAll_69 : decode cX10_placeAll 69 = .ok (.iload_n 3, 1) := by decide +kernel
theorem dX10_placeAll_70 : decode cX10_placeAll 70 = .ok (.if_icmp .ne 82, 3) := by decide +kernel
theorem dX10_placeAll_73 : decode cX10_placeAll 73 = .ok (.aload_n 0, 1) := by decide +kernel
theorem dX10_placeAll_74 : decode cX10_placeAll 74 = .ok (.iload 4, 2) := by decide +kernel
theorem dX10_placeAll_76 : decode cX10_placeAll 76 = .ok (.invokevirtual 235, 3) := by decide +kernel
theorem dX10_placeAll_79 : decode cX10_placeAll 79 = .ok (.ifCond .eq 73, 3) := by decide +kernel
theorem dX10_placeAll_82 : decode cX10_placeAll 82 = .ok (.aload_n 0, 1) := by decide +kernel
theorem dX10_placeAll_83 : decode cX10_placeAll 83 = .ok (.getfield 121, 3) := by decide +kernel
theorem dX10_placeAll_86 : decode cX10_placeAll 86 = .ok (.iload 4, 2) := by decide +kernel
theorem dX10_placeAll_88 : decode cX10_placeAll 88 = .ok (.lload_n 1, 1) := by decide +kernel
theorem dX10_placeAll_89 : decode cX10_placeAll 89 = .ok (.lconst 1, 1) := by decide +kernel
theorem dX10_placeAll_90 : decode cX10_placeAll 90 = .ok (.aload_n 0, 1) := by decide +kernel
theorem dX10_placeAll_91 : decode cX10_placeAll 91 = .ok (.getfield 23, 3) := by decide +kernel
theorem dX10_placeAll_94 : decode cX10_placeAll 94 = .ok (.iload 4, 2) := by decide +kernel
theorem dX10_placeAll_96 : decode cX10_placeAll 96 = .ok (.iaload, 1) := by decide +kernel
theorem dX10_placeAll_97 : decode cX10_placeAll 97 = .ok (.lshl, 1) := by decide +kernel
theorem dX10_placeAll_98 : decode cX10_placeAll 98 = .ok (.invokestatic 238, 3) := by decide +kernel
theorem dX10_placeAll_101 : decode cX10_placeAll 101 = .ok (.lastore, 1) := by decide +kernel
theorem dX10_placeAll_102 : decode cX10_placeAll 102 = .ok (.aload_n 0, 1) := by decide +kernel
theorem dX10_placeAll_103 : decode cX10_placeAll 103 = .ok (.getfield 121, 3) := by decide +kernel
theorem dX10_placeAll_106 : decode cX10_placeAll 106 = .ok (.iload 4, 2) := by decide +kernel
theorem dX10_placeAll_108 : decode cX10_placeAll 108 = .ok (.laload, 1) := by decide +kernel
theorem dX10_placeAll_109 : decode cX10_placeAll 109 = .ok (.aload_n 0, 1) := by decide +kernel
theorem dX10_placeAll_110 : decode cX10_placeAll 110 = .ok (.getfield 20, 3) := by decide +kernel
theorem dX10_placeAll_113 : decode cX10_placeAll 113 = .ok (.iload 4, 2) := by decide +kernel
theorem dX10_placeAll_115 : decode cX10_placeAll 115 = .ok (.iaload, 1) := by decide +kernel
theorem dX10_placeAll_116 : decode cX10_placeAll 116 = .ok (.i2l, 1) := by decide +kernel
theorem dX10_placeAll_117 : decode cX10_placeAll 117 = .ok (.ladd, 1) := by decide +kernel
theorem dX10_placeAll_118 : decode cX10_placeAll 118 = .ok (.lstore_n 1, 1) := by decide +kernel
theorem dX10_placeAll_119 : decode cX10_placeAll 119 = .ok (.aload_n 0, 1) := by decide +kernel
theorem dX10_placeAll_120 : decode cX10_placeAll 120 = .ok (.iload 4, 2) := by decide +kernel
theorem dX10_placeAll_122 : decode cX10_placeAll 122 = .ok (.invokevirtual 242, 3) := by decide +kernel
theorem dX10_placeAll_125 : decode cX10_placeAll 125 = .ok (.istore 5, 2) := by decide +kernel
theorem dX10_placeAll_127 : decode cX10_placeAll 127 = .ok (.iload 5, 2) := by decide +kernel
theorem dX10_placeAll_129 : decode cX10_placeAll 129 = .ok (.ifCond .le 21, 3) := by decide +kernel
theorem dX10_placeAll_132 : decode cX10_placeAll 132 = .ok (.lload_n 1, 1) := by decide +kernel
theorem dX10_placeAll_133 : decode cX10_placeAll 133 = .ok (.ldc2_w 189, 3) := by decide +kernel
theorem dX10_placeAll_136 : decode cX10_placeAll 136 = .ok (.invokestatic 238, 3) := by decide +kernel
theorem dX10_placeAll_139 : decode cX10_placeAll 139 = .ok (.ldc2_w 163, 3) := by decide +kernel
theorem dX10_placeAll_142 : decode cX10_placeAll 142 = .ok (.iload 5, 2) := by decide +kernel
theorem dX10_placeAll_144 : decode cX10_placeAll 144 = .ok (.i2l, 1) := by decide +kernel
theorem dX10_placeAll_145 : decode cX10_placeAll 145 = .ok (.lmul, 1) := by decide +kernel
theorem dX10_placeAll_146 : decode cX10_placeAll 146 = .ok (.ladd, 1) := by decide +kernel
theorem dX10_placeAll_147 : decode cX10_placeAll 147 = .ok (.goto 4, 3) := by decide +kernel
theorem dX10_placeAll_150 : decode cX10_placeAll 150 = .ok (.lload_n 1, 1) := by decide +kernel
theorem dX10_placeAll_151 : decode cX10_placeAll 151 = .ok (.lstore_n 1, 1) := by decide +kernel
theorem dX10_placeAll_152 : decode cX10_placeAll 152 = .ok (.iinc 4 1, 3) := by decide +kernel
theorem dX10_placeAll_155 : decode cX10_placeAll 155 = .ok (.goto (-102), 3) := by decide +kernel
theorem dX10_placeAll_158 : decode cX10_placeAll 158 = .ok (.aload_n 0, 1) := by decide +kernel
theorem dX10_placeAll_159 : decode cX10_placeAll 159 = .ok (.getfield 127, 3) := by decide +kernel
theorem dX10_placeAll_162 : decode cX10_placeAll 162 = .ok (.iload_n 3, 1) := by decide +kernel
theorem dX10_placeAll_163 : decode cX10_placeAll 163 = .ok (.lload_n 1, 1) := by decide +kernel
theorem dX10_placeAll_164 : decode cX10_placeAll 164 = .ok (.lastore, 1) := by decide +kernel
theorem dX10_placeAll_165 : decode cX10_placeAll 165 = .ok (.iinc 3 1, 3) := by decide +kernel
theorem dX10_placeAll_168 : decode cX10_placeAll 168 = .ok (.goto (-152), 3) := by decide +kernel
theorem dX10_placeAll_171 : decode cX10_placeAll 171 = .ok (.return_, 1) := by decide +kernel
theorem dX10_veneerPlace_0 : decode cX10_veneerPlace 0 = .ok (.aload_n 0, 1) := by decide +kernel
theorem dX10_veneerPlace_1 : decode cX10_veneerPlace 1 = .ok (.getfield 130, 3) := by decide +kernel
theorem dX10_veneerPlace_4 : decode cX10_veneerPlace 4 = .ok (.iload_n 1, 1) := by decide +kernel
theorem dX10_veneerPlace_5 : decode cX10_veneerPlace 5 = .ok (.iaload, 1) := by decide +kernel
theorem dX10_veneerPlace_6 : decode cX10_veneerPlace 6 = .ok (.istore_n 2, 1) := by decide +kernel
theorem dX10_veneerPlace_7 : decode cX10_veneerPlace 7 = .ok (.iconst 0, 1) := by decide +kernel
theorem dX10_veneerPlace_8 : decode cX10_veneerPlace 8 = .ok (.istore_n 3, 1) := by decide +kernel
theorem dX10_veneerPlace_9 : decode cX10_veneerPlace 9 = .ok (.iconst 0, 1) := by decide +kernel
theorem dX10_veneerPlace_10 : decode cX10_veneerPlace 10 = .ok (.istore 4, 2) := by decide +kernel
theorem dX10_veneerPlace_12 : decode cX10_veneerPlace 12 = .ok (.iload 4, 2) := by decide +kernel
theorem dX10_veneerPlace_14 : decode cX10_veneerPlace 14 = .ok (.iload_n 1, 1) := by decide +kernel
theorem dX10_veneerPlace_15 : decode cX10_veneerPlace 15 = .ok (.if_icmp .ge 28, 3) := by decide +kernel
theorem dX10_veneerPlace_18 : decode cX10_veneerPlace 18 = .ok (.iload_n 3, 1) := by decide +kernel
theorem dX10_veneerPlace_19 : decode cX10_veneerPlace 19 = .ok (.aload_n 0, 1) := by decide +kernel
theorem dX10_veneerPlace_20 : decode cX10_veneerPlace 20 = .ok (.getfield 130, 3) := by decide +kernel
theorem dX10_veneerPlace_23 : decode cX10_veneerPlace 23 = .ok (.iload 4, 2) := by decide +kernel
theorem dX10_veneerPlace_25 : decode cX10_veneerPlace 25 = .ok (.iaload, 1) := by decide +kernel
theorem dX10_veneerPlace_26 : decode cX10_veneerPlace 26 = .ok (.iload_n 2, 1) := by decide +kernel
theorem dX10_veneerPlace_27 : decode cX10_veneerPlace 27 = .ok (.if_icmp .ne 7, 3) := by decide +kernel
theorem dX10_veneerPlace_30 : decode cX10_veneerPlace 30 = .ok (.iconst 1, 1) := by decide +kernel
theorem dX10_veneerPlace_31 : decode cX10_veneerPlace 31 = .ok (.goto 4, 3) := by decide +kernel
theorem dX10_veneerPlace_34 : decode cX10_veneerPlace 34 = .ok (.iconst 0, 1) := by decide +kernel
theorem dX10_veneerPlace_35 : decode cX10_veneerPlace 35 = .ok (.iadd, 1) := by decide +kernel
theorem dX10_veneerPlace_36 : decode cX10_veneerPlace 36 = .ok (.istore_n 3, 1) := by decide +kernel
theorem dX10_veneerPlace_37 : decode cX10_veneerPlace 37 = .ok (.iinc 4 1, 3) := by decide +kernel
theorem dX10_veneerPlace_40 : decode cX10_veneerPlace 40 = .ok (.goto (-28), 3) := by decide +kernel
theorem dX10_veneerPlace_43 : decode cX10_veneerPlace 43 = .ok (.aload_n 0, 1) := by decide +kernel
theorem dX10_veneerPlace_44 : decode cX10_veneerPlace 44 = .ok (.getfield 121, 3) := by decide +kernel
theorem dX10_veneerPlace_47 : decode cX10_veneerPlace 47 = .ok (.iload_n 2, 1) := by decide +kernel
theorem dX10_veneerPlace_48 : decode cX10_veneerPlace 48 = .ok (.laload, 1) := by decide +kernel
theorem dX10_veneerPlace_49 : decode cX10_veneerPlace 49 = .ok (.aload_n 0, 1) := by decide +kernel
theorem dX10_veneerPlace_50 : decode cX10_veneerPlace 50 = .ok (.getfield 20, 3) := by decide +kernel
theorem dX10_veneerPlace_53 : decode cX10_veneerPlace 53 = .ok (.iload_n 2, 1) := by decide +kernel
theorem dX10_veneerPlace_54 : decode cX10_veneerPlace 54 = .ok (.iaload, 1) := by decide +kernel
theorem dX10_veneerPlace_55 : decode cX10_veneerPlace 55 = .ok (.i2l, 1) := by decide +kernel
theorem dX10_veneerPlace_56 : decode cX10_veneerPlace 56 = .ok (.ladd, 1) := by decide +kernel
theorem dX10_veneerPlace_57 : decode cX10_veneerPlace 57 = .ok (.ldc2_w 189, 3) := by decide +kernel
theorem dX10_veneerPlace_60 : decode cX10_veneerPlace 60 = .ok (.invokestatic 238, 3) := by decide +kernel
theorem dX10_veneerPlace_63 : decode cX10_veneerPlace 63 = .ok (.ldc2_w 163, 3) := by decide +kernel
theorem dX10_veneerPlace_66 : decode cX10_veneerPlace 66 = .ok (.iload_n 3, 1) := by decide +kernel
theorem dX10_veneerPlace_67 : decode cX10_veneerPlace 67 = .ok (.i2l, 1) := by decide +kernel
theorem dX10_veneerPlace_68 : decode cX10_veneerPlace 68 = .ok (.lmul, 1) := by decide +kernel
theorem dX10_veneerPlace_69 : decode cX10_veneerPlace 69 = .ok (.ladd, 1) := by decide +kernel
theorem dX10_veneerPlace_70 : decode cX10_veneerPlace 70 = .ok (.lreturn, 1) := by decide +kernel
theorem dX10_placeOf_0 : decode cX10_placeOf 0 = .ok (.aload_n 0, 1) := by decide +kernel
theorem dX10_placeOf_1 : decode cX10_placeOf 1 = .ok (.getfield 121, 3) := by decide +kernel
theorem dX10_placeOf_4 : decode cX10_placeOf 4 = .ok (.aload_n 0, 1) := by decide +kernel
theorem dX10_placeOf_5 : decode cX10_placeOf 5 = .ok (.getfield 112, 3) := by decide +kernel
theorem dX10_placeOf_8 : decode cX10_placeOf 8 = .ok (.iload_n 1, 1) := by decide +kernel
theorem dX10_placeOf_9 : decode cX10_placeOf 9 = .ok (.iaload, 1) := by decide +kernel
theorem dX10_placeOf_10 : decode cX10_placeOf 10 = .ok (.iconst (-1), 1) := by decide +kernel
theorem dX10_placeOf_11 : decode cX10_placeOf 11 = .ok (.if_icmp .ne 7, 3) := by decide +kernel
theorem dX10_placeOf_14 : decode cX10_placeOf 14 = .ok (.iload_n 1, 1) := by decide +kernel
theorem dX10_placeOf_15 : decode cX10_placeOf 15 = .ok (.goto 9, 3) := by decide +kernel
theorem dX10_placeOf_18 : decode cX10_placeOf 18 = .ok (.aload_n 0, 1) := by decide +kernel
theorem dX10_placeOf_19 : decode cX10_placeOf 19 = .ok (.getfield 112, 3) := by decide +kernel
theorem dX10_placeOf_22 : decode cX10_placeOf 22 = .ok (.iload_n 1, 1) := by decide +kernel
theorem dX10_placeOf_23 : decode cX10_placeOf 23 = .ok (.iaload, 1) := by decide +kernel
theorem dX10_placeOf_24 : decode cX10_placeOf 24 = .ok (.laload, 1) := by decide +kernel
theorem dX10_placeOf_25 : decode cX10_placeOf 25 = .ok (.lreturn, 1) := by decide +kernel
theorem dX10_valueOf_0 : decode cX10_valueOf 0 = .ok (.aload_n 0, 1) := by decide +kernel
theorem dX10_valueOf_1 : decode cX10_valueOf 1 = .ok (.getfield 94, 3) := by decide +kernel
theorem dX10_valueOf_4 : decode cX10_valueOf 4 = .ok (.iload_n 1, 1) := by decide +kernel
theorem dX10_valueOf_5 : decode cX10_valueOf 5 = .ok (.iaload, 1) := by decide +kernel
theorem dX10_valueOf_6 : decode cX10_valueOf 6 = .ok (.istore_n 2, 1) := by decide +kernel
theorem dX10_valueOf_7 : decode cX10_valueOf 7 = .ok (.aload_n 0, 1) := by decide +kernel
theorem dX10_valueOf_8 : decode cX10_valueOf 8 = .ok (.getfield 91, 3) := by decide +kernel
theorem dX10_valueOf_11 : decode cX10_valueOf 11 = .ok (.iload_n 1, 1) := by decide +kernel
theorem dX10_valueOf_12 : decode cX10_valueOf 12 = .ok (.iaload, 1) := by decide +kernel
theorem dX10_valueOf_13 : decode cX10_valueOf 13 = .ok (.ifCond .ne 5, 3) := by decide +kernel
theorem dX10_valueOf_16 : decode cX10_valueOf 16 = .ok (.lconst 0, 1) := by decide +kernel
theorem dX10_valueOf_17 : decode cX10_valueOf 17 = .ok (.lreturn, 1) := by decide +kernel
theorem dX10_valueOf_18 : decode cX10_valueOf 18 = .ok (.aload_n 0, 1) := by decide +kernel
theorem dX10_valueOf_19 : decode cX10_valueOf 19 = .ok (.getfield 91, 3) := by decide +kernel
theorem dX10_valueOf_22 : decode cX10_valueOf 22 = .ok (.iload_n 1, 1) := by decide +kernel
theorem dX10_valueOf_23 : decode cX10_valueOf 23 = .ok (.iaload, 1) := by decide +kernel
theorem dX10_valueOf_24 : decode cX10_valueOf 24 = .ok (.iconst 1, 1) := by decide +kernel
theorem dX10_valueOf_25 : decode cX10_valueOf 25 = .ok (.if_icmp .ne 17, 3) := by decide +kernel
theorem dX10_valueOf_28 : decode cX10_valueOf 28 = .ok (.aload_n 0, 1) := by decide +kernel
theorem dX10_valueOf_29 : decode cX10_valueOf 29 = .ok (.iload_n 2, 1) := by decide +kernel
theorem dX10_valueOf_30 : decode cX10_valueOf 30 = .ok (.invokevirtual 245, 3) := by decide +kernel
theorem dX10_valueOf_33 : decode cX10_valueOf 33 = .ok (.aload_n 0, 1) := by decide +kernel
theorem dX10_valueOf_34 : decode cX10_valueOf 34 = .ok (.getfield 97, 3) := by decide +kernel
theorem dX10_valueOf_37 : decode cX10_valueOf 37 = .ok (.iload_n 1, 1) := by decide +kernel
theorem dX10_valueOf_38 : decode cX10_valueOf 38 = .ok (.iaload, 1) := by decide +kernel
theorem dX10_valueOf_39 : decode cX10_valueOf 39 = .ok (.i2l, 1) := by decide +kernel
theorem dX10_valueOf_40 : decode cX10_valueOf 40 = .ok (.ladd, 1) := by decide +kernel
theorem dX10_valueOf_41 : decode cX10_valueOf 41 = .ok (.lreturn, 1) := by decide +kernel
theorem dX10_valueOf_42 : decode cX10_valueOf 42 = .ok (.ldc2_w 76, 3) := by decide +kernel
theorem dX10_valueOf_45 : decode cX10_valueOf 45 = .ok (.lstore_n 3, 1) := by decide +kernel
theorem dX10_valueOf_46 : decode cX10_valueOf 46 = .ok (.lconst 0, 1) := by decide +kernel
theorem dX10_valueOf_47 : decode cX10_valueOf 47 = .ok (.lstore 5, 2) := by decide +kernel
theorem dX10_valueOf_49 : decode cX10_valueOf 49 = .ok (.iconst 0, 1) := by decide +kernel
theorem dX10_valueOf_50 : decode cX10_valueOf 50 = .ok (.istore 7, 2) := by decide +kernel
theorem dX10_valueOf_52 : decode cX10_valueOf 52 = .ok (.iload 7, 2) := by decide +kernel
theorem dX10_valueOf_54 : decode cX10_valueOf 54 = .ok (.aload_n 0, 1) := by decide +kernel
theorem dX10_valueOf_55 : decode cX10_valueOf 55 = .ok (.getfield 165, 3) := by decide +kernel
theorem dX10_valueOf_58 : decode cX10_valueOf 58 = .ok (.if_icmp .ge 93, 3) := by decide +kernel
theorem dX10_valueOf_61 : decode cX10_valueOf 61 = .ok (.aload_n 0, 1) := by decide +kernel
theorem dX10_valueOf_62 : decode cX10_valueOf 62 = .ok (.getfield 103, 3) := by decide +kernel
theorem dX10_valueOf_65 : decode cX10_valueOf 65 = .ok (.iload 7, 2) := by decide +kernel
theorem dX10_valueOf_67 : decode cX10_valueOf 67 = .ok (.baload, 1) := by decide +kernel
theorem dX10_valueOf_68 : decode cX10_valueOf 68 = .ok (.ifCond .eq 77, 3) := by decide +kernel
theorem dX10_valueOf_71 : decode cX10_valueOf 71 = .ok (.aload_n 0, 1) := by decide +kernel
theorem dX10_valueOf_72 : decode cX10_valueOf 72 = .ok (.getfield 33, 3) := by decide +kernel
theorem dX10_valueOf_75 : decode cX10_valueOf 75 = .ok (.iload 7, 2) := by decide +kernel
theorem dX10_valueOf_77 : decode cX10_valueOf 77 = .ok (.iaload, 1) := by decide +kernel
theorem dX10_valueOf_78 : decode cX10_valueOf 78 = .ok (.iload_n 2, 1) := by decide +kernel
theorem dX10_valueOf_79 : decode cX10_valueOf 79 = .ok (.if_icmp .ne 66, 3) := by decide +kernel
theorem dX10_valueOf_82 : decode cX10_valueOf 82 = .ok (.aload_n 0, 1) := by decide +kernel
theorem dX10_valueOf_83 : decode cX10_valueOf 83 = .ok (.iload 7, 2) := by decide +kernel
theorem dX10_valueOf_85 : decode cX10_valueOf 85 = .ok (.invokevirtual 245, 3) := by decide +kernel
theorem dX10_valueOf_88 : decode cX10_valueOf 88 = .ok (.lstore 8, 2) := by decide +kernel
theorem dX10_valueOf_90 : decode cX10_valueOf 90 = .ok (.lload_n 3, 1) := by decide +kernel
theorem dX10_valueOf_91 : decode cX10_valueOf 91 = .ok (.lconst 0, 1) := by decide +kernel
theorem dX10_valueOf_92 : decode cX10_valueOf 92 = .ok (.lcmp, 1) := by decide +kernel
theorem dX10_valueOf_93 : decode cX10_valueOf 93 = .ok (.ifCond .lt 10, 3) := by decide +kernel
theorem dX10_valueOf_96 : decode cX10_valueOf 96 = .ok (.lload 8, 2) := by decide +kernel
theorem dX10_valueOf_98 : decode cX10_valueOf 98 = .ok (.lload_n 3, 1) := by decide +kernel
theorem dX10_valueOf_99 : decode cX10_valueOf 99 = .ok (.lcmp, 1) := by decide +kernel
theorem dX10_valueOf_100 : decode cX10_valueOf 100 = .ok (.ifCond .ge 8, 3) := by decide +kernel
theorem dX10_valueOf_103 : decode cX10_valueOf 103 = .ok (.lload 8, 2) := by decide +kernel
theorem dX10_valueOf_105 : decode cX10_valueOf 105 = .ok (.goto 4, 3) := by decide +kernel
theorem dX10_valueOf_108 : decode cX10_valueOf 108 = .ok (.lload_n 3, 1) := by decide +kernel
theorem dX10_valueOf_109 : decode cX10_valueOf 109 = .ok (.lstore_n 3, 1) := by decide +kernel
theorem dX10_valueOf_110 : decode cX10_valueOf 110 = .ok (.lload 8, 2) := by decide +kernel
theorem dX10_valueOf_112 : decode cX10_valueOf 112 = .ok (.aload_n 0, 1) := by decide +kernel
theorem dX10_valueOf_113 : decode cX10_valueOf 113 = .ok (.getfield 20, 3) := by decide +kernel
theorem dX10_valueOf_116 : decode cX10_valueOf 116 = .ok (.iload 7, 2) := by decide +kernel
theorem dX10_valueOf_118 : decode cX10_valueOf 118 = .ok (.iaload, 1) := by decide +kernel
theorem dX10_valueOf_119 : decode cX10_valueOf 119 = .ok (.i2l, 1) := by decide +kernel
theorem dX10_valueOf_120 : decode cX10_valueOf 120 = .ok (.ladd, 1) := by decide +kernel
theorem dX10_valueOf_121 : decode cX10_valueOf 121 = .ok (.lload 5, 2) := by decide +kernel
theorem dX10_valueOf_123 : decode cX10_valueOf 123 = .ok (.lcmp, 1) := by decide +kernel
theorem dX10_valueOf_124 : decode cX10_valueOf 124 = .ok (.ifCond .le 17, 3) := by decide +kernel
theorem dX10_valueOf_127 : decode cX10_valueOf 127 = .ok (.lload 8, 2) := by decide +kernel
theorem dX10_valueOf_129 : decode cX10_valueOf 129 = .ok (.aload_n 0, 1) := by decide +kernel
theorem dX10_valueOf_130 : decode cX10_valueOf 130 = .ok (.getfield 20, 3) := by decide +kernel
theorem dX10_valueOf_133 : decode cX10_valueOf 133 = .ok (.iload 7, 2) := by decide +kernel
theorem dX10_valueOf_135 : decode cX10_valueOf 135 = .ok (.iaload, 1) := by decide +kernel
theorem dX10_valueOf_136 : decode cX10_valueOf 136 = .ok (.i2l, 1) := by decide +kernel
theorem dX10_valueOf_137 : decode cX10_valueOf 137 = .ok (.ladd, 1) := by decide +kernel
theorem dX10_valueOf_138 : decode cX10_valueOf 138 = .ok (.goto 5, 3) := by decide +kernel
theorem dX10_valueOf_141 : decode cX10_valueOf 141 = .ok (.lload 5, 2) := by decide +kernel
theorem dX10_valueOf_143 : decode cX10_valueOf 143 = .ok (.lstore 5, 2) := by decide +kernel
theorem dX10_valueOf_145 : decode cX10_valueOf 145 = .ok (.iinc 7 1, 3) := by decide +kernel
theorem dX10_valueOf_148 : decode cX10_valueOf 148 = .ok (.goto (-96), 3) := by decide +kernel
theorem dX10_valueOf_151 : decode cX10_valueOf 151 = .ok (.aload_n 0, 1) := by decide +kernel
theorem dX10_valueOf_152 : decode cX10_valueOf 152 = .ok (.getfield 91, 3) := by decide +kernel
theorem dX10_valueOf_155 : decode cX10_valueOf 155 = .ok (.iload_n 1, 1) := by decide +kernel
theorem dX10_valueOf_156 : decode cX10_valueOf 156 = .ok (.iaload, 1) := by decide +kernel
theorem dX10_valueOf_157 : decode cX10_valueOf 157 = .ok (.iconst 3, 1) := by decide +kernel
theorem dX10_valueOf_158 : decode cX10_valueOf 158 = .ok (.if_icmp .ne 8, 3) := by decide +kernel
theorem dX10_valueOf_161 : decode cX10_valueOf 161 = .ok (.lload 5, 2) := by decide +kernel
theorem dX10_valueOf_163 : decode cX10_valueOf 163 = .ok (.goto 14, 3) := by decide +kernel
theorem dX10_valueOf_166 : decode cX10_valueOf 166 = .ok (.lload_n 3, 1) := by decide +kernel
theorem dX10_valueOf_167 : decode cX10_valueOf 167 = .ok (.lconst 0, 1) := by decide +kernel
theorem dX10_valueOf_168 : decode cX10_valueOf 168 = .ok (.lcmp, 1) := by decide +kernel
theorem dX10_valueOf_169 : decode cX10_valueOf 169 = .ok (.ifCond .ge 7, 3) := by decide +kernel
theorem dX10_valueOf_172 : decode cX10_valueOf 172 = .ok (.lconst 0, 1) := by decide +kernel
theorem dX10_valueOf_173 : decode cX10_valueOf 173 = .ok (.goto 4, 3) := by decide +kernel
theorem dX10_valueOf_176 : decode cX10_valueOf 176 = .ok (.lload_n 3, 1) := by decide +kernel
theorem dX10_valueOf_177 : decode cX10_valueOf 177 = .ok (.lreturn, 1) := by decide +kernel
theorem dX10_v_0 : decode cX10_v 0 = .ok (.aload_n 0, 1) := by decide +kernel
theorem dX10_v_1 : decode cX10_v 1 = .ok (.aload_n 0, 1) := by decide +kernel
theorem dX10_v_2 : decode cX10_v 2 = .ok (.getfield 67, 3) := by decide +kernel
theorem dX10_v_5 : decode cX10_v 5 = .ok (.iload_n 1, 1) := by decide +kernel
theorem dX10_v_6 : decode cX10_v 6 = .ok (.iaload, 1) := by decide +kernel
theorem dX10_v_7 : decode cX10_v 7 = .ok (.invokevirtual 249, 3) := by decide +kernel
theorem dX10_v_10 : decode cX10_v 10 = .ok (.aload_n 0, 1) := by decide +kernel
theorem dX10_v_11 : decode cX10_v 11 = .ok (.getfield 70, 3) := by decide +kernel
theorem dX10_v_14 : decode cX10_v 14 = .ok (.iload_n 1, 1) := by decide +kernel
theorem dX10_v_15 : decode cX10_v 15 = .ok (.iaload, 1) := by decide +kernel
theorem dX10_v_16 : decode cX10_v 16 = .ok (.i2l, 1) := by decide +kernel
theorem dX10_v_17 : decode cX10_v 17 = .ok (.ladd, 1) := by decide +kernel
theorem dX10_v_18 : decode cX10_v 18 = .ok (.lreturn, 1) := by decide +kernel
theorem dX10_isBranchNear_0 : decode cX10_isBranchNear 0 = .ok (.lload_n 1, 1) := by decide +kernel
theorem dX10_isBranchNear_1 : decode cX10_isBranchNear 1 = .ok (.ldc2_w 252, 3) := by decide +kernel
theorem dX10_isBranchNear_4 : decode cX10_isBranchNear 4 = .ok (.ldc2_w 254, 3) := by decide +kernel
theorem dX10_isBranchNear_7 : decode cX10_isBranchNear 7 = .ok (.invokestatic 155, 3) := by decide +kernel
theorem dX10_isBranchNear_10 : decode cX10_isBranchNear 10 = .ok (.ireturn, 1) := by decide +kernel
theorem dX10_sameAim_0 : decode cX10_sameAim 0 = .ok (.aload_n 0, 1) := by decide +kernel
theorem dX10_sameAim_1 : decode cX10_sameAim 1 = .ok (.getfield 91, 3) := by decide +kernel
theorem dX10_sameAim_4 : decode cX10_sameAim 4 = .ok (.iload_n 1, 1) := by decide +kernel
theorem dX10_sameAim_5 : decode cX10_sameAim 5 = .ok (.iaload, 1) := by decide +kernel
theorem dX10_sameAim_6 : decode cX10_sameAim 6 = .ok (.aload_n 0, 1) := by decide +kernel
theorem dX10_sameAim_7 : decode cX10_sameAim 7 = .ok (.getfield 91, 3) := by decide +kernel
theorem dX10_sameAim_10 : decode cX10_sameAim 10 = .ok (.iload_n 2, 1) := by decide +kernel
theorem dX10_sameAim_11 : decode cX10_sameAim 11 = .ok (.iaload, 1) := by decide +kernel
theorem dX10_sameAim_12 : decode cX10_sameAim 12 = .ok (.if_icmp .ne 37, 3) := by decide +kernel
theorem dX10_sameAim_15 : decode cX10_sameAim 15 = .ok (.aload_n 0, 1) := by decide +kernel
theorem dX10_sameAim_16 : decode cX10_sameAim 16 = .ok (.getfield 94, 3) := by decide +kernel
theorem dX10_sameAim_19 : decode cX10_sameAim 19 = .ok (.iload_n 1, 1) := by decide +kernel
theorem dX10_sameAim_20 : decode cX10_sameAim 20 = .ok (.iaload, 1) := by decide +kernel
theorem dX10_sameAim_21 : decode cX10_sameAim 21 = .ok (.aload_n 0, 1) := by decide +kernel
theorem dX10_sameAim_22 : decode cX10_sameAim 22 = .ok (.getfield 94, 3) := by decide +kernel
theorem dX10_sameAim_25 : decode cX10_sameAim 25 = .ok (.iload_n 2, 1) := by decide +kernel
theorem dX10_sameAim_26 : decode cX10_sameAim 26 = .ok (.iaload, 1) := by decide +kernel
theorem dX10_sameAim_27 : decode cX10_sameAim 27 = .ok (.if_icmp .ne 22, 3) := by decide +kernel
theorem dX10_sameAim_30 : decode cX10_sameAim 30 = .ok (.aload_n 0, 1) := by decide +kernel
theorem dX10_sameAim_31 : decode cX10_sameAim 31 = .ok (.getfield 97, 3) := by decide +kernel
theorem dX10_sameAim_34 : decode cX10_sameAim 34 = .ok (.iload_n 1, 1) := by decide +kernel
theorem dX10_sameAim_35 : decode cX10_sameAim 35 = .ok (.iaload, 1) := by decide +kernel
theorem dX10_sameAim_36 : decode cX10_sameAim 36 = .ok (.aload_n 0, 1) := by decide +kernel
theorem dX10_sameAim_37 : decode cX10_sameAim 37 = .ok (.getfield 97, 3) := by decide +kernel
theorem dX10_sameAim_40 : decode cX10_sameAim 40 = .ok (.iload_n 2, 1) := by decide +kernel
theorem dX10_sameAim_41 : decode cX10_sameAim 41 = .ok (.iaload, 1) := by decide +kernel
theorem dX10_sameAim_42 : decode cX10_sameAim 42 = .ok (.if_icmp .ne 7, 3) := by decide +kernel
theorem dX10_sameAim_45 : decode cX10_sameAim 45 = .ok (.iconst 1, 1) := by decide +kernel
theorem dX10_sameAim_46 : decode cX10_sameAim 46 = .ok (.goto 4, 3) := by decide +kernel
theorem dX10_sameAim_49 : decode cX10_sameAim 49 = .ok (.iconst 0, 1) := by decide +kernel
theorem dX10_sameAim_50 : decode cX10_sameAim 50 = .ok (.ireturn, 1) := by decide +kernel
theorem dX10_veneerAll_0 : decode cX10_veneerAll 0 = .ok (.aload_n 0, 1) := by decide +kernel
theorem dX10_veneerAll_1 : decode cX10_veneerAll 1 = .ok (.iconst 0, 1) := by decide +kernel
theorem dX10_veneerAll_2 : decode cX10_veneerAll 2 = .ok (.putfield 227, 3) := by decide +kernel
theorem dX10_veneerAll_5 : decode cX10_veneerAll 5 = .ok (.aload_n 0, 1) := by decide +kernel
theorem dX10_veneerAll_6 : decode cX10_veneerAll 6 = .ok (.iconst 0, 1) := by decide +kernel
theorem dX10_veneerAll_7 : decode cX10_veneerAll 7 = .ok (.putfield 230, 3) := by decide +kernel
theorem dX10_veneerAll_10 : decode cX10_veneerAll 10 = .ok (.iconst 0, 1) := by decide +kernel
theorem dX10_veneerAll_11 : decode cX10_veneerAll 11 = .ok (.istore_n 1, 1) := by decide +kernel
theorem dX10_veneerAll_12 : decode cX10_veneerAll 12 = .ok (.iload_n 1, 1) := by decide +kernel
theorem dX10_veneerAll_13 : decode cX10_veneerAll 13 = .ok (.sipush 200, 3) := by decide +kernel
theorem dX10_veneerAll_16 : decode cX10_veneerAll 16 = .ok (.if_icmp .ge 16, 3) := by decide +kernel
theorem dX10_veneerAll_19 : decode cX10_veneerAll 19 = .ok (.aload_n 0, 1) := by decide +kernel
theorem dX10_veneerAll_20 : decode cX10_veneerAll 20 = .ok (.getfield 136, 3) := by decide +kernel
theorem dX10_veneerAll_23 : decode cX10_veneerAll 23 = .ok (.iload_n 1, 1) := by decide +kernel
theorem dX10_veneerAll_24 : decode cX10_veneerAll 24 = .ok (.iconst (-1), 1) := by decide +kernel
theorem dX10_veneerAll_25 : decode cX10_veneerAll 25 = .ok (.iastore, 1) := by decide +kernel
theorem dX10_veneerAll_26 : decode cX10_veneerAll 26 = .ok (.iinc 1 1, 3) := by decide +kernel
theorem dX10_veneerAll_29 : decode cX10_veneerAll 29 = .ok (.goto (-17), 3) := by decide +kernel
theorem dX10_veneerAll_32 : decode cX10_veneerAll 32 = .ok (.iconst 1, 1) := by decide +kernel
theorem dX10_veneerAll_33 : decode cX10_veneerAll 33 = .ok (.istore_n 1, 1) := by decide +kernel
theorem dX10_veneerAll_34 : decode cX10_veneerAll 34 = .ok (.iload_n 1, 1) := by decide +kernel
theorem dX10_veneerAll_35 : decode cX10_veneerAll 35 = .ok (.ifCond .eq 269, 3) := by decide +kernel
theorem dX10_veneerAll_38 : decode cX10_veneerAll 38 = .ok (.aload_n 0, 1) := by decide +kernel
theorem dX10_veneerAll_39 : decode cX10_veneerAll 39 = .ok (.invokevirtual 256, 3) := by decide +kernel
theorem dX10_veneerAll_42 : decode cX10_veneerAll 42 = .ok (.iconst 0, 1) := by decide +kernel
theorem dX10_veneerAll_43 : decode cX10_veneerAll 43 = .ok (.istore_n 1, 1) := by decide +kernel
theorem dX10_veneerAll_44 : decode cX10_veneerAll 44 = .ok (.iconst 0, 1) := by decide +kernel
theorem dX10_veneerAll_45 : decode cX10_veneerAll 45 = .ok (.istore_n 2, 1) := by decide +kernel
theorem dX10_veneerAll_46 : decode cX10_veneerAll 46 = .ok (.iload_n 2, 1) := by decide +kernel
theorem dX10_veneerAll_47 : decode cX10_veneerAll 47 = .ok (.aload_n 0, 1) := by decide +kernel
theorem dX10_veneerAll_48 : decode cX10_veneerAll 48 = .ok (.getfield 165, 3) := by decide +kernel
theorem dX10_veneerAll_51 : decode cX10_veneerAll 51 = .ok (.if_icmp .ge 250, 3) := by decide +kernel
theorem dX10_veneerAll_54 : decode cX10_veneerAll 54 = .ok (.iconst 0, 1) := by decide +kernel
theorem dX10_veneerAll_55 : decode cX10_veneerAll 55 = .ok (.istore_n 3, 1) := by decide +kernel
theorem dX10_veneerAll_56 : decode cX10_veneerAll 56 = .ok (.iload_n 3, 1) := by decide +kernel
theorem dX10_veneerAll_57 : decode cX10_veneerAll 57 = .ok (.aload_n 0, 1) := by decide +kernel
theorem dX10_veneerAll_58 : decode cX10_veneerAll 58 = .ok (.getfield 195, 3) := by decide +kernel
theorem dX10_veneerAll_61 : decode cX10_veneerAll 61 = .ok (.if_icmp .ge 234, 3) := by decide +kernel
theorem dX10_veneerAll_64 : decode cX10_veneerAll 64 = .ok (.aload_n 0, 1) := by decide +kernel
theorem dX10_veneerAll_65 : decode cX10_veneerAll 65 = .ok (.getfield 58, 3) := by decide +kernel
theorem dX10_veneerAll_68 : decode cX10_veneerAll 68 = .ok (.iload_n 3, 1) := by decide +kernel
theorem dX10_veneerAll_69 : decode cX10_veneerAll 69 = .ok (.iaload, 1) := by decide +kernel
theorem dX10_veneerAll_70 : decode cX10_veneerAll 70 = .ok (.iload_n 2, 1) := by decide +kernel
theorem dX10_veneerAll_71 : decode cX10_veneerAll 71 = .ok (.if_icmp .ne 62, 3) := by decide +kernel
theorem dX10_veneerAll_74 : decode cX10_veneerAll 74 = .ok (.aload_n 0, 1) := by decide +kernel
theorem dX10_veneerAll_75 : decode cX10_veneerAll 75 = .ok (.iload_n 2, 1) := by decide +kernel
theorem dX10_veneerAll_76 : decode cX10_veneerAll 76 = .ok (.invokevirtual 235, 3) := by decide +kernel
theorem dX10_veneerAll_79 : decode cX10_veneerAll 79 = .ok (.ifCond .eq 54, 3) := by decide +kernel
theorem dX10_veneerAll_82 : decode cX10_veneerAll 82 = .ok (.aload_n 0, 1) := by decide +kernel
theorem dX10_veneerAll_83 : decode cX10_veneerAll 83 = .ok (.getfield 64, 3) := by decide +kernel
theorem dX10_veneerAll_86 : decode cX10_veneerAll 86 = .ok (.iload_n 3, 1) := by decide +kernel
theorem dX10_veneerAll_87 : decode cX10_veneerAll 87 = .ok (.iaload, 1) := by decide +kernel
theorem dX10_veneerAll_88 : decode cX10_veneerAll 88 = .ok (.iconst 3, 1) := by decide +kernel
theorem dX10_veneerAll_89 : decode cX10_veneerAll 89 = .ok (.if_icmp .ne 44, 3) := by decide +kernel
theorem dX10_veneerAll_92 : decode cX10_veneerAll 92 = .ok (.aload_n 0, 1) := by decide +kernel
theorem dX10_veneerAll_93 : decode cX10_veneerAll 93 = .ok (.getfield 136, 3) := by decide +kernel
theorem dX10_veneerAll_96 : decode cX10_veneerAll 96 = .ok (.iload_n 3, 1) := by decide +kernel
theorem dX10_veneerAll_97 : decode cX10_veneerAll 97 = .ok (.iaload, 1) := by decide +kernel
theorem dX10_veneerAll_98 : decode cX10_veneerAll 98 = .ok (.iconst (-1), 1) := by decide +kernel
theorem dX10_veneerAll_99 : decode cX10_veneerAll 99 = .ok (.if_icmp .ne 34, 3) := by decide +kernel
theorem dX10_veneerAll_102 : decode cX10_veneerAll 102 = .ok (.aload_n 0, 1) := by decide +kernel
theorem dX10_veneerAll_103 : decode cX10_veneerAll 103 = .ok (.aload_n 0, 1) := by decide +kernel
theorem dX10_veneerAll_104 : decode cX10_veneerAll 104 = .ok (.iload_n 3, 1) := by decide +kernel
theorem dX10_veneerAll_105 : decode cX10_veneerAll 105 = .ok (.invokevirtual 259, 3) := by decide +kernel
theorem dX10_veneerAll_108 : decode cX10_veneerAll 108 = .ok (.aload_n 0, 1) := by decide +kernel
theorem dX10_veneerAll_109 : decode cX10_veneerAll 109 = .ok (.getfield 121, 3) := by decide +kernel
theorem dX10_veneerAll_112 : decode cX10_veneerAll 112 = .ok (.iload_n 2, 1) := by decide +kernel
theorem dX10_veneerAll_113 : decode cX10_veneerAll 113 = .ok (.laload, 1) := by decide +kernel
theorem dX10_veneerAll_114 : decode cX10_veneerAll 114 = .ok (.lsub, 1) := by decide +kernel
theorem dX10_veneerAll_115 : decode cX10_veneerAll 115 = .ok (.aload_n 0, 1) := by decide +kernel
theorem dX10_veneerAll_116 : decode cX10_veneerAll 116 = .ok (.getfield 61, 3) := by decide +kernel
theorem dX10_veneerAll_119 : decode cX10_veneerAll 119 = .ok (.iload_n 3, 1) := by decide +kernel
theorem dX10_veneerAll_120 : decode cX10_veneerAll 120 = .ok (.iaload, 1) := by decide +kernel
theorem dX10_veneerAll_121 : decode cX10_veneerAll 121 = .ok (.i2l, 1) := by decide +kernel
theorem dX10_veneerAll_122 : decode cX10_veneerAll 122 = .ok (.lsub, 1) := by decide +kernel
theorem dX10_veneerAll_123 : decode cX10_veneerAll 123 = .ok (.invokevirtual 262, 3) := by decide +kernel
theorem dX10_veneerAll_126 : decode cX10_veneerAll 126 = .ok (.ifCond .ne 7, 3) := by decide +kernel
theorem dX10_veneerAll_129 : decode cX10_veneerAll 129 = .ok (.iconst 1, 1) := by decide +kernel
theorem dX10_veneerAll_130 : decode cX10_veneerAll 130 = .ok (.goto 4, 3) := by decide +kernel
theorem dX10_veneerAll_133 : decode cX10_veneerAll 133 = .ok (.iconst 0, 1) := by decide +kernel
theorem dX10_veneerAll_134 : decode cX10_veneerAll 134 = .ok (.istore 4, 2) := by decide +kernel
theorem dX10_veneerAll_136 : decode cX10_veneerAll 136 = .ok (.iload 4, 2) := by decide +kernel
theorem dX10_veneerAll_138 : decode cX10_veneerAll 138 = .ok (.ifCond .eq 151, 3) := by decide +kernel
theorem dX10_veneerAll_141 : decode cX10_veneerAll 141 = .ok (.iconst 0, 1) := by decide +kernel
theorem dX10_veneerAll_142 : decode cX10_veneerAll 142 = .ok (.istore 5, 2) := by decide +kernel
theorem dX10_veneerAll_144 : decode cX10_veneerAll 144 = .ok (.iload 5, 2) := by decide +kernel
theorem dX10_veneerAll_146 : decode cX10_veneerAll 146 = .ok (.aload_n 0, 1) := by decide +kernel
theorem dX10_veneerAll_147 : decode cX10_veneerAll 147 = .ok (.getfield 227, 3) := by decide +kernel
theorem dX10_veneerAll_150 : decode cX10_veneerAll 150 = .ok (.if_icmp .ge 87, 3) := by decide +kernel
theorem dX10_veneerAll_153 : decode cX10_veneerAll 153 = .ok (.aload_n 0, 1) := by decide +kernel
theorem dX10_veneerAll_154 : decode cX10_veneerAll 154 = .ok (.getfield 136, 3) := by decide +kernel
theorem dX10_veneerAll_157 : decode cX10_veneerAll 157 = .ok (.iload_n 3, 1) := by decide +kernel
theorem dX10_veneerAll_158 : decode cX10_veneerAll 158 = .ok (.iaload, 1) := by decide +kernel
theorem dX10_veneerAll_159 : decode cX10_veneerAll 159 = .ok (.iconst (-1), 1) := by decide +kernel
theorem dX10_veneerAll_160 : decode cX10_veneerAll 160 = .ok (.if_icmp .ne 77, 3) := by decide +kernel
theorem dX10_veneerAll_163 : decode cX10_veneerAll 163 = .ok (.aload_n 0, 1) := by decide +kernel
theorem dX10_veneerAll_164 : decode cX10_veneerAll 164 = .ok (.getfield 133, 3) := by decide +kernel
theorem dX10_veneerAll_167 : decode cX10_veneerAll 167 = .ok (.iload 5, 2) := by decide +kernel
theorem dX10_veneerAll_169 : decode cX10_veneerAll 169 = .ok (.iaload, 1) := by decide +kernel
theorem dX10_veneerAll_170 : decode cX10_veneerAll 170 = .ok (.istore 6, 2) := by decide +kernel
theorem dX10_veneerAll_172 : decode cX10_veneerAll 172 = .ok (.aload_n 0, 1) := by decide +kernel
theorem dX10_veneerAll_173 : decode cX10_veneerAll 173 = .ok (.getfield 136, 3) := by decide +kernel
theorem dX10_veneerAll_176 : decode cX10_veneerAll 176 = .ok (.iload_n 3, 1) := by decide +kernel
theorem dX10_veneerAll_177 : decode cX10_veneerAll 177 = .ok (.aload_n 0, 1) := by decide +kernel
theorem dX10_veneerAll_178 : decode cX10_veneerAll 178 = .ok (.getfield 130, 3) := by decide +kernel
theorem dX10_veneerAll_181 : decode cX10_veneerAll 181 = .ok (.iload 5, 2) := by decide +kernel
theorem dX10_veneerAll_183 : decode cX10_veneerAll 183 = .ok (.iaload, 1) := by decide +kernel
theorem dX10_veneerAll_184 : decode cX10_veneerAll 184 = .ok (.iload_n 2, 1) := by decide +kernel
theorem dX10_veneerAll_185 : decode cX10_veneerAll 185 = .ok (.if_icmp .ne 44, 3) := by decide +kernel
theorem dX10_veneerAll_188 : decode cX10_veneerAll 188 = .ok (.aload_n 0, 1) := by decide +kernel
theorem dX10_veneerAll_189 : decode cX10_veneerAll 189 = .ok (.getfield 70, 3) := by decide +kernel
theorem dX10_veneerAll_192 : decode cX10_veneerAll 192 = .ok (.iload 6, 2) := by decide +kernel
theorem dX10_veneerAll_194 : decode cX10_veneerAll 194 = .ok (.iaload, 1) := by decide +kernel
theorem dX10_veneerAll_195 : decode cX10_veneerAll 195 = .ok (.aload_n 0, 1) := by decide +kernel
theorem dX10_veneerAll_196 : decode cX10_veneerAll 196 = .ok (.getfield 70, 3) := by decide +kernel
theorem dX10_veneerAll_199 : decode cX10_veneerAll 199 = .ok (.iload_n 3, 1) := by decide +kernel
theorem dX10_veneerAll_200 : decode cX10_veneerAll 200 = .ok (.iaload, 1) := by decide +kernel
theorem dX10_veneerAll_201 : decode cX10_veneerAll 201 = .ok (.if_icmp .ne 28, 3) := by decide +kernel
theorem dX10_veneerAll_204 : decode cX10_veneerAll 204 = .ok (.aload_n 0, 1) := by decide +kernel
theorem dX10_veneerAll_205 : decode cX10_veneerAll 205 = .ok (.aload_n 0, 1) := by decide +kernel
theorem dX10_veneerAll_206 : decode cX10_veneerAll 206 = .ok (.getfield 67, 3) := by decide +kernel
theorem dX10_veneerAll_209 : decode cX10_veneerAll 209 = .ok (.iload 6, 2) := by decide +kernel
theorem dX10_veneerAll_211 : decode cX10_veneerAll 211 = .ok (.iaload, 1) := by decide +kernel
theorem dX10_veneerAll_212 : decode cX10_veneerAll 212 = .ok (.aload_n 0, 1) := by decide +kernel
theorem dX10_veneerAll_213 : decode cX10_veneerAll 213 = .ok (.getfield 67, 3) := by decide +kernel
theorem dX10_veneerAll_216 : decode cX10_veneerAll 216 = .ok (.iload_n 3, 1) := by decide +kernel
theorem dX10_veneerAll_217 : decode cX10_veneerAll 217 = .ok (.iaload, 1) := by decide +kernel
theorem dX10_veneerAll_218 : decode cX10_veneerAll 218 = .ok (.invokevirtual 266, 3) := by decide +kernel
theorem dX10_veneerAll_221 : decode cX10_veneerAll 221 = .ok (.ifCond .eq 8, 3) := by decide +kernel
theorem dX10_veneerAll_224 : decode cX10_veneerAll 224 = .ok (.iload 5, 2) := by decide +kernel
theorem dX10_veneerAll_226 : decode cX10_veneerAll 226 = .ok (.goto 4, 3) := by decide +kernel
theorem dX10_veneerAll_229 : decode cX10_veneerAll 229 = .ok (.iconst (-1), 1) := by decide +kernel
theorem dX10_veneerAll_230 : decode cX10_veneerAll 230 = .ok (.iastore, 1) := by decide +kernel
theorem dX10_veneerAll_231 : decode cX10_veneerAll 231 = .ok (.iinc 5 1, 3) := by decide +kernel
theorem dX10_veneerAll_234 : decode cX10_veneerAll 234 = .ok (.goto (-90), 3) := by decide +kernel
theorem dX10_veneerAll_237 : decode cX10_veneerAll 237 = .ok (.aload_n 0, 1) := by decide +kernel
theorem dX10_veneerAll_238 : decode cX10_veneerAll 238 = .ok (.getfield 136, 3) := by decide +kernel
theorem dX10_veneerAll_241 : decode cX10_veneerAll 241 = .ok (.iload_n 3, 1) := by decide +kernel
theorem dX10_veneerAll_242 : decode cX10_veneerAll 242 = .ok (.iaload, 1) := by decide +kernel
theorem dX10_veneerAll_243 : decode cX10_veneerAll 243 = .ok (.iconst (-1), 1) := by decide +kernel
theorem dX10_veneerAll_244 : decode cX10_veneerAll 244 = .ok (.if_icmp .ne 45, 3) := by decide +kernel
theorem dX10_veneerAll_247 : decode cX10_veneerAll 247 = .ok (.aload_n 0, 1) := by decide +kernel
theorem dX10_veneerAll_248 : decode cX10_veneerAll 248 = .ok (.getfield 130, 3) := by decide +kernel
theorem dX10_veneerAll_251 : decode cX10_veneerAll 251 = .ok (.aload_n 0, 1) := by decide +kernel
theorem dX10_veneerAll_252 : decode cX10_veneerAll 252 = .ok (.getfield 227, 3) := by decide +kernel
