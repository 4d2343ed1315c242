theorem dX10_veneerAll_255 : decode cX10_veneerAll 255 = .ok (.iload_n 2, 1) := by decide +kernel
theorem dX10_veneerAll_256 : decode cX10_veneerAll 256 = .ok (.iastore, 1) := by decide +kernel
theorem dX10_veneerAll_257 : decode cX10_veneerAll 257 = .ok (.aload_n 0, 1) := by decide +kernel
theorem dX10_veneerAll_258 : decode cX10_veneerAll 258 = .ok (.getfield 133, 3) := by decide +kernel
theorem dX10_veneerAll_261 : decode cX10_veneerAll 261 = .ok (.aload_n 0, 1) := by decide +kernel
theorem dX10_veneerAll_262 : decode cX10_veneerAll 262 = .ok (.getfield 227, 3) := by decide +kernel
theorem dX10_veneerAll_265 : decode cX10_veneerAll 265 = .ok (.iload_n 3, 1) := by decide +kernel
theorem dX10_veneerAll_266 : decode cX10_veneerAll 266 = .ok (.iastore, 1) := by decide +kernel
theorem dX10_veneerAll_267 : decode cX10_veneerAll 267 = .ok (.aload_n 0, 1) := by decide +kernel
theorem dX10_veneerAll_268 : decode cX10_veneerAll 268 = .ok (.getfield 136, 3) := by decide +kernel
theorem dX10_veneerAll_271 : decode cX10_veneerAll 271 = .ok (.iload_n 3, 1) := by decide +kernel
theorem dX10_veneerAll_272 : decode cX10_veneerAll 272 = .ok (.aload_n 0, 1) := by decide +kernel
theorem dX10_veneerAll_273 : decode cX10_veneerAll 273 = .ok (.getfield 227, 3) := by decide +kernel
theorem dX10_veneerAll_276 : decode cX10_veneerAll 276 = .ok (.iastore, 1) := by decide +kernel
theorem dX10_veneerAll_277 : decode cX10_veneerAll 277 = .ok (.aload_n 0, 1) := by decide +kernel
theorem dX10_veneerAll_278 : decode cX10_veneerAll 278 = .ok (.dup, 1) := by decide +kernel
theorem dX10_veneerAll_279 : decode cX10_veneerAll 279 = .ok (.getfield 227, 3) := by decide +kernel
theorem dX10_veneerAll_282 : decode cX10_veneerAll 282 = .ok (.iconst 1, 1) := by decide +kernel
theorem dX10_veneerAll_283 : decode cX10_veneerAll 283 = .ok (.iadd, 1) := by decide +kernel
theorem dX10_veneerAll_284 : decode cX10_veneerAll 284 = .ok (.putfield 227, 3) := by decide +kernel
theorem dX10_veneerAll_287 : decode cX10_veneerAll 287 = .ok (.iconst 1, 1) := by decide +kernel
theorem dX10_veneerAll_288 : decode cX10_veneerAll 288 = .ok (.istore_n 1, 1) := by decide +kernel
theorem dX10_veneerAll_289 : decode cX10_veneerAll 289 = .ok (.iinc 3 1, 3) := by decide +kernel
theorem dX10_veneerAll_292 : decode cX10_veneerAll 292 = .ok (.goto (-236), 3) := by decide +kernel
theorem dX10_veneerAll_295 : decode cX10_veneerAll 295 = .ok (.iinc 2 1, 3) := by decide +kernel
theorem dX10_veneerAll_298 : decode cX10_veneerAll 298 = .ok (.goto (-252), 3) := by decide +kernel
theorem dX10_veneerAll_301 : decode cX10_veneerAll 301 = .ok (.goto (-267), 3) := by decide +kernel
theorem dX10_veneerAll_304 : decode cX10_veneerAll 304 = .ok (.return_, 1) := by decide +kernel
theorem dX10_bad_0 : decode cX10_bad 0 = .ok (.aload_n 0, 1) := by decide +kernel
theorem dX10_bad_1 : decode cX10_bad 1 = .ok (.getfield 146, 3) := by decide +kernel
theorem dX10_bad_4 : decode cX10_bad 4 = .ok (.ifCond .ne 13, 3) := by decide +kernel
theorem dX10_bad_7 : decode cX10_bad 7 = .ok (.aload_n 0, 1) := by decide +kernel
theorem dX10_bad_8 : decode cX10_bad 8 = .ok (.iload_n 1, 1) := by decide +kernel
theorem dX10_bad_9 : decode cX10_bad 9 = .ok (.putfield 146, 3) := by decide +kernel
theorem dX10_bad_12 : decode cX10_bad 12 = .ok (.aload_n 0, 1) := by decide +kernel
theorem dX10_bad_13 : decode cX10_bad 13 = .ok (.iload_n 2, 1) := by decide +kernel
theorem dX10_bad_14 : decode cX10_bad 14 = .ok (.putfield 82, 3) := by decide +kernel
theorem dX10_bad_17 : decode cX10_bad 17 = .ok (.return_, 1) := by decide +kernel
theorem dX10_link_0 : decode cX10_link 0 = .ok (.aload_n 0, 1) := by decide +kernel
theorem dX10_link_1 : decode cX10_link 1 = .ok (.invokevirtual 152, 3) := by decide +kernel
theorem dX10_link_4 : decode cX10_link 4 = .ok (.aload_n 0, 1) := by decide +kernel
theorem dX10_link_5 : decode cX10_link 5 = .ok (.iconst 1, 1) := by decide +kernel
theorem dX10_link_6 : decode cX10_link 6 = .ok (.putfield 139, 3) := by decide +kernel
theorem dX10_link_9 : decode cX10_link 9 = .ok (.aload_n 0, 1) := by decide +kernel
theorem dX10_link_10 : decode cX10_link 10 = .ok (.invokevirtual 269, 3) := by decide +kernel
theorem dX10_link_13 : decode cX10_link 13 = .ok (.istore_n 2, 1) := by decide +kernel
theorem dX10_link_14 : decode cX10_link 14 = .ok (.iload_n 2, 1) := by decide +kernel
theorem dX10_link_15 : decode cX10_link 15 = .ok (.iconst (-1), 1) := by decide +kernel
theorem dX10_link_16 : decode cX10_link 16 = .ok (.if_icmp .eq 11, 3) := by decide +kernel
theorem dX10_link_19 : decode cX10_link 19 = .ok (.aload_n 0, 1) := by decide +kernel
theorem dX10_link_20 : decode cX10_link 20 = .ok (.iconst 1, 1) := by decide +kernel
theorem dX10_link_21 : decode cX10_link 21 = .ok (.iload_n 2, 1) := by decide +kernel
theorem dX10_link_22 : decode cX10_link 22 = .ok (.invokevirtual 273, 3) := by decide +kernel
theorem dX10_link_25 : decode cX10_link 25 = .ok (.iconst 1, 1) := by decide +kernel
theorem dX10_link_26 : decode cX10_link 26 = .ok (.ireturn, 1) := by decide +kernel
theorem dX10_link_27 : decode cX10_link 27 = .ok (.aload_n 0, 1) := by decide +kernel
theorem dX10_link_28 : decode cX10_link 28 = .ok (.invokevirtual 276, 3) := by decide +kernel
theorem dX10_link_31 : decode cX10_link 31 = .ok (.aload_n 0, 1) := by decide +kernel
theorem dX10_link_32 : decode cX10_link 32 = .ok (.iload_n 1, 1) := by decide +kernel
theorem dX10_link_33 : decode cX10_link 33 = .ok (.invokevirtual 279, 3) := by decide +kernel
theorem dX10_link_36 : decode cX10_link 36 = .ok (.iconst 0, 1) := by decide +kernel
theorem dX10_link_37 : decode cX10_link 37 = .ok (.istore_n 3, 1) := by decide +kernel
theorem dX10_link_38 : decode cX10_link 38 = .ok (.iload_n 3, 1) := by decide +kernel
theorem dX10_link_39 : decode cX10_link 39 = .ok (.aload_n 0, 1) := by decide +kernel
theorem dX10_link_40 : decode cX10_link 40 = .ok (.getfield 198, 3) := by decide +kernel
theorem dX10_link_43 : decode cX10_link 43 = .ok (.if_icmp .ge 30, 3) := by decide +kernel
theorem dX10_link_46 : decode cX10_link 46 = .ok (.aload_n 0, 1) := by decide +kernel
theorem dX10_link_47 : decode cX10_link 47 = .ok (.getfield 88, 3) := by decide +kernel
theorem dX10_link_50 : decode cX10_link 50 = .ok (.aload_n 0, 1) := by decide +kernel
theorem dX10_link_51 : decode cX10_link 51 = .ok (.getfield 73, 3) := by decide +kernel
theorem dX10_link_54 : decode cX10_link 54 = .ok (.iload_n 3, 1) := by decide +kernel
theorem dX10_link_55 : decode cX10_link 55 = .ok (.iaload, 1) := by decide +kernel
theorem dX10_link_56 : decode cX10_link 56 = .ok (.iaload, 1) := by decide +kernel
theorem dX10_link_57 : decode cX10_link 57 = .ok (.iconst (-1), 1) := by decide +kernel
theorem dX10_link_58 : decode cX10_link 58 = .ok (.if_icmp .ne 9, 3) := by decide +kernel
theorem dX10_link_61 : decode cX10_link 61 = .ok (.aload_n 0, 1) := by decide +kernel
theorem dX10_link_62 : decode cX10_link 62 = .ok (.iconst 2, 1) := by decide +kernel
theorem dX10_link_63 : decode cX10_link 63 = .ok (.iload_n 3, 1) := by decide +kernel
theorem dX10_link_64 : decode cX10_link 64 = .ok (.invokevirtual 273, 3) := by decide +kernel
theorem dX10_link_67 : decode cX10_link 67 = .ok (.iinc 3 1, 3) := by decide +kernel
theorem dX10_link_70 : decode cX10_link 70 = .ok (.goto (-32), 3) := by decide +kernel
theorem dX10_link_73 : decode cX10_link 73 = .ok (.iconst 0, 1) := by decide +kernel
theorem dX10_link_74 : decode cX10_link 74 = .ok (.istore_n 3, 1) := by decide +kernel
theorem dX10_link_75 : decode cX10_link 75 = .ok (.iload_n 3, 1) := by decide +kernel
theorem dX10_link_76 : decode cX10_link 76 = .ok (.aload_n 0, 1) := by decide +kernel
theorem dX10_link_77 : decode cX10_link 77 = .ok (.getfield 195, 3) := by decide +kernel
theorem dX10_link_80 : decode cX10_link 80 = .ok (.if_icmp .ge 58, 3) := by decide +kernel
theorem dX10_link_83 : decode cX10_link 83 = .ok (.aload_n 0, 1) := by decide +kernel
theorem dX10_link_84 : decode cX10_link 84 = .ok (.getfield 103, 3) := by decide +kernel
theorem dX10_link_87 : decode cX10_link 87 = .ok (.aload_n 0, 1) := by decide +kernel
theorem dX10_link_88 : decode cX10_link 88 = .ok (.getfield 58, 3) := by decide +kernel
theorem dX10_link_91 : decode cX10_link 91 = .ok (.iload_n 3, 1) := by decide +kernel
theorem dX10_link_92 : decode cX10_link 92 = .ok (.iaload, 1) := by decide +kernel
theorem dX10_link_93 : decode cX10_link 93 = .ok (.baload, 1) := by decide +kernel
theorem dX10_link_94 : decode cX10_link 94 = .ok (.ifCond .eq 38, 3) := by decide +kernel
theorem dX10_link_97 : decode cX10_link 97 = .ok (.aload_n 0, 1) := by decide +kernel
theorem dX10_link_98 : decode cX10_link 98 = .ok (.getfield 55, 3) := by decide +kernel
theorem dX10_link_101 : decode cX10_link 101 = .ok (.aload_n 0, 1) := by decide +kernel
theorem dX10_link_102 : decode cX10_link 102 = .ok (.getfield 67, 3) := by decide +kernel
theorem dX10_link_105 : decode cX10_link 105 = .ok (.iload_n 3, 1) := by decide +kernel
theorem dX10_link_106 : decode cX10_link 106 = .ok (.iaload, 1) := by decide +kernel
theorem dX10_link_107 : decode cX10_link 107 = .ok (.iaload, 1) := by decide +kernel
theorem dX10_link_108 : decode cX10_link 108 = .ok (.iconst 2, 1) := by decide +kernel
theorem dX10_link_109 : decode cX10_link 109 = .ok (.if_icmp .eq 23, 3) := by decide +kernel
theorem dX10_link_112 : decode cX10_link 112 = .ok (.aload_n 0, 1) := by decide +kernel
theorem dX10_link_113 : decode cX10_link 113 = .ok (.getfield 91, 3) := by decide +kernel
theorem dX10_link_116 : decode cX10_link 116 = .ok (.aload_n 0, 1) := by decide +kernel
theorem dX10_link_117 : decode cX10_link 117 = .ok (.getfield 67, 3) := by decide +kernel
theorem dX10_link_120 : decode cX10_link 120 = .ok (.iload_n 3, 1) := by decide +kernel
theorem dX10_link_121 : decode cX10_link 121 = .ok (.iaload, 1) := by decide +kernel
theorem dX10_link_122 : decode cX10_link 122 = .ok (.iaload, 1) := by decide +kernel
theorem dX10_link_123 : decode cX10_link 123 = .ok (.ifCond .ne 9, 3) := by decide +kernel
theorem dX10_link_126 : decode cX10_link 126 = .ok (.aload_n 0, 1) := by decide +kernel
theorem dX10_link_127 : decode cX10_link 127 = .ok (.iconst 3, 1) := by decide +kernel
theorem dX10_link_128 : decode cX10_link 128 = .ok (.iload_n 3, 1) := by decide +kernel
theorem dX10_link_129 : decode cX10_link 129 = .ok (.invokevirtual 273, 3) := by decide +kernel
theorem dX10_link_132 : decode cX10_link 132 = .ok (.iinc 3 1, 3) := by decide +kernel
theorem dX10_link_135 : decode cX10_link 135 = .ok (.goto (-60), 3) := by decide +kernel
theorem dX10_link_138 : decode cX10_link 138 = .ok (.iconst 0, 1) := by decide +kernel
theorem dX10_link_139 : decode cX10_link 139 = .ok (.istore_n 3, 1) := by decide +kernel
theorem dX10_link_140 : decode cX10_link 140 = .ok (.iload_n 3, 1) := by decide +kernel
theorem dX10_link_141 : decode cX10_link 141 = .ok (.aload_n 0, 1) := by decide +kernel
theorem dX10_link_142 : decode cX10_link 142 = .ok (.getfield 195, 3) := by decide +kernel
theorem dX10_link_145 : decode cX10_link 145 = .ok (.if_icmp .ge 63, 3) := by decide +kernel
theorem dX10_link_148 : decode cX10_link 148 = .ok (.aload_n 0, 1) := by decide +kernel
theorem dX10_link_149 : decode cX10_link 149 = .ok (.getfield 103, 3) := by decide +kernel
theorem dX10_link_152 : decode cX10_link 152 = .ok (.aload_n 0, 1) := by decide +kernel
theorem dX10_link_153 : decode cX10_link 153 = .ok (.getfield 58, 3) := by decide +kernel
theorem dX10_link_156 : decode cX10_link 156 = .ok (.iload_n 3, 1) := by decide +kernel
theorem dX10_link_157 : decode cX10_link 157 = .ok (.iaload, 1) := by decide +kernel
theorem dX10_link_158 : decode cX10_link 158 = .ok (.baload, 1) := by decide +kernel
theorem dX10_link_159 : decode cX10_link 159 = .ok (.ifCond .eq 43, 3) := by decide +kernel
theorem dX10_link_162 : decode cX10_link 162 = .ok (.aload_n 0, 1) := by decide +kernel
theorem dX10_link_163 : decode cX10_link 163 = .ok (.getfield 91, 3) := by decide +kernel
theorem dX10_link_166 : decode cX10_link 166 = .ok (.aload_n 0, 1) := by decide +kernel
theorem dX10_link_167 : decode cX10_link 167 = .ok (.getfield 67, 3) := by decide +kernel
theorem dX10_link_170 : decode cX10_link 170 = .ok (.iload_n 3, 1) := by decide +kernel
theorem dX10_link_171 : decode cX10_link 171 = .ok (.iaload, 1) := by decide +kernel
theorem dX10_link_172 : decode cX10_link 172 = .ok (.iaload, 1) := by decide +kernel
theorem dX10_link_173 : decode cX10_link 173 = .ok (.iconst 1, 1) := by decide +kernel
theorem dX10_link_174 : decode cX10_link 174 = .ok (.if_icmp .ne 28, 3) := by decide +kernel
theorem dX10_link_177 : decode cX10_link 177 = .ok (.aload_n 0, 1) := by decide +kernel
theorem dX10_link_178 : decode cX10_link 178 = .ok (.getfield 85, 3) := by decide +kernel
theorem dX10_link_181 : decode cX10_link 181 = .ok (.aload_n 0, 1) := by decide +kernel
theorem dX10_link_182 : decode cX10_link 182 = .ok (.getfield 94, 3) := by decide +kernel
theorem dX10_link_185 : decode cX10_link 185 = .ok (.aload_n 0, 1) := by decide +kernel
theorem dX10_link_186 : decode cX10_link 186 = .ok (.getfield 67, 3) := by decide +kernel
theorem dX10_link_189 : decode cX10_link 189 = .ok (.iload_n 3, 1) := by decide +kernel
theorem dX10_link_190 : decode cX10_link 190 = .ok (.iaload, 1) := by decide +kernel
theorem dX10_link_191 : decode cX10_link 191 = .ok (.iaload, 1) := by decide +kernel
theorem dX10_link_192 : decode cX10_link 192 = .ok (.baload, 1) := by decide +kernel
theorem dX10_link_193 : decode cX10_link 193 = .ok (.ifCond .eq 9, 3) := by decide +kernel
theorem dX10_link_196 : decode cX10_link 196 = .ok (.aload_n 0, 1) := by decide +kernel
theorem dX10_link_197 : decode cX10_link 197 = .ok (.iconst 4, 1) := by decide +kernel
theorem dX10_link_198 : decode cX10_link 198 = .ok (.iload_n 3, 1) := by decide +kernel
theorem dX10_link_199 : decode cX10_link 199 = .ok (.invokevirtual 273, 3) := by decide +kernel
theorem dX10_link_202 : decode cX10_link 202 = .ok (.iinc 3 1, 3) := by decide +kernel
theorem dX10_link_205 : decode cX10_link 205 = .ok (.goto (-65), 3) := by decide +kernel
theorem dX10_link_208 : decode cX10_link 208 = .ok (.aload_n 0, 1) := by decide +kernel
theorem dX10_link_209 : decode cX10_link 209 = .ok (.getfield 146, 3) := by decide +kernel
theorem dX10_link_212 : decode cX10_link 212 = .ok (.ifCond .le 8, 3) := by decide +kernel
theorem dX10_link_215 : decode cX10_link 215 = .ok (.aload_n 0, 1) := by decide +kernel
theorem dX10_link_216 : decode cX10_link 216 = .ok (.getfield 146, 3) := by decide +kernel
theorem dX10_link_219 : decode cX10_link 219 = .ok (.ireturn, 1) := by decide +kernel
theorem dX10_link_220 : decode cX10_link 220 = .ok (.aload_n 0, 1) := by decide +kernel
theorem dX10_link_221 : decode cX10_link 221 = .ok (.invokevirtual 283, 3) := by decide +kernel
theorem dX10_link_224 : decode cX10_link 224 = .ok (.iconst 0, 1) := by decide +kernel
theorem dX10_link_225 : decode cX10_link 225 = .ok (.istore_n 3, 1) := by decide +kernel
theorem dX10_link_226 : decode cX10_link 226 = .ok (.iload_n 3, 1) := by decide +kernel
theorem dX10_link_227 : decode cX10_link 227 = .ok (.iconst 4, 1) := by decide +kernel
theorem dX10_link_228 : decode cX10_link 228 = .ok (.if_icmp .ge 81, 3) := by decide +kernel
theorem dX10_link_231 : decode cX10_link 231 = .ok (.iconst 0, 1) := by decide +kernel
theorem dX10_link_232 : decode cX10_link 232 = .ok (.istore 4, 2) := by decide +kernel
theorem dX10_link_234 : decode cX10_link 234 = .ok (.iload 4, 2) := by decide +kernel
theorem dX10_link_236 : decode cX10_link 236 = .ok (.iload_n 3, 1) := by decide +kernel
theorem dX10_link_237 : decode cX10_link 237 = .ok (.if_icmp .ge 66, 3) := by decide +kernel
theorem dX10_link_240 : decode cX10_link 240 = .ok (.aload_n 0, 1) := by decide +kernel
theorem dX10_link_241 : decode cX10_link 241 = .ok (.iload_n 3, 1) := by decide +kernel
theorem dX10_link_242 : decode cX10_link 242 = .ok (.invokevirtual 286, 3) := by decide +kernel
theorem dX10_link_245 : decode cX10_link 245 = .ok (.ifCond .eq 52, 3) := by decide +kernel
theorem dX10_link_248 : decode cX10_link 248 = .ok (.aload_n 0, 1) := by decide +kernel
theorem dX10_link_249 : decode cX10_link 249 = .ok (.iload 4, 2) := by decide +kernel
theorem dX10_link_251 : decode cX10_link 251 = .ok (.invokevirtual 286, 3) := by decide +kernel
theorem dX10_link_254 : decode cX10_link 254 = .ok (.ifCond .eq 43, 3) := by decide +kernel
theorem dX10_link_257 : decode cX10_link 257 = .ok (.aload_n 0, 1) := by decide +kernel
theorem dX10_link_258 : decode cX10_link 258 = .ok (.getfield 124, 3) := by decide +kernel
theorem dX10_link_261 : decode cX10_link 261 = .ok (.iload_n 3, 1) := by decide +kernel
theorem dX10_link_262 : decode cX10_link 262 = .ok (.laload, 1) := by decide +kernel
theorem dX10_link_263 : decode cX10_link 263 = .ok (.aload_n 0, 1) := by decide +kernel
theorem dX10_link_264 : decode cX10_link 264 = .ok (.getfield 127, 3) := by decide +kernel
theorem dX10_link_267 : decode cX10_link 267 = .ok (.iload 4, 2) := by decide +kernel
theorem dX10_link_269 : decode cX10_link 269 = .ok (.laload, 1) := by decide +kernel
theorem dX10_link_270 : decode cX10_link 270 = .ok (.lcmp, 1) := by decide +kernel
theorem dX10_link_271 : decode cX10_link 271 = .ok (.ifCond .ge 26, 3) := by decide +kernel
theorem dX10_link_274 : decode cX10_link 274 = .ok (.aload_n 0, 1) := by decide +kernel
theorem dX10_link_275 : decode cX10_link 275 = .ok (.getfield 124, 3) := by decide +kernel
theorem dX10_link_278 : decode cX10_link 278 = .ok (.iload 4, 2) := by decide +kernel
theorem dX10_link_280 : decode cX10_link 280 = .ok (.laload, 1) := by decide +kernel
theorem dX10_link_281 : decode cX10_link 281 = .ok (.aload_n 0, 1) := by decide +kernel
theorem dX10_link_282 : decode cX10_link 282 = .ok (.getfield 127, 3) := by decide +kernel
theorem dX10_link_285 : decode cX10_link 285 = .ok (.iload_n 3, 1) := by decide +kernel
theorem dX10_link_286 : decode cX10_link 286 = .ok (.laload, 1) := by decide +kernel
theorem dX10_link_287 : decode cX10_link 287 = .ok (.lcmp, 1) := by decide +kernel
theorem dX10_link_288 : decode cX10_link 288 = .ok (.ifCond .ge 9, 3) := by decide +kernel
theorem dX10_link_291 : decode cX10_link 291 = .ok (.aload_n 0, 1) := by decide +kernel
theorem dX10_link_292 : decode cX10_link 292 = .ok (.iconst 5, 1) := by decide +kernel
theorem dX10_link_293 : decode cX10_link 293 = .ok (.iload_n 3, 1) := by decide +kernel
theorem dX10_link_294 : decode cX10_link 294 = .ok (.invokevirtual 273, 3) := by decide +kernel
theorem dX10_link_297 : decode cX10_link 297 = .ok (.iinc 4 1, 3) := by decide +kernel
theorem dX10_link_300 : decode cX10_link 300 = .ok (.goto (-66), 3) := by decide +kernel
theorem dX10_link_303 : decode cX10_link 303 = .ok (.iinc 3 1, 3) := by decide +kernel
theorem dX10_link_306 : decode cX10_link 306 = .ok (.goto (-80), 3) := by decide +kernel
theorem dX10_link_309 : decode cX10_link 309 = .ok (.iconst 0, 1) := by decide +kernel
theorem dX10_link_310 : decode cX10_link 310 = .ok (.istore_n 3, 1) := by decide +kernel
theorem dX10_link_311 : decode cX10_link 311 = .ok (.iload_n 3, 1) := by decide +kernel
theorem dX10_link_312 : decode cX10_link 312 = .ok (.aload_n 0, 1) := by decide +kernel
theorem dX10_link_313 : decode cX10_link 313 = .ok (.getfield 195, 3) := by decide +kernel
theorem dX10_link_316 : decode cX10_link 316 = .ok (.if_icmp .ge 37, 3) := by decide +kernel
theorem dX10_link_319 : decode cX10_link 319 = .ok (.aload_n 0, 1) := by decide +kernel
theorem dX10_link_320 : decode cX10_link 320 = .ok (.aload_n 0, 1) := by decide +kernel
theorem dX10_link_321 : decode cX10_link 321 = .ok (.getfield 58, 3) := by decide +kernel
theorem dX10_link_324 : decode cX10_link 324 = .ok (.iload_n 3, 1) := by decide +kernel
theorem dX10_link_325 : decode cX10_link 325 = .ok (.iaload, 1) := by decide +kernel
theorem dX10_link_326 : decode cX10_link 326 = .ok (.invokevirtual 235, 3) := by decide +kernel
theorem dX10_link_329 : decode cX10_link 329 = .ok (.ifCond .eq 18, 3) := by decide +kernel
theorem dX10_link_332 : decode cX10_link 332 = .ok (.aload_n 0, 1) := by decide +kernel
theorem dX10_link_333 : decode cX10_link 333 = .ok (.iload_n 3, 1) := by decide +kernel
theorem dX10_link_334 : decode cX10_link 334 = .ok (.invokevirtual 289, 3) := by decide +kernel
theorem dX10_link_337 : decode cX10_link 337 = .ok (.ifCond .ne 10, 3) := by decide +kernel
theorem dX10_link_340 : decode cX10_link 340 = .ok (.aload_n 0, 1) := by decide +kernel
theorem dX10_link_341 : decode cX10_link 341 = .ok (.bipush 6, 2) := by decide +kernel
theorem dX10_link_343 : decode cX10_link 343 = .ok (.iload_n 3, 1) := by decide +kernel
theorem dX10_link_344 : decode cX10_link 344 = .ok (.invokevirtual 273, 3) := by decide +kernel
theorem dX10_link_347 : decode cX10_link 347 = .ok (.iinc 3 1, 3) := by decide +kernel
theorem dX10_link_350 : decode cX10_link 350 = .ok (.goto (-39), 3) := by decide +kernel
theorem dX10_link_353 : decode cX10_link 353 = .ok (.aload_n 0, 1) := by decide +kernel
theorem dX10_link_354 : decode cX10_link 354 = .ok (.aload_n 0, 1) := by decide +kernel
theorem dX10_link_355 : decode cX10_link 355 = .ok (.getfield 146, 3) := by decide +kernel
theorem dX10_link_358 : decode cX10_link 358 = .ok (.ifCond .ne 7, 3) := by decide +kernel
theorem dX10_link_361 : decode cX10_link 361 = .ok (.iconst 1, 1) := by decide +kernel
theorem dX10_link_362 : decode cX10_link 362 = .ok (.goto 4, 3) := by decide +kernel
theorem dX10_link_365 : decode cX10_link 365 = .ok (.iconst 0, 1) := by decide +kernel
theorem dX10_link_366 : decode cX10_link 366 = .ok (.putfield 143, 3) := by decide +kernel
theorem dX10_link_369 : decode cX10_link 369 = .ok (.aload_n 0, 1) := by decide +kernel
theorem dX10_link_370 : decode cX10_link 370 = .ok (.getfield 146, 3) := by decide +kernel
theorem dX10_link_373 : decode cX10_link 373 = .ok (.ireturn, 1) := by decide +kernel
theorem dX10_hasPlaced_0 : decode cX10_hasPlaced 0 = .ok (.iconst 0, 1) := by decide +kernel
theorem dX10_hasPlaced_1 : decode cX10_hasPlaced 1 = .ok (.istore_n 2, 1) := by decide +kernel
theorem dX10_hasPlaced_2 : decode cX10_hasPlaced 2 = .ok (.iload_n 2, 1) := by decide +kernel
theorem dX10_hasPlaced_3 : decode cX10_hasPlaced 3 = .ok (.aload_n 0, 1) := by decide +kernel
theorem dX10_hasPlaced_4 : decode cX10_hasPlaced 4 = .ok (.getfield 165, 3) := by decide +kernel
theorem dX10_hasPlaced_7 : decode cX10_hasPlaced 7 = .ok (.if_icmp .ge 29, 3) := by decide +kernel
theorem dX10_hasPlaced_10 : decode cX10_hasPlaced 10 = .ok (.aload_n 0, 1) := by decide +kernel
theorem dX10_hasPlaced_11 : decode cX10_hasPlaced 11 = .ok (.getfield 17, 3) := by decide +kernel
theorem dX10_hasPlaced_14 : decode cX10_hasPlaced 14 = .ok (.iload_n 2, 1) := by decide +kernel
theorem dX10_hasPlaced_15 : decode cX10_hasPlaced 15 = .ok (.iaload, 1) := by decide +kernel
theorem dX10_hasPlaced_16 : decode cX10_hasPlaced 16 = .ok (.iload_n 1, 1) := by decide +kernel
theorem dX10_hasPlaced_17 : decode cX10_hasPlaced 17 = .ok (.if_icmp .ne 13, 3) := by decide +kernel
theorem dX10_hasPlaced_20 : decode cX10_hasPlaced 20 = .ok (.aload_n 0, 1) := by decide +kernel
theorem dX10_hasPlaced_21 : decode cX10_hasPlaced 21 = .ok (.iload_n 2, 1) := by decide +kernel
theorem dX10_hasPlaced_22 : decode cX10_hasPlaced 22 = .ok (.invokevirtual 235, 3) := by decide +kernel
theorem dX10_hasPlaced_25 : decode cX10_hasPlaced 25 = .ok (.ifCond .eq 5, 3) := by decide +kernel
theorem dX10_hasPlaced_28 : decode cX10_hasPlaced 28 = .ok (.iconst 1, 1) := by decide +kernel
theorem dX10_hasPlaced_29 : decode cX10_hasPlaced 29 = .ok (.ireturn, 1) := by decide +kernel
theorem dX10_hasPlaced_30 : decode cX10_hasPlaced 30 = .ok (.iinc 2 1, 3) := by decide +kernel
theorem dX10_hasPlaced_33 : decode cX10_hasPlaced 33 = .ok (.goto (-31), 3) := by decide +kernel
theorem dX10_hasPlaced_36 : decode cX10_hasPlaced 36 = .ok (.iconst 0, 1) := by decide +kernel
theorem dX10_hasPlaced_37 : decode cX10_hasPlaced 37 = .ok (.ireturn, 1) := by decide +kernel
theorem dX10_written_0 : decode cX10_written 0 = .ok (.aload_n 0, 1) := by decide +kernel
theorem dX10_written_1 : decode cX10_written 1 = .ok (.getfield 121, 3) := by decide +kernel
theorem dX10_written_4 : decode cX10_written 4 = .ok (.aload_n 0, 1) := by decide +kernel
theorem dX10_written_5 : decode cX10_written 5 = .ok (.getfield 58, 3) := by decide +kernel
theorem dX10_written_8 : decode cX10_written 8 = .ok (.iload_n 1, 1) := by decide +kernel
theorem dX10_written_9 : decode cX10_written 9 = .ok (.iaload, 1) := by decide +kernel
theorem dX10_written_10 : decode cX10_written 10 = .ok (.laload, 1) := by decide +kernel
theorem dX10_written_11 : decode cX10_written 11 = .ok (.aload_n 0, 1) := by decide +kernel
theorem dX10_written_12 : decode cX10_written 12 = .ok (.getfield 61, 3) := by decide +kernel
theorem dX10_written_15 : decode cX10_written 15 = .ok (.iload_n 1, 1) := by decide +kernel
theorem dX10_written_16 : decode cX10_written 16 = .ok (.iaload, 1) := by decide +kernel
theorem dX10_written_17 : decode cX10_written 17 = .ok (.i2l, 1) := by decide +kernel
theorem dX10_written_18 : decode cX10_written 18 = .ok (.ladd, 1) := by decide +kernel
theorem dX10_written_19 : decode cX10_written 19 = .ok (.lstore_n 2, 1) := by decide +kernel
theorem dX10_written_20 : decode cX10_written 20 = .ok (.aload_n 0, 1) := by decide +kernel
theorem dX10_written_21 : decode cX10_written 21 = .ok (.getfield 136, 3) := by decide +kernel
theorem dX10_written_24 : decode cX10_written 24 = .ok (.iload_n 1, 1) := by decide +kernel
theorem dX10_written_25 : decode cX10_written 25 = .ok (.iaload, 1) := by decide +kernel
theorem dX10_written_26 : decode cX10_written 26 = .ok (.iconst (-1), 1) := by decide +kernel
theorem dX10_written_27 : decode cX10_written 27 = .ok (.if_icmp .ne 11, 3) := by decide +kernel
theorem dX10_written_30 : decode cX10_written 30 = .ok (.aload_n 0, 1) := by decide +kernel
theorem dX10_written_31 : decode cX10_written 31 = .ok (.iload_n 1, 1) := by decide +kernel
theorem dX10_written_32 : decode cX10_written 32 = .ok (.invokevirtual 259, 3) := by decide +kernel
theorem dX10_written_35 : decode cX10_written 35 = .ok (.goto 13, 3) := by decide +kernel
theorem dX10_written_38 : decode cX10_written 38 = .ok (.aload_n 0, 1) := by decide +kernel
theorem dX10_written_39 : decode cX10_written 39 = .ok (.aload_n 0, 1) := by decide +kernel
theorem dX10_written_40 : decode cX10_written 40 = .ok (.getfield 136, 3) := by decide +kernel
theorem dX10_written_43 : decode cX10_written 43 = .ok (.iload_n 1, 1) := by decide +kernel
theorem dX10_written_44 : decode cX10_written 44 = .ok (.iaload, 1) := by decide +kernel
theorem dX10_written_45 : decode cX10_written 45 = .ok (.invokevirtual 292, 3) := by decide +kernel
theorem dX10_written_48 : decode cX10_written 48 = .ok (.lstore 4, 2) := by decide +kernel
theorem dX10_written_50 : decode cX10_written 50 = .ok (.aload_n 0, 1) := by decide +kernel
theorem dX10_written_51 : decode cX10_written 51 = .ok (.getfield 64, 3) := by decide +kernel
theorem dX10_written_54 : decode cX10_written 54 = .ok (.iload_n 1, 1) := by decide +kernel
theorem dX10_written_55 : decode cX10_written 55 = .ok (.iaload, 1) := by decide +kernel
theorem dX10_written_56 : decode cX10_written 56 = .ok (.iconst 2, 1) := by decide +kernel
theorem dX10_written_57 : decode cX10_written 57 = .ok (.if_icmp .eq 13, 3) := by decide +kernel
theorem dX10_written_60 : decode cX10_written 60 = .ok (.aload_n 0, 1) := by decide +kernel
theorem dX10_written_61 : decode cX10_written 61 = .ok (.getfield 64, 3) := by decide +kernel
theorem dX10_written_64 : decode cX10_written 64 = .ok (.iload_n 1, 1) := by decide +kernel
theorem dX10_written_65 : decode cX10_written 65 = .ok (.iaload, 1) := by decide +kernel
theorem dX10_written_66 : decode cX10_written 66 = .ok (.iconst 3, 1) := by decide +kernel
theorem dX10_written_67 : decode cX10_written 67 = .ok (.if_icmp .ne 10, 3) := by decide +kernel
theorem dX10_written_70 : decode cX10_written 70 = .ok (.lload 4, 2) := by decide +kernel
theorem dX10_written_72 : decode cX10_written 72 = .ok (.lload_n 2, 1) := by decide +kernel
theorem dX10_written_73 : decode cX10_written 73 = .ok (.lsub, 1) := by decide +kernel
theorem dX10_written_74 : decode cX10_written 74 = .ok (.goto 5, 3) := by decide +kernel
theorem dX10_written_77 : decode cX10_written 77 = .ok (.lload 4, 2) := by decide +kernel
theorem dX10_written_79 : decode cX10_written 79 = .ok (.lreturn, 1) := by decide +kernel
theorem dX10_fits_0 : decode cX10_fits 0 = .ok (.aload_n 0, 1) := by decide +kernel
theorem dX10_fits_1 : decode cX10_fits 1 = .ok (.iload_n 1, 1) := by decide +kernel
theorem dX10_fits_2 : decode cX10_fits 2 = .ok (.invokevirtual 295, 3) := by decide +kernel
theorem dX10_fits_5 : decode cX10_fits 5 = .ok (.lstore_n 2, 1) := by decide +kernel
theorem dX10_fits_6 : decode cX10_fits 6 = .ok (.aload_n 0, 1) := by decide +kernel
theorem dX10_fits_7 : decode cX10_fits 7 = .ok (.getfield 64, 3) := by decide +kernel
theorem dX10_fits_10 : decode cX10_fits 10 = .ok (.iload_n 1, 1) := by decide +kernel
theorem dX10_fits_11 : decode cX10_fits 11 = .ok (.iaload, 1) := by decide +kernel
theorem dX10_fits_12 : decode cX10_fits 12 = .ok (.tableswitch 67 0 3 #[32, 41, 50, 61], 32) := by decide +kernel
theorem dX10_fits_44 : decode cX10_fits 44 = .ok (.lload_n 2, 1) := by decide +kernel
theorem dX10_fits_45 : decode cX10_fits 45 = .ok (.lconst 0, 1) := by decide +kernel
theorem dX10_fits_46 : decode cX10_fits 46 = .ok (.ldc2_w 298, 3) := by decide +kernel
theorem dX10_fits_49 : decode cX10_fits 49 = .ok (.invokestatic 155, 3) := by decide +kernel
theorem dX10_fits_52 : decode cX10_fits 52 = .ok (.ireturn, 1) := by decide +kernel
theorem dX10_fits_53 : decode cX10_fits 53 = .ok (.lload_n 2, 1) := by decide +kernel
theorem dX10_fits_54 : decode cX10_fits 54 = .ok (.lconst 0, 1) := by decide +kernel
theorem dX10_fits_55 : decode cX10_fits 55 = .ok (.ldc2_w 300, 3) := by decide +kernel
theorem dX10_fits_58 : decode cX10_fits 58 = .ok (.invokestatic 155, 3) := by decide +kernel
theorem dX10_fits_61 : decode cX10_fits 61 = .ok (.ireturn, 1) := by decide +kernel
theorem dX10_fits_62 : decode cX10_fits 62 = .ok (.lload_n 2, 1) := by decide +kernel
theorem dX10_fits_63 : decode cX10_fits 63 = .ok (.ldc2_w 302, 3) := by decide +kernel
theorem dX10_fits_66 : decode cX10_fits 66 = .ok (.ldc2_w 304, 3) := by decide +kernel
theorem dX10_fits_69 : decode cX10_fits 69 = .ok (.invokestatic 155, 3) := by decide +kernel
theorem dX10_fits_72 : decode cX10_fits 72 = .ok (.ireturn, 1) := by decide +kernel
theorem dX10_fits_73 : decode cX10_fits 73 = .ok (.aload_n 0, 1) := by decide +kernel
theorem dX10_fits_74 : decode cX10_fits 74 = .ok (.lload_n 2, 1) := by decide +kernel
theorem dX10_fits_75 : decode cX10_fits 75 = .ok (.invokevirtual 262, 3) := by decide +kernel
theorem dX10_fits_78 : decode cX10_fits 78 = .ok (.ireturn, 1) := by decide +kernel
theorem dX10_fits_79 : decode cX10_fits 79 = .ok (.lload_n 2, 1) := by decide +kernel
theorem dX10_fits_80 : decode cX10_fits 80 = .ok (.ldc2_w 306, 3) := by decide +kernel
theorem dX10_fits_83 : decode cX10_fits 83 = .ok (.ldc2_w 308, 3) := by decide +kernel
theorem dX10_fits_86 : decode cX10_fits 86 = .ok (.invokestatic 155, 3) := by decide +kernel
theorem dX10_fits_89 : decode cX10_fits 89 = .ok (.ireturn, 1) := by decide +kernel
theorem dX10_fault_0 : decode cX10_fault 0 = .ok (.aload_n 0, 1) := by decide +kernel
theorem dX10_fault_1 : decode cX10_fault 1 = .ok (.getfield 82, 3) := by decide +kernel
theorem dX10_fault_4 : decode cX10_fault 4 = .ok (.ireturn, 1) := by decide +kernel
theorem dX10_kept_0 : decode cX10_kept 0 = .ok (.iload_n 1, 1) := by decide +kernel
theorem dX10_kept_1 : decode cX10_kept 1 = .ok (.i2l, 1) := by decide +kernel
theorem dX10_kept_2 : decode cX10_kept 2 = .ok (.lconst 0, 1) := by decide +kernel
theorem dX10_kept_3 : decode cX10_kept 3 = .ok (.aload_n 0, 1) := by decide +kernel
theorem dX10_kept_4 : decode cX10_kept 4 = .ok (.getfield 165, 3) := by decide +kernel
theorem dX10_kept_7 : decode cX10_kept 7 = .ok (.iconst 1, 1) := by decide +kernel
theorem dX10_kept_8 : decode cX10_kept 8 = .ok (.isub, 1) := by decide +kernel
theorem dX10_kept_9 : decode cX10_kept 9 = .ok (.i2l, 1) := by decide +kernel
theorem dX10_kept_10 : decode cX10_kept 10 = .ok (.invokestatic 155, 3) := by decide +kernel
theorem dX10_kept_13 : decode cX10_kept 13 = .ok (.ifCond .ne 6, 3) := by decide +kernel
theorem dX10_kept_16 : decode cX10_kept 16 = .ok (.bipush (-101), 2) := by decide +kernel
theorem dX10_kept_18 : decode cX10_kept 18 = .ok (.ireturn, 1) := by decide +kernel
theorem dX10_kept_19 : decode cX10_kept 19 = .ok (.iload_n 2, 1) := by decide +kernel
theorem dX10_kept_20 : decode cX10_kept 20 = .ok (.i2l, 1) := by decide +kernel
theorem dX10_kept_21 : decode cX10_kept 21 = .ok (.lconst 0, 1) := by decide +kernel
theorem dX10_kept_22 : decode cX10_kept 22 = .ok (.ldc2_w 189, 3) := by decide +kernel
theorem dX10_kept_25 : decode cX10_kept 25 = .ok (.invokestatic 155, 3) := by decide +kernel
theorem dX10_kept_28 : decode cX10_kept 28 = .ok (.ifCond .ne 6, 3) := by decide +kernel
theorem dX10_kept_31 : decode cX10_kept 31 = .ok (.bipush (-102), 2) := by decide +kernel
theorem dX10_kept_33 : decode cX10_kept 33 = .ok (.ireturn, 1) := by decide +kernel
theorem dX10_kept_34 : decode cX10_kept 34 = .ok (.aload_n 0, 1) := by decide +kernel
theorem dX10_kept_35 : decode cX10_kept 35 = .ok (.getfield 139, 3) := by decide +kernel
theorem dX10_kept_38 : decode cX10_kept 38 = .ok (.ifCond .eq 11, 3) := by decide +kernel
theorem dX10_kept_41 : decode cX10_kept 41 = .ok (.aload_n 0, 1) := by decide +kernel
theorem dX10_kept_42 : decode cX10_kept 42 = .ok (.getfield 146, 3) := by decide +kernel
theorem dX10_kept_45 : decode cX10_kept 45 = .ok (.iconst 1, 1) := by decide +kernel
theorem dX10_kept_46 : decode cX10_kept 46 = .ok (.if_icmp .ne 6, 3) := by decide +kernel
theorem dX10_kept_49 : decode cX10_kept 49 = .ok (.bipush (-103), 2) := by decide +kernel
theorem dX10_kept_51 : decode cX10_kept 51 = .ok (.ireturn, 1) := by decide +kernel
theorem dX10_kept_52 : decode cX10_kept 52 = .ok (.iload_n 2, 1) := by decide +kernel
theorem dX10_kept_53 : decode cX10_kept 53 = .ok (.ifCond .ne 20, 3) := by decide +kernel
theorem dX10_kept_56 : decode cX10_kept 56 = .ok (.aload_n 0, 1) := by decide +kernel
theorem dX10_kept_57 : decode cX10_kept 57 = .ok (.getfield 103, 3) := by decide +kernel
theorem dX10_kept_60 : decode cX10_kept 60 = .ok (.iload_n 1, 1) := by decide +kernel
theorem dX10_kept_61 : decode cX10_kept 61 = .ok (.baload, 1) := by decide +kernel
theorem dX10_kept_62 : decode cX10_kept 62 = .ok (.ifCond .eq 7, 3) := by decide +kernel
theorem dX10_kept_65 : decode cX10_kept 65 = .ok (.iconst 1, 1) := by decide +kernel
theorem dX10_kept_66 : decode cX10_kept 66 = .ok (.goto 63, 3) := by decide +kernel
theorem dX10_kept_69 : decode cX10_kept 69 = .ok (.iconst 0, 1) := by decide +kernel
theorem dX10_kept_70 : decode cX10_kept 70 = .ok (.goto 59, 3) := by decide +kernel
theorem dX10_kept_73 : decode cX10_kept 73 = .ok (.iload_n 2, 1) := by decide +kernel
theorem dX10_kept_74 : decode cX10_kept 74 = .ok (.iconst 1, 1) := by decide +kernel
theorem dX10_kept_75 : decode cX10_kept 75 = .ok (.if_icmp .ne 12, 3) := by decide +kernel
theorem dX10_kept_78 : decode cX10_kept 78 = .ok (.aload_n 0, 1) := by decide +kernel
theorem dX10_kept_79 : decode cX10_kept 79 = .ok (.getfield 106, 3) := by decide +kernel
theorem dX10_kept_82 : decode cX10_kept 82 = .ok (.iload_n 1, 1) := by decide +kernel
theorem dX10_kept_83 : decode cX10_kept 83 = .ok (.iaload, 1) := by decide +kernel
theorem dX10_kept_84 : decode cX10_kept 84 = .ok (.goto 45, 3) := by decide +kernel
theorem dX10_kept_87 : decode cX10_kept 87 = .ok (.iload_n 2, 1) := by decide +kernel
theorem dX10_kept_88 : decode cX10_kept 88 = .ok (.iconst 2, 1) := by decide +kernel
theorem dX10_kept_89 : decode cX10_kept 89 = .ok (.if_icmp .ne 12, 3) := by decide +kernel
theorem dX10_kept_92 : decode cX10_kept 92 = .ok (.aload_n 0, 1) := by decide +kernel
theorem dX10_kept_93 : decode cX10_kept 93 = .ok (.getfield 112, 3) := by decide +kernel
theorem dX10_kept_96 : decode cX10_kept 96 = .ok (.iload_n 1, 1) := by decide +kernel
theorem dX10_kept_97 : decode cX10_kept 97 = .ok (.iaload, 1) := by decide +kernel
theorem dX10_kept_98 : decode cX10_kept 98 = .ok (.goto 31, 3) := by decide +kernel
theorem dX10_kept_101 : decode cX10_kept 101 = .ok (.iload_n 2, 1) := by decide +kernel
theorem dX10_kept_102 : decode cX10_kept 102 = .ok (.iconst 3, 1) := by decide +kernel
theorem dX10_kept_103 : decode cX10_kept 103 = .ok (.if_icmp .ne 20, 3) := by decide +kernel
theorem dX10_kept_106 : decode cX10_kept 106 = .ok (.aload_n 0, 1) := by decide +kernel
theorem dX10_kept_107 : decode cX10_kept 107 = .ok (.getfield 85, 3) := by decide +kernel
theorem dX10_kept_110 : decode cX10_kept 110 = .ok (.iload_n 1, 1) := by decide +kernel
theorem dX10_kept_111 : decode cX10_kept 111 = .ok (.baload, 1) := by decide +kernel
theorem dX10_kept_112 : decode cX10_kept 112 = .ok (.ifCond .eq 7, 3) := by decide +kernel
theorem dX10_kept_115 : decode cX10_kept 115 = .ok (.iconst 1, 1) := by decide +kernel
theorem dX10_kept_116 : decode cX10_kept 116 = .ok (.goto 13, 3) := by decide +kernel
theorem dX10_kept_119 : decode cX10_kept 119 = .ok (.iconst 0, 1) := by decide +kernel
theorem dX10_kept_120 : decode cX10_kept 120 = .ok (.goto 9, 3) := by decide +kernel
theorem dX10_kept_123 : decode cX10_kept 123 = .ok (.aload_n 0, 1) := by decide +kernel
theorem dX10_kept_124 : decode cX10_kept 124 = .ok (.getfield 109, 3) := by decide +kernel
theorem dX10_kept_127 : decode cX10_kept 127 = .ok (.iload_n 1, 1) := by decide +kernel
theorem dX10_kept_128 : decode cX10_kept 128 = .ok (.iaload, 1) := by decide +kernel
theorem dX10_kept_129 : decode cX10_kept 129 = .ok (.ireturn, 1) := by decide +kernel
theorem dX10_place_0 : decode cX10_place 0 = .ok (.aload_n 0, 1) := by decide +kernel
theorem dX10_place_1 : decode cX10_place 1 = .ok (.iload_n 1, 1) := by decide +kernel
theorem dX10_place_2 : decode cX10_place 2 = .ok (.i2l, 1) := by decide +kernel
theorem dX10_place_3 : decode cX10_place 3 = .ok (.lconst 0, 1) := by decide +kernel
theorem dX10_place_4 : decode cX10_place 4 = .ok (.aload_n 0, 1) := by decide +kernel
theorem dX10_place_5 : decode cX10_place 5 = .ok (.getfield 165, 3) := by decide +kernel
theorem dX10_place_8 : decode cX10_place 8 = .ok (.iconst 1, 1) := by decide +kernel
theorem dX10_place_9 : decode cX10_place 9 = .ok (.isub, 1) := by decide +kernel
theorem dX10_place_10 : decode cX10_place 10 = .ok (.i2l, 1) := by decide +kernel
theorem dX10_place_11 : decode cX10_place 11 = .ok (.invokestatic 155, 3) := by decide +kernel
theorem dX10_place_14 : decode cX10_place 14 = .ok (.ifCond .ne 7, 3) := by decide +kernel
theorem dX10_place_17 : decode cX10_place 17 = .ok (.iconst 1, 1) := by decide +kernel
theorem dX10_place_18 : decode cX10_place 18 = .ok (.goto 24, 3) := by decide +kernel
theorem dX10_place_21 : decode cX10_place 21 = .ok (.aload_n 0, 1) := by decide +kernel
theorem dX10_place_22 : decode cX10_place 22 = .ok (.getfield 143, 3) := by decide +kernel
theorem dX10_place_25 : decode cX10_place 25 = .ok (.ifCond .eq 12, 3) := by decide +kernel
theorem dX10_place_28 : decode cX10_place 28 = .ok (.aload_n 0, 1) := by decide +kernel
theorem dX10_place_29 : decode cX10_place 29 = .ok (.getfield 103, 3) := by decide +kernel
theorem dX10_place_32 : decode cX10_place 32 = .ok (.iload_n 1, 1) := by decide +kernel
theorem dX10_place_33 : decode cX10_place 33 = .ok (.baload, 1) := by decide +kernel
theorem dX10_place_34 : decode cX10_place 34 = .ok (.ifCond .ne 7, 3) := by decide +kernel
theorem dX10_place_37 : decode cX10_place 37 = .ok (.iconst 2, 1) := by decide +kernel
theorem dX10_place_38 : decode cX10_place 38 = .ok (.goto 4, 3) := by decide +kernel
theorem dX10_place_41 : decode cX10_place 41 = .ok (.iconst 0, 1) := by decide +kernel
theorem dX10_place_42 : decode cX10_place 42 = .ok (.putfield 1, 3) := by decide +kernel
theorem dX10_place_45 : decode cX10_place 45 = .ok (.aload_n 0, 1) := by decide +kernel
theorem dX10_place_46 : decode cX10_place 46 = .ok (.getfield 1, 3) := by decide +kernel
theorem dX10_place_49 : decode cX10_place 49 = .ok (.ifCond .le 7, 3) := by decide +kernel
theorem dX10_place_52 : decode cX10_place 52 = .ok (.lconst 0, 1) := by decide +kernel
theorem dX10_place_53 : decode cX10_place 53 = .ok (.goto 8, 3) := by decide +kernel
theorem dX10_place_56 : decode cX10_place 56 = .ok (.aload_n 0, 1) := by decide +kernel
theorem dX10_place_57 : decode cX10_place 57 = .ok (.iload_n 1, 1) := by decide +kernel
theorem dX10_place_58 : decode cX10_place 58 = .ok (.invokevirtual 245, 3) := by decide +kernel
theorem dX10_place_61 : decode cX10_place 61 = .ok (.lreturn, 1) := by decide +kernel
theorem dX10_value_0 : decode cX10_value 0 = .ok (.aload_n 0, 1) := by decide +kernel
theorem dX10_value_1 : decode cX10_value 1 = .ok (.iload_n 1, 1) := by decide +kernel
theorem dX10_value_2 : decode cX10_value 2 = .ok (.i2l, 1) := by decide +kernel
theorem dX10_value_3 : decode cX10_value 3 = .ok (.lconst 0, 1) := by decide +kernel
theorem dX10_value_4 : decode cX10_value 4 = .ok (.aload_n 0, 1) := by decide +kernel
theorem dX10_value_5 : decode cX10_value 5 = .ok (.getfield 186, 3) := by decide +kernel
theorem dX10_value_8 : decode cX10_value 8 = .ok (.iconst 1, 1) := by decide +kernel
theorem dX10_value_9 : decode cX10_value 9 = .ok (.isub, 1) := by decide +kernel
theorem dX10_value_10 : decode cX10_value 10 = .ok (.i2l, 1) := by decide +kernel
theorem dX10_value_11 : decode cX10_value 11 = .ok (.invokestatic 155, 3) := by decide +kernel
theorem dX10_value_14 : decode cX10_value 14 = .ok (.ifCond .ne 7, 3) := by decide +kernel
theorem dX10_value_17 : decode cX10_value 17 = .ok (.iconst 1, 1) := by decide +kernel
theorem dX10_value_18 : decode cX10_value 18 = .ok (.goto 39, 3) := by decide +kernel
theorem dX10_value_21 : decode cX10_value 21 = .ok (.aload_n 0, 1) := by decide +kernel
theorem dX10_value_22 : decode cX10_value 22 = .ok (.getfield 143, 3) := by decide +kernel
theorem dX10_value_25 : decode cX10_value 25 = .ok (.ifCond .eq 27, 3) := by decide +kernel
theorem dX10_value_28 : decode cX10_value 28 = .ok (.aload_n 0, 1) := by decide +kernel
theorem dX10_value_29 : decode cX10_value 29 = .ok (.getfield 91, 3) := by decide +kernel
theorem dX10_value_32 : decode cX10_value 32 = .ok (.iload_n 1, 1) := by decide +kernel
theorem dX10_value_33 : decode cX10_value 33 = .ok (.iaload, 1) := by decide +kernel
theorem dX10_value_34 : decode cX10_value 34 = .ok (.iconst 1, 1) := by decide +kernel
theorem dX10_value_35 : decode cX10_value 35 = .ok (.if_icmp .ne 21, 3) := by decide +kernel
theorem dX10_value_38 : decode cX10_value 38 = .ok (.aload_n 0, 1) := by decide +kernel
theorem dX10_value_39 : decode cX10_value 39 = .ok (.getfield 103, 3) := by decide +kernel
theorem dX10_value_42 : decode cX10_value 42 = .ok (.aload_n 0, 1) := by decide +kernel
theorem dX10_value_43 : decode cX10_value 43 = .ok (.getfield 94, 3) := by decide +kernel
theorem dX10_value_46 : decode cX10_value 46 = .ok (.iload_n 1, 1) := by decide +kernel
theorem dX10_value_47 : decode cX10_value 47 = .ok (.iaload, 1) := by decide +kernel
theorem dX10_value_48 : decode cX10_value 48 = .ok (.baload, 1) := by decide +kernel
theorem dX10_value_49 : decode cX10_value 49 = .ok (.ifCond .ne 7, 3) := by decide +kernel
theorem dX10_value_52 : decode cX10_value 52 = .ok (.iconst 2, 1) := by decide +kernel
theorem dX10_value_53 : decode cX10_value 53 = .ok (.goto 4, 3) := by decide +kernel
theorem dX10_value_56 : decode cX10_value 56 = .ok (.iconst 0, 1) := by decide +kernel
theorem dX10_value_57 : decode cX10_value 57 = .ok (.putfield 1, 3) := by decide +kernel
theorem dX10_value_60 : decode cX10_value 60 = .ok (.aload_n 0, 1) := by decide +kernel
theorem dX10_value_61 : decode cX10_value 61 = .ok (.getfield 1, 3) := by decide +kernel
theorem dX10_value_64 : decode cX10_value 64 = .ok (.ifCond .le 7, 3) := by decide +kernel
theorem dX10_value_67 : decode cX10_value 67 = .ok (.lconst 0, 1) := by decide +kernel
theorem dX10_value_68 : decode cX10_value 68 = .ok (.goto 8, 3) := by decide +kernel
theorem dX10_value_71 : decode cX10_value 71 = .ok (.aload_n 0, 1) := by decide +kernel
theorem dX10_value_72 : decode cX10_value 72 = .ok (.iload_n 1, 1) := by decide +kernel
theorem dX10_value_73 : decode cX10_value 73 = .ok (.invokevirtual 249, 3) := by decide +kernel
theorem dX10_value_76 : decode cX10_value 76 = .ok (.lreturn, 1) := by decide +kernel
theorem dX10_octet_0 : decode cX10_octet 0 = .ok (.aload_n 0, 1) := by decide +kernel
theorem dX10_octet_1 : decode cX10_octet 1 = .ok (.getfield 143, 3) := by decide +kernel
theorem dX10_octet_4 : decode cX10_octet 4 = .ok (.ifCond .ne 6, 3) := by decide +kernel
theorem dX10_octet_7 : decode cX10_octet 7 = .ok (.bipush (-103), 2) := by decide +kernel
theorem dX10_octet_9 : decode cX10_octet 9 = .ok (.ireturn, 1) := by decide +kernel
theorem dX10_octet_10 : decode cX10_octet 10 = .ok (.iconst 0, 1) := by decide +kernel
theorem dX10_octet_11 : decode cX10_octet 11 = .ok (.istore_n 3, 1) := by decide +kernel
theorem dX10_octet_12 : decode cX10_octet 12 = .ok (.iload_n 3, 1) := by decide +kernel
theorem dX10_octet_13 : decode cX10_octet 13 = .ok (.aload_n 0, 1) := by decide +kernel
theorem dX10_octet_14 : decode cX10_octet 14 = .ok (.getfield 165, 3) := by decide +kernel
theorem dX10_octet_17 : decode cX10_octet 17 = .ok (.if_icmp .ge 61, 3) := by decide +kernel
theorem dX10_octet_20 : decode cX10_octet 20 = .ok (.aload_n 0, 1) := by decide +kernel
theorem dX10_octet_21 : decode cX10_octet 21 = .ok (.iload_n 3, 1) := by decide +kernel
theorem dX10_octet_22 : decode cX10_octet 22 = .ok (.invokevirtual 235, 3) := by decide +kernel
theorem dX10_octet_25 : decode cX10_octet 25 = .ok (.ifCond .eq 47, 3) := by decide +kernel
theorem dX10_octet_28 : decode cX10_octet 28 = .ok (.lload_n 1, 1) := by decide +kernel
theorem dX10_octet_29 : decode cX10_octet 29 = .ok (.aload_n 0, 1) := by decide +kernel
theorem dX10_octet_30 : decode cX10_octet 30 = .ok (.getfield 121, 3) := by decide +kernel
theorem dX10_octet_33 : decode cX10_octet 33 = .ok (.iload_n 3, 1) := by decide +kernel
theorem dX10_octet_34 : decode cX10_octet 34 = .ok (.laload, 1) := by decide +kernel
theorem dX10_octet_35 : decode cX10_octet 35 = .ok (.aload_n 0, 1) := by decide +kernel
theorem dX10_octet_36 : decode cX10_octet 36 = .ok (.getfield 121, 3) := by decide +kernel
theorem dX10_octet_39 : decode cX10_octet 39 = .ok (.iload_n 3, 1) := by decide +kernel
theorem dX10_octet_40 : decode cX10_octet 40 = .ok (.laload, 1) := by decide +kernel
theorem dX10_octet_41 : decode cX10_octet 41 = .ok (.aload_n 0, 1) := by decide +kernel
theorem dX10_octet_42 : decode cX10_octet 42 = .ok (.getfield 20, 3) := by decide +kernel
theorem dX10_octet_45 : decode cX10_octet 45 = .ok (.iload_n 3, 1) := by decide +kernel
theorem dX10_octet_46 : decode cX10_octet 46 = .ok (.iaload, 1) := by decide +kernel
theorem dX10_octet_47 : decode cX10_octet 47 = .ok (.i2l, 1) := by decide +kernel
theorem dX10_octet_48 : decode cX10_octet 48 = .ok (.ladd, 1) := by decide +kernel
theorem dX10_octet_49 : decode cX10_octet 49 = .ok (.lconst 1, 1) := by decide +kernel
theorem dX10_octet_50 : decode cX10_octet 50 = .ok (.lsub, 1) := by decide +kernel
theorem dX10_octet_51 : decode cX10_octet 51 = .ok (.invokestatic 155, 3) := by decide +kernel
theorem dX10_octet_54 : decode cX10_octet 54 = .ok (.ifCond .eq 18, 3) := by decide +kernel
theorem dX10_octet_57 : decode cX10_octet 57 = .ok (.aload_n 0, 1) := by decide +kernel
theorem dX10_octet_58 : decode cX10_octet 58 = .ok (.iload_n 3, 1) := by decide +kernel
theorem dX10_octet_59 : decode cX10_octet 59 = .ok (.lload_n 1, 1) := by decide +kernel
theorem dX10_octet_60 : decode cX10_octet 60 = .ok (.aload_n 0, 1) := by decide +kernel
theorem dX10_octet_61 : decode cX10_octet 61 = .ok (.getfield 121, 3) := by decide +kernel
theorem dX10_octet_64 : decode cX10_octet 64 = .ok (.iload_n 3, 1) := by decide +kernel
theorem dX10_octet_65 : decode cX10_octet 65 = .ok (.laload, 1) := by decide +kernel
theorem dX10_octet_66 : decode cX10_octet 66 = .ok (.lsub, 1) := by decide +kernel
theorem dX10_octet_67 : decode cX10_octet 67 = .ok (.l2i, 1) := by decide +kernel
theorem dX10_octet_68 : decode cX10_octet 68 = .ok (.invokevirtual 310, 3) := by decide +kernel
theorem dX10_octet_71 : decode cX10_octet 71 = .ok (.ireturn, 1) := by decide +kernel
theorem dX10_octet_72 : decode cX10_octet 72 = .ok (.iinc 3 1, 3) := by decide +kernel
theorem dX10_octet_75 : decode cX10_octet 75 = .ok (.goto (-63), 3) := by decide +kernel
theorem dX10_octet_78 : decode cX10_octet 78 = .ok (.iconst 0, 1) := by decide +kernel
theorem dX10_octet_79 : decode cX10_octet 79 = .ok (.istore_n 3, 1) := by decide +kernel
theorem dX10_octet_80 : decode cX10_octet 80 = .ok (.iload_n 3, 1) := by decide +kernel
theorem dX10_octet_81 : decode cX10_octet 81 = .ok (.aload_n 0, 1) := by decide +kernel
theorem dX10_octet_82 : decode cX10_octet 82 = .ok (.getfield 227, 3) := by decide +kernel
theorem dX10_octet_85 : decode cX10_octet 85 = .ok (.if_icmp .ge 83, 3) := by decide +kernel
theorem dX10_octet_88 : decode cX10_octet 88 = .ok (.aload_n 0, 1) := by decide +kernel
theorem dX10_octet_89 : decode cX10_octet 89 = .ok (.iload_n 3, 1) := by decide +kernel
theorem dX10_octet_90 : decode cX10_octet 90 = .ok (.invokevirtual 292, 3) := by decide +kernel
theorem dX10_octet_93 : decode cX10_octet 93 = .ok (.lstore 4, 2) := by decide +kernel
theorem dX10_octet_95 : decode cX10_octet 95 = .ok (.lload_n 1, 1) := by decide +kernel
theorem dX10_octet_96 : decode cX10_octet 96 = .ok (.lload 4, 2) := by decide +kernel
theorem dX10_octet_98 : decode cX10_octet 98 = .ok (.lload 4, 2) := by decide +kernel
theorem dX10_octet_100 : decode cX10_octet 100 = .ok (.ldc2_w 180, 3) := by decide +kernel
theorem dX10_octet_103 : decode cX10_octet 103 = .ok (.ladd, 1) := by decide +kernel
theorem dX10_octet_104 : decode cX10_octet 104 = .ok (.invokestatic 155, 3) := by decide +kernel
theorem dX10_octet_107 : decode cX10_octet 107 = .ok (.ifCond .eq 55, 3) := by decide +kernel
theorem dX10_octet_110 : decode cX10_octet 110 = .ok (.lload_n 1, 1) := by decide +kernel
theorem dX10_octet_111 : decode cX10_octet 111 = .ok (.lload 4, 2) := by decide +kernel
theorem dX10_octet_113 : decode cX10_octet 113 = .ok (.lsub, 1) := by decide +kernel
theorem dX10_octet_114 : decode cX10_octet 114 = .ok (.l2i, 1) := by decide +kernel
theorem dX10_octet_115 : decode cX10_octet 115 = .ok (.istore 6, 2) := by decide +kernel
theorem dX10_octet_117 : decode cX10_octet 117 = .ok (.iload 6, 2) := by decide +kernel
theorem dX10_octet_119 : decode cX10_octet 119 = .ok (.ifCond .ne 9, 3) := by decide +kernel
theorem dX10_octet_122 : decode cX10_octet 122 = .ok (.sipush 234, 3) := by decide +kernel
theorem dX10_octet_125 : decode cX10_octet 125 = .ok (.goto 36, 3) := by decide +kernel
theorem dX10_octet_128 : decode cX10_octet 128 = .ok (.iload 6, 2) := by decide +kernel
theorem dX10_octet_130 : decode cX10_octet 130 = .ok (.iconst 4, 1) := by decide +kernel
theorem dX10_octet_131 : decode cX10_octet 131 = .ok (.if_icmp .ge 7, 3) := by decide +kernel
theorem dX10_octet_134 : decode cX10_octet 134 = .ok (.iconst 0, 1) := by decide +kernel
theorem dX10_octet_135 : decode cX10_octet 135 = .ok (.goto 26, 3) := by decide +kernel
theorem dX10_octet_138 : decode cX10_octet 138 = .ok (.aload_n 0, 1) := by decide +kernel
theorem dX10_octet_139 : decode cX10_octet 139 = .ok (.aload_n 0, 1) := by decide +kernel
theorem dX10_octet_140 : decode cX10_octet 140 = .ok (.getfield 133, 3) := by decide +kernel
theorem dX10_octet_143 : decode cX10_octet 143 = .ok (.iload_n 3, 1) := by decide +kernel
theorem dX10_octet_144 : decode cX10_octet 144 = .ok (.iaload, 1) := by decide +kernel
theorem dX10_octet_145 : decode cX10_octet 145 = .ok (.invokevirtual 259, 3) := by decide +kernel
theorem dX10_octet_148 : decode cX10_octet 148 = .ok (.bipush 8, 2) := by decide +kernel
theorem dX10_octet_150 : decode cX10_octet 150 = .ok (.iload 6, 2) := by decide +kernel
theorem dX10_octet_152 : decode cX10_octet 152 = .ok (.iconst 4, 1) := by decide +kernel
theorem dX10_octet_153 : decode cX10_octet 153 = .ok (.isub, 1) := by decide +kernel
theorem dX10_octet_154 : decode cX10_octet 154 = .ok (.imul, 1) := by decide +kernel
theorem dX10_octet_155 : decode cX10_octet 155 = .ok (.lshr, 1) := by decide +kernel
theorem dX10_octet_156 : decode cX10_octet 156 = .ok (.l2i, 1) := by decide +kernel
theorem dX10_octet_157 : decode cX10_octet 157 = .ok (.sipush 255, 3) := by decide +kernel
theorem dX10_octet_160 : decode cX10_octet 160 = .ok (.iand, 1) := by decide +kernel
theorem dX10_octet_161 : decode cX10_octet 161 = .ok (.ireturn, 1) := by decide +kernel
theorem dX10_octet_162 : decode cX10_octet 162 = .ok (.iinc 3 1, 3) := by decide +kernel
theorem dX10_octet_165 : decode cX10_octet 165 = .ok (.goto (-85), 3) := by decide +kernel
theorem dX10_octet_168 : decode cX10_octet 168 = .ok (.iconst (-1), 1) := by decide +kernel
theorem dX10_octet_169 : decode cX10_octet 169 = .ok (.ireturn, 1) := by decide +kernel
theorem dX10_byteOf_0 : decode cX10_byteOf 0 = .ok (.aload_n 0, 1) := by decide +kernel
theorem dX10_byteOf_1 : decode cX10_byteOf 1 = .ok (.getfield 17, 3) := by decide +kernel
theorem dX10_byteOf_4 : decode cX10_byteOf 4 = .ok (.iload_n 1, 1) := by decide +kernel
theorem dX10_byteOf_5 : decode cX10_byteOf 5 = .ok (.iaload, 1) := by decide +kernel
theorem dX10_byteOf_6 : decode cX10_byteOf 6 = .ok (.iconst 3, 1) := by decide +kernel
theorem dX10_byteOf_7 : decode cX10_byteOf 7 = .ok (.if_icmp .ne 5, 3) := by decide +kernel
theorem dX10_byteOf_10 : decode cX10_byteOf 10 = .ok (.iconst 0, 1) := by decide +kernel
theorem dX10_byteOf_11 : decode cX10_byteOf 11 = .ok (.ireturn, 1) := by decide +kernel
theorem dX10_byteOf_12 : decode cX10_byteOf 12 = .ok (.aload_n 0, 1) := by decide +kernel
theorem dX10_byteOf_13 : decode cX10_byteOf 13 = .ok (.getfield 40, 3) := by decide +kernel
theorem dX10_byteOf_16 : decode cX10_byteOf 16 = .ok (.aload_n 0, 1) := by decide +kernel
theorem dX10_byteOf_17 : decode cX10_byteOf 17 = .ok (.getfield 26, 3) := by decide +kernel
theorem dX10_byteOf_20 : decode cX10_byteOf 20 = .ok (.iload_n 1, 1) := by decide +kernel
theorem dX10_byteOf_21 : decode cX10_byteOf 21 = .ok (.iaload, 1) := by decide +kernel
theorem dX10_byteOf_22 : decode cX10_byteOf 22 = .ok (.iload_n 2, 1) := by decide +kernel
theorem dX10_byteOf_23 : decode cX10_byteOf 23 = .ok (.iadd, 1) := by decide +kernel
theorem dX10_byteOf_24 : decode cX10_byteOf 24 = .ok (.iaload, 1) := by decide +kernel
theorem dX10_byteOf_25 : decode cX10_byteOf 25 = .ok (.istore_n 3, 1) := by decide +kernel
theorem dX10_byteOf_26 : decode cX10_byteOf 26 = .ok (.iconst 0, 1) := by decide +kernel
theorem dX10_byteOf_27 : decode cX10_byteOf 27 = .ok (.istore 4, 2) := by decide +kernel
theorem dX10_byteOf_29 : decode cX10_byteOf 29 = .ok (.iload 4, 2) := by decide +kernel
theorem dX10_byteOf_31 : decode cX10_byteOf 31 = .ok (.aload_n 0, 1) := by decide +kernel
theorem dX10_byteOf_32 : decode cX10_byteOf 32 = .ok (.getfield 195, 3) := by decide +kernel
theorem dX10_byteOf_35 : decode cX10_byteOf 35 = .ok (.if_icmp .ge 72, 3) := by decide +kernel
theorem dX10_byteOf_38 : decode cX10_byteOf 38 = .ok (.iload_n 2, 1) := by decide +kernel
theorem dX10_byteOf_39 : decode cX10_byteOf 39 = .ok (.aload_n 0, 1) := by decide +kernel
theorem dX10_byteOf_40 : decode cX10_byteOf 40 = .ok (.getfield 61, 3) := by decide +kernel
theorem dX10_byteOf_43 : decode cX10_byteOf 43 = .ok (.iload 4, 2) := by decide +kernel
theorem dX10_byteOf_45 : decode cX10_byteOf 45 = .ok (.iaload, 1) := by decide +kernel
theorem dX10_byteOf_46 : decode cX10_byteOf 46 = .ok (.isub, 1) := by decide +kernel
theorem dX10_byteOf_47 : decode cX10_byteOf 47 = .ok (.istore 5, 2) := by decide +kernel
theorem dX10_byteOf_49 : decode cX10_byteOf 49 = .ok (.aload_n 0, 1) := by decide +kernel
theorem dX10_byteOf_50 : decode cX10_byteOf 50 = .ok (.getfield 58, 3) := by decide +kernel
theorem dX10_byteOf_53 : decode cX10_byteOf 53 = .ok (.iload 4, 2) := by decide +kernel
theorem dX10_byteOf_55 : decode cX10_byteOf 55 = .ok (.iaload, 1) := by decide +kernel
theorem dX10_byteOf_56 : decode cX10_byteOf 56 = .ok (.iload_n 1, 1) := by decide +kernel
theorem dX10_byteOf_57 : decode cX10_byteOf 57 = .ok (.if_icmp .ne 44, 3) := by decide +kernel
theorem dX10_byteOf_60 : decode cX10_byteOf 60 = .ok (.iload 5, 2) := by decide +kernel
theorem dX10_byteOf_62 : decode cX10_byteOf 62 = .ok (.i2l, 1) := by decide +kernel
theorem dX10_byteOf_63 : decode cX10_byteOf 63 = .ok (.lconst 0, 1) := by decide +kernel
theorem dX10_byteOf_64 : decode cX10_byteOf 64 = .ok (.aload_n 0, 1) := by decide +kernel
theorem dX10_byteOf_65 : decode cX10_byteOf 65 = .ok (.getfield 64, 3) := by decide +kernel
theorem dX10_byteOf_68 : decode cX10_byteOf 68 = .ok (.iload 4, 2) := by decide +kernel
theorem dX10_byteOf_70 : decode cX10_byteOf 70 = .ok (.iaload, 1) := by decide +kernel
theorem dX10_byteOf_71 : decode cX10_byteOf 71 = .ok (.invokestatic 191, 3) := by decide +kernel
theorem dX10_byteOf_74 : decode cX10_byteOf 74 = .ok (.iconst 1, 1) := by decide +kernel
theorem dX10_byteOf_75 : decode cX10_byteOf 75 = .ok (.isub, 1) := by decide +kernel
theorem dX10_byteOf_76 : decode cX10_byteOf 76 = .ok (.i2l, 1) := by decide +kernel
theorem dX10_byteOf_77 : decode cX10_byteOf 77 = .ok (.invokestatic 155, 3) := by decide +kernel
theorem dX10_byteOf_80 : decode cX10_byteOf 80 = .ok (.ifCond .eq 21, 3) := by decide +kernel
theorem dX10_byteOf_83 : decode cX10_byteOf 83 = .ok (.aload_n 0, 1) := by decide +kernel
theorem dX10_byteOf_84 : decode cX10_byteOf 84 = .ok (.iload 4, 2) := by decide +kernel
theorem dX10_byteOf_86 : decode cX10_byteOf 86 = .ok (.invokevirtual 295, 3) := by decide +kernel
theorem dX10_byteOf_89 : decode cX10_byteOf 89 = .ok (.bipush 8, 2) := by decide +kernel
theorem dX10_byteOf_91 : decode cX10_byteOf 91 = .ok (.iload 5, 2) := by decide +kernel
theorem dX10_byteOf_93 : decode cX10_byteOf 93 = .ok (.imul, 1) := by decide +kernel
theorem dX10_byteOf_94 : decode cX10_byteOf 94 = .ok (.lshr, 1) := by decide +kernel
theorem dX10_byteOf_95 : decode cX10_byteOf 95 = .ok (.l2i, 1) := by decide +kernel
theorem dX10_byteOf_96 : decode cX10_byteOf 96 = .ok (.sipush 255, 3) := by decide +kernel
theorem dX10_byteOf_99 : decode cX10_byteOf 99 = .ok (.iand, 1) := by decide +kernel
theorem dX10_byteOf_100 : decode cX10_byteOf 100 = .ok (.istore_n 3, 1) := by decide +kernel
theorem dX10_byteOf_101 : decode cX10_byteOf 101 = .ok (.iinc 4 1, 3) := by decide +kernel
theorem dX10_byteOf_104 : decode cX10_byteOf 104 = .ok (.goto (-75), 3) := by decide +kernel
theorem dX10_byteOf_107 : decode cX10_byteOf 107 = .ok (.iload_n 3, 1) := by decide +kernel
theorem dX10_byteOf_108 : decode cX10_byteOf 108 = .ok (.ireturn, 1) := by decide +kernel
theorem dX10_range_0 : decode cX10_range 0 = .ok (.aload_n 0, 1) := by decide +kernel
theorem dX10_range_1 : decode cX10_range 1 = .ok (.iload_n 1, 1) := by decide +kernel
theorem dX10_range_2 : decode cX10_range 2 = .ok (.i2l, 1) := by decide +kernel
theorem dX10_range_3 : decode cX10_range 3 = .ok (.lconst 0, 1) := by decide +kernel
theorem dX10_range_4 : decode cX10_range 4 = .ok (.ldc2_w 159, 3) := by decide +kernel
theorem dX10_range_7 : decode cX10_range 7 = .ok (.invokestatic 155, 3) := by decide +kernel
theorem dX10_range_10 : decode cX10_range 10 = .ok (.ifCond .ne 7, 3) := by decide +kernel
theorem dX10_range_13 : decode cX10_range 13 = .ok (.iconst 1, 1) := by decide +kernel
theorem dX10_range_14 : decode cX10_range 14 = .ok (.goto 15, 3) := by decide +kernel
theorem dX10_range_17 : decode cX10_range 17 = .ok (.aload_n 0, 1) := by decide +kernel
theorem dX10_range_18 : decode cX10_range 18 = .ok (.getfield 143, 3) := by decide +kernel
theorem dX10_range_21 : decode cX10_range 21 = .ok (.ifCond .ne 7, 3) := by decide +kernel
theorem dX10_range_24 : decode cX10_range 24 = .ok (.iconst 2, 1) := by decide +kernel
theorem dX10_range_25 : decode cX10_range 25 = .ok (.goto 4, 3) := by decide +kernel
theorem dX10_range_28 : decode cX10_range 28 = .ok (.iconst 0, 1) := by decide +kernel
theorem dX10_range_29 : decode cX10_range 29 = .ok (.putfield 1, 3) := by decide +kernel
theorem dX10_range_32 : decode cX10_range 32 = .ok (.aload_n 0, 1) := by decide +kernel
theorem dX10_range_33 : decode cX10_range 33 = .ok (.getfield 1, 3) := by decide +kernel
theorem dX10_range_36 : decode cX10_range 36 = .ok (.ifCond .le 7, 3) := by decide +kernel
theorem dX10_range_39 : decode cX10_range 39 = .ok (.lconst 0, 1) := by decide +kernel
theorem dX10_range_40 : decode cX10_range 40 = .ok (.goto 22, 3) := by decide +kernel
theorem dX10_range_43 : decode cX10_range 43 = .ok (.iload_n 2, 1) := by decide +kernel
theorem dX10_range_44 : decode cX10_range 44 = .ok (.ifCond .eq 12, 3) := by decide +kernel
theorem dX10_range_47 : decode cX10_range 47 = .ok (.aload_n 0, 1) := by decide +kernel
theorem dX10_range_48 : decode cX10_range 48 = .ok (.getfield 127, 3) := by decide +kernel
theorem dX10_range_51 : decode cX10_range 51 = .ok (.iload_n 1, 1) := by decide +kernel
theorem dX10_range_52 : decode cX10_range 52 = .ok (.laload, 1) := by decide +kernel
theorem dX10_range_53 : decode cX10_range 53 = .ok (.goto 9, 3) := by decide +kernel
theorem dX10_range_56 : decode cX10_range 56 = .ok (.aload_n 0, 1) := by decide +kernel
theorem dX10_range_57 : decode cX10_range 57 = .ok (.getfield 124, 3) := by decide +kernel
theorem dX10_range_60 : decode cX10_range 60 = .ok (.iload_n 1, 1) := by decide +kernel
theorem dX10_range_61 : decode cX10_range 61 = .ok (.laload, 1) := by decide +kernel
theorem dX10_range_62 : decode cX10_range 62 = .ok (.lreturn, 1) := by decide +kernel
theorem dX10_veneers_0 : decode cX10_veneers 0 = .ok (.iload_n 1, 1) := by decide +kernel
theorem dX10_veneers_1 : decode cX10_veneers 1 = .ok (.i2l, 1) := by decide +kernel
theorem dX10_veneers_2 : decode cX10_veneers 2 = .ok (.lconst 0, 1) := by decide +kernel
theorem dX10_veneers_3 : decode cX10_veneers 3 = .ok (.aload_n 0, 1) := by decide +kernel
theorem dX10_veneers_4 : decode cX10_veneers 4 = .ok (.getfield 165, 3) := by decide +kernel
theorem dX10_veneers_7 : decode cX10_veneers 7 = .ok (.iconst 1, 1) := by decide +kernel
theorem dX10_veneers_8 : decode cX10_veneers 8 = .ok (.isub, 1) := by decide +kernel
theorem dX10_veneers_9 : decode cX10_veneers 9 = .ok (.i2l, 1) := by decide +kernel
theorem dX10_veneers_10 : decode cX10_veneers 10 = .ok (.invokestatic 155, 3) := by decide +kernel
theorem dX10_veneers_13 : decode cX10_veneers 13 = .ok (.ifCond .ne 8, 3) := by decide +kernel
theorem dX10_veneers_16 : decode cX10_veneers 16 = .ok (.bipush (-101), 2) := by decide +kernel
theorem dX10_veneers_18 : decode cX10_veneers 18 = .ok (.goto 20, 3) := by decide +kernel
theorem dX10_veneers_21 : decode cX10_veneers 21 = .ok (.aload_n 0, 1) := by decide +kernel
theorem dX10_veneers_22 : decode cX10_veneers 22 = .ok (.getfield 143, 3) := by decide +kernel
theorem dX10_veneers_25 : decode cX10_veneers 25 = .ok (.ifCond .eq 11, 3) := by decide +kernel
theorem dX10_veneers_28 : decode cX10_veneers 28 = .ok (.aload_n 0, 1) := by decide +kernel
theorem dX10_veneers_29 : decode cX10_veneers 29 = .ok (.iload_n 1, 1) := by decide +kernel
theorem dX10_veneers_30 : decode cX10_veneers 30 = .ok (.invokevirtual 242, 3) := by decide +kernel
theorem dX10_veneers_33 : decode cX10_veneers 33 = .ok (.goto 5, 3) := by decide +kernel
theorem dX10_veneers_36 : decode cX10_veneers 36 = .ok (.bipush (-103), 2) := by decide +kernel
theorem dX10_veneers_38 : decode cX10_veneers 38 = .ok (.ireturn, 1) := by decide +kernel
theorem dX10_found_0 : decode cX10_found 0 = .ok (.iconst 0, 1) := by decide +kernel
theorem dX10_found_1 : decode cX10_found 1 = .ok (.istore_n 2, 1) := by decide +kernel
theorem dX10_found_2 : decode cX10_found 2 = .ok (.iconst 0, 1) := by decide +kernel
theorem dX10_found_3 : decode cX10_found 3 = .ok (.istore_n 3, 1) := by decide +kernel
theorem dX10_found_4 : decode cX10_found 4 = .ok (.iload_n 3, 1) := by decide +kernel
theorem dX10_found_5 : decode cX10_found 5 = .ok (.aload_n 0, 1) := by decide +kernel
theorem dX10_found_6 : decode cX10_found 6 = .ok (.getfield 165, 3) := by decide +kernel
theorem dX10_found_9 : decode cX10_found 9 = .ok (.if_icmp .ge 58, 3) := by decide +kernel
theorem dX10_found_12 : decode cX10_found 12 = .ok (.aload_n 0, 1) := by decide +kernel
theorem dX10_found_13 : decode cX10_found 13 = .ok (.getfield 139, 3) := by decide +kernel
theorem dX10_found_16 : decode cX10_found 16 = .ok (.ifCond .eq 51, 3) := by decide +kernel
theorem dX10_found_19 : decode cX10_found 19 = .ok (.aload_n 0, 1) := by decide +kernel
theorem dX10_found_20 : decode cX10_found 20 = .ok (.getfield 146, 3) := by decide +kernel
theorem dX10_found_23 : decode cX10_found 23 = .ok (.iconst 1, 1) := by decide +kernel
theorem dX10_found_24 : decode cX10_found 24 = .ok (.if_icmp .eq 43, 3) := by decide +kernel
theorem dX10_found_27 : decode cX10_found 27 = .ok (.iload_n 2, 1) := by decide +kernel
theorem dX10_found_28 : decode cX10_found 28 = .ok (.iload_n 1, 1) := by decide +kernel
theorem dX10_found_29 : decode cX10_found 29 = .ok (.ifCond .eq 16, 3) := by decide +kernel
theorem dX10_found_32 : decode cX10_found 32 = .ok (.aload_n 0, 1) := by decide +kernel
theorem dX10_found_33 : decode cX10_found 33 = .ok (.getfield 112, 3) := by decide +kernel
theorem dX10_found_36 : decode cX10_found 36 = .ok (.iload_n 3, 1) := by decide +kernel
theorem dX10_found_37 : decode cX10_found 37 = .ok (.iaload, 1) := by decide +kernel
theorem dX10_found_38 : decode cX10_found 38 = .ok (.iconst (-1), 1) := by decide +kernel
theorem dX10_found_39 : decode cX10_found 39 = .ok (.if_icmp .eq 19, 3) := by decide +kernel
theorem dX10_found_42 : decode cX10_found 42 = .ok (.goto 12, 3) := by decide +kernel
theorem dX10_found_45 : decode cX10_found 45 = .ok (.aload_n 0, 1) := by decide +kernel
theorem dX10_found_46 : decode cX10_found 46 = .ok (.getfield 103, 3) := by decide +kernel
theorem dX10_found_49 : decode cX10_found 49 = .ok (.iload_n 3, 1) := by decide +kernel
theorem dX10_found_50 : decode cX10_found 50 = .ok (.baload, 1) := by decide +kernel
theorem dX10_found_51 : decode cX10_found 51 = .ok (.ifCond .eq 7, 3) := by decide +kernel
theorem dX10_found_54 : decode cX10_found 54 = .ok (.iconst 1, 1) := by decide +kernel
theorem dX10_found_55 : decode cX10_found 55 = .ok (.goto 4, 3) := by decide +kernel
theorem dX10_found_58 : decode cX10_found 58 = .ok (.iconst 0, 1) := by decide +kernel
theorem dX10_found_59 : decode cX10_found 59 = .ok (.iadd, 1) := by decide +kernel
theorem dX10_found_60 : decode cX10_found 60 = .ok (.istore_n 2, 1) := by decide +kernel
theorem dX10_found_61 : decode cX10_found 61 = .ok (.iinc 3 1, 3) := by decide +kernel
theorem dX10_found_64 : decode cX10_found 64 = .ok (.goto (-60), 3) := by decide +kernel
theorem dX10_found_67 : decode cX10_found 67 = .ok (.iload_n 2, 1) := by decide +kernel
theorem dX10_found_68 : decode cX10_found 68 = .ok (.ireturn, 1) := by decide +kernel
theorem dX10_count_0 : decode cX10_count 0 = .ok (.iload_n 1, 1) := by decide +kernel
theorem dX10_count_1 : decode cX10_count 1 = .ok (.tableswitch 124 0 8 #[51, 56, 61, 66, 71, 76, 76, 92, 108], 51) := by decide +kernel
theorem dX10_count_52 : decode cX10_count 52 = .ok (.aload_n 0, 1) := by decide +kernel
theorem dX10_count_53 : decode cX10_count 53 = .ok (.getfield 149, 3) := by decide +kernel
theorem dX10_count_56 : decode cX10_count 56 = .ok (.ireturn, 1) := by decide +kernel
theorem dX10_count_57 : decode cX10_count 57 = .ok (.aload_n 0, 1) := by decide +kernel
theorem dX10_count_58 : decode cX10_count 58 = .ok (.getfield 165, 3) := by decide +kernel
theorem dX10_count_61 : decode cX10_count 61 = .ok (.ireturn, 1) := by decide +kernel
theorem dX10_count_62 : decode cX10_count 62 = .ok (.aload_n 0, 1) := by decide +kernel
theorem dX10_count_63 : decode cX10_count 63 = .ok (.getfield 186, 3) := by decide +kernel
theorem dX10_count_66 : decode cX10_count 66 = .ok (.ireturn, 1) := by decide +kernel
theorem dX10_count_67 : decode cX10_count 67 = .ok (.aload_n 0, 1) := by decide +kernel
theorem dX10_count_68 : decode cX10_count 68 = .ok (.getfield 195, 3) := by decide +kernel
theorem dX10_count_71 : decode cX10_count 71 = .ok (.ireturn, 1) := by decide +kernel
theorem dX10_count_72 : decode cX10_count 72 = .ok (.aload_n 0, 1) := by decide +kernel
theorem dX10_count_73 : decode cX10_count 73 = .ok (.getfield 198, 3) := by decide +kernel
theorem dX10_count_76 : decode cX10_count 76 = .ok (.ireturn, 1) := by decide +kernel
theorem dX10_count_77 : decode cX10_count 77 = .ok (.aload_n 0, 1) := by decide +kernel
theorem dX10_count_78 : decode cX10_count 78 = .ok (.iload_n 1, 1) := by decide +kernel
theorem dX10_count_79 : decode cX10_count 79 = .ok (.bipush 6, 2) := by decide +kernel
theorem dX10_count_81 : decode cX10_count 81 = .ok (.if_icmp .ne 7, 3) := by decide +kernel
theorem dX10_count_84 : decode cX10_count 84 = .ok (.iconst 1, 1) := by decide +kernel
theorem dX10_count_85 : decode cX10_count 85 = .ok (.goto 4, 3) := by decide +kernel
theorem dX10_count_88 : decode cX10_count 88 = .ok (.iconst 0, 1) := by decide +kernel
theorem dX10_count_89 : decode cX10_count 89 = .ok (.invokevirtual 313, 3) := by decide +kernel
theorem dX10_count_92 : decode cX10_count 92 = .ok (.ireturn, 1) := by decide +kernel
theorem dX10_count_93 : decode cX10_count 93 = .ok (.aload_n 0, 1) := by decide +kernel
theorem dX10_count_94 : decode cX10_count 94 = .ok (.getfield 143, 3) := by decide +kernel
theorem dX10_count_97 : decode cX10_count 97 = .ok (.ifCond .eq 10, 3) := by decide +kernel
theorem dX10_count_100 : decode cX10_count 100 = .ok (.aload_n 0, 1) := by decide +kernel
theorem dX10_count_101 : decode cX10_count 101 = .ok (.getfield 230, 3) := by decide +kernel
theorem dX10_count_104 : decode cX10_count 104 = .ok (.goto 4, 3) := by decide +kernel
theorem dX10_count_107 : decode cX10_count 107 = .ok (.iconst 0, 1) := by decide +kernel
theorem dX10_count_108 : decode cX10_count 108 = .ok (.ireturn, 1) := by decide +kernel
theorem dX10_count_109 : decode cX10_count 109 = .ok (.aload_n 0, 1) := by decide +kernel
theorem dX10_count_110 : decode cX10_count 110 = .ok (.getfield 143, 3) := by decide +kernel
theorem dX10_count_113 : decode cX10_count 113 = .ok (.ifCond .eq 10, 3) := by decide +kernel
theorem dX10_count_116 : decode cX10_count 116 = .ok (.aload_n 0, 1) := by decide +kernel
theorem dX10_count_117 : decode cX10_count 117 = .ok (.getfield 227, 3) := by decide +kernel
theorem dX10_count_120 : decode cX10_count 120 = .ok (.goto 4, 3) := by decide +kernel
theorem dX10_count_123 : decode cX10_count 123 = .ok (.iconst 0, 1) := by decide +kernel
theorem dX10_count_124 : decode cX10_count 124 = .ok (.ireturn, 1) := by decide +kernel
theorem dX10_count_125 : decode cX10_count 125 = .ok (.bipush (-102), 2) := by decide +kernel
theorem dX10_count_127 : decode cX10_count 127 = .ok (.ireturn, 1) := by decide +kernel
theorem dJ9_max_7cf53_0 : decode cJ9_max_7cf53 0 = .ok (.iload_n 0, 1) := by decide +kernel
theorem dJ9_max_7cf53_1 : decode cJ9_max_7cf53 1 = .ok (.iload_n 1, 1) := by decide +kernel
theorem dJ9_max_7cf53_2 : decode cJ9_max_7cf53 2 = .ok (.if_icmp .lt 7, 3) := by decide +kernel
theorem dJ9_max_7cf53_5 : decode cJ9_max_7cf53 5 = .ok (.iload_n 0, 1) := by decide +kernel
theorem dJ9_max_7cf53_6 : decode cJ9_max_7cf53 6 = .ok (.goto 4, 3) := by decide +kernel
theorem dJ9_max_7cf53_9 : decode cJ9_max_7cf53 9 = .ok (.iload_n 1, 1) := by decide +kernel
theorem dJ9_max_7cf53_10 : decode cJ9_max_7cf53 10 = .ok (.ireturn, 1) := by decide +kernel
theorem dJ9_max_f86c9_0 : decode cJ9_max_f86c9 0 = .ok (.lload_n 0, 1) := by decide +kernel
theorem dJ9_max_f86c9_1 : decode cJ9_max_f86c9 1 = .ok (.lload_n 2, 1) := by decide +kernel
theorem dJ9_max_f86c9_2 : decode cJ9_max_f86c9 2 = .ok (.lcmp, 1) := by decide +kernel
theorem dJ9_max_f86c9_3 : decode cJ9_max_f86c9 3 = .ok (.ifCond .lt 7, 3) := by decide +kernel
theorem dJ9_max_f86c9_6 : decode cJ9_max_f86c9 6 = .ok (.lload_n 0, 1) := by decide +kernel
theorem dJ9_max_f86c9_7 : decode cJ9_max_f86c9 7 = .ok (.goto 4, 3) := by decide +kernel
theorem dJ9_max_f86c9_10 : decode cJ9_max_f86c9 10 = .ok (.lload_n 2, 1) := by decide +kernel
theorem dJ9_max_f86c9_11 : decode cJ9_max_f86c9 11 = .ok (.lreturn, 1) := by decide +kernel
theorem dJ9_min_7cf53_0 : decode cJ9_min_7cf53 0 = .ok (.iload_n 0, 1) := by decide +kernel
theorem dJ9_min_7cf53_1 : decode cJ9_min_7cf53 1 = .ok (.iload_n 1, 1) := by decide +kernel
theorem dJ9_min_7cf53_2 : decode cJ9_min_7cf53 2 = .ok (.if_icmp .gt 7, 3) := by decide +kernel
theorem dJ9_min_7cf53_5 : decode cJ9_min_7cf53 5 = .ok (.iload_n 0, 1) := by decide +kernel
theorem dJ9_min_7cf53_6 : decode cJ9_min_7cf53 6 = .ok (.goto 4, 3) := by decide +kernel
theorem dJ9_min_7cf53_9 : decode cJ9_min_7cf53 9 = .ok (.iload_n 1, 1) := by decide +kernel
theorem dJ9_min_7cf53_10 : decode cJ9_min_7cf53 10 = .ok (.ireturn, 1) := by decide +kernel
theorem dJ9_min_f86c9_0 : decode cJ9_min_f86c9 0 = .ok (.lload_n 0, 1) := by decide +kernel
theorem dJ9_min_f86c9_1 : decode cJ9_min_f86c9 1 = .ok (.lload_n 2, 1) := by decide +kernel
theorem dJ9_min_f86c9_2 : decode cJ9_min_f86c9 2 = .ok (.lcmp, 1) := by decide +kernel
theorem dJ9_min_f86c9_3 : decode cJ9_min_f86c9 3 = .ok (.ifCond .gt 7, 3) := by decide +kernel
theorem dJ9_min_f86c9_6 : decode cJ9_min_f86c9 6 = .ok (.lload_n 0, 1) := by decide +kernel
theorem dJ9_min_f86c9_7 : decode cJ9_min_f86c9 7 = .ok (.goto 4, 3) := by decide +kernel
theorem dJ9_min_f86c9_10 : decode cJ9_min_f86c9 10 = .ok (.lload_n 2, 1) := by decide +kernel
theorem dJ9_min_f86c9_11 : decode cJ9_min_f86c9 11 = .ok (.lreturn, 1) := by decide +kernel
theorem dJxa1e45_init_da8c8_0 : decode cJxa1e45_init_da8c8 0 = .ok (.aload_n 0, 1) := by decide +kernel
theorem dJxa1e45_init_da8c8_1 : decode cJxa1e45_init_da8c8 1 = .ok (.invokespecial 1, 3) := by decide +kernel
theorem dJxa1e45_init_da8c8_4 : decode cJxa1e45_init_da8c8 4 = .ok (.return_, 1) := by decide +kernel
theorem dJxc12de_init_da8c8_0 : decode cJxc12de_init_da8c8 0 = .ok (.aload_n 0, 1) := by decide +kernel
theorem dJxc12de_init_da8c8_1 : decode cJxc12de_init_da8c8 1 = .ok (.invokespecial 1, 3) := by decide +kernel
theorem dJxc12de_init_da8c8_4 : decode cJxc12de_init_da8c8 4 = .ok (.aload_n 0, 1) := by decide +kernel
theorem dJxc12de_init_da8c8_5 : decode cJxc12de_init_da8c8 5 = .ok (.iconst 0, 1) := by decide +kernel
theorem dJxc12de_init_da8c8_6 : decode cJxc12de_init_da8c8 6 = .ok (.putfield 7, 3) := by decide +kernel
theorem dJxc12de_init_da8c8_9 : decode cJxc12de_init_da8c8 9 = .ok (.return_, 1) := by decide +kernel
theorem dJx4a65c_init_da8c8_0 : decode cJx4a65c_init_da8c8 0 = .ok (.aload_n 0, 1) := by decide +kernel
theorem dJx4a65c_init_da8c8_1 : decode cJx4a65c_init_da8c8 1 = .ok (.invokespecial 1, 3) := by decide +kernel
theorem dJx4a65c_init_da8c8_4 : decode cJx4a65c_init_da8c8 4 = .ok (.aload_n 0, 1) := by decide +kernel
theorem dJx4a65c_init_da8c8_5 : decode cJx4a65c_init_da8c8 5 = .ok (.getstatic 39, 3) := by decide +kernel
theorem dJx4a65c_init_da8c8_8 : decode cJx4a65c_init_da8c8 8 = .ok (.putfield 9, 3) := by decide +kernel
theorem dJx4a65c_init_da8c8_11 : decode cJx4a65c_init_da8c8 11 = .ok (.return_, 1) := by decide +kernel
theorem dJx4a65c_grow_92f84_0 : decode cJx4a65c_grow_92f84 0 = .ok (.aload_n 0, 1) := by decide +kernel
theorem dJx4a65c_grow_92f84_1 : decode cJx4a65c_grow_92f84 1 = .ok (.getfield 9, 3) := by decide +kernel
theorem dJx4a65c_grow_92f84_4 : decode cJx4a65c_grow_92f84 4 = .ok (.arraylength, 1) := by decide +kernel
theorem dJx4a65c_grow_92f84_5 : decode cJx4a65c_grow_92f84 5 = .ok (.istore_n 2, 1) := by decide +kernel
theorem dJx4a65c_grow_92f84_6 : decode cJx4a65c_grow_92f84 6 = .ok (.iload_n 2, 1) := by decide +kernel
theorem dJx4a65c_grow_92f84_7 : decode cJx4a65c_grow_92f84 7 = .ok (.ifCond .gt 13, 3) := by decide +kernel
theorem dJx4a65c_grow_92f84_10 : decode cJx4a65c_grow_92f84 10 = .ok (.aload_n 0, 1) := by decide +kernel
theorem dJx4a65c_grow_92f84_11 : decode cJx4a65c_grow_92f84 11 = .ok (.getfield 9, 3) := by decide +kernel
theorem dJx4a65c_grow_92f84_14 : decode cJx4a65c_grow_92f84 14 = .ok (.getstatic 39, 3) := by decide +kernel
theorem dJx4a65c_grow_92f84_17 : decode cJx4a65c_grow_92f84 17 = .ok (.if_acmp .eq 28, 3) := by decide +kernel
theorem dJx4a65c_grow_92f84_20 : decode cJx4a65c_grow_92f84 20 = .ok (.iload_n 2, 1) := by decide +kernel
theorem dJx4a65c_grow_92f84_21 : decode cJx4a65c_grow_92f84 21 = .ok (.iload_n 1, 1) := by decide +kernel
theorem dJx4a65c_grow_92f84_22 : decode cJx4a65c_grow_92f84 22 = .ok (.iload_n 2, 1) := by decide +kernel
theorem dJx4a65c_grow_92f84_23 : decode cJx4a65c_grow_92f84 23 = .ok (.isub, 1) := by decide +kernel
theorem dJx4a65c_grow_92f84_24 : decode cJx4a65c_grow_92f84 24 = .ok (.iload_n 2, 1) := by decide +kernel
theorem dJx4a65c_grow_92f84_25 : decode cJx4a65c_grow_92f84 25 = .ok (.iconst 1, 1) := by decide +kernel
theorem dJx4a65c_grow_92f84_26 : decode cJx4a65c_grow_92f84 26 = .ok (.ishr, 1) := by decide +kernel
theorem dJx4a65c_grow_92f84_27 : decode cJx4a65c_grow_92f84 27 = .ok (.invokestatic 73, 3) := by decide +kernel
theorem dJx4a65c_grow_92f84_30 : decode cJx4a65c_grow_92f84 30 = .ok (.istore_n 3, 1) := by decide +kernel
theorem dJx4a65c_grow_92f84_31 : decode cJx4a65c_grow_92f84 31 = .ok (.aload_n 0, 1) := by decide +kernel
theorem dJx4a65c_grow_92f84_32 : decode cJx4a65c_grow_92f84 32 = .ok (.aload_n 0, 1) := by decide +kernel
theorem dJx4a65c_grow_92f84_33 : decode cJx4a65c_grow_92f84 33 = .ok (.getfield 9, 3) := by decide +kernel
theorem dJx4a65c_grow_92f84_36 : decode cJx4a65c_grow_92f84 36 = .ok (.iload_n 3, 1) := by decide +kernel
theorem dJx4a65c_grow_92f84_37 : decode cJx4a65c_grow_92f84 37 = .ok (.invokestatic 66, 3) := by decide +kernel
theorem dJx4a65c_grow_92f84_40 : decode cJx4a65c_grow_92f84 40 = .ok (.dup_x1, 1) := by decide +kernel
theorem dJx4a65c_grow_92f84_41 : decode cJx4a65c_grow_92f84 41 = .ok (.putfield 9, 3) := by decide +kernel
theorem dJx4a65c_grow_92f84_44 : decode cJx4a65c_grow_92f84 44 = .ok (.areturn, 1) := by decide +kernel
theorem dJx4a65c_grow_92f84_45 : decode cJx4a65c_grow_92f84 45 = .ok (.aload_n 0, 1) := by decide +kernel
theorem dJx4a65c_grow_92f84_46 : decode cJx4a65c_grow_92f84 46 = .ok (.bipush 10, 2) := by decide +kernel
theorem dJx4a65c_grow_92f84_48 : decode cJx4a65c_grow_92f84 48 = .ok (.iload_n 1, 1) := by decide +kernel
theorem dJx4a65c_grow_92f84_49 : decode cJx4a65c_grow_92f84 49 = .ok (.invokestatic 79, 3) := by decide +kernel
theorem dJx4a65c_grow_92f84_52 : decode cJx4a65c_grow_92f84 52 = .ok (.anewarray 7, 3) := by decide +kernel
theorem dJx4a65c_grow_92f84_55 : decode cJx4a65c_grow_92f84 55 = .ok (.dup_x1, 1) := by decide +kernel
theorem dJx4a65c_grow_92f84_56 : decode cJx4a65c_grow_92f84 56 = .ok (.putfield 9, 3) := by decide +kernel
theorem dJx4a65c_grow_92f84_59 : decode cJx4a65c_grow_92f84 59 = .ok (.areturn, 1) := by decide +kernel
theorem dJx4a65c_grow_d5877_0 : decode cJx4a65c_grow_d5877 0 = .ok (.aload_n 0, 1) := by decide +kernel
theorem dJx4a65c_grow_d5877_1 : decode cJx4a65c_grow_d5877 1 = .ok (.aload_n 0, 1) := by decide +kernel
theorem dJx4a65c_grow_d5877_2 : decode cJx4a65c_grow_d5877 2 = .ok (.getfield 48, 3) := by decide +kernel
theorem dJx4a65c_grow_d5877_5 : decode cJx4a65c_grow_d5877 5 = .ok (.iconst 1, 1) := by decide +kernel
theorem dJx4a65c_grow_d5877_6 : decode cJx4a65c_grow_d5877 6 = .ok (.iadd, 1) := by decide +kernel
theorem dJx4a65c_grow_d5877_7 : decode cJx4a65c_grow_d5877 7 = .ok (.invokevirtual 69, 3) := by decide +kernel
theorem dJx4a65c_grow_d5877_10 : decode cJx4a65c_grow_d5877 10 = .ok (.areturn, 1) := by decide +kernel
theorem dJx4a65c_size_8abf5_0 : decode cJx4a65c_size_8abf5 0 = .ok (.aload_n 0, 1) := by decide +kernel
theorem dJx4a65c_size_8abf5_1 : decode cJx4a65c_size_8abf5 1 = .ok (.getfield 48, 3) := by decide +kernel
theorem dJx4a65c_size_8abf5_4 : decode cJx4a65c_size_8abf5 4 = .ok (.ireturn, 1) := by decide +kernel
theorem dJx4a65c_elementData_915e3_0 : decode cJx4a65c_elementData_915e3 0 = .ok (.aload_n 0, 1) := by decide +kernel
theorem dJx4a65c_elementData_915e3_1 : decode cJx4a65c_elementData_915e3 1 = .ok (.getfield 9, 3) := by decide +kernel
theorem dJx4a65c_elementData_915e3_4 : decode cJx4a65c_elementData_915e3 4 = .ok (.iload_n 1, 1) := by decide +kernel
theorem dJx4a65c_elementData_915e3_5 : decode cJx4a65c_elementData_915e3 5 = .ok (.aaload, 1) := by decide +kernel
theorem dJx4a65c_elementData_915e3_6 : decode cJx4a65c_elementData_915e3 6 = .ok (.areturn, 1) := by decide +kernel
theorem dJx4a65c_get_915e3_0 : decode cJx4a65c_get_915e3 0 = .ok (.iload_n 1, 1) := by decide +kernel
theorem dJx4a65c_get_915e3_1 : decode cJx4a65c_get_915e3 1 = .ok (.aload_n 0, 1) := by decide +kernel
theorem dJx4a65c_get_915e3_2 : decode cJx4a65c_get_915e3 2 = .ok (.getfield 48, 3) := by decide +kernel
theorem dJx4a65c_get_915e3_5 : decode cJx4a65c_get_915e3 5 = .ok (.invokestatic 118, 3) := by decide +kernel
theorem dJx4a65c_get_915e3_8 : decode cJx4a65c_get_915e3 8 = .ok (.pop, 1) := by decide +kernel
theorem dJx4a65c_get_915e3_9 : decode cJx4a65c_get_915e3 9 = .ok (.aload_n 0, 1) := by decide +kernel
theorem dJx4a65c_get_915e3_10 : decode cJx4a65c_get_915e3 10 = .ok (.iload_n 1, 1) := by decide +kernel
theorem dJx4a65c_get_915e3_11 : decode cJx4a65c_get_915e3 11 = .ok (.invokevirtual 123, 3) := by decide +kernel
theorem dJx4a65c_get_915e3_14 : decode cJx4a65c_get_915e3 14 = .ok (.areturn, 1) := by decide +kernel
theorem dJx4a65c_add_72be8_0 : decode cJx4a65c_add_72be8 0 = .ok (.iload_n 3, 1) := by decide +kernel
theorem dJx4a65c_add_72be8_1 : decode cJx4a65c_add_72be8 1 = .ok (.aload_n 2, 1) := by decide +kernel
theorem dJx4a65c_add_72be8_2 : decode cJx4a65c_add_72be8 2 = .ok (.arraylength, 1) := by decide +kernel
theorem dJx4a65c_add_72be8_3 : decode cJx4a65c_add_72be8 3 = .ok (.if_icmp .ne 8, 3) := by decide +kernel
theorem dJx4a65c_add_72be8_6 : decode cJx4a65c_add_72be8 6 = .ok (.aload_n 0, 1) := by decide +kernel
theorem dJx4a65c_add_72be8_7 : decode cJx4a65c_add_72be8 7 = .ok (.invokevirtual 129, 3) := by decide +kernel
theorem dJx4a65c_add_72be8_10 : decode cJx4a65c_add_72be8 10 = .ok (.astore_n 2, 1) := by decide +kernel
theorem dJx4a65c_add_72be8_11 : decode cJx4a65c_add_72be8 11 = .ok (.aload_n 2, 1) := by decide +kernel
theorem dJx4a65c_add_72be8_12 : decode cJx4a65c_add_72be8 12 = .ok (.iload_n 3, 1) := by decide +kernel
theorem dJx4a65c_add_72be8_13 : decode cJx4a65c_add_72be8 13 = .ok (.aload_n 1, 1) := by decide +kernel
theorem dJx4a65c_add_72be8_14 : decode cJx4a65c_add_72be8 14 = .ok (.aastore, 1) := by decide +kernel
theorem dJx4a65c_add_72be8_15 : decode cJx4a65c_add_72be8 15 = .ok (.aload_n 0, 1) := by decide +kernel
theorem dJx4a65c_add_72be8_16 : decode cJx4a65c_add_72be8 16 = .ok (.iload_n 3, 1) := by decide +kernel
theorem dJx4a65c_add_72be8_17 : decode cJx4a65c_add_72be8 17 = .ok (.iconst 1, 1) := by decide +kernel
theorem dJx4a65c_add_72be8_18 : decode cJx4a65c_add_72be8 18 = .ok (.iadd, 1) := by decide +kernel
theorem dJx4a65c_add_72be8_19 : decode cJx4a65c_add_72be8 19 = .ok (.putfield 48, 3) := by decide +kernel
theorem dJx4a65c_add_72be8_22 : decode cJx4a65c_add_72be8 22 = .ok (.return_, 1) := by decide +kernel
theorem dJx4a65c_add_9ea2d_0 : decode cJx4a65c_add_9ea2d 0 = .ok (.aload_n 0, 1) := by decide +kernel
theorem dJx4a65c_add_9ea2d_1 : decode cJx4a65c_add_9ea2d 1 = .ok (.dup, 1) := by decide +kernel
theorem dJx4a65c_add_9ea2d_2 : decode cJx4a65c_add_9ea2d 2 = .ok (.getfield 63, 3) := by decide +kernel
theorem dJx4a65c_add_9ea2d_5 : decode cJx4a65c_add_9ea2d 5 = .ok (.iconst 1, 1) := by decide +kernel
theorem dJx4a65c_add_9ea2d_6 : decode cJx4a65c_add_9ea2d 6 = .ok (.iadd, 1) := by decide +kernel
theorem dJx4a65c_add_9ea2d_7 : decode cJx4a65c_add_9ea2d 7 = .ok (.putfield 63, 3) := by decide +kernel
theorem dJx4a65c_add_9ea2d_10 : decode cJx4a65c_add_9ea2d 10 = .ok (.aload_n 0, 1) := by decide +kernel
theorem dJx4a65c_add_9ea2d_11 : decode cJx4a65c_add_9ea2d 11 = .ok (.aload_n 1, 1) := by decide +kernel
theorem dJx4a65c_add_9ea2d_12 : decode cJx4a65c_add_9ea2d 12 = .ok (.aload_n 0, 1) := by decide +kernel
theorem dJx4a65c_add_9ea2d_13 : decode cJx4a65c_add_9ea2d 13 = .ok (.getfield 9, 3) := by decide +kernel
theorem dJx4a65c_add_9ea2d_16 : decode cJx4a65c_add_9ea2d 16 = .ok (.aload_n 0, 1) := by decide +kernel
theorem dJx4a65c_add_9ea2d_17 : decode cJx4a65c_add_9ea2d 17 = .ok (.getfield 48, 3) := by decide +kernel
theorem dJx4a65c_add_9ea2d_20 : decode cJx4a65c_add_9ea2d 20 = .ok (.invokevirtual 131, 3) := by decide +kernel
theorem dJx4a65c_add_9ea2d_23 : decode cJx4a65c_add_9ea2d 23 = .ok (.iconst 1, 1) := by decide +kernel
theorem dJx4a65c_add_9ea2d_24 : decode cJx4a65c_add_9ea2d 24 = .ok (.ireturn, 1) := by decide +kernel
theorem dJx4a65c_clear_da8c8_0 : decode cJx4a65c_clear_da8c8 0 = .ok (.aload_n 0, 1) := by decide +kernel
theorem dJx4a65c_clear_da8c8_1 : decode cJx4a65c_clear_da8c8 1 = .ok (.dup, 1) := by decide +kernel
theorem dJx4a65c_clear_da8c8_2 : decode cJx4a65c_clear_da8c8 2 = .ok (.getfield 63, 3) := by decide +kernel
theorem dJx4a65c_clear_da8c8_5 : decode cJx4a65c_clear_da8c8 5 = .ok (.iconst 1, 1) := by decide +kernel
theorem dJx4a65c_clear_da8c8_6 : decode cJx4a65c_clear_da8c8 6 = .ok (.iadd, 1) := by decide +kernel
theorem dJx4a65c_clear_da8c8_7 : decode cJx4a65c_clear_da8c8 7 = .ok (.putfield 63, 3) := by decide +kernel
theorem dJx4a65c_clear_da8c8_10 : decode cJx4a65c_clear_da8c8 10 = .ok (.aload_n 0, 1) := by decide +kernel
theorem dJx4a65c_clear_da8c8_11 : decode cJx4a65c_clear_da8c8 11 = .ok (.getfield 9, 3) := by decide +kernel
theorem dJx4a65c_clear_da8c8_14 : decode cJx4a65c_clear_da8c8 14 = .ok (.astore_n 1, 1) := by decide +kernel
theorem dJx4a65c_clear_da8c8_15 : decode cJx4a65c_clear_da8c8 15 = .ok (.aload_n 0, 1) := by decide +kernel
theorem dJx4a65c_clear_da8c8_16 : decode cJx4a65c_clear_da8c8 16 = .ok (.getfield 48, 3) := by decide +kernel
theorem dJx4a65c_clear_da8c8_19 : decode cJx4a65c_clear_da8c8 19 = .ok (.istore_n 2, 1) := by decide +kernel
theorem dJx4a65c_clear_da8c8_20 : decode cJx4a65c_clear_da8c8 20 = .ok (.aload_n 0, 1) := by decide +kernel
theorem dJx4a65c_clear_da8c8_21 : decode cJx4a65c_clear_da8c8 21 = .ok (.iconst 0, 1) := by decide +kernel
theorem dJx4a65c_clear_da8c8_22 : decode cJx4a65c_clear_da8c8 22 = .ok (.dup_x1, 1) := by decide +kernel
theorem dJx4a65c_clear_da8c8_23 : decode cJx4a65c_clear_da8c8 23 = .ok (.putfield 48, 3) := by decide +kernel
theorem dJx4a65c_clear_da8c8_26 : decode cJx4a65c_clear_da8c8 26 = .ok (.istore_n 3, 1) := by decide +kernel
theorem dJx4a65c_clear_da8c8_27 : decode cJx4a65c_clear_da8c8 27 = .ok (.iload_n 3, 1) := by decide +kernel
theorem dJx4a65c_clear_da8c8_28 : decode cJx4a65c_clear_da8c8 28 = .ok (.iload_n 2, 1) := by decide +kernel
theorem dJx4a65c_clear_da8c8_29 : decode cJx4a65c_clear_da8c8 29 = .ok (.if_icmp .ge 13, 3) := by decide +kernel
theorem dJx4a65c_clear_da8c8_32 : decode cJx4a65c_clear_da8c8 32 = .ok (.aload_n 1, 1) := by decide +kernel
theorem dJx4a65c_clear_da8c8_33 : decode cJx4a65c_clear_da8c8 33 = .ok (.iload_n 3, 1) := by decide +kernel
theorem dJx4a65c_clear_da8c8_34 : decode cJx4a65c_clear_da8c8 34 = .ok (.aconst_null, 1) := by decide +kernel
theorem dJx4a65c_clear_da8c8_35 : decode cJx4a65c_clear_da8c8 35 = .ok (.aastore, 1) := by decide +kernel
theorem dJx4a65c_clear_da8c8_36 : decode cJx4a65c_clear_da8c8 36 = .ok (.iinc 3 1, 3) := by decide +kernel
theorem dJx4a65c_clear_da8c8_39 : decode cJx4a65c_clear_da8c8 39 = .ok (.goto (-12), 3) := by decide +kernel
theorem dJx4a65c_clear_da8c8_42 : decode cJx4a65c_clear_da8c8 42 = .ok (.return_, 1) := by decide +kernel
theorem dJ7_fill_d0a16_0 : decode cJ7_fill_d0a16 0 = .ok (.iconst 0, 1) := by decide +kernel
theorem dJ7_fill_d0a16_1 : decode cJ7_fill_d0a16 1 = .ok (.istore_n 3, 1) := by decide +kernel
theorem dJ7_fill_d0a16_2 : decode cJ7_fill_d0a16 2 = .ok (.aload_n 0, 1) := by decide +kernel
theorem dJ7_fill_d0a16_3 : decode cJ7_fill_d0a16 3 = .ok (.arraylength, 1) := by decide +kernel
theorem dJ7_fill_d0a16_4 : decode cJ7_fill_d0a16 4 = .ok (.istore 4, 2) := by decide +kernel
theorem dJ7_fill_d0a16_6 : decode cJ7_fill_d0a16 6 = .ok (.iload_n 3, 1) := by decide +kernel
theorem dJ7_fill_d0a16_7 : decode cJ7_fill_d0a16 7 = .ok (.iload 4, 2) := by decide +kernel
theorem dJ7_fill_d0a16_9 : decode cJ7_fill_d0a16 9 = .ok (.if_icmp .ge 13, 3) := by decide +kernel
theorem dJ7_fill_d0a16_12 : decode cJ7_fill_d0a16 12 = .ok (.aload_n 0, 1) := by decide +kernel
theorem dJ7_fill_d0a16_13 : decode cJ7_fill_d0a16 13 = .ok (.iload_n 3, 1) := by decide +kernel
theorem dJ7_fill_d0a16_14 : decode cJ7_fill_d0a16 14 = .ok (.lload_n 1, 1) := by decide +kernel
theorem dJ7_fill_d0a16_15 : decode cJ7_fill_d0a16 15 = .ok (.lastore, 1) := by decide +kernel
theorem dJ7_fill_d0a16_16 : decode cJ7_fill_d0a16 16 = .ok (.iinc 3 1, 3) := by decide +kernel
theorem dJ7_fill_d0a16_19 : decode cJ7_fill_d0a16 19 = .ok (.goto (-13), 3) := by decide +kernel
theorem dJ7_fill_d0a16_22 : decode cJ7_fill_d0a16 22 = .ok (.return_, 1) := by decide +kernel
theorem dJ7_fill_53178_0 : decode cJ7_fill_53178 0 = .ok (.iconst 0, 1) := by decide +kernel
theorem dJ7_fill_53178_1 : decode cJ7_fill_53178 1 = .ok (.istore_n 2, 1) := by decide +kernel
theorem dJ7_fill_53178_2 : decode cJ7_fill_53178 2 = .ok (.aload_n 0, 1) := by decide +kernel
theorem dJ7_fill_53178_3 : decode cJ7_fill_53178 3 = .ok (.arraylength, 1) := by decide +kernel
theorem dJ7_fill_53178_4 : decode cJ7_fill_53178 4 = .ok (.istore_n 3, 1) := by decide +kernel
theorem dJ7_fill_53178_5 : decode cJ7_fill_53178 5 = .ok (.iload_n 2, 1) := by decide +kernel
theorem dJ7_fill_53178_6 : decode cJ7_fill_53178 6 = .ok (.iload_n 3, 1) := by decide +kernel
theorem dJ7_fill_53178_7 : decode cJ7_fill_53178 7 = .ok (.if_icmp .ge 13, 3) := by decide +kernel
theorem dJ7_fill_53178_10 : decode cJ7_fill_53178 10 = .ok (.aload_n 0, 1) := by decide +kernel
theorem dJ7_fill_53178_11 : decode cJ7_fill_53178 11 = .ok (.iload_n 2, 1) := by decide +kernel
theorem dJ7_fill_53178_12 : decode cJ7_fill_53178 12 = .ok (.iload_n 1, 1) := by decide +kernel
theorem dJ7_fill_53178_13 : decode cJ7_fill_53178 13 = .ok (.iastore, 1) := by decide +kernel
theorem dJ7_fill_53178_14 : decode cJ7_fill_53178 14 = .ok (.iinc 2 1, 3) := by decide +kernel
theorem dJ7_fill_53178_17 : decode cJ7_fill_53178 17 = .ok (.goto (-12), 3) := by decide +kernel
theorem dJ7_fill_53178_20 : decode cJ7_fill_53178 20 = .ok (.return_, 1) := by decide +kernel
theorem dJ7_copyOf_1904c_0 : decode cJ7_copyOf_1904c 0 = .ok (.aload_n 0, 1) := by decide +kernel
theorem dJ7_copyOf_1904c_1 : decode cJ7_copyOf_1904c 1 = .ok (.iload_n 1, 1) := by decide +kernel
theorem dJ7_copyOf_1904c_2 : decode cJ7_copyOf_1904c 2 = .ok (.aload_n 0, 1) := by decide +kernel
theorem dJ7_copyOf_1904c_3 : decode cJ7_copyOf_1904c 3 = .ok (.invokevirtual 86, 3) := by decide +kernel
theorem dJ7_copyOf_1904c_6 : decode cJ7_copyOf_1904c 6 = .ok (.invokestatic 300, 3) := by decide +kernel
theorem dJ7_copyOf_1904c_9 : decode cJ7_copyOf_1904c 9 = .ok (.areturn, 1) := by decide +kernel
theorem dJ7_copyOf_6403c_0 : decode cJ7_copyOf_6403c 0 = .ok (.aload_n 2, 1) := by decide +kernel
theorem dJ7_copyOf_6403c_1 : decode cJ7_copyOf_6403c 1 = .ok (.ldc 110, 2) := by decide +kernel
theorem dJ7_copyOf_6403c_3 : decode cJ7_copyOf_6403c 3 = .ok (.if_acmp .ne 10, 3) := by decide +kernel
theorem dJ7_copyOf_6403c_6 : decode cJ7_copyOf_6403c 6 = .ok (.iload_n 1, 1) := by decide +kernel
theorem dJ7_copyOf_6403c_7 : decode cJ7_copyOf_6403c 7 = .ok (.anewarray 2, 3) := by decide +kernel
theorem dJ7_copyOf_6403c_10 : decode cJ7_copyOf_6403c 10 = .ok (.goto 14, 3) := by decide +kernel
theorem dJ7_copyOf_6403c_13 : decode cJ7_copyOf_6403c 13 = .ok (.aload_n 2, 1) := by decide +kernel
theorem dJ7_copyOf_6403c_14 : decode cJ7_copyOf_6403c 14 = .ok (.invokevirtual 90, 3) := by decide +kernel
theorem dJ7_copyOf_6403c_17 : decode cJ7_copyOf_6403c 17 = .ok (.iload_n 1, 1) := by decide +kernel
theorem dJ7_copyOf_6403c_18 : decode cJ7_copyOf_6403c 18 = .ok (.invokestatic 95, 3) := by decide +kernel
theorem dJ7_copyOf_6403c_21 : decode cJ7_copyOf_6403c 21 = .ok (.checkcast 110, 3) := by decide +kernel
theorem dJ7_copyOf_6403c_24 : decode cJ7_copyOf_6403c 24 = .ok (.astore_n 3, 1) := by decide +kernel
theorem dJ7_copyOf_6403c_25 : decode cJ7_copyOf_6403c 25 = .ok (.aload_n 0, 1) := by decide +kernel
theorem dJ7_copyOf_6403c_26 : decode cJ7_copyOf_6403c 26 = .ok (.iconst 0, 1) := by decide +kernel
theorem dJ7_copyOf_6403c_27 : decode cJ7_copyOf_6403c 27 = .ok (.aload_n 3, 1) := by decide +kernel
theorem dJ7_copyOf_6403c_28 : decode cJ7_copyOf_6403c 28 = .ok (.iconst 0, 1) := by decide +kernel
theorem dJ7_copyOf_6403c_29 : decode cJ7_copyOf_6403c 29 = .ok (.aload_n 0, 1) := by decide +kernel
theorem dJ7_copyOf_6403c_30 : decode cJ7_copyOf_6403c 30 = .ok (.arraylength, 1) := by decide +kernel
theorem dJ7_copyOf_6403c_31 : decode cJ7_copyOf_6403c 31 = .ok (.iload_n 1, 1) := by decide +kernel
theorem dJ7_copyOf_6403c_32 : decode cJ7_copyOf_6403c 32 = .ok (.invokestatic 304, 3) := by decide +kernel
theorem dJ7_copyOf_6403c_35 : decode cJ7_copyOf_6403c 35 = .ok (.invokestatic 150, 3) := by decide +kernel
theorem dJ7_copyOf_6403c_38 : decode cJ7_copyOf_6403c 38 = .ok (.aload_n 3, 1) := by decide +kernel
theorem dJ7_copyOf_6403c_39 : decode cJ7_copyOf_6403c 39 = .ok (.areturn, 1) := by decide +kernel
theorem dJ15_checkIndex_7cf53_0 : decode cJ15_checkIndex_7cf53 0 = .ok (.iload_n 0, 1) := by decide +kernel
theorem dJ15_checkIndex_7cf53_1 : decode cJ15_checkIndex_7cf53 1 = .ok (.iload_n 1, 1) := by decide +kernel
theorem dJ15_checkIndex_7cf53_2 : decode cJ15_checkIndex_7cf53 2 = .ok (.aconst_null, 1) := by decide +kernel
theorem dJ15_checkIndex_7cf53_3 : decode cJ15_checkIndex_7cf53 3 = .ok (.invokestatic 105, 3) := by decide +kernel
theorem dJ15_checkIndex_7cf53_6 : decode cJ15_checkIndex_7cf53 6 = .ok (.ireturn, 1) := by decide +kernel
theorem dJ8_newLength_cabcc_0 : decode cJ8_newLength_cabcc 0 = .ok (.iload_n 0, 1) := by decide +kernel
theorem dJ8_newLength_cabcc_1 : decode cJ8_newLength_cabcc 1 = .ok (.iload_n 1, 1) := by decide +kernel
theorem dJ8_newLength_cabcc_2 : decode cJ8_newLength_cabcc 2 = .ok (.iload_n 2, 1) := by decide +kernel
theorem dJ8_newLength_cabcc_3 : decode cJ8_newLength_cabcc 3 = .ok (.invokestatic 194, 3) := by decide +kernel
theorem dJ8_newLength_cabcc_6 : decode cJ8_newLength_cabcc 6 = .ok (.iadd, 1) := by decide +kernel
theorem dJ8_newLength_cabcc_7 : decode cJ8_newLength_cabcc 7 = .ok (.istore_n 3, 1) := by decide +kernel
theorem dJ8_newLength_cabcc_8 : decode cJ8_newLength_cabcc 8 = .ok (.iconst 0, 1) := by decide +kernel
theorem dJ8_newLength_cabcc_9 : decode cJ8_newLength_cabcc 9 = .ok (.iload_n 3, 1) := by decide +kernel
theorem dJ8_newLength_cabcc_10 : decode cJ8_newLength_cabcc 10 = .ok (.if_icmp .ge 11, 3) := by decide +kernel
theorem dJ8_newLength_cabcc_13 : decode cJ8_newLength_cabcc 13 = .ok (.iload_n 3, 1) := by decide +kernel
theorem dJ8_newLength_cabcc_14 : decode cJ8_newLength_cabcc 14 = .ok (.ldc 200, 2) := by decide +kernel
theorem dJ8_newLength_cabcc_16 : decode cJ8_newLength_cabcc 16 = .ok (.if_icmp .gt 5, 3) := by decide +kernel
theorem dJ8_newLength_cabcc_19 : decode cJ8_newLength_cabcc 19 = .ok (.iload_n 3, 1) := by decide +kernel
theorem dJ8_newLength_cabcc_20 : decode cJ8_newLength_cabcc 20 = .ok (.ireturn, 1) := by decide +kernel
theorem dJ8_newLength_cabcc_21 : decode cJ8_newLength_cabcc 21 = .ok (.iload_n 0, 1) := by decide +kernel
theorem dJ8_newLength_cabcc_22 : decode cJ8_newLength_cabcc 22 = .ok (.iload_n 1, 1) := by decide +kernel
theorem dJ8_newLength_cabcc_23 : decode cJ8_newLength_cabcc 23 = .ok (.invokestatic 201, 3) := by decide +kernel
theorem dJ8_newLength_cabcc_26 : decode cJ8_newLength_cabcc 26 = .ok (.ireturn, 1) := by decide +kernel
theorem dJ8_hugeLength_7cf53_0 : decode cJ8_hugeLength_7cf53 0 = .ok (.iload_n 0, 1) := by decide +kernel
theorem dJ8_hugeLength_7cf53_1 : decode cJ8_hugeLength_7cf53 1 = .ok (.iload_n 1, 1) := by decide +kernel
theorem dJ8_hugeLength_7cf53_2 : decode cJ8_hugeLength_7cf53 2 = .ok (.iadd, 1) := by decide +kernel
theorem dJ8_hugeLength_7cf53_3 : decode cJ8_hugeLength_7cf53 3 = .ok (.istore_n 2, 1) := by decide +kernel
theorem dJ8_hugeLength_7cf53_4 : decode cJ8_hugeLength_7cf53 4 = .ok (.iload_n 2, 1) := by decide +kernel
theorem dJ8_hugeLength_7cf53_5 : decode cJ8_hugeLength_7cf53 5 = .ok (.ifCond .ge 44, 3) := by decide +kernel
theorem dJ8_hugeLength_7cf53_8 : decode cJ8_hugeLength_7cf53 8 = .ok (.new 204, 3) := by decide +kernel
theorem dJ8_hugeLength_7cf53_11 : decode cJ8_hugeLength_7cf53 11 = .ok (.dup, 1) := by decide +kernel
theorem dJ8_hugeLength_7cf53_12 : decode cJ8_hugeLength_7cf53 12 = .ok (.new 89, 3) := by decide +kernel
theorem dJ8_hugeLength_7cf53_15 : decode cJ8_hugeLength_7cf53 15 = .ok (.dup, 1) := by decide +kernel
theorem dJ8_hugeLength_7cf53_16 : decode cJ8_hugeLength_7cf53 16 = .ok (.invokespecial 91, 3) := by decide +kernel
theorem dJ8_hugeLength_7cf53_19 : decode cJ8_hugeLength_7cf53 19 = .ok (.ldc 206, 2) := by decide +kernel
theorem dJ8_hugeLength_7cf53_21 : decode cJ8_hugeLength_7cf53 21 = .ok (.invokevirtual 94, 3) := by decide +kernel
theorem dJ8_hugeLength_7cf53_24 : decode cJ8_hugeLength_7cf53 24 = .ok (.iload_n 0, 1) := by decide +kernel
theorem dJ8_hugeLength_7cf53_25 : decode cJ8_hugeLength_7cf53 25 = .ok (.invokevirtual 98, 3) := by decide +kernel
theorem dJ8_hugeLength_7cf53_28 : decode cJ8_hugeLength_7cf53 28 = .ok (.ldc 208, 2) := by decide +kernel
theorem dJ8_hugeLength_7cf53_30 : decode cJ8_hugeLength_7cf53 30 = .ok (.invokevirtual 94, 3) := by decide +kernel
theorem dJ8_hugeLength_7cf53_33 : decode cJ8_hugeLength_7cf53 33 = .ok (.iload_n 1, 1) := by decide +kernel
theorem dJ8_hugeLength_7cf53_34 : decode cJ8_hugeLength_7cf53 34 = .ok (.invokevirtual 98, 3) := by decide +kernel
theorem dJ8_hugeLength_7cf53_37 : decode cJ8_hugeLength_7cf53 37 = .ok (.ldc 210, 2) := by decide +kernel
theorem dJ8_hugeLength_7cf53_39 : decode cJ8_hugeLength_7cf53 39 = .ok (.invokevirtual 94, 3) := by decide +kernel
theorem dJ8_hugeLength_7cf53_42 : decode cJ8_hugeLength_7cf53 42 = .ok (.invokevirtual 101, 3) := by decide +kernel
theorem dJ8_hugeLength_7cf53_45 : decode cJ8_hugeLength_7cf53 45 = .ok (.invokespecial 212, 3) := by decide +kernel
theorem dJ8_hugeLength_7cf53_48 : decode cJ8_hugeLength_7cf53 48 = .ok (.athrow, 1) := by decide +kernel
theorem dJ8_hugeLength_7cf53_49 : decode cJ8_hugeLength_7cf53 49 = .ok (.iload_n 2, 1) := by decide +kernel
theorem dJ8_hugeLength_7cf53_50 : decode cJ8_hugeLength_7cf53 50 = .ok (.ldc 200, 2) := by decide +kernel
theorem dJ8_hugeLength_7cf53_52 : decode cJ8_hugeLength_7cf53 52 = .ok (.if_icmp .gt 6, 3) := by decide +kernel
theorem dJ8_hugeLength_7cf53_55 : decode cJ8_hugeLength_7cf53 55 = .ok (.ldc 200, 2) := by decide +kernel
theorem dJ8_hugeLength_7cf53_57 : decode cJ8_hugeLength_7cf53 57 = .ok (.ireturn, 1) := by decide +kernel
theorem dJ8_hugeLength_7cf53_58 : decode cJ8_hugeLength_7cf53 58 = .ok (.iload_n 2, 1) := by decide +kernel
theorem dJ8_hugeLength_7cf53_59 : decode cJ8_hugeLength_7cf53 59 = .ok (.ireturn, 1) := by decide +kernel
theorem dJ3_checkIndex_8e157_0 : decode cJ3_checkIndex_8e157 0 = .ok (.iload_n 0, 1) := by decide +kernel
theorem dJ3_checkIndex_8e157_1 : decode cJ3_checkIndex_8e157 1 = .ok (.ifCond .lt 8, 3) := by decide +kernel
theorem dJ3_checkIndex_8e157_4 : decode cJ3_checkIndex_8e157 4 = .ok (.iload_n 0, 1) := by decide +kernel
theorem dJ3_checkIndex_8e157_5 : decode cJ3_checkIndex_8e157 5 = .ok (.iload_n 1, 1) := by decide +kernel
theorem dJ3_checkIndex_8e157_6 : decode cJ3_checkIndex_8e157 6 = .ok (.if_icmp .lt 10, 3) := by decide +kernel
theorem dJ3_checkIndex_8e157_9 : decode cJ3_checkIndex_8e157 9 = .ok (.aload_n 2, 1) := by decide +kernel
theorem dJ3_checkIndex_8e157_10 : decode cJ3_checkIndex_8e157 10 = .ok (.iload_n 0, 1) := by decide +kernel
theorem dJ3_checkIndex_8e157_11 : decode cJ3_checkIndex_8e157 11 = .ok (.iload_n 1, 1) := by decide +kernel
theorem dJ3_checkIndex_8e157_12 : decode cJ3_checkIndex_8e157 12 = .ok (.invokestatic 95, 3) := by decide +kernel
theorem dJ3_checkIndex_8e157_15 : decode cJ3_checkIndex_8e157 15 = .ok (.athrow, 1) := by decide +kernel
theorem dJ3_checkIndex_8e157_16 : decode cJ3_checkIndex_8e157 16 = .ok (.iload_n 0, 1) := by decide +kernel
theorem dJ3_checkIndex_8e157_17 : decode cJ3_checkIndex_8e157 17 = .ok (.ireturn, 1) := by decide +kernel
theorem dL_place_0 : decode cL_place 0 = .ok (.aload_n 2, 1) := by decide +kernel
theorem dL_place_1 : decode cL_place 1 = .ok (.iconst 0, 1) := by decide +kernel
theorem dL_place_2 : decode cL_place 2 = .ok (.aload_n 0, 1) := by decide +kernel
theorem dL_place_3 : decode cL_place 3 = .ok (.iload_n 1, 1) := by decide +kernel
theorem dL_place_4 : decode cL_place 4 = .ok (.invokevirtual 7, 3) := by decide +kernel
theorem dL_place_7 : decode cL_place 7 = .ok (.lastore, 1) := by decide +kernel
theorem dL_place_8 : decode cL_place 8 = .ok (.goto 9, 3) := by decide +kernel
theorem dL_place_11 : decode cL_place 11 = .ok (.astore_n 3, 1) := by decide +kernel
theorem dL_place_12 : decode cL_place 12 = .ok (.iconst 1, 1) := by decide +kernel
theorem dL_place_13 : decode cL_place 13 = .ok (.ireturn, 1) := by decide +kernel
theorem dL_place_14 : decode cL_place 14 = .ok (.astore_n 3, 1) := by decide +kernel
theorem dL_place_15 : decode cL_place 15 = .ok (.iconst 2, 1) := by decide +kernel
theorem dL_place_16 : decode cL_place 16 = .ok (.ireturn, 1) := by decide +kernel
theorem dL_place_17 : decode cL_place 17 = .ok (.iconst 0, 1) := by decide +kernel
theorem dL_place_18 : decode cL_place 18 = .ok (.ireturn, 1) := by decide +kernel
theorem dL_value_0 : decode cL_value 0 = .ok (.aload_n 2, 1) := by decide +kernel
theorem dL_value_1 : decode cL_value 1 = .ok (.iconst 0, 1) := by decide +kernel
theorem dL_value_2 : decode cL_value 2 = .ok (.aload_n 0, 1) := by decide +kernel
theorem dL_value_3 : decode cL_value 3 = .ok (.iload_n 1, 1) := by decide +kernel
theorem dL_value_4 : decode cL_value 4 = .ok (.invokevirtual 17, 3) := by decide +kernel
theorem dL_value_7 : decode cL_value 7 = .ok (.lastore, 1) := by decide +kernel
theorem dL_value_8 : decode cL_value 8 = .ok (.goto 9, 3) := by decide +kernel
theorem dL_value_11 : decode cL_value 11 = .ok (.astore_n 3, 1) := by decide +kernel
theorem dL_value_12 : decode cL_value 12 = .ok (.iconst 1, 1) := by decide +kernel
theorem dL_value_13 : decode cL_value 13 = .ok (.ireturn, 1) := by decide +kernel
theorem dL_value_14 : decode cL_value 14 = .ok (.astore_n 3, 1) := by decide +kernel
theorem dL_value_15 : decode cL_value 15 = .ok (.iconst 2, 1) := by decide +kernel
theorem dL_value_16 : decode cL_value 16 = .ok (.ireturn, 1) := by decide +kernel
theorem dL_value_17 : decode cL_value 17 = .ok (.iconst 0, 1) := by decide +kernel
theorem dL_value_18 : decode cL_value 18 = .ok (.ireturn, 1) := by decide +kernel
theorem dL_range_0 : decode cL_range 0 = .ok (.aload_n 3, 1) := by decide +kernel
theorem dL_range_1 : decode cL_range 1 = .ok (.iconst 0, 1) := by decide +kernel
theorem dL_range_2 : decode cL_range 2 = .ok (.aload_n 0, 1) := by decide +kernel
theorem dL_range_3 : decode cL_range 3 = .ok (.iload_n 1, 1) := by decide +kernel
theorem dL_range_4 : decode cL_range 4 = .ok (.iload_n 2, 1) := by decide +kernel
theorem dL_range_5 : decode cL_range 5 = .ok (.invokevirtual 20, 3) := by decide +kernel
theorem dL_range_8 : decode cL_range 8 = .ok (.lastore, 1) := by decide +kernel
theorem dL_range_9 : decode cL_range 9 = .ok (.goto 11, 3) := by decide +kernel
theorem dL_range_12 : decode cL_range 12 = .ok (.astore 4, 2) := by decide +kernel
theorem dL_range_14 : decode cL_range 14 = .ok (.iconst 1, 1) := by decide +kernel
theorem dL_range_15 : decode cL_range 15 = .ok (.ireturn, 1) := by decide +kernel
theorem dL_range_16 : decode cL_range 16 = .ok (.astore 4, 2) := by decide +kernel
theorem dL_range_18 : decode cL_range 18 = .ok (.iconst 2, 1) := by decide +kernel
theorem dL_range_19 : decode cL_range 19 = .ok (.ireturn, 1) := by decide +kernel
theorem dL_range_20 : decode cL_range 20 = .ok (.iconst 0, 1) := by decide +kernel
theorem dL_range_21 : decode cL_range 21 = .ok (.ireturn, 1) := by decide +kernel
theorem dL_law_0 : decode cL_law 0 = .ok (.new 8, 3) := by decide +kernel
theorem dL_law_3 : decode cL_law 3 = .ok (.dup, 1) := by decide +kernel
theorem dL_law_4 : decode cL_law 4 = .ok (.invokespecial 24, 3) := by decide +kernel
theorem dL_law_7 : decode cL_law 7 = .ok (.astore_n 1, 1) := by decide +kernel
theorem dL_law_8 : decode cL_law 8 = .ok (.new 25, 3) := by decide +kernel
theorem dL_law_11 : decode cL_law 11 = .ok (.dup, 1) := by decide +kernel
theorem dL_law_12 : decode cL_law 12 = .ok (.invokespecial 27, 3) := by decide +kernel
theorem dL_law_15 : decode cL_law 15 = .ok (.astore_n 2, 1) := by decide +kernel
theorem dL_law_16 : decode cL_law 16 = .ok (.iconst 1, 1) := by decide +kernel
theorem dL_law_17 : decode cL_law 17 = .ok (.newarray .long, 2) := by decide +kernel
theorem dL_law_19 : decode cL_law 19 = .ok (.astore_n 3, 1) := by decide +kernel
theorem dL_law_20 : decode cL_law 20 = .ok (.iconst 0, 1) := by decide +kernel
theorem dL_law_21 : decode cL_law 21 = .ok (.istore 4, 2) := by decide +kernel
theorem dL_law_23 : decode cL_law 23 = .ok (.iload 4, 2) := by decide +kernel
theorem dL_law_25 : decode cL_law 25 = .ok (.aload_n 0, 1) := by decide +kernel
theorem dL_law_26 : decode cL_law 26 = .ok (.arraylength, 1) := by decide +kernel
theorem dL_law_27 : decode cL_law 27 = .ok (.bipush 6, 2) := by decide +kernel
theorem dL_law_29 : decode cL_law 29 = .ok (.isub, 1) := by decide +kernel
theorem dL_law_30 : decode cL_law 30 = .ok (.if_icmp .gt 883, 3) := by decide +kernel
theorem dL_law_33 : decode cL_law 33 = .ok (.aload_n 0, 1) := by decide +kernel
theorem dL_law_34 : decode cL_law 34 = .ok (.iload 4, 2) := by decide +kernel
theorem dL_law_36 : decode cL_law 36 = .ok (.iaload, 1) := by decide +kernel
theorem dL_law_37 : decode cL_law 37 = .ok (.bipush 31, 2) := by decide +kernel
theorem dL_law_39 : decode cL_law 39 = .ok (.iand, 1) := by decide +kernel
theorem dL_law_40 : decode cL_law 40 = .ok (.tableswitch 867 0 16 #[84, 97, 170, 219, 268, 341, 414, 439, 476, 517, 530, 567, 622, 677, 734, 817, 842], 84) := by decide +kernel
theorem dL_law_124 : decode cL_law 124 = .ok (.aload_n 1, 1) := by decide +kernel
theorem dL_law_125 : decode cL_law 125 = .ok (.invokevirtual 28, 3) := by decide +kernel
theorem dL_law_128 : decode cL_law 128 = .ok (.aload_n 2, 1) := by decide +kernel
theorem dL_law_129 : decode cL_law 129 = .ok (.invokevirtual 32, 3) := by decide +kernel
theorem dL_law_132 : decode cL_law 132 = .ok (.if_icmp .eq 775, 3) := by decide +kernel
theorem dL_law_135 : decode cL_law 135 = .ok (.iconst 0, 1) := by decide +kernel
theorem dL_law_136 : decode cL_law 136 = .ok (.ireturn, 1) := by decide +kernel
theorem dL_law_137 : decode cL_law 137 = .ok (.aload_n 1, 1) := by decide +kernel
theorem dL_law_138 : decode cL_law 138 = .ok (.aload_n 0, 1) := by decide +kernel
theorem dL_law_139 : decode cL_law 139 = .ok (.iload 4, 2) := by decide +kernel
theorem dL_law_141 : decode cL_law 141 = .ok (.iconst 1, 1) := by decide +kernel
theorem dL_law_142 : decode cL_law 142 = .ok (.iadd, 1) := by decide +kernel
theorem dL_law_143 : decode cL_law 143 = .ok (.iaload, 1) := by decide +kernel
theorem dL_law_144 : decode cL_law 144 = .ok (.aload_n 0, 1) := by decide +kernel
theorem dL_law_145 : decode cL_law 145 = .ok (.iload 4, 2) := by decide +kernel
theorem dL_law_147 : decode cL_law 147 = .ok (.iconst 2, 1) := by decide +kernel
theorem dL_law_148 : decode cL_law 148 = .ok (.iadd, 1) := by decide +kernel
theorem dL_law_149 : decode cL_law 149 = .ok (.iaload, 1) := by decide +kernel
theorem dL_law_150 : decode cL_law 150 = .ok (.aload_n 0, 1) := by decide +kernel
theorem dL_law_151 : decode cL_law 151 = .ok (.iload 4, 2) := by decide +kernel
theorem dL_law_153 : decode cL_law 153 = .ok (.iconst 3, 1) := by decide +kernel
theorem dL_law_154 : decode cL_law 154 = .ok (.iadd, 1) := by decide +kernel
theorem dL_law_155 : decode cL_law 155 = .ok (.iaload, 1) := by decide +kernel
theorem dL_law_156 : decode cL_law 156 = .ok (.aload_n 0, 1) := by decide +kernel
theorem dL_law_157 : decode cL_law 157 = .ok (.iload 4, 2) := by decide +kernel
theorem dL_law_159 : decode cL_law 159 = .ok (.iconst 4, 1) := by decide +kernel
theorem dL_law_160 : decode cL_law 160 = .ok (.iadd, 1) := by decide +kernel
theorem dL_law_161 : decode cL_law 161 = .ok (.iaload, 1) := by decide +kernel
theorem dL_law_162 : decode cL_law 162 = .ok (.aload_n 0, 1) := by decide +kernel
theorem dL_law_163 : decode cL_law 163 = .ok (.iload 4, 2) := by decide +kernel
theorem dL_law_165 : decode cL_law 165 = .ok (.iconst 5, 1) := by decide +kernel
theorem dL_law_166 : decode cL_law 166 = .ok (.iadd, 1) := by decide +kernel
theorem dL_law_167 : decode cL_law 167 = .ok (.iaload, 1) := by decide +kernel
theorem dL_law_168 : decode cL_law 168 = .ok (.invokevirtual 33, 3) := by decide +kernel
theorem dL_law_171 : decode cL_law 171 = .ok (.aload_n 2, 1) := by decide +kernel
theorem dL_law_172 : decode cL_law 172 = .ok (.aload_n 0, 1) := by decide +kernel
theorem dL_law_173 : decode cL_law 173 = .ok (.iload 4, 2) := by decide +kernel
theorem dL_law_175 : decode cL_law 175 = .ok (.iconst 1, 1) := by decide +kernel
theorem dL_law_176 : decode cL_law 176 = .ok (.iadd, 1) := by decide +kernel
theorem dL_law_177 : decode cL_law 177 = .ok (.iaload, 1) := by decide +kernel
theorem dL_law_178 : decode cL_law 178 = .ok (.aload_n 0, 1) := by decide +kernel
theorem dL_law_179 : decode cL_law 179 = .ok (.iload 4, 2) := by decide +kernel
theorem dL_law_181 : decode cL_law 181 = .ok (.iconst 2, 1) := by decide +kernel
theorem dL_law_182 : decode cL_law 182 = .ok (.iadd, 1) := by decide +kernel
theorem dL_law_183 : decode cL_law 183 = .ok (.iaload, 1) := by decide +kernel
theorem dL_law_184 : decode cL_law 184 = .ok (.aload_n 0, 1) := by decide +kernel
theorem dL_law_185 : decode cL_law 185 = .ok (.iload 4, 2) := by decide +kernel
theorem dL_law_187 : decode cL_law 187 = .ok (.iconst 3, 1) := by decide +kernel
theorem dL_law_188 : decode cL_law 188 = .ok (.iadd, 1) := by decide +kernel
theorem dL_law_189 : decode cL_law 189 = .ok (.iaload, 1) := by decide +kernel
theorem dL_law_190 : decode cL_law 190 = .ok (.aload_n 0, 1) := by decide +kernel
theorem dL_law_191 : decode cL_law 191 = .ok (.iload 4, 2) := by decide +kernel
theorem dL_law_193 : decode cL_law 193 = .ok (.iconst 4, 1) := by decide +kernel
theorem dL_law_194 : decode cL_law 194 = .ok (.iadd, 1) := by decide +kernel
theorem dL_law_195 : decode cL_law 195 = .ok (.iaload, 1) := by decide +kernel
theorem dL_law_196 : decode cL_law 196 = .ok (.aload_n 0, 1) := by decide +kernel
theorem dL_law_197 : decode cL_law 197 = .ok (.iload 4, 2) := by decide +kernel
theorem dL_law_199 : decode cL_law 199 = .ok (.iconst 5, 1) := by decide +kernel
theorem dL_law_200 : decode cL_law 200 = .ok (.iadd, 1) := by decide +kernel
theorem dL_law_201 : decode cL_law 201 = .ok (.iaload, 1) := by decide +kernel
theorem dL_law_202 : decode cL_law 202 = .ok (.invokevirtual 37, 3) := by decide +kernel
theorem dL_law_205 : decode cL_law 205 = .ok (.if_icmp .eq 702, 3) := by decide +kernel
theorem dL_law_208 : decode cL_law 208 = .ok (.iconst 0, 1) := by decide +kernel
theorem dL_law_209 : decode cL_law 209 = .ok (.ireturn, 1) := by decide +kernel
theorem dL_law_210 : decode cL_law 210 = .ok (.aload_n 1, 1) := by decide +kernel
theorem dL_law_211 : decode cL_law 211 = .ok (.aload_n 0, 1) := by decide +kernel
theorem dL_law_212 : decode cL_law 212 = .ok (.iload 4, 2) := by decide +kernel
theorem dL_law_214 : decode cL_law 214 = .ok (.iconst 1, 1) := by decide +kernel
theorem dL_law_215 : decode cL_law 215 = .ok (.iadd, 1) := by decide +kernel
theorem dL_law_216 : decode cL_law 216 = .ok (.iaload, 1) := by decide +kernel
theorem dL_law_217 : decode cL_law 217 = .ok (.aload_n 0, 1) := by decide +kernel
theorem dL_law_218 : decode cL_law 218 = .ok (.iload 4, 2) := by decide +kernel
theorem dL_law_220 : decode cL_law 220 = .ok (.iconst 2, 1) := by decide +kernel
theorem dL_law_221 : decode cL_law 221 = .ok (.iadd, 1) := by decide +kernel
theorem dL_law_222 : decode cL_law 222 = .ok (.iaload, 1) := by decide +kernel
theorem dL_law_223 : decode cL_law 223 = .ok (.aload_n 0, 1) := by decide +kernel
theorem dL_law_224 : decode cL_law 224 = .ok (.iload 4, 2) := by decide +kernel
theorem dL_law_226 : decode cL_law 226 = .ok (.iconst 3, 1) := by decide +kernel
theorem dL_law_227 : decode cL_law 227 = .ok (.iadd, 1) := by decide +kernel
theorem dL_law_228 : decode cL_law 228 = .ok (.iaload, 1) := by decide +kernel
theorem dL_law_229 : decode cL_law 229 = .ok (.invokevirtual 38, 3) := by decide +kernel
theorem dL_law_232 : decode cL_law 232 = .ok (.aload_n 2, 1) := by decide +kernel
theorem dL_law_233 : decode cL_law 233 = .ok (.aload_n 0, 1) := by decide +kernel
theorem dL_law_234 : decode cL_law 234 = .ok (.iload 4, 2) := by decide +kernel
theorem dL_law_236 : decode cL_law 236 = .ok (.iconst 1, 1) := by decide +kernel
theorem dL_law_237 : decode cL_law 237 = .ok (.iadd, 1) := by decide +kernel
theorem dL_law_238 : decode cL_law 238 = .ok (.iaload, 1) := by decide +kernel
theorem dL_law_239 : decode cL_law 239 = .ok (.aload_n 0, 1) := by decide +kernel
theorem dL_law_240 : decode cL_law 240 = .ok (.iload 4, 2) := by decide +kernel
theorem dL_law_242 : decode cL_law 242 = .ok (.iconst 2, 1) := by decide +kernel
theorem dL_law_243 : decode cL_law 243 = .ok (.iadd, 1) := by decide +kernel
theorem dL_law_244 : decode cL_law 244 = .ok (.iaload, 1) := by decide +kernel
theorem dL_law_245 : decode cL_law 245 = .ok (.aload_n 0, 1) := by decide +kernel
theorem dL_law_246 : decode cL_law 246 = .ok (.iload 4, 2) := by decide +kernel
theorem dL_law_248 : decode cL_law 248 = .ok (.iconst 3, 1) := by decide +kernel
theorem dL_law_249 : decode cL_law 249 = .ok (.iadd, 1) := by decide +kernel
theorem dL_law_250 : decode cL_law 250 = .ok (.iaload, 1) := by decide +kernel
theorem dL_law_251 : decode cL_law 251 = .ok (.invokevirtual 42, 3) := by decide +kernel
theorem dL_law_254 : decode cL_law 254 = .ok (.if_icmp .eq 653, 3) := by decide +kernel
theorem dL_law_257 : decode cL_law 257 = .ok (.iconst 0, 1) := by decide +kernel
theorem dL_law_258 : decode cL_law 258 = .ok (.ireturn, 1) := by decide +kernel
theorem dL_law_259 : decode cL_law 259 = .ok (.aload_n 1, 1) := by decide +kernel
theorem dL_law_260 : decode cL_law 260 = .ok (.aload_n 0, 1) := by decide +kernel
theorem dL_law_261 : decode cL_law 261 = .ok (.iload 4, 2) := by decide +kernel
theorem dL_law_263 : decode cL_law 263 = .ok (.iconst 1, 1) := by decide +kernel
theorem dL_law_264 : decode cL_law 264 = .ok (.iadd, 1) := by decide +kernel
theorem dL_law_265 : decode cL_law 265 = .ok (.iaload, 1) := by decide +kernel
theorem dL_law_266 : decode cL_law 266 = .ok (.aload_n 0, 1) := by decide +kernel
theorem dL_law_267 : decode cL_law 267 = .ok (.iload 4, 2) := by decide +kernel
theorem dL_law_269 : decode cL_law 269 = .ok (.iconst 2, 1) := by decide +kernel
theorem dL_law_270 : decode cL_law 270 = .ok (.iadd, 1) := by decide +kernel
theorem dL_law_271 : decode cL_law 271 = .ok (.iaload, 1) := by decide +kernel
theorem dL_law_272 : decode cL_law 272 = .ok (.aload_n 0, 1) := by decide +kernel
theorem dL_law_273 : decode cL_law 273 = .ok (.iload 4, 2) := by decide +kernel
theorem dL_law_275 : decode cL_law 275 = .ok (.iconst 3, 1) := by decide +kernel
theorem dL_law_276 : decode cL_law 276 = .ok (.iadd, 1) := by decide +kernel
theorem dL_law_277 : decode cL_law 277 = .ok (.iaload, 1) := by decide +kernel
theorem dL_law_278 : decode cL_law 278 = .ok (.invokevirtual 43, 3) := by decide +kernel
theorem dL_law_281 : decode cL_law 281 = .ok (.aload_n 2, 1) := by decide +kernel
theorem dL_law_282 : decode cL_law 282 = .ok (.aload_n 0, 1) := by decide +kernel
theorem dL_law_283 : decode cL_law 283 = .ok (.iload 4, 2) := by decide +kernel
theorem dL_law_285 : decode cL_law 285 = .ok (.iconst 1, 1) := by decide +kernel
theorem dL_law_286 : decode cL_law 286 = .ok (.iadd, 1) := by decide +kernel
theorem dL_law_287 : decode cL_law 287 = .ok (.iaload, 1) := by decide +kernel
theorem dL_law_288 : decode cL_law 288 = .ok (.aload_n 0, 1) := by decide +kernel
theorem dL_law_289 : decode cL_law 289 = .ok (.iload 4, 2) := by decide +kernel
theorem dL_law_291 : decode cL_law 291 = .ok (.iconst 2, 1) := by decide +kernel
theorem dL_law_292 : decode cL_law 292 = .ok (.iadd, 1) := by decide +kernel
theorem dL_law_293 : decode cL_law 293 = .ok (.iaload, 1) := by decide +kernel
theorem dL_law_294 : decode cL_law 294 = .ok (.aload_n 0, 1) := by decide +kernel
theorem dL_law_295 : decode cL_law 295 = .ok (.iload 4, 2) := by decide +kernel
theorem dL_law_297 : decode cL_law 297 = .ok (.iconst 3, 1) := by decide +kernel
theorem dL_law_298 : decode cL_law 298 = .ok (.iadd, 1) := by decide +kernel
theorem dL_law_299 : decode cL_law 299 = .ok (.iaload, 1) := by decide +kernel
theorem dL_law_300 : decode cL_law 300 = .ok (.invokevirtual 46, 3) := by decide +kernel
theorem dL_law_303 : decode cL_law 303 = .ok (.if_icmp .eq 604, 3) := by decide +kernel
theorem dL_law_306 : decode cL_law 306 = .ok (.iconst 0, 1) := by decide +kernel
theorem dL_law_307 : decode cL_law 307 = .ok (.ireturn, 1) := by decide +kernel
theorem dL_law_308 : decode cL_law 308 = .ok (.aload_n 1, 1) := by decide +kernel
theorem dL_law_309 : decode cL_law 309 = .ok (.aload_n 0, 1) := by decide +kernel
theorem dL_law_310 : decode cL_law 310 = .ok (.iload 4, 2) := by decide +kernel
theorem dL_law_312 : decode cL_law 312 = .ok (.iconst 1, 1) := by decide +kernel
theorem dL_law_313 : decode cL_law 313 = .ok (.iadd, 1) := by decide +kernel
theorem dL_law_314 : decode cL_law 314 = .ok (.iaload, 1) := by decide +kernel
theorem dL_law_315 : decode cL_law 315 = .ok (.aload_n 0, 1) := by decide +kernel
theorem dL_law_316 : decode cL_law 316 = .ok (.iload 4, 2) := by decide +kernel
theorem dL_law_318 : decode cL_law 318 = .ok (.iconst 2, 1) := by decide +kernel
theorem dL_law_319 : decode cL_law 319 = .ok (.iadd, 1) := by decide +kernel
theorem dL_law_320 : decode cL_law 320 = .ok (.iaload, 1) := by decide +kernel
theorem dL_law_321 : decode cL_law 321 = .ok (.aload_n 0, 1) := by decide +kernel
theorem dL_law_322 : decode cL_law 322 = .ok (.iload 4, 2) := by decide +kernel
theorem dL_law_324 : decode cL_law 324 = .ok (.iconst 3, 1) := by decide +kernel
theorem dL_law_325 : decode cL_law 325 = .ok (.iadd, 1) := by decide +kernel
theorem dL_law_326 : decode cL_law 326 = .ok (.iaload, 1) := by decide +kernel
theorem dL_law_327 : decode cL_law 327 = .ok (.aload_n 0, 1) := by decide +kernel
theorem dL_law_328 : decode cL_law 328 = .ok (.iload 4, 2) := by decide +kernel
theorem dL_law_330 : decode cL_law 330 = .ok (.iconst 4, 1) := by decide +kernel
theorem dL_law_331 : decode cL_law 331 = .ok (.iadd, 1) := by decide +kernel
theorem dL_law_332 : decode cL_law 332 = .ok (.iaload, 1) := by decide +kernel
theorem dL_law_333 : decode cL_law 333 = .ok (.aload_n 0, 1) := by decide +kernel
theorem dL_law_334 : decode cL_law 334 = .ok (.iload 4, 2) := by decide +kernel
theorem dL_law_336 : decode cL_law 336 = .ok (.iconst 5, 1) := by decide +kernel
theorem dL_law_337 : decode cL_law 337 = .ok (.iadd, 1) := by decide +kernel
theorem dL_law_338 : decode cL_law 338 = .ok (.iaload, 1) := by decide +kernel
theorem dL_law_339 : decode cL_law 339 = .ok (.invokevirtual 47, 3) := by decide +kernel
theorem dL_law_342 : decode cL_law 342 = .ok (.aload_n 2, 1) := by decide +kernel
theorem dL_law_343 : decode cL_law 343 = .ok (.aload_n 0, 1) := by decide +kernel
theorem dL_law_344 : decode cL_law 344 = .ok (.iload 4, 2) := by decide +kernel
theorem dL_law_346 : decode cL_law 346 = .ok (.iconst 1, 1) := by decide +kernel
theorem dL_law_347 : decode cL_law 347 = .ok (.iadd, 1) := by decide +kernel
theorem dL_law_348 : decode cL_law 348 = .ok (.iaload, 1) := by decide +kernel
theorem dL_law_349 : decode cL_law 349 = .ok (.aload_n 0, 1) := by decide +kernel
theorem dL_law_350 : decode cL_law 350 = .ok (.iload 4, 2) := by decide +kernel
theorem dL_law_352 : decode cL_law 352 = .ok (.iconst 2, 1) := by decide +kernel
theorem dL_law_353 : decode cL_law 353 = .ok (.iadd, 1) := by decide +kernel
theorem dL_law_354 : decode cL_law 354 = .ok (.iaload, 1) := by decide +kernel
theorem dL_law_355 : decode cL_law 355 = .ok (.aload_n 0, 1) := by decide +kernel
theorem dL_law_356 : decode cL_law 356 = .ok (.iload 4, 2) := by decide +kernel
theorem dL_law_358 : decode cL_law 358 = .ok (.iconst 3, 1) := by decide +kernel
theorem dL_law_359 : decode cL_law 359 = .ok (.iadd, 1) := by decide +kernel
theorem dL_law_360 : decode cL_law 360 = .ok (.iaload, 1) := by decide +kernel
theorem dL_law_361 : decode cL_law 361 = .ok (.aload_n 0, 1) := by decide +kernel
theorem dL_law_362 : decode cL_law 362 = .ok (.iload 4, 2) := by decide +kernel
theorem dL_law_364 : decode cL_law 364 = .ok (.iconst 4, 1) := by decide +kernel
theorem dL_law_365 : decode cL_law 365 = .ok (.iadd, 1) := by decide +kernel
theorem dL_law_366 : decode cL_law 366 = .ok (.iaload, 1) := by decide +kernel
theorem dL_law_367 : decode cL_law 367 = .ok (.aload_n 0, 1) := by decide +kernel
theorem dL_law_368 : decode cL_law 368 = .ok (.iload 4, 2) := by decide +kernel
theorem dL_law_370 : decode cL_law 370 = .ok (.iconst 5, 1) := by decide +kernel
theorem dL_law_371 : decode cL_law 371 = .ok (.iadd, 1) := by decide +kernel
theorem dL_law_372 : decode cL_law 372 = .ok (.iaload, 1) := by decide +kernel
theorem dL_law_373 : decode cL_law 373 = .ok (.invokevirtual 50, 3) := by decide +kernel
theorem dL_law_376 : decode cL_law 376 = .ok (.if_icmp .eq 531, 3) := by decide +kernel
theorem dL_law_379 : decode cL_law 379 = .ok (.iconst 0, 1) := by decide +kernel
theorem dL_law_380 : decode cL_law 380 = .ok (.ireturn, 1) := by decide +kernel
theorem dL_law_381 : decode cL_law 381 = .ok (.aload_n 1, 1) := by decide +kernel
theorem dL_law_382 : decode cL_law 382 = .ok (.aload_n 0, 1) := by decide +kernel
theorem dL_law_383 : decode cL_law 383 = .ok (.iload 4, 2) := by decide +kernel
theorem dL_law_385 : decode cL_law 385 = .ok (.iconst 1, 1) := by decide +kernel
theorem dL_law_386 : decode cL_law 386 = .ok (.iadd, 1) := by decide +kernel
theorem dL_law_387 : decode cL_law 387 = .ok (.iaload, 1) := by decide +kernel
theorem dL_law_388 : decode cL_law 388 = .ok (.aload_n 0, 1) := by decide +kernel
theorem dL_law_389 : decode cL_law 389 = .ok (.iload 4, 2) := by decide +kernel
theorem dL_law_391 : decode cL_law 391 = .ok (.iconst 2, 1) := by decide +kernel
theorem dL_law_392 : decode cL_law 392 = .ok (.iadd, 1) := by decide +kernel
theorem dL_law_393 : decode cL_law 393 = .ok (.iaload, 1) := by decide +kernel
theorem dL_law_394 : decode cL_law 394 = .ok (.aload_n 0, 1) := by decide +kernel
theorem dL_law_395 : decode cL_law 395 = .ok (.iload 4, 2) := by decide +kernel
theorem dL_law_397 : decode cL_law 397 = .ok (.iconst 3, 1) := by decide +kernel
theorem dL_law_398 : decode cL_law 398 = .ok (.iadd, 1) := by decide +kernel
theorem dL_law_399 : decode cL_law 399 = .ok (.iaload, 1) := by decide +kernel
theorem dL_law_400 : decode cL_law 400 = .ok (.aload_n 0, 1) := by decide +kernel
theorem dL_law_401 : decode cL_law 401 = .ok (.iload 4, 2) := by decide +kernel
theorem dL_law_403 : decode cL_law 403 = .ok (.iconst 4, 1) := by decide +kernel
theorem dL_law_404 : decode cL_law 404 = .ok (.iadd, 1) := by decide +kernel
theorem dL_law_405 : decode cL_law 405 = .ok (.iaload, 1) := by decide +kernel
theorem dL_law_406 : decode cL_law 406 = .ok (.aload_n 0, 1) := by decide +kernel
theorem dL_law_407 : decode cL_law 407 = .ok (.iload 4, 2) := by decide +kernel
theorem dL_law_409 : decode cL_law 409 = .ok (.iconst 5, 1) := by decide +kernel
theorem dL_law_410 : decode cL_law 410 = .ok (.iadd, 1) := by decide +kernel
theorem dL_law_411 : decode cL_law 411 = .ok (.iaload, 1) := by decide +kernel
theorem dL_law_412 : decode cL_law 412 = .ok (.invokevirtual 51, 3) := by decide +kernel
theorem dL_law_415 : decode cL_law 415 = .ok (.aload_n 2, 1) := by decide +kernel
theorem dL_law_416 : decode cL_law 416 = .ok (.aload_n 0, 1) := by decide +kernel
theorem dL_law_417 : decode cL_law 417 = .ok (.iload 4, 2) := by decide +kernel
theorem dL_law_419 : decode cL_law 419 = .ok (.iconst 1, 1) := by decide +kernel
theorem dL_law_420 : decode cL_law 420 = .ok (.iadd, 1) := by decide +kernel
theorem dL_law_421 : decode cL_law 421 = .ok (.iaload, 1) := by decide +kernel
theorem dL_law_422 : decode cL_law 422 = .ok (.aload_n 0, 1) := by decide +kernel
theorem dL_law_423 : decode cL_law 423 = .ok (.iload 4, 2) := by decide +kernel
theorem dL_law_425 : decode cL_law 425 = .ok (.iconst 2, 1) := by decide +kernel
theorem dL_law_426 : decode cL_law 426 = .ok (.iadd, 1) := by decide +kernel
theorem dL_law_427 : decode cL_law 427 = .ok (.iaload, 1) := by decide +kernel
theorem dL_law_428 : decode cL_law 428 = .ok (.aload_n 0, 1) := by decide +kernel
theorem dL_law_429 : decode cL_law 429 = .ok (.iload 4, 2) := by decide +kernel
theorem dL_law_431 : decode cL_law 431 = .ok (.iconst 3, 1) := by decide +kernel
theorem dL_law_432 : decode cL_law 432 = .ok (.iadd, 1) := by decide +kernel
theorem dL_law_433 : decode cL_law 433 = .ok (.iaload, 1) := by decide +kernel
theorem dL_law_434 : decode cL_law 434 = .ok (.aload_n 0, 1) := by decide +kernel
theorem dL_law_435 : decode cL_law 435 = .ok (.iload 4, 2) := by decide +kernel
theorem dL_law_437 : decode cL_law 437 = .ok (.iconst 4, 1) := by decide +kernel
theorem dL_law_438 : decode cL_law 438 = .ok (.iadd, 1) := by decide +kernel
theorem dL_law_439 : decode cL_law 439 = .ok (.iaload, 1) := by decide +kernel
theorem dL_law_440 : decode cL_law 440 = .ok (.aload_n 0, 1) := by decide +kernel
theorem dL_law_441 : decode cL_law 441 = .ok (.iload 4, 2) := by decide +kernel
theorem dL_law_443 : decode cL_law 443 = .ok (.iconst 5, 1) := by decide +kernel
theorem dL_law_444 : decode cL_law 444 = .ok (.iadd, 1) := by decide +kernel
theorem dL_law_445 : decode cL_law 445 = .ok (.iaload, 1) := by decide +kernel
theorem dL_law_446 : decode cL_law 446 = .ok (.invokevirtual 54, 3) := by decide +kernel
theorem dL_law_449 : decode cL_law 449 = .ok (.if_icmp .eq 458, 3) := by decide +kernel
theorem dL_law_452 : decode cL_law 452 = .ok (.iconst 0, 1) := by decide +kernel
theorem dL_law_453 : decode cL_law 453 = .ok (.ireturn, 1) := by decide +kernel
theorem dL_law_454 : decode cL_law 454 = .ok (.aload_n 1, 1) := by decide +kernel
theorem dL_law_455 : decode cL_law 455 = .ok (.aload_n 0, 1) := by decide +kernel
theorem dL_law_456 : decode cL_law 456 = .ok (.iload 4, 2) := by decide +kernel
theorem dL_law_458 : decode cL_law 458 = .ok (.iconst 1, 1) := by decide +kernel
theorem dL_law_459 : decode cL_law 459 = .ok (.iadd, 1) := by decide +kernel
theorem dL_law_460 : decode cL_law 460 = .ok (.iaload, 1) := by decide +kernel
theorem dL_law_461 : decode cL_law 461 = .ok (.invokevirtual 55, 3) := by decide +kernel
theorem dL_law_464 : decode cL_law 464 = .ok (.aload_n 2, 1) := by decide +kernel
theorem dL_law_465 : decode cL_law 465 = .ok (.aload_n 0, 1) := by decide +kernel
theorem dL_law_466 : decode cL_law 466 = .ok (.iload 4, 2) := by decide +kernel
theorem dL_law_468 : decode cL_law 468 = .ok (.iconst 1, 1) := by decide +kernel
theorem dL_law_469 : decode cL_law 469 = .ok (.iadd, 1) := by decide +kernel
theorem dL_law_470 : decode cL_law 470 = .ok (.iaload, 1) := by decide +kernel
theorem dL_law_471 : decode cL_law 471 = .ok (.invokevirtual 59, 3) := by decide +kernel
theorem dL_law_474 : decode cL_law 474 = .ok (.if_icmp .eq 433, 3) := by decide +kernel
theorem dL_law_477 : decode cL_law 477 = .ok (.iconst 0, 1) := by decide +kernel
theorem dL_law_478 : decode cL_law 478 = .ok (.ireturn, 1) := by decide +kernel
theorem dL_law_479 : decode cL_law 479 = .ok (.aload_n 1, 1) := by decide +kernel
theorem dL_law_480 : decode cL_law 480 = .ok (.aload_n 0, 1) := by decide +kernel
theorem dL_law_481 : decode cL_law 481 = .ok (.iload 4, 2) := by decide +kernel
theorem dL_law_483 : decode cL_law 483 = .ok (.iconst 1, 1) := by decide +kernel
theorem dL_law_484 : decode cL_law 484 = .ok (.iadd, 1) := by decide +kernel
theorem dL_law_485 : decode cL_law 485 = .ok (.iaload, 1) := by decide +kernel
theorem dL_law_486 : decode cL_law 486 = .ok (.aload_n 0, 1) := by decide +kernel
theorem dL_law_487 : decode cL_law 487 = .ok (.iload 4, 2) := by decide +kernel
theorem dL_law_489 : decode cL_law 489 = .ok (.iconst 2, 1) := by decide +kernel
theorem dL_law_490 : decode cL_law 490 = .ok (.iadd, 1) := by decide +kernel
theorem dL_law_491 : decode cL_law 491 = .ok (.iaload, 1) := by decide +kernel
theorem dL_law_492 : decode cL_law 492 = .ok (.invokevirtual 60, 3) := by decide +kernel
theorem dL_law_495 : decode cL_law 495 = .ok (.aload_n 2, 1) := by decide +kernel
theorem dL_law_496 : decode cL_law 496 = .ok (.aload_n 0, 1) := by decide +kernel
theorem dL_law_497 : decode cL_law 497 = .ok (.iload 4, 2) := by decide +kernel
theorem dL_law_499 : decode cL_law 499 = .ok (.iconst 1, 1) := by decide +kernel
theorem dL_law_500 : decode cL_law 500 = .ok (.iadd, 1) := by decide +kernel
theorem dL_law_501 : decode cL_law 501 = .ok (.iaload, 1) := by decide +kernel
theorem dL_law_502 : decode cL_law 502 = .ok (.aload_n 0, 1) := by decide +kernel
theorem dL_law_503 : decode cL_law 503 = .ok (.iload 4, 2) := by decide +kernel
theorem dL_law_505 : decode cL_law 505 = .ok (.iconst 2, 1) := by decide +kernel
theorem dL_law_506 : decode cL_law 506 = .ok (.iadd, 1) := by decide +kernel
theorem dL_law_507 : decode cL_law 507 = .ok (.iaload, 1) := by decide +kernel
theorem dL_law_508 : decode cL_law 508 = .ok (.invokevirtual 64, 3) := by decide +kernel
theorem dL_law_511 : decode cL_law 511 = .ok (.if_icmp .eq 396, 3) := by decide +kernel
theorem dL_law_514 : decode cL_law 514 = .ok (.iconst 0, 1) := by decide +kernel
theorem dL_law_515 : decode cL_law 515 = .ok (.ireturn, 1) := by decide +kernel
theorem dL_law_516 : decode cL_law 516 = .ok (.aload_n 1, 1) := by decide +kernel
theorem dL_law_517 : decode cL_law 517 = .ok (.aload_n 0, 1) := by decide +kernel
theorem dL_law_518 : decode cL_law 518 = .ok (.iload 4, 2) := by decide +kernel
theorem dL_law_520 : decode cL_law 520 = .ok (.iconst 1, 1) := by decide +kernel
theorem dL_law_521 : decode cL_law 521 = .ok (.iadd, 1) := by decide +kernel
theorem dL_law_522 : decode cL_law 522 = .ok (.iaload, 1) := by decide +kernel
theorem dL_law_523 : decode cL_law 523 = .ok (.ifCond .eq 7, 3) := by decide +kernel
theorem dL_law_526 : decode cL_law 526 = .ok (.iconst 1, 1) := by decide +kernel
theorem dL_law_527 : decode cL_law 527 = .ok (.goto 4, 3) := by decide +kernel
theorem dL_law_530 : decode cL_law 530 = .ok (.iconst 0, 1) := by decide +kernel
theorem dL_law_531 : decode cL_law 531 = .ok (.invokevirtual 65, 3) := by decide +kernel
theorem dL_law_534 : decode cL_law 534 = .ok (.aload_n 2, 1) := by decide +kernel
theorem dL_law_535 : decode cL_law 535 = .ok (.aload_n 0, 1) := by decide +kernel
theorem dL_law_536 : decode cL_law 536 = .ok (.iload 4, 2) := by decide +kernel
theorem dL_law_538 : decode cL_law 538 = .ok (.iconst 1, 1) := by decide +kernel
theorem dL_law_539 : decode cL_law 539 = .ok (.iadd, 1) := by decide +kernel
theorem dL_law_540 : decode cL_law 540 = .ok (.iaload, 1) := by decide +kernel
theorem dL_law_541 : decode cL_law 541 = .ok (.ifCond .eq 7, 3) := by decide +kernel
theorem dL_law_544 : decode cL_law 544 = .ok (.iconst 1, 1) := by decide +kernel
theorem dL_law_545 : decode cL_law 545 = .ok (.goto 4, 3) := by decide +kernel
theorem dL_law_548 : decode cL_law 548 = .ok (.iconst 0, 1) := by decide +kernel
theorem dL_law_549 : decode cL_law 549 = .ok (.invokevirtual 69, 3) := by decide +kernel
theorem dL_law_552 : decode cL_law 552 = .ok (.if_icmp .eq 355, 3) := by decide +kernel
theorem dL_law_555 : decode cL_law 555 = .ok (.iconst 0, 1) := by decide +kernel
theorem dL_law_556 : decode cL_law 556 = .ok (.ireturn, 1) := by decide +kernel
theorem dL_law_557 : decode cL_law 557 = .ok (.aload_n 1, 1) := by decide +kernel
theorem dL_law_558 : decode cL_law 558 = .ok (.invokevirtual 70, 3) := by decide +kernel
theorem dL_law_561 : decode cL_law 561 = .ok (.aload_n 2, 1) := by decide +kernel
theorem dL_law_562 : decode cL_law 562 = .ok (.invokevirtual 73, 3) := by decide +kernel
theorem dL_law_565 : decode cL_law 565 = .ok (.if_icmp .eq 342, 3) := by decide +kernel
theorem dL_law_568 : decode cL_law 568 = .ok (.iconst 0, 1) := by decide +kernel
theorem dL_law_569 : decode cL_law 569 = .ok (.ireturn, 1) := by decide +kernel
theorem dL_law_570 : decode cL_law 570 = .ok (.aload_n 1, 1) := by decide +kernel
theorem dL_law_571 : decode cL_law 571 = .ok (.aload_n 0, 1) := by decide +kernel
theorem dL_law_572 : decode cL_law 572 = .ok (.iload 4, 2) := by decide +kernel
theorem dL_law_574 : decode cL_law 574 = .ok (.iconst 1, 1) := by decide +kernel
theorem dL_law_575 : decode cL_law 575 = .ok (.iadd, 1) := by decide +kernel
theorem dL_law_576 : decode cL_law 576 = .ok (.iaload, 1) := by decide +kernel
theorem dL_law_577 : decode cL_law 577 = .ok (.aload_n 0, 1) := by decide +kernel
theorem dL_law_578 : decode cL_law 578 = .ok (.iload 4, 2) := by decide +kernel
theorem dL_law_580 : decode cL_law 580 = .ok (.iconst 2, 1) := by decide +kernel
theorem dL_law_581 : decode cL_law 581 = .ok (.iadd, 1) := by decide +kernel
theorem dL_law_582 : decode cL_law 582 = .ok (.iaload, 1) := by decide +kernel
theorem dL_law_583 : decode cL_law 583 = .ok (.invokevirtual 74, 3) := by decide +kernel
theorem dL_law_586 : decode cL_law 586 = .ok (.aload_n 2, 1) := by decide +kernel
theorem dL_law_587 : decode cL_law 587 = .ok (.aload_n 0, 1) := by decide +kernel
theorem dL_law_588 : decode cL_law 588 = .ok (.iload 4, 2) := by decide +kernel
theorem dL_law_590 : decode cL_law 590 = .ok (.iconst 1, 1) := by decide +kernel
theorem dL_law_591 : decode cL_law 591 = .ok (.iadd, 1) := by decide +kernel
theorem dL_law_592 : decode cL_law 592 = .ok (.iaload, 1) := by decide +kernel
theorem dL_law_593 : decode cL_law 593 = .ok (.aload_n 0, 1) := by decide +kernel
theorem dL_law_594 : decode cL_law 594 = .ok (.iload 4, 2) := by decide +kernel
theorem dL_law_596 : decode cL_law 596 = .ok (.iconst 2, 1) := by decide +kernel
theorem dL_law_597 : decode cL_law 597 = .ok (.iadd, 1) := by decide +kernel
theorem dL_law_598 : decode cL_law 598 = .ok (.iaload, 1) := by decide +kernel
theorem dL_law_599 : decode cL_law 599 = .ok (.invokevirtual 77, 3) := by decide +kernel
theorem dL_law_602 : decode cL_law 602 = .ok (.if_icmp .eq 305, 3) := by decide +kernel
theorem dL_law_605 : decode cL_law 605 = .ok (.iconst 0, 1) := by decide +kernel
theorem dL_law_606 : decode cL_law 606 = .ok (.ireturn, 1) := by decide +kernel
theorem dL_law_607 : decode cL_law 607 = .ok (.aload_n 1, 1) := by decide +kernel
theorem dL_law_608 : decode cL_law 608 = .ok (.aload_n 0, 1) := by decide +kernel
theorem dL_law_609 : decode cL_law 609 = .ok (.iload 4, 2) := by decide +kernel
theorem dL_law_611 : decode cL_law 611 = .ok (.iconst 1, 1) := by decide +kernel
theorem dL_law_612 : decode cL_law 612 = .ok (.iadd, 1) := by decide +kernel
theorem dL_law_613 : decode cL_law 613 = .ok (.iaload, 1) := by decide +kernel
theorem dL_law_614 : decode cL_law 614 = .ok (.aload_n 3, 1) := by decide +kernel
theorem dL_law_615 : decode cL_law 615 = .ok (.invokestatic 78, 3) := by decide +kernel
theorem dL_law_618 : decode cL_law 618 = .ok (.istore 5, 2) := by decide +kernel
theorem dL_law_620 : decode cL_law 620 = .ok (.aload_n 2, 1) := by decide +kernel
theorem dL_law_621 : decode cL_law 621 = .ok (.aload_n 0, 1) := by decide +kernel
theorem dL_law_622 : decode cL_law 622 = .ok (.iload 4, 2) := by decide +kernel
theorem dL_law_624 : decode cL_law 624 = .ok (.iconst 1, 1) := by decide +kernel
theorem dL_law_625 : decode cL_law 625 = .ok (.iadd, 1) := by decide +kernel
theorem dL_law_626 : decode cL_law 626 = .ok (.iaload, 1) := by decide +kernel
theorem dL_law_627 : decode cL_law 627 = .ok (.invokevirtual 83, 3) := by decide +kernel
theorem dL_law_630 : decode cL_law 630 = .ok (.lstore 6, 2) := by decide +kernel
theorem dL_law_632 : decode cL_law 632 = .ok (.aload_n 2, 1) := by decide +kernel
theorem dL_law_633 : decode cL_law 633 = .ok (.invokevirtual 84, 3) := by decide +kernel
theorem dL_law_636 : decode cL_law 636 = .ok (.iload 5, 2) := by decide +kernel
theorem dL_law_638 : decode cL_law 638 = .ok (.if_icmp .eq 5, 3) := by decide +kernel
theorem dL_law_641 : decode cL_law 641 = .ok (.iconst 0, 1) := by decide +kernel
theorem dL_law_642 : decode cL_law 642 = .ok (.ireturn, 1) := by decide +kernel
theorem dL_law_643 : decode cL_law 643 = .ok (.iload 5, 2) := by decide +kernel
theorem dL_law_645 : decode cL_law 645 = .ok (.ifCond .ne 14, 3) := by decide +kernel
theorem dL_law_648 : decode cL_law 648 = .ok (.aload_n 3, 1) := by decide +kernel
theorem dL_law_649 : decode cL_law 649 = .ok (.iconst 0, 1) := by decide +kernel
theorem dL_law_650 : decode cL_law 650 = .ok (.laload, 1) := by decide +kernel
theorem dL_law_651 : decode cL_law 651 = .ok (.lload 6, 2) := by decide +kernel
theorem dL_law_653 : decode cL_law 653 = .ok (.lcmp, 1) := by decide +kernel
theorem dL_law_654 : decode cL_law 654 = .ok (.ifCond .eq 5, 3) := by decide +kernel
theorem dL_law_657 : decode cL_law 657 = .ok (.iconst 0, 1) := by decide +kernel
theorem dL_law_658 : decode cL_law 658 = .ok (.ireturn, 1) := by decide +kernel
theorem dL_law_659 : decode cL_law 659 = .ok (.goto 248, 3) := by decide +kernel
theorem dL_law_662 : decode cL_law 662 = .ok (.aload_n 1, 1) := by decide +kernel
theorem dL_law_663 : decode cL_law 663 = .ok (.aload_n 0, 1) := by decide +kernel
theorem dL_law_664 : decode cL_law 664 = .ok (.iload 4, 2) := by decide +kernel
theorem dL_law_666 : decode cL_law 666 = .ok (.iconst 1, 1) := by decide +kernel
theorem dL_law_667 : decode cL_law 667 = .ok (.iadd, 1) := by decide +kernel
theorem dL_law_668 : decode cL_law 668 = .ok (.iaload, 1) := by decide +kernel
theorem dL_law_669 : decode cL_law 669 = .ok (.aload_n 3, 1) := by decide +kernel
theorem dL_law_670 : decode cL_law 670 = .ok (.invokestatic 87, 3) := by decide +kernel
theorem dL_law_673 : decode cL_law 673 = .ok (.istore 5, 2) := by decide +kernel
theorem dL_law_675 : decode cL_law 675 = .ok (.aload_n 2, 1) := by decide +kernel
theorem dL_law_676 : decode cL_law 676 = .ok (.aload_n 0, 1) := by decide +kernel
theorem dL_law_677 : decode cL_law 677 = .ok (.iload 4, 2) := by decide +kernel
theorem dL_law_679 : decode cL_law 679 = .ok (.iconst 1, 1) := by decide +kernel
theorem dL_law_680 : decode cL_law 680 = .ok (.iadd, 1) := by decide +kernel
theorem dL_law_681 : decode cL_law 681 = .ok (.iaload, 1) := by decide +kernel
theorem dL_law_682 : decode cL_law 682 = .ok (.invokevirtual 89, 3) := by decide +kernel
theorem dL_law_685 : decode cL_law 685 = .ok (.lstore 6, 2) := by decide +kernel
theorem dL_law_687 : decode cL_law 687 = .ok (.aload_n 2, 1) := by decide +kernel
theorem dL_law_688 : decode cL_law 688 = .ok (.invokevirtual 84, 3) := by decide +kernel
theorem dL_law_691 : decode cL_law 691 = .ok (.iload 5, 2) := by decide +kernel
theorem dL_law_693 : decode cL_law 693 = .ok (.if_icmp .eq 5, 3) := by decide +kernel
theorem dL_law_696 : decode cL_law 696 = .ok (.iconst 0, 1) := by decide +kernel
theorem dL_law_697 : decode cL_law 697 = .ok (.ireturn, 1) := by decide +kernel
theorem dL_law_698 : decode cL_law 698 = .ok (.iload 5, 2) := by decide +kernel
theorem dL_law_700 : decode cL_law 700 = .ok (.ifCond .ne 14, 3) := by decide +kernel
theorem dL_law_703 : decode cL_law 703 = .ok (.aload_n 3, 1) := by decide +kernel
theorem dL_law_704 : decode cL_law 704 = .ok (.iconst 0, 1) := by decide +kernel
theorem dL_law_705 : decode cL_law 705 = .ok (.laload, 1) := by decide +kernel
theorem dL_law_706 : decode cL_law 706 = .ok (.lload 6, 2) := by decide +kernel
theorem dL_law_708 : decode cL_law 708 = .ok (.lcmp, 1) := by decide +kernel
theorem dL_law_709 : decode cL_law 709 = .ok (.ifCond .eq 5, 3) := by decide +kernel
theorem dL_law_712 : decode cL_law 712 = .ok (.iconst 0, 1) := by decide +kernel
theorem dL_law_713 : decode cL_law 713 = .ok (.ireturn, 1) := by decide +kernel
theorem dL_law_714 : decode cL_law 714 = .ok (.goto 193, 3) := by decide +kernel
theorem dL_law_717 : decode cL_law 717 = .ok (.aload_n 1, 1) := by decide +kernel
theorem dL_law_718 : decode cL_law 718 = .ok (.aload_n 0, 1) := by decide +kernel
theorem dL_law_719 : decode cL_law 719 = .ok (.iload 4, 2) := by decide +kernel
theorem dL_law_721 : decode cL_law 721 = .ok (.iconst 1, 1) := by decide +kernel
theorem dL_law_722 : decode cL_law 722 = .ok (.iadd, 1) := by decide +kernel
theorem dL_law_723 : decode cL_law 723 = .ok (.iaload, 1) := by decide +kernel
theorem dL_law_724 : decode cL_law 724 = .ok (.i2l, 1) := by decide +kernel
theorem dL_law_725 : decode cL_law 725 = .ok (.bipush 32, 2) := by decide +kernel
theorem dL_law_727 : decode cL_law 727 = .ok (.lshl, 1) := by decide +kernel
theorem dL_law_728 : decode cL_law 728 = .ok (.aload_n 0, 1) := by decide +kernel
theorem dL_law_729 : decode cL_law 729 = .ok (.iload 4, 2) := by decide +kernel
theorem dL_law_731 : decode cL_law 731 = .ok (.iconst 2, 1) := by decide +kernel
theorem dL_law_732 : decode cL_law 732 = .ok (.iadd, 1) := by decide +kernel
theorem dL_law_733 : decode cL_law 733 = .ok (.iaload, 1) := by decide +kernel
theorem dL_law_734 : decode cL_law 734 = .ok (.i2l, 1) := by decide +kernel
theorem dL_law_735 : decode cL_law 735 = .ok (.ldc2_w 90, 3) := by decide +kernel
theorem dL_law_738 : decode cL_law 738 = .ok (.land, 1) := by decide +kernel
theorem dL_law_739 : decode cL_law 739 = .ok (.lor, 1) := by decide +kernel
theorem dL_law_740 : decode cL_law 740 = .ok (.invokevirtual 92, 3) := by decide +kernel
theorem dL_law_743 : decode cL_law 743 = .ok (.aload_n 2, 1) := by decide +kernel
theorem dL_law_744 : decode cL_law 744 = .ok (.aload_n 0, 1) := by decide +kernel
theorem dL_law_745 : decode cL_law 745 = .ok (.iload 4, 2) := by decide +kernel
theorem dL_law_747 : decode cL_law 747 = .ok (.iconst 1, 1) := by decide +kernel
theorem dL_law_748 : decode cL_law 748 = .ok (.iadd, 1) := by decide +kernel
theorem dL_law_749 : decode cL_law 749 = .ok (.iaload, 1) := by decide +kernel
theorem dL_law_750 : decode cL_law 750 = .ok (.i2l, 1) := by decide +kernel
theorem dL_law_751 : decode cL_law 751 = .ok (.bipush 32, 2) := by decide +kernel
theorem dL_law_753 : decode cL_law 753 = .ok (.lshl, 1) := by decide +kernel
theorem dL_law_754 : decode cL_law 754 = .ok (.aload_n 0, 1) := by decide +kernel
theorem dL_law_755 : decode cL_law 755 = .ok (.iload 4, 2) := by decide +kernel
theorem dL_law_757 : decode cL_law 757 = .ok (.iconst 2, 1) := by decide +kernel
theorem dL_law_758 : decode cL_law 758 = .ok (.iadd, 1) := by decide +kernel
theorem dL_law_759 : decode cL_law 759 = .ok (.iaload, 1) := by decide +kernel
theorem dL_law_760 : decode cL_law 760 = .ok (.i2l, 1) := by decide +kernel
theorem dL_law_761 : decode cL_law 761 = .ok (.ldc2_w 90, 3) := by decide +kernel
theorem dL_law_764 : decode cL_law 764 = .ok (.land, 1) := by decide +kernel
theorem dL_law_765 : decode cL_law 765 = .ok (.lor, 1) := by decide +kernel
theorem dL_law_766 : decode cL_law 766 = .ok (.invokevirtual 96, 3) := by decide +kernel
theorem dL_law_769 : decode cL_law 769 = .ok (.if_icmp .eq 138, 3) := by decide +kernel
theorem dL_law_772 : decode cL_law 772 = .ok (.iconst 0, 1) := by decide +kernel
theorem dL_law_773 : decode cL_law 773 = .ok (.ireturn, 1) := by decide +kernel
theorem dL_law_774 : decode cL_law 774 = .ok (.aload_n 1, 1) := by decide +kernel
theorem dL_law_775 : decode cL_law 775 = .ok (.aload_n 0, 1) := by decide +kernel
theorem dL_law_776 : decode cL_law 776 = .ok (.iload 4, 2) := by decide +kernel
theorem dL_law_778 : decode cL_law 778 = .ok (.iconst 1, 1) := by decide +kernel
theorem dL_law_779 : decode cL_law 779 = .ok (.iadd, 1) := by decide +kernel
theorem dL_law_780 : decode cL_law 780 = .ok (.iaload, 1) := by decide +kernel
theorem dL_law_781 : decode cL_law 781 = .ok (.aload_n 0, 1) := by decide +kernel
theorem dL_law_782 : decode cL_law 782 = .ok (.iload 4, 2) := by decide +kernel
theorem dL_law_784 : decode cL_law 784 = .ok (.iconst 2, 1) := by decide +kernel
theorem dL_law_785 : decode cL_law 785 = .ok (.iadd, 1) := by decide +kernel
theorem dL_law_786 : decode cL_law 786 = .ok (.iaload, 1) := by decide +kernel
theorem dL_law_787 : decode cL_law 787 = .ok (.ifCond .eq 7, 3) := by decide +kernel
theorem dL_law_790 : decode cL_law 790 = .ok (.iconst 1, 1) := by decide +kernel
theorem dL_law_791 : decode cL_law 791 = .ok (.goto 4, 3) := by decide +kernel
theorem dL_law_794 : decode cL_law 794 = .ok (.iconst 0, 1) := by decide +kernel
theorem dL_law_795 : decode cL_law 795 = .ok (.aload_n 3, 1) := by decide +kernel
theorem dL_law_796 : decode cL_law 796 = .ok (.invokestatic 97, 3) := by decide +kernel
theorem dL_law_799 : decode cL_law 799 = .ok (.istore 5, 2) := by decide +kernel
theorem dL_law_801 : decode cL_law 801 = .ok (.aload_n 2, 1) := by decide +kernel
theorem dL_law_802 : decode cL_law 802 = .ok (.aload_n 0, 1) := by decide +kernel
theorem dL_law_803 : decode cL_law 803 = .ok (.iload 4, 2) := by decide +kernel
theorem dL_law_805 : decode cL_law 805 = .ok (.iconst 1, 1) := by decide +kernel
theorem dL_law_806 : decode cL_law 806 = .ok (.iadd, 1) := by decide +kernel
theorem dL_law_807 : decode cL_law 807 = .ok (.iaload, 1) := by decide +kernel
theorem dL_law_808 : decode cL_law 808 = .ok (.aload_n 0, 1) := by decide +kernel
theorem dL_law_809 : decode cL_law 809 = .ok (.iload 4, 2) := by decide +kernel
theorem dL_law_811 : decode cL_law 811 = .ok (.iconst 2, 1) := by decide +kernel
theorem dL_law_812 : decode cL_law 812 = .ok (.iadd, 1) := by decide +kernel
theorem dL_law_813 : decode cL_law 813 = .ok (.iaload, 1) := by decide +kernel
theorem dL_law_814 : decode cL_law 814 = .ok (.ifCond .eq 7, 3) := by decide +kernel
theorem dL_law_817 : decode cL_law 817 = .ok (.iconst 1, 1) := by decide +kernel
theorem dL_law_818 : decode cL_law 818 = .ok (.goto 4, 3) := by decide +kernel
theorem dL_law_821 : decode cL_law 821 = .ok (.iconst 0, 1) := by decide +kernel
theorem dL_law_822 : decode cL_law 822 = .ok (.invokevirtual 100, 3) := by decide +kernel
theorem dL_law_825 : decode cL_law 825 = .ok (.lstore 6, 2) := by decide +kernel
theorem dL_law_827 : decode cL_law 827 = .ok (.aload_n 2, 1) := by decide +kernel
theorem dL_law_828 : decode cL_law 828 = .ok (.invokevirtual 84, 3) := by decide +kernel
theorem dL_law_831 : decode cL_law 831 = .ok (.iload 5, 2) := by decide +kernel
theorem dL_law_833 : decode cL_law 833 = .ok (.if_icmp .eq 5, 3) := by decide +kernel
theorem dL_law_836 : decode cL_law 836 = .ok (.iconst 0, 1) := by decide +kernel
theorem dL_law_837 : decode cL_law 837 = .ok (.ireturn, 1) := by decide +kernel
theorem dL_law_838 : decode cL_law 838 = .ok (.iload 5, 2) := by decide +kernel
theorem dL_law_840 : decode cL_law 840 = .ok (.ifCond .ne 14, 3) := by decide +kernel
theorem dL_law_843 : decode cL_law 843 = .ok (.aload_n 3, 1) := by decide +kernel
theorem dL_law_844 : decode cL_law 844 = .ok (.iconst 0, 1) := by decide +kernel
theorem dL_law_845 : decode cL_law 845 = .ok (.laload, 1) := by decide +kernel
theorem dL_law_846 : decode cL_law 846 = .ok (.lload 6, 2) := by decide +kernel
theorem dL_law_848 : decode cL_law 848 = .ok (.lcmp, 1) := by decide +kernel
theorem dL_law_849 : decode cL_law 849 = .ok (.ifCond .eq 5, 3) := by decide +kernel
theorem dL_law_852 : decode cL_law 852 = .ok (.iconst 0, 1) := by decide +kernel
theorem dL_law_853 : decode cL_law 853 = .ok (.ireturn, 1) := by decide +kernel
theorem dL_law_854 : decode cL_law 854 = .ok (.goto 53, 3) := by decide +kernel
theorem dL_law_857 : decode cL_law 857 = .ok (.aload_n 1, 1) := by decide +kernel
theorem dL_law_858 : decode cL_law 858 = .ok (.aload_n 0, 1) := by decide +kernel
theorem dL_law_859 : decode cL_law 859 = .ok (.iload 4, 2) := by decide +kernel
theorem dL_law_861 : decode cL_law 861 = .ok (.iconst 1, 1) := by decide +kernel
theorem dL_law_862 : decode cL_law 862 = .ok (.iadd, 1) := by decide +kernel
theorem dL_law_863 : decode cL_law 863 = .ok (.iaload, 1) := by decide +kernel
theorem dL_law_864 : decode cL_law 864 = .ok (.invokevirtual 101, 3) := by decide +kernel
theorem dL_law_867 : decode cL_law 867 = .ok (.aload_n 2, 1) := by decide +kernel
theorem dL_law_868 : decode cL_law 868 = .ok (.aload_n 0, 1) := by decide +kernel
theorem dL_law_869 : decode cL_law 869 = .ok (.iload 4, 2) := by decide +kernel
theorem dL_law_871 : decode cL_law 871 = .ok (.iconst 1, 1) := by decide +kernel
theorem dL_law_872 : decode cL_law 872 = .ok (.iadd, 1) := by decide +kernel
theorem dL_law_873 : decode cL_law 873 = .ok (.iaload, 1) := by decide +kernel
theorem dL_law_874 : decode cL_law 874 = .ok (.invokevirtual 104, 3) := by decide +kernel
theorem dL_law_877 : decode cL_law 877 = .ok (.if_icmp .eq 30, 3) := by decide +kernel
theorem dL_law_880 : decode cL_law 880 = .ok (.iconst 0, 1) := by decide +kernel
theorem dL_law_881 : decode cL_law 881 = .ok (.ireturn, 1) := by decide +kernel
theorem dL_law_882 : decode cL_law 882 = .ok (.aload_n 1, 1) := by decide +kernel
theorem dL_law_883 : decode cL_law 883 = .ok (.aload_n 0, 1) := by decide +kernel
theorem dL_law_884 : decode cL_law 884 = .ok (.iload 4, 2) := by decide +kernel
theorem dL_law_886 : decode cL_law 886 = .ok (.iconst 1, 1) := by decide +kernel
theorem dL_law_887 : decode cL_law 887 = .ok (.iadd, 1) := by decide +kernel
theorem dL_law_888 : decode cL_law 888 = .ok (.iaload, 1) := by decide +kernel
theorem dL_law_889 : decode cL_law 889 = .ok (.invokevirtual 105, 3) := by decide +kernel
theorem dL_law_892 : decode cL_law 892 = .ok (.aload_n 2, 1) := by decide +kernel
theorem dL_law_893 : decode cL_law 893 = .ok (.aload_n 0, 1) := by decide +kernel
theorem dL_law_894 : decode cL_law 894 = .ok (.iload 4, 2) := by decide +kernel
theorem dL_law_896 : decode cL_law 896 = .ok (.iconst 1, 1) := by decide +kernel
theorem dL_law_897 : decode cL_law 897 = .ok (.iadd, 1) := by decide +kernel
theorem dL_law_898 : decode cL_law 898 = .ok (.iaload, 1) := by decide +kernel
theorem dL_law_899 : decode cL_law 899 = .ok (.invokevirtual 108, 3) := by decide +kernel
theorem dL_law_902 : decode cL_law 902 = .ok (.if_icmp .eq 5, 3) := by decide +kernel
theorem dL_law_905 : decode cL_law 905 = .ok (.iconst 0, 1) := by decide +kernel
theorem dL_law_906 : decode cL_law 906 = .ok (.ireturn, 1) := by decide +kernel
theorem dL_law_907 : decode cL_law 907 = .ok (.iinc 4 6, 3) := by decide +kernel
theorem dL_law_910 : decode cL_law 910 = .ok (.goto (-887), 3) := by decide +kernel
theorem dL_law_913 : decode cL_law 913 = .ok (.iconst 1, 1) := by decide +kernel
theorem dL_law_914 : decode cL_law 914 = .ok (.ireturn, 1) := by decide +kernel
