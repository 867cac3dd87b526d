theorem dX7_accepts_138 : decode cX7_accepts 138 = .ok (.aload_n 0, 1) := by decide +kernel
theorem dX7_accepts_139 : decode cX7_accepts 139 = .ok (.iconst 3, 1) := by decide +kernel
theorem dX7_accepts_140 : decode cX7_accepts 140 = .ok (.iload_n 2, 1) := by decide +kernel
theorem dX7_accepts_141 : decode cX7_accepts 141 = .ok (.iload_n 3, 1) := by decide +kernel
theorem dX7_accepts_142 : decode cX7_accepts 142 = .ok (.iload 4, 2) := by decide +kernel
theorem dX7_accepts_144 : decode cX7_accepts 144 = .ok (.iconst 0, 1) := by decide +kernel
theorem dX7_accepts_145 : decode cX7_accepts 145 = .ok (.invokevirtual 167, 3) := by decide +kernel
theorem dX7_accepts_148 : decode cX7_accepts 148 = .ok (.ireturn, 1) := by decide +kernel
theorem dX7_promises_0 : decode cX7_promises 0 = .ok (.aload_n 0, 1) := by decide +kernel
theorem dX7_promises_1 : decode cX7_promises 1 = .ok (.getfield 63, 3) := by decide +kernel
theorem dX7_promises_4 : decode cX7_promises 4 = .ok (.iload_n 2, 1) := by decide +kernel
theorem dX7_promises_5 : decode cX7_promises 5 = .ok (.iaload, 1) := by decide +kernel
theorem dX7_promises_6 : decode cX7_promises 6 = .ok (.iconst 1, 1) := by decide +kernel
theorem dX7_promises_7 : decode cX7_promises 7 = .ok (.if_icmp .ne 30, 3) := by decide +kernel
theorem dX7_promises_10 : decode cX7_promises 10 = .ok (.iload 4, 2) := by decide +kernel
theorem dX7_promises_12 : decode cX7_promises 12 = .ok (.aload_n 0, 1) := by decide +kernel
theorem dX7_promises_13 : decode cX7_promises 13 = .ok (.iload_n 2, 1) := by decide +kernel
theorem dX7_promises_14 : decode cX7_promises 14 = .ok (.invokevirtual 141, 3) := by decide +kernel
theorem dX7_promises_17 : decode cX7_promises 17 = .ok (.if_icmp .ne 20, 3) := by decide +kernel
theorem dX7_promises_20 : decode cX7_promises 20 = .ok (.aload_n 0, 1) := by decide +kernel
theorem dX7_promises_21 : decode cX7_promises 21 = .ok (.getfield 75, 3) := by decide +kernel
theorem dX7_promises_24 : decode cX7_promises 24 = .ok (.iconst 5, 1) := by decide +kernel
theorem dX7_promises_25 : decode cX7_promises 25 = .ok (.iload_n 2, 1) := by decide +kernel
theorem dX7_promises_26 : decode cX7_promises 26 = .ok (.imul, 1) := by decide +kernel
theorem dX7_promises_27 : decode cX7_promises 27 = .ok (.iload_n 3, 1) := by decide +kernel
theorem dX7_promises_28 : decode cX7_promises 28 = .ok (.iadd, 1) := by decide +kernel
theorem dX7_promises_29 : decode cX7_promises 29 = .ok (.baload, 1) := by decide +kernel
theorem dX7_promises_30 : decode cX7_promises 30 = .ok (.ifCond .ne 7, 3) := by decide +kernel
theorem dX7_promises_33 : decode cX7_promises 33 = .ok (.iconst 1, 1) := by decide +kernel
theorem dX7_promises_34 : decode cX7_promises 34 = .ok (.goto 4, 3) := by decide +kernel
theorem dX7_promises_37 : decode cX7_promises 37 = .ok (.iconst 0, 1) := by decide +kernel
theorem dX7_promises_38 : decode cX7_promises 38 = .ok (.istore 5, 2) := by decide +kernel
theorem dX7_promises_40 : decode cX7_promises 40 = .ok (.iload 5, 2) := by decide +kernel
theorem dX7_promises_42 : decode cX7_promises 42 = .ok (.ifCond .eq 12, 3) := by decide +kernel
theorem dX7_promises_45 : decode cX7_promises 45 = .ok (.aload_n 0, 1) := by decide +kernel
theorem dX7_promises_46 : decode cX7_promises 46 = .ok (.iload_n 2, 1) := by decide +kernel
theorem dX7_promises_47 : decode cX7_promises 47 = .ok (.invokevirtual 174, 3) := by decide +kernel
theorem dX7_promises_50 : decode cX7_promises 50 = .ok (.iconst 2, 1) := by decide +kernel
theorem dX7_promises_51 : decode cX7_promises 51 = .ok (.if_icmp .ge 42, 3) := by decide +kernel
theorem dX7_promises_54 : decode cX7_promises 54 = .ok (.iload 5, 2) := by decide +kernel
theorem dX7_promises_56 : decode cX7_promises 56 = .ok (.ifCond .eq 30, 3) := by decide +kernel
theorem dX7_promises_59 : decode cX7_promises 59 = .ok (.aload_n 0, 1) := by decide +kernel
theorem dX7_promises_60 : decode cX7_promises 60 = .ok (.getfield 75, 3) := by decide +kernel
theorem dX7_promises_63 : decode cX7_promises 63 = .ok (.iconst 5, 1) := by decide +kernel
theorem dX7_promises_64 : decode cX7_promises 64 = .ok (.iload_n 2, 1) := by decide +kernel
theorem dX7_promises_65 : decode cX7_promises 65 = .ok (.imul, 1) := by decide +kernel
theorem dX7_promises_66 : decode cX7_promises 66 = .ok (.iload_n 3, 1) := by decide +kernel
theorem dX7_promises_67 : decode cX7_promises 67 = .ok (.iadd, 1) := by decide +kernel
theorem dX7_promises_68 : decode cX7_promises 68 = .ok (.iconst 1, 1) := by decide +kernel
theorem dX7_promises_69 : decode cX7_promises 69 = .ok (.bastore, 1) := by decide +kernel
theorem dX7_promises_70 : decode cX7_promises 70 = .ok (.aload_n 0, 1) := by decide +kernel
theorem dX7_promises_71 : decode cX7_promises 71 = .ok (.getfield 78, 3) := by decide +kernel
theorem dX7_promises_74 : decode cX7_promises 74 = .ok (.iconst 5, 1) := by decide +kernel
theorem dX7_promises_75 : decode cX7_promises 75 = .ok (.iload_n 2, 1) := by decide +kernel
theorem dX7_promises_76 : decode cX7_promises 76 = .ok (.imul, 1) := by decide +kernel
theorem dX7_promises_77 : decode cX7_promises 77 = .ok (.iload_n 3, 1) := by decide +kernel
theorem dX7_promises_78 : decode cX7_promises 78 = .ok (.iadd, 1) := by decide +kernel
theorem dX7_promises_79 : decode cX7_promises 79 = .ok (.aload_n 0, 1) := by decide +kernel
theorem dX7_promises_80 : decode cX7_promises 80 = .ok (.getfield 32, 3) := by decide +kernel
theorem dX7_promises_83 : decode cX7_promises 83 = .ok (.iload_n 1, 1) := by decide +kernel
theorem dX7_promises_84 : decode cX7_promises 84 = .ok (.iaload, 1) := by decide +kernel
theorem dX7_promises_85 : decode cX7_promises 85 = .ok (.iastore, 1) := by decide +kernel
theorem dX7_promises_86 : decode cX7_promises 86 = .ok (.aload_n 0, 1) := by decide +kernel
theorem dX7_promises_87 : decode cX7_promises 87 = .ok (.iload_n 1, 1) := by decide +kernel
theorem dX7_promises_88 : decode cX7_promises 88 = .ok (.invokevirtual 134, 3) := by decide +kernel
theorem dX7_promises_91 : decode cX7_promises 91 = .ok (.iconst 0, 1) := by decide +kernel
theorem dX7_promises_92 : decode cX7_promises 92 = .ok (.ireturn, 1) := by decide +kernel
theorem dX7_promises_93 : decode cX7_promises 93 = .ok (.aload_n 0, 1) := by decide +kernel
theorem dX7_promises_94 : decode cX7_promises 94 = .ok (.getfield 66, 3) := by decide +kernel
theorem dX7_promises_97 : decode cX7_promises 97 = .ok (.iload_n 2, 1) := by decide +kernel
theorem dX7_promises_98 : decode cX7_promises 98 = .ok (.baload, 1) := by decide +kernel
theorem dX7_promises_99 : decode cX7_promises 99 = .ok (.ifCond .eq 12, 3) := by decide +kernel
theorem dX7_promises_102 : decode cX7_promises 102 = .ok (.aload_n 0, 1) := by decide +kernel
theorem dX7_promises_103 : decode cX7_promises 103 = .ok (.getfield 93, 3) := by decide +kernel
theorem dX7_promises_106 : decode cX7_promises 106 = .ok (.iload_n 2, 1) := by decide +kernel
theorem dX7_promises_107 : decode cX7_promises 107 = .ok (.iaload, 1) := by decide +kernel
theorem dX7_promises_108 : decode cX7_promises 108 = .ok (.goto 15, 3) := by decide +kernel
theorem dX7_promises_111 : decode cX7_promises 111 = .ok (.aload_n 0, 1) := by decide +kernel
theorem dX7_promises_112 : decode cX7_promises 112 = .ok (.iload_n 2, 1) := by decide +kernel
theorem dX7_promises_113 : decode cX7_promises 113 = .ok (.iload_n 3, 1) := by decide +kernel
theorem dX7_promises_114 : decode cX7_promises 114 = .ok (.aload_n 0, 1) := by decide +kernel
theorem dX7_promises_115 : decode cX7_promises 115 = .ok (.getfield 32, 3) := by decide +kernel
theorem dX7_promises_118 : decode cX7_promises 118 = .ok (.iload_n 1, 1) := by decide +kernel
theorem dX7_promises_119 : decode cX7_promises 119 = .ok (.iaload, 1) := by decide +kernel
theorem dX7_promises_120 : decode cX7_promises 120 = .ok (.invokevirtual 177, 3) := by decide +kernel
theorem dX7_promises_123 : decode cX7_promises 123 = .ok (.istore 6, 2) := by decide +kernel
theorem dX7_promises_125 : decode cX7_promises 125 = .ok (.iload 6, 2) := by decide +kernel
theorem dX7_promises_127 : decode cX7_promises 127 = .ok (.ifCond .ge 7, 3) := by decide +kernel
theorem dX7_promises_130 : decode cX7_promises 130 = .ok (.iconst (-1), 1) := by decide +kernel
theorem dX7_promises_131 : decode cX7_promises 131 = .ok (.goto 17, 3) := by decide +kernel
theorem dX7_promises_134 : decode cX7_promises 134 = .ok (.aload_n 0, 1) := by decide +kernel
theorem dX7_promises_135 : decode cX7_promises 135 = .ok (.iload_n 2, 1) := by decide +kernel
theorem dX7_promises_136 : decode cX7_promises 136 = .ok (.iload 6, 2) := by decide +kernel
theorem dX7_promises_138 : decode cX7_promises 138 = .ok (.iload_n 3, 1) := by decide +kernel
theorem dX7_promises_139 : decode cX7_promises 139 = .ok (.aload_n 0, 1) := by decide +kernel
theorem dX7_promises_140 : decode cX7_promises 140 = .ok (.getfield 32, 3) := by decide +kernel
theorem dX7_promises_143 : decode cX7_promises 143 = .ok (.iload_n 1, 1) := by decide +kernel
theorem dX7_promises_144 : decode cX7_promises 144 = .ok (.iaload, 1) := by decide +kernel
theorem dX7_promises_145 : decode cX7_promises 145 = .ok (.invokevirtual 160, 3) := by decide +kernel
theorem dX7_promises_148 : decode cX7_promises 148 = .ok (.istore 7, 2) := by decide +kernel
theorem dX7_promises_150 : decode cX7_promises 150 = .ok (.aload_n 0, 1) := by decide +kernel
theorem dX7_promises_151 : decode cX7_promises 151 = .ok (.getfield 60, 3) := by decide +kernel
theorem dX7_promises_154 : decode cX7_promises 154 = .ok (.iload_n 2, 1) := by decide +kernel
theorem dX7_promises_155 : decode cX7_promises 155 = .ok (.laload, 1) := by decide +kernel
theorem dX7_promises_156 : decode cX7_promises 156 = .ok (.aload_n 0, 1) := by decide +kernel
theorem dX7_promises_157 : decode cX7_promises 157 = .ok (.iload 7, 2) := by decide +kernel
theorem dX7_promises_159 : decode cX7_promises 159 = .ok (.invokevirtual 180, 3) := by decide +kernel
theorem dX7_promises_162 : decode cX7_promises 162 = .ok (.lconst 1, 1) := by decide +kernel
theorem dX7_promises_163 : decode cX7_promises 163 = .ok (.ladd, 1) := by decide +kernel
theorem dX7_promises_164 : decode cX7_promises 164 = .ok (.lcmp, 1) := by decide +kernel
theorem dX7_promises_165 : decode cX7_promises 165 = .ok (.ifCond .le 12, 3) := by decide +kernel
theorem dX7_promises_168 : decode cX7_promises 168 = .ok (.aload_n 0, 1) := by decide +kernel
theorem dX7_promises_169 : decode cX7_promises 169 = .ok (.getfield 60, 3) := by decide +kernel
theorem dX7_promises_172 : decode cX7_promises 172 = .ok (.iload_n 2, 1) := by decide +kernel
theorem dX7_promises_173 : decode cX7_promises 173 = .ok (.laload, 1) := by decide +kernel
theorem dX7_promises_174 : decode cX7_promises 174 = .ok (.goto 11, 3) := by decide +kernel
theorem dX7_promises_177 : decode cX7_promises 177 = .ok (.aload_n 0, 1) := by decide +kernel
theorem dX7_promises_178 : decode cX7_promises 178 = .ok (.iload 7, 2) := by decide +kernel
theorem dX7_promises_180 : decode cX7_promises 180 = .ok (.invokevirtual 180, 3) := by decide +kernel
theorem dX7_promises_183 : decode cX7_promises 183 = .ok (.lconst 1, 1) := by decide +kernel
theorem dX7_promises_184 : decode cX7_promises 184 = .ok (.ladd, 1) := by decide +kernel
theorem dX7_promises_185 : decode cX7_promises 185 = .ok (.lstore 8, 2) := by decide +kernel
theorem dX7_promises_187 : decode cX7_promises 187 = .ok (.iload 6, 2) := by decide +kernel
theorem dX7_promises_189 : decode cX7_promises 189 = .ok (.ifCond .lt 16, 3) := by decide +kernel
theorem dX7_promises_192 : decode cX7_promises 192 = .ok (.lload 8, 2) := by decide +kernel
theorem dX7_promises_194 : decode cX7_promises 194 = .ok (.ldc2_w 184, 3) := by decide +kernel
theorem dX7_promises_197 : decode cX7_promises 197 = .ok (.ladd, 1) := by decide +kernel
theorem dX7_promises_198 : decode cX7_promises 198 = .ok (.ldc2_w 122, 3) := by decide +kernel
theorem dX7_promises_201 : decode cX7_promises 201 = .ok (.lcmp, 1) := by decide +kernel
theorem dX7_promises_202 : decode cX7_promises 202 = .ok (.ifCond .le 15, 3) := by decide +kernel
theorem dX7_promises_205 : decode cX7_promises 205 = .ok (.aload_n 0, 1) := by decide +kernel
theorem dX7_promises_206 : decode cX7_promises 206 = .ok (.iload_n 1, 1) := by decide +kernel
theorem dX7_promises_207 : decode cX7_promises 207 = .ok (.invokevirtual 134, 3) := by decide +kernel
theorem dX7_promises_210 : decode cX7_promises 210 = .ok (.aload_n 0, 1) := by decide +kernel
theorem dX7_promises_211 : decode cX7_promises 211 = .ok (.iload_n 2, 1) := by decide +kernel
theorem dX7_promises_212 : decode cX7_promises 212 = .ok (.invokevirtual 186, 3) := by decide +kernel
theorem dX7_promises_215 : decode cX7_promises 215 = .ok (.iconst 0, 1) := by decide +kernel
theorem dX7_promises_216 : decode cX7_promises 216 = .ok (.ireturn, 1) := by decide +kernel
theorem dX7_promises_217 : decode cX7_promises 217 = .ok (.aload_n 0, 1) := by decide +kernel
theorem dX7_promises_218 : decode cX7_promises 218 = .ok (.getfield 124, 3) := by decide +kernel
theorem dX7_promises_221 : decode cX7_promises 221 = .ok (.iconst 4, 1) := by decide +kernel
theorem dX7_promises_222 : decode cX7_promises 222 = .ok (.iadd, 1) := by decide +kernel
theorem dX7_promises_223 : decode cX7_promises 223 = .ok (.bipush 90, 2) := by decide +kernel
theorem dX7_promises_225 : decode cX7_promises 225 = .ok (.if_icmp .le 10, 3) := by decide +kernel
theorem dX7_promises_228 : decode cX7_promises 228 = .ok (.aload_n 0, 1) := by decide +kernel
theorem dX7_promises_229 : decode cX7_promises 229 = .ok (.iconst 2, 1) := by decide +kernel
theorem dX7_promises_230 : decode cX7_promises 230 = .ok (.putfield 114, 3) := by decide +kernel
theorem dX7_promises_233 : decode cX7_promises 233 = .ok (.iconst 0, 1) := by decide +kernel
theorem dX7_promises_234 : decode cX7_promises 234 = .ok (.ireturn, 1) := by decide +kernel
theorem dX7_promises_235 : decode cX7_promises 235 = .ok (.aload_n 0, 1) := by decide +kernel
theorem dX7_promises_236 : decode cX7_promises 236 = .ok (.getfield 66, 3) := by decide +kernel
theorem dX7_promises_239 : decode cX7_promises 239 = .ok (.iload_n 2, 1) := by decide +kernel
theorem dX7_promises_240 : decode cX7_promises 240 = .ok (.baload, 1) := by decide +kernel
theorem dX7_promises_241 : decode cX7_promises 241 = .ok (.ifCond .eq 12, 3) := by decide +kernel
theorem dX7_promises_244 : decode cX7_promises 244 = .ok (.aload_n 0, 1) := by decide +kernel
theorem dX7_promises_245 : decode cX7_promises 245 = .ok (.getfield 96, 3) := by decide +kernel
theorem dX7_promises_248 : decode cX7_promises 248 = .ok (.iload_n 2, 1) := by decide +kernel
theorem dX7_promises_249 : decode cX7_promises 249 = .ok (.iaload, 1) := by decide +kernel
theorem dX7_promises_250 : decode cX7_promises 250 = .ok (.goto 11, 3) := by decide +kernel
theorem dX7_promises_253 : decode cX7_promises 253 = .ok (.aload_n 0, 1) := by decide +kernel
theorem dX7_promises_254 : decode cX7_promises 254 = .ok (.iload 7, 2) := by decide +kernel
theorem dX7_promises_256 : decode cX7_promises 256 = .ok (.invokevirtual 189, 3) := by decide +kernel
theorem dX7_promises_259 : decode cX7_promises 259 = .ok (.iconst 1, 1) := by decide +kernel
theorem dX7_promises_260 : decode cX7_promises 260 = .ok (.iadd, 1) := by decide +kernel
theorem dX7_promises_261 : decode cX7_promises 261 = .ok (.istore 10, 2) := by decide +kernel
theorem dX7_promises_263 : decode cX7_promises 263 = .ok (.aload_n 0, 1) := by decide +kernel
theorem dX7_promises_264 : decode cX7_promises 264 = .ok (.iload_n 1, 1) := by decide +kernel
theorem dX7_promises_265 : decode cX7_promises 265 = .ok (.invokevirtual 134, 3) := by decide +kernel
theorem dX7_promises_268 : decode cX7_promises 268 = .ok (.aload_n 0, 1) := by decide +kernel
theorem dX7_promises_269 : decode cX7_promises 269 = .ok (.getfield 63, 3) := by decide +kernel
theorem dX7_promises_272 : decode cX7_promises 272 = .ok (.iload_n 2, 1) := by decide +kernel
theorem dX7_promises_273 : decode cX7_promises 273 = .ok (.iconst 2, 1) := by decide +kernel
theorem dX7_promises_274 : decode cX7_promises 274 = .ok (.iastore, 1) := by decide +kernel
theorem dX7_promises_275 : decode cX7_promises 275 = .ok (.aload_n 0, 1) := by decide +kernel
theorem dX7_promises_276 : decode cX7_promises 276 = .ok (.iload_n 2, 1) := by decide +kernel
theorem dX7_promises_277 : decode cX7_promises 277 = .ok (.invokevirtual 138, 3) := by decide +kernel
theorem dX7_promises_280 : decode cX7_promises 280 = .ok (.aload_n 0, 1) := by decide +kernel
theorem dX7_promises_281 : decode cX7_promises 281 = .ok (.getfield 81, 3) := by decide +kernel
theorem dX7_promises_284 : decode cX7_promises 284 = .ok (.iload_n 2, 1) := by decide +kernel
theorem dX7_promises_285 : decode cX7_promises 285 = .ok (.iload 6, 2) := by decide +kernel
theorem dX7_promises_287 : decode cX7_promises 287 = .ok (.iastore, 1) := by decide +kernel
theorem dX7_promises_288 : decode cX7_promises 288 = .ok (.aload_n 0, 1) := by decide +kernel
theorem dX7_promises_289 : decode cX7_promises 289 = .ok (.getfield 84, 3) := by decide +kernel
theorem dX7_promises_292 : decode cX7_promises 292 = .ok (.iload_n 2, 1) := by decide +kernel
theorem dX7_promises_293 : decode cX7_promises 293 = .ok (.iload 10, 2) := by decide +kernel
theorem dX7_promises_295 : decode cX7_promises 295 = .ok (.iastore, 1) := by decide +kernel
theorem dX7_promises_296 : decode cX7_promises 296 = .ok (.aload_n 0, 1) := by decide +kernel
theorem dX7_promises_297 : decode cX7_promises 297 = .ok (.getfield 87, 3) := by decide +kernel
theorem dX7_promises_300 : decode cX7_promises 300 = .ok (.iload_n 2, 1) := by decide +kernel
theorem dX7_promises_301 : decode cX7_promises 301 = .ok (.lload 8, 2) := by decide +kernel
theorem dX7_promises_303 : decode cX7_promises 303 = .ok (.lastore, 1) := by decide +kernel
theorem dX7_promises_304 : decode cX7_promises 304 = .ok (.iconst 0, 1) := by decide +kernel
theorem dX7_promises_305 : decode cX7_promises 305 = .ok (.istore 11, 2) := by decide +kernel
theorem dX7_promises_307 : decode cX7_promises 307 = .ok (.iload 11, 2) := by decide +kernel
theorem dX7_promises_309 : decode cX7_promises 309 = .ok (.iconst 5, 1) := by decide +kernel
theorem dX7_promises_310 : decode cX7_promises 310 = .ok (.if_icmp .ge 57, 3) := by decide +kernel
theorem dX7_promises_313 : decode cX7_promises 313 = .ok (.aload_n 0, 1) := by decide +kernel
theorem dX7_promises_314 : decode cX7_promises 314 = .ok (.getfield 22, 3) := by decide +kernel
theorem dX7_promises_317 : decode cX7_promises 317 = .ok (.aload_n 0, 1) := by decide +kernel
theorem dX7_promises_318 : decode cX7_promises 318 = .ok (.getfield 124, 3) := by decide +kernel
theorem dX7_promises_321 : decode cX7_promises 321 = .ok (.iload 6, 2) := by decide +kernel
theorem dX7_promises_323 : decode cX7_promises 323 = .ok (.iastore, 1) := by decide +kernel
theorem dX7_promises_324 : decode cX7_promises 324 = .ok (.aload_n 0, 1) := by decide +kernel
theorem dX7_promises_325 : decode cX7_promises 325 = .ok (.getfield 25, 3) := by decide +kernel
theorem dX7_promises_328 : decode cX7_promises 328 = .ok (.aload_n 0, 1) := by decide +kernel
theorem dX7_promises_329 : decode cX7_promises 329 = .ok (.getfield 124, 3) := by decide +kernel
theorem dX7_promises_332 : decode cX7_promises 332 = .ok (.iload 10, 2) := by decide +kernel
theorem dX7_promises_334 : decode cX7_promises 334 = .ok (.iastore, 1) := by decide +kernel
theorem dX7_promises_335 : decode cX7_promises 335 = .ok (.aload_n 0, 1) := by decide +kernel
theorem dX7_promises_336 : decode cX7_promises 336 = .ok (.getfield 28, 3) := by decide +kernel
theorem dX7_promises_339 : decode cX7_promises 339 = .ok (.aload_n 0, 1) := by decide +kernel
theorem dX7_promises_340 : decode cX7_promises 340 = .ok (.getfield 124, 3) := by decide +kernel
theorem dX7_promises_343 : decode cX7_promises 343 = .ok (.lload 8, 2) := by decide +kernel
theorem dX7_promises_345 : decode cX7_promises 345 = .ok (.ldc2_w 184, 3) := by decide +kernel
theorem dX7_promises_348 : decode cX7_promises 348 = .ok (.ladd, 1) := by decide +kernel
theorem dX7_promises_349 : decode cX7_promises 349 = .ok (.lastore, 1) := by decide +kernel
theorem dX7_promises_350 : decode cX7_promises 350 = .ok (.aload_n 0, 1) := by decide +kernel
theorem dX7_promises_351 : decode cX7_promises 351 = .ok (.iconst 2, 1) := by decide +kernel
theorem dX7_promises_352 : decode cX7_promises 352 = .ok (.iload_n 2, 1) := by decide +kernel
theorem dX7_promises_353 : decode cX7_promises 353 = .ok (.iload 11, 2) := by decide +kernel
theorem dX7_promises_355 : decode cX7_promises 355 = .ok (.iload 4, 2) := by decide +kernel
theorem dX7_promises_357 : decode cX7_promises 357 = .ok (.iconst 0, 1) := by decide +kernel
theorem dX7_promises_358 : decode cX7_promises 358 = .ok (.invokevirtual 145, 3) := by decide +kernel
theorem dX7_promises_361 : decode cX7_promises 361 = .ok (.iinc 11 1, 3) := by decide +kernel
theorem dX7_promises_364 : decode cX7_promises 364 = .ok (.goto (-57), 3) := by decide +kernel
theorem dX7_promises_367 : decode cX7_promises 367 = .ok (.iconst 5, 1) := by decide +kernel
theorem dX7_promises_368 : decode cX7_promises 368 = .ok (.ireturn, 1) := by decide +kernel
theorem dX7_agrees_0 : decode cX7_agrees 0 = .ok (.aload_n 0, 1) := by decide +kernel
theorem dX7_agrees_1 : decode cX7_agrees 1 = .ok (.getfield 63, 3) := by decide +kernel
theorem dX7_agrees_4 : decode cX7_agrees 4 = .ok (.iload_n 1, 1) := by decide +kernel
theorem dX7_agrees_5 : decode cX7_agrees 5 = .ok (.iaload, 1) := by decide +kernel
theorem dX7_agrees_6 : decode cX7_agrees 6 = .ok (.iconst 2, 1) := by decide +kernel
theorem dX7_agrees_7 : decode cX7_agrees 7 = .ok (.if_icmp .ne 25, 3) := by decide +kernel
theorem dX7_agrees_10 : decode cX7_agrees 10 = .ok (.iload_n 3, 1) := by decide +kernel
theorem dX7_agrees_11 : decode cX7_agrees 11 = .ok (.aload_n 0, 1) := by decide +kernel
theorem dX7_agrees_12 : decode cX7_agrees 12 = .ok (.iload_n 1, 1) := by decide +kernel
theorem dX7_agrees_13 : decode cX7_agrees 13 = .ok (.invokevirtual 141, 3) := by decide +kernel
theorem dX7_agrees_16 : decode cX7_agrees 16 = .ok (.if_icmp .ne 16, 3) := by decide +kernel
theorem dX7_agrees_19 : decode cX7_agrees 19 = .ok (.aload_n 0, 1) := by decide +kernel
theorem dX7_agrees_20 : decode cX7_agrees 20 = .ok (.getfield 75, 3) := by decide +kernel
theorem dX7_agrees_23 : decode cX7_agrees 23 = .ok (.iconst 5, 1) := by decide +kernel
theorem dX7_agrees_24 : decode cX7_agrees 24 = .ok (.iload_n 1, 1) := by decide +kernel
theorem dX7_agrees_25 : decode cX7_agrees 25 = .ok (.imul, 1) := by decide +kernel
theorem dX7_agrees_26 : decode cX7_agrees 26 = .ok (.iload_n 2, 1) := by decide +kernel
theorem dX7_agrees_27 : decode cX7_agrees 27 = .ok (.iadd, 1) := by decide +kernel
theorem dX7_agrees_28 : decode cX7_agrees 28 = .ok (.baload, 1) := by decide +kernel
theorem dX7_agrees_29 : decode cX7_agrees 29 = .ok (.ifCond .eq 5, 3) := by decide +kernel
theorem dX7_agrees_32 : decode cX7_agrees 32 = .ok (.iconst 0, 1) := by decide +kernel
theorem dX7_agrees_33 : decode cX7_agrees 33 = .ok (.ireturn, 1) := by decide +kernel
theorem dX7_agrees_34 : decode cX7_agrees 34 = .ok (.aload_n 0, 1) := by decide +kernel
theorem dX7_agrees_35 : decode cX7_agrees 35 = .ok (.getfield 75, 3) := by decide +kernel
theorem dX7_agrees_38 : decode cX7_agrees 38 = .ok (.iconst 5, 1) := by decide +kernel
theorem dX7_agrees_39 : decode cX7_agrees 39 = .ok (.iload_n 1, 1) := by decide +kernel
theorem dX7_agrees_40 : decode cX7_agrees 40 = .ok (.imul, 1) := by decide +kernel
theorem dX7_agrees_41 : decode cX7_agrees 41 = .ok (.iload_n 2, 1) := by decide +kernel
theorem dX7_agrees_42 : decode cX7_agrees 42 = .ok (.iadd, 1) := by decide +kernel
theorem dX7_agrees_43 : decode cX7_agrees 43 = .ok (.iconst 1, 1) := by decide +kernel
theorem dX7_agrees_44 : decode cX7_agrees 44 = .ok (.bastore, 1) := by decide +kernel
theorem dX7_agrees_45 : decode cX7_agrees 45 = .ok (.aload_n 0, 1) := by decide +kernel
theorem dX7_agrees_46 : decode cX7_agrees 46 = .ok (.iload_n 1, 1) := by decide +kernel
theorem dX7_agrees_47 : decode cX7_agrees 47 = .ok (.invokevirtual 174, 3) := by decide +kernel
theorem dX7_agrees_50 : decode cX7_agrees 50 = .ok (.iconst 3, 1) := by decide +kernel
theorem dX7_agrees_51 : decode cX7_agrees 51 = .ok (.if_icmp .ge 5, 3) := by decide +kernel
theorem dX7_agrees_54 : decode cX7_agrees 54 = .ok (.iconst 0, 1) := by decide +kernel
theorem dX7_agrees_55 : decode cX7_agrees 55 = .ok (.ireturn, 1) := by decide +kernel
theorem dX7_agrees_56 : decode cX7_agrees 56 = .ok (.aload_n 0, 1) := by decide +kernel
theorem dX7_agrees_57 : decode cX7_agrees 57 = .ok (.getfield 63, 3) := by decide +kernel
theorem dX7_agrees_60 : decode cX7_agrees 60 = .ok (.iload_n 1, 1) := by decide +kernel
theorem dX7_agrees_61 : decode cX7_agrees 61 = .ok (.iconst 0, 1) := by decide +kernel
theorem dX7_agrees_62 : decode cX7_agrees 62 = .ok (.iastore, 1) := by decide +kernel
theorem dX7_agrees_63 : decode cX7_agrees 63 = .ok (.aload_n 0, 1) := by decide +kernel
theorem dX7_agrees_64 : decode cX7_agrees 64 = .ok (.getfield 90, 3) := by decide +kernel
theorem dX7_agrees_67 : decode cX7_agrees 67 = .ok (.iload_n 1, 1) := by decide +kernel
theorem dX7_agrees_68 : decode cX7_agrees 68 = .ok (.iconst 1, 1) := by decide +kernel
theorem dX7_agrees_69 : decode cX7_agrees 69 = .ok (.bastore, 1) := by decide +kernel
theorem dX7_agrees_70 : decode cX7_agrees 70 = .ok (.aload_n 0, 1) := by decide +kernel
theorem dX7_agrees_71 : decode cX7_agrees 71 = .ok (.getfield 93, 3) := by decide +kernel
theorem dX7_agrees_74 : decode cX7_agrees 74 = .ok (.iload_n 1, 1) := by decide +kernel
theorem dX7_agrees_75 : decode cX7_agrees 75 = .ok (.aload_n 0, 1) := by decide +kernel
theorem dX7_agrees_76 : decode cX7_agrees 76 = .ok (.getfield 81, 3) := by decide +kernel
theorem dX7_agrees_79 : decode cX7_agrees 79 = .ok (.iload_n 1, 1) := by decide +kernel
theorem dX7_agrees_80 : decode cX7_agrees 80 = .ok (.iaload, 1) := by decide +kernel
theorem dX7_agrees_81 : decode cX7_agrees 81 = .ok (.iastore, 1) := by decide +kernel
theorem dX7_agrees_82 : decode cX7_agrees 82 = .ok (.aload_n 0, 1) := by decide +kernel
theorem dX7_agrees_83 : decode cX7_agrees 83 = .ok (.getfield 96, 3) := by decide +kernel
theorem dX7_agrees_86 : decode cX7_agrees 86 = .ok (.iload_n 1, 1) := by decide +kernel
theorem dX7_agrees_87 : decode cX7_agrees 87 = .ok (.aload_n 0, 1) := by decide +kernel
theorem dX7_agrees_88 : decode cX7_agrees 88 = .ok (.getfield 84, 3) := by decide +kernel
theorem dX7_agrees_91 : decode cX7_agrees 91 = .ok (.iload_n 1, 1) := by decide +kernel
theorem dX7_agrees_92 : decode cX7_agrees 92 = .ok (.iaload, 1) := by decide +kernel
theorem dX7_agrees_93 : decode cX7_agrees 93 = .ok (.iastore, 1) := by decide +kernel
theorem dX7_agrees_94 : decode cX7_agrees 94 = .ok (.aload_n 0, 1) := by decide +kernel
theorem dX7_agrees_95 : decode cX7_agrees 95 = .ok (.getfield 99, 3) := by decide +kernel
theorem dX7_agrees_98 : decode cX7_agrees 98 = .ok (.iload_n 1, 1) := by decide +kernel
theorem dX7_agrees_99 : decode cX7_agrees 99 = .ok (.aload_n 0, 1) := by decide +kernel
theorem dX7_agrees_100 : decode cX7_agrees 100 = .ok (.getfield 87, 3) := by decide +kernel
theorem dX7_agrees_103 : decode cX7_agrees 103 = .ok (.iload_n 1, 1) := by decide +kernel
theorem dX7_agrees_104 : decode cX7_agrees 104 = .ok (.laload, 1) := by decide +kernel
theorem dX7_agrees_105 : decode cX7_agrees 105 = .ok (.lastore, 1) := by decide +kernel
theorem dX7_agrees_106 : decode cX7_agrees 106 = .ok (.aload_n 0, 1) := by decide +kernel
theorem dX7_agrees_107 : decode cX7_agrees 107 = .ok (.getfield 102, 3) := by decide +kernel
theorem dX7_agrees_110 : decode cX7_agrees 110 = .ok (.iload_n 1, 1) := by decide +kernel
theorem dX7_agrees_111 : decode cX7_agrees 111 = .ok (.ldc2_w 192, 3) := by decide +kernel
theorem dX7_agrees_114 : decode cX7_agrees 114 = .ok (.lastore, 1) := by decide +kernel
theorem dX7_agrees_115 : decode cX7_agrees 115 = .ok (.iconst 0, 1) := by decide +kernel
theorem dX7_agrees_116 : decode cX7_agrees 116 = .ok (.ireturn, 1) := by decide +kernel
theorem dX7_refuses_0 : decode cX7_refuses 0 = .ok (.aload_n 0, 1) := by decide +kernel
theorem dX7_refuses_1 : decode cX7_refuses 1 = .ok (.getfield 63, 3) := by decide +kernel
theorem dX7_refuses_4 : decode cX7_refuses 4 = .ok (.iload_n 1, 1) := by decide +kernel
theorem dX7_refuses_5 : decode cX7_refuses 5 = .ok (.iaload, 1) := by decide +kernel
theorem dX7_refuses_6 : decode cX7_refuses 6 = .ok (.ifCond .eq 12, 3) := by decide +kernel
theorem dX7_refuses_9 : decode cX7_refuses 9 = .ok (.iload_n 2, 1) := by decide +kernel
theorem dX7_refuses_10 : decode cX7_refuses 10 = .ok (.aload_n 0, 1) := by decide +kernel
theorem dX7_refuses_11 : decode cX7_refuses 11 = .ok (.iload_n 1, 1) := by decide +kernel
theorem dX7_refuses_12 : decode cX7_refuses 12 = .ok (.invokevirtual 141, 3) := by decide +kernel
theorem dX7_refuses_15 : decode cX7_refuses 15 = .ok (.if_icmp .eq 5, 3) := by decide +kernel
theorem dX7_refuses_18 : decode cX7_refuses 18 = .ok (.iconst 0, 1) := by decide +kernel
theorem dX7_refuses_19 : decode cX7_refuses 19 = .ok (.ireturn, 1) := by decide +kernel
theorem dX7_refuses_20 : decode cX7_refuses 20 = .ok (.aload_n 0, 1) := by decide +kernel
theorem dX7_refuses_21 : decode cX7_refuses 21 = .ok (.iload_n 1, 1) := by decide +kernel
theorem dX7_refuses_22 : decode cX7_refuses 22 = .ok (.invokevirtual 186, 3) := by decide +kernel
theorem dX7_refuses_25 : decode cX7_refuses 25 = .ok (.aload_n 0, 1) := by decide +kernel
theorem dX7_refuses_26 : decode cX7_refuses 26 = .ok (.getfield 72, 3) := by decide +kernel
theorem dX7_refuses_29 : decode cX7_refuses 29 = .ok (.iload_n 1, 1) := by decide +kernel
theorem dX7_refuses_30 : decode cX7_refuses 30 = .ok (.iload_n 3, 1) := by decide +kernel
theorem dX7_refuses_31 : decode cX7_refuses 31 = .ok (.bipush 8, 2) := by decide +kernel
theorem dX7_refuses_33 : decode cX7_refuses 33 = .ok (.idiv, 1) := by decide +kernel
theorem dX7_refuses_34 : decode cX7_refuses 34 = .ok (.iastore, 1) := by decide +kernel
theorem dX7_refuses_35 : decode cX7_refuses 35 = .ok (.iconst 0, 1) := by decide +kernel
theorem dX7_refuses_36 : decode cX7_refuses 36 = .ok (.ireturn, 1) := by decide +kernel
theorem dX7_deliver_0 : decode cX7_deliver 0 = .ok (.aload_n 0, 1) := by decide +kernel
theorem dX7_deliver_1 : decode cX7_deliver 1 = .ok (.iload_n 1, 1) := by decide +kernel
theorem dX7_deliver_2 : decode cX7_deliver 2 = .ok (.invokevirtual 131, 3) := by decide +kernel
theorem dX7_deliver_5 : decode cX7_deliver 5 = .ok (.ifCond .ne 5, 3) := by decide +kernel
theorem dX7_deliver_8 : decode cX7_deliver 8 = .ok (.iconst 0, 1) := by decide +kernel
theorem dX7_deliver_9 : decode cX7_deliver 9 = .ok (.ireturn, 1) := by decide +kernel
theorem dX7_deliver_10 : decode cX7_deliver 10 = .ok (.aload_n 0, 1) := by decide +kernel
theorem dX7_deliver_11 : decode cX7_deliver 11 = .ok (.getfield 13, 3) := by decide +kernel
theorem dX7_deliver_14 : decode cX7_deliver 14 = .ok (.iload_n 1, 1) := by decide +kernel
theorem dX7_deliver_15 : decode cX7_deliver 15 = .ok (.iaload, 1) := by decide +kernel
theorem dX7_deliver_16 : decode cX7_deliver 16 = .ok (.istore_n 2, 1) := by decide +kernel
theorem dX7_deliver_17 : decode cX7_deliver 17 = .ok (.aload_n 0, 1) := by decide +kernel
theorem dX7_deliver_18 : decode cX7_deliver 18 = .ok (.getfield 16, 3) := by decide +kernel
theorem dX7_deliver_21 : decode cX7_deliver 21 = .ok (.iload_n 1, 1) := by decide +kernel
theorem dX7_deliver_22 : decode cX7_deliver 22 = .ok (.iaload, 1) := by decide +kernel
theorem dX7_deliver_23 : decode cX7_deliver 23 = .ok (.istore_n 3, 1) := by decide +kernel
theorem dX7_deliver_24 : decode cX7_deliver 24 = .ok (.aload_n 0, 1) := by decide +kernel
theorem dX7_deliver_25 : decode cX7_deliver 25 = .ok (.getfield 19, 3) := by decide +kernel
theorem dX7_deliver_28 : decode cX7_deliver 28 = .ok (.iload_n 1, 1) := by decide +kernel
theorem dX7_deliver_29 : decode cX7_deliver 29 = .ok (.iaload, 1) := by decide +kernel
theorem dX7_deliver_30 : decode cX7_deliver 30 = .ok (.istore 4, 2) := by decide +kernel
theorem dX7_deliver_32 : decode cX7_deliver 32 = .ok (.aload_n 0, 1) := by decide +kernel
theorem dX7_deliver_33 : decode cX7_deliver 33 = .ok (.getfield 7, 3) := by decide +kernel
theorem dX7_deliver_36 : decode cX7_deliver 36 = .ok (.iload_n 1, 1) := by decide +kernel
theorem dX7_deliver_37 : decode cX7_deliver 37 = .ok (.iaload, 1) := by decide +kernel
theorem dX7_deliver_38 : decode cX7_deliver 38 = .ok (.istore 5, 2) := by decide +kernel
theorem dX7_deliver_40 : decode cX7_deliver 40 = .ok (.aload_n 0, 1) := by decide +kernel
theorem dX7_deliver_41 : decode cX7_deliver 41 = .ok (.getfield 32, 3) := by decide +kernel
theorem dX7_deliver_44 : decode cX7_deliver 44 = .ok (.iload_n 1, 1) := by decide +kernel
theorem dX7_deliver_45 : decode cX7_deliver 45 = .ok (.iaload, 1) := by decide +kernel
theorem dX7_deliver_46 : decode cX7_deliver 46 = .ok (.istore 6, 2) := by decide +kernel
theorem dX7_deliver_48 : decode cX7_deliver 48 = .ok (.iload 5, 2) := by decide +kernel
theorem dX7_deliver_50 : decode cX7_deliver 50 = .ok (.iconst 1, 1) := by decide +kernel
theorem dX7_deliver_51 : decode cX7_deliver 51 = .ok (.if_icmp .ne 13, 3) := by decide +kernel
theorem dX7_deliver_54 : decode cX7_deliver 54 = .ok (.aload_n 0, 1) := by decide +kernel
theorem dX7_deliver_55 : decode cX7_deliver 55 = .ok (.iload_n 1, 1) := by decide +kernel
theorem dX7_deliver_56 : decode cX7_deliver 56 = .ok (.iload_n 2, 1) := by decide +kernel
theorem dX7_deliver_57 : decode cX7_deliver 57 = .ok (.iload_n 3, 1) := by decide +kernel
theorem dX7_deliver_58 : decode cX7_deliver 58 = .ok (.iload 4, 2) := by decide +kernel
theorem dX7_deliver_60 : decode cX7_deliver 60 = .ok (.invokevirtual 194, 3) := by decide +kernel
theorem dX7_deliver_63 : decode cX7_deliver 63 = .ok (.ireturn, 1) := by decide +kernel
theorem dX7_deliver_64 : decode cX7_deliver 64 = .ok (.iload 5, 2) := by decide +kernel
theorem dX7_deliver_66 : decode cX7_deliver 66 = .ok (.ifCond .eq 9, 3) := by decide +kernel
theorem dX7_deliver_69 : decode cX7_deliver 69 = .ok (.iload 5, 2) := by decide +kernel
theorem dX7_deliver_71 : decode cX7_deliver 71 = .ok (.iconst 2, 1) := by decide +kernel
theorem dX7_deliver_72 : decode cX7_deliver 72 = .ok (.if_icmp .ne 7, 3) := by decide +kernel
theorem dX7_deliver_75 : decode cX7_deliver 75 = .ok (.iconst 1, 1) := by decide +kernel
theorem dX7_deliver_76 : decode cX7_deliver 76 = .ok (.goto 4, 3) := by decide +kernel
theorem dX7_deliver_79 : decode cX7_deliver 79 = .ok (.iconst 0, 1) := by decide +kernel
theorem dX7_deliver_80 : decode cX7_deliver 80 = .ok (.istore 7, 2) := by decide +kernel
theorem dX7_deliver_82 : decode cX7_deliver 82 = .ok (.iload 5, 2) := by decide +kernel
theorem dX7_deliver_84 : decode cX7_deliver 84 = .ok (.iconst 2, 1) := by decide +kernel
theorem dX7_deliver_85 : decode cX7_deliver 85 = .ok (.if_icmp .ne 22, 3) := by decide +kernel
theorem dX7_deliver_88 : decode cX7_deliver 88 = .ok (.aload_n 0, 1) := by decide +kernel
theorem dX7_deliver_89 : decode cX7_deliver 89 = .ok (.getfield 53, 3) := by decide +kernel
theorem dX7_deliver_92 : decode cX7_deliver 92 = .ok (.iload_n 3, 1) := by decide +kernel
theorem dX7_deliver_93 : decode cX7_deliver 93 = .ok (.baload, 1) := by decide +kernel
theorem dX7_deliver_94 : decode cX7_deliver 94 = .ok (.ifCond .ne 13, 3) := by decide +kernel
theorem dX7_deliver_97 : decode cX7_deliver 97 = .ok (.aload_n 0, 1) := by decide +kernel
theorem dX7_deliver_98 : decode cX7_deliver 98 = .ok (.iload_n 1, 1) := by decide +kernel
theorem dX7_deliver_99 : decode cX7_deliver 99 = .ok (.iload_n 2, 1) := by decide +kernel
theorem dX7_deliver_100 : decode cX7_deliver 100 = .ok (.iload_n 3, 1) := by decide +kernel
theorem dX7_deliver_101 : decode cX7_deliver 101 = .ok (.iload 4, 2) := by decide +kernel
theorem dX7_deliver_103 : decode cX7_deliver 103 = .ok (.invokevirtual 197, 3) := by decide +kernel
theorem dX7_deliver_106 : decode cX7_deliver 106 = .ok (.ireturn, 1) := by decide +kernel
theorem dX7_deliver_107 : decode cX7_deliver 107 = .ok (.aload_n 0, 1) := by decide +kernel
theorem dX7_deliver_108 : decode cX7_deliver 108 = .ok (.iload_n 1, 1) := by decide +kernel
theorem dX7_deliver_109 : decode cX7_deliver 109 = .ok (.invokevirtual 134, 3) := by decide +kernel
theorem dX7_deliver_112 : decode cX7_deliver 112 = .ok (.iload 7, 2) := by decide +kernel
theorem dX7_deliver_114 : decode cX7_deliver 114 = .ok (.ifCond .eq 25, 3) := by decide +kernel
