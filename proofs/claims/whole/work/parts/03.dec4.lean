theorem dX5_latest_51 : decode cX5_latest 51 = .ok (.getfield 42, 3) := by decide +kernel
theorem dX5_latest_54 : decode cX5_latest 54 = .ok (.iload_n 2, 1) := by decide +kernel
theorem dX5_latest_55 : decode cX5_latest 55 = .ok (.iaload, 1) := by decide +kernel
theorem dX5_latest_56 : decode cX5_latest 56 = .ok (.if_icmp .le 5, 3) := by decide +kernel
theorem dX5_latest_59 : decode cX5_latest 59 = .ok (.iload_n 3, 1) := by decide +kernel
theorem dX5_latest_60 : decode cX5_latest 60 = .ok (.istore_n 2, 1) := by decide +kernel
theorem dX5_latest_61 : decode cX5_latest 61 = .ok (.iinc 3 1, 3) := by decide +kernel
theorem dX5_latest_64 : decode cX5_latest 64 = .ok (.goto (-60), 3) := by decide +kernel
theorem dX5_latest_67 : decode cX5_latest 67 = .ok (.iload_n 2, 1) := by decide +kernel
theorem dX5_latest_68 : decode cX5_latest 68 = .ok (.ireturn, 1) := by decide +kernel
theorem dX5_mark_0 : decode cX5_mark 0 = .ok (.iload_n 1, 1) := by decide +kernel
theorem dX5_mark_1 : decode cX5_mark 1 = .ok (.iconst 0, 1) := by decide +kernel
theorem dX5_mark_2 : decode cX5_mark 2 = .ok (.iconst 1, 1) := by decide +kernel
theorem dX5_mark_3 : decode cX5_mark 3 = .ok (.invokestatic 72, 3) := by decide +kernel
theorem dX5_mark_6 : decode cX5_mark 6 = .ok (.ifCond .ne 6, 3) := by decide +kernel
theorem dX5_mark_9 : decode cX5_mark 9 = .ok (.bipush (-2), 2) := by decide +kernel
theorem dX5_mark_11 : decode cX5_mark 11 = .ok (.ireturn, 1) := by decide +kernel
theorem dX5_mark_12 : decode cX5_mark 12 = .ok (.aload_n 0, 1) := by decide +kernel
theorem dX5_mark_13 : decode cX5_mark 13 = .ok (.invokevirtual 118, 3) := by decide +kernel
theorem dX5_mark_16 : decode cX5_mark 16 = .ok (.bipush 12, 2) := by decide +kernel
theorem dX5_mark_18 : decode cX5_mark 18 = .ok (.if_icmp .ne 6, 3) := by decide +kernel
theorem dX5_mark_21 : decode cX5_mark 21 = .ok (.bipush (-3), 2) := by decide +kernel
theorem dX5_mark_23 : decode cX5_mark 23 = .ok (.ireturn, 1) := by decide +kernel
theorem dX5_mark_24 : decode cX5_mark 24 = .ok (.iconst 0, 1) := by decide +kernel
theorem dX5_mark_25 : decode cX5_mark 25 = .ok (.istore_n 2, 1) := by decide +kernel
theorem dX5_mark_26 : decode cX5_mark 26 = .ok (.aload_n 0, 1) := by decide +kernel
theorem dX5_mark_27 : decode cX5_mark 27 = .ok (.getfield 42, 3) := by decide +kernel
theorem dX5_mark_30 : decode cX5_mark 30 = .ok (.iload_n 2, 1) := by decide +kernel
theorem dX5_mark_31 : decode cX5_mark 31 = .ok (.iaload, 1) := by decide +kernel
theorem dX5_mark_32 : decode cX5_mark 32 = .ok (.iconst (-1), 1) := by decide +kernel
theorem dX5_mark_33 : decode cX5_mark 33 = .ok (.if_icmp .eq 9, 3) := by decide +kernel
theorem dX5_mark_36 : decode cX5_mark 36 = .ok (.iinc 2 1, 3) := by decide +kernel
theorem dX5_mark_39 : decode cX5_mark 39 = .ok (.goto (-13), 3) := by decide +kernel
theorem dX5_mark_42 : decode cX5_mark 42 = .ok (.iconst 0, 1) := by decide +kernel
theorem dX5_mark_43 : decode cX5_mark 43 = .ok (.istore_n 3, 1) := by decide +kernel
theorem dX5_mark_44 : decode cX5_mark 44 = .ok (.iload_n 3, 1) := by decide +kernel
theorem dX5_mark_45 : decode cX5_mark 45 = .ok (.bipush 120, 2) := by decide +kernel
theorem dX5_mark_47 : decode cX5_mark 47 = .ok (.if_icmp .ge 16, 3) := by decide +kernel
theorem dX5_mark_50 : decode cX5_mark 50 = .ok (.aload_n 0, 1) := by decide +kernel
theorem dX5_mark_51 : decode cX5_mark 51 = .ok (.getfield 69, 3) := by decide +kernel
theorem dX5_mark_54 : decode cX5_mark 54 = .ok (.iload_n 3, 1) := by decide +kernel
theorem dX5_mark_55 : decode cX5_mark 55 = .ok (.iconst 0, 1) := by decide +kernel
theorem dX5_mark_56 : decode cX5_mark 56 = .ok (.bastore, 1) := by decide +kernel
theorem dX5_mark_57 : decode cX5_mark 57 = .ok (.iinc 3 1, 3) := by decide +kernel
theorem dX5_mark_60 : decode cX5_mark 60 = .ok (.goto (-16), 3) := by decide +kernel
theorem dX5_mark_63 : decode cX5_mark 63 = .ok (.iconst 1, 1) := by decide +kernel
theorem dX5_mark_64 : decode cX5_mark 64 = .ok (.istore_n 3, 1) := by decide +kernel
theorem dX5_mark_65 : decode cX5_mark 65 = .ok (.iconst 0, 1) := by decide +kernel
theorem dX5_mark_66 : decode cX5_mark 66 = .ok (.istore 4, 2) := by decide +kernel
theorem dX5_mark_68 : decode cX5_mark 68 = .ok (.iconst 0, 1) := by decide +kernel
theorem dX5_mark_69 : decode cX5_mark 69 = .ok (.istore 5, 2) := by decide +kernel
theorem dX5_mark_71 : decode cX5_mark 71 = .ok (.iload 5, 2) := by decide +kernel
theorem dX5_mark_73 : decode cX5_mark 73 = .ok (.aload_n 0, 1) := by decide +kernel
theorem dX5_mark_74 : decode cX5_mark 74 = .ok (.getfield 7, 3) := by decide +kernel
theorem dX5_mark_77 : decode cX5_mark 77 = .ok (.if_icmp .ge 148, 3) := by decide +kernel
theorem dX5_mark_80 : decode cX5_mark 80 = .ok (.iload_n 3, 1) := by decide +kernel
theorem dX5_mark_81 : decode cX5_mark 81 = .ok (.ifCond .eq 144, 3) := by decide +kernel
theorem dX5_mark_84 : decode cX5_mark 84 = .ok (.iconst 0, 1) := by decide +kernel
theorem dX5_mark_85 : decode cX5_mark 85 = .ok (.istore 6, 2) := by decide +kernel
theorem dX5_mark_87 : decode cX5_mark 87 = .ok (.aload_n 0, 1) := by decide +kernel
theorem dX5_mark_88 : decode cX5_mark 88 = .ok (.getfield 54, 3) := by decide +kernel
theorem dX5_mark_91 : decode cX5_mark 91 = .ok (.iconst 4, 1) := by decide +kernel
theorem dX5_mark_92 : decode cX5_mark 92 = .ok (.iload_n 2, 1) := by decide +kernel
theorem dX5_mark_93 : decode cX5_mark 93 = .ok (.imul, 1) := by decide +kernel
theorem dX5_mark_94 : decode cX5_mark 94 = .ok (.iload 5, 2) := by decide +kernel
theorem dX5_mark_96 : decode cX5_mark 96 = .ok (.iadd, 1) := by decide +kernel
theorem dX5_mark_97 : decode cX5_mark 97 = .ok (.iconst 0, 1) := by decide +kernel
theorem dX5_mark_98 : decode cX5_mark 98 = .ok (.iastore, 1) := by decide +kernel
theorem dX5_mark_99 : decode cX5_mark 99 = .ok (.iload 6, 2) := by decide +kernel
theorem dX5_mark_101 : decode cX5_mark 101 = .ok (.aload_n 0, 1) := by decide +kernel
theorem dX5_mark_102 : decode cX5_mark 102 = .ok (.getfield 13, 3) := by decide +kernel
theorem dX5_mark_105 : decode cX5_mark 105 = .ok (.iload 5, 2) := by decide +kernel
theorem dX5_mark_107 : decode cX5_mark 107 = .ok (.iaload, 1) := by decide +kernel
theorem dX5_mark_108 : decode cX5_mark 108 = .ok (.if_icmp .ge 111, 3) := by decide +kernel
theorem dX5_mark_111 : decode cX5_mark 111 = .ok (.iload_n 3, 1) := by decide +kernel
theorem dX5_mark_112 : decode cX5_mark 112 = .ok (.ifCond .eq 107, 3) := by decide +kernel
theorem dX5_mark_115 : decode cX5_mark 115 = .ok (.aload_n 0, 1) := by decide +kernel
theorem dX5_mark_116 : decode cX5_mark 116 = .ok (.iload 5, 2) := by decide +kernel
theorem dX5_mark_118 : decode cX5_mark 118 = .ok (.iload 6, 2) := by decide +kernel
theorem dX5_mark_120 : decode cX5_mark 120 = .ok (.invokevirtual 82, 3) := by decide +kernel
theorem dX5_mark_123 : decode cX5_mark 123 = .ok (.istore 7, 2) := by decide +kernel
theorem dX5_mark_125 : decode cX5_mark 125 = .ok (.aload_n 0, 1) := by decide +kernel
theorem dX5_mark_126 : decode cX5_mark 126 = .ok (.iload 5, 2) := by decide +kernel
theorem dX5_mark_128 : decode cX5_mark 128 = .ok (.iload 6, 2) := by decide +kernel
theorem dX5_mark_130 : decode cX5_mark 130 = .ok (.iload 7, 2) := by decide +kernel
theorem dX5_mark_132 : decode cX5_mark 132 = .ok (.invokevirtual 122, 3) := by decide +kernel
theorem dX5_mark_135 : decode cX5_mark 135 = .ok (.istore 8, 2) := by decide +kernel
theorem dX5_mark_137 : decode cX5_mark 137 = .ok (.iload 8, 2) := by decide +kernel
theorem dX5_mark_139 : decode cX5_mark 139 = .ok (.iconst (-1), 1) := by decide +kernel
theorem dX5_mark_140 : decode cX5_mark 140 = .ok (.if_icmp .eq 17, 3) := by decide +kernel
theorem dX5_mark_143 : decode cX5_mark 143 = .ok (.aload_n 0, 1) := by decide +kernel
theorem dX5_mark_144 : decode cX5_mark 144 = .ok (.invokevirtual 125, 3) := by decide +kernel
theorem dX5_mark_147 : decode cX5_mark 147 = .ok (.sipush 2400, 3) := by decide +kernel
theorem dX5_mark_150 : decode cX5_mark 150 = .ok (.if_icmp .gt 7, 3) := by decide +kernel
theorem dX5_mark_153 : decode cX5_mark 153 = .ok (.iconst 1, 1) := by decide +kernel
theorem dX5_mark_154 : decode cX5_mark 154 = .ok (.goto 4, 3) := by decide +kernel
theorem dX5_mark_157 : decode cX5_mark 157 = .ok (.iconst 0, 1) := by decide +kernel
theorem dX5_mark_158 : decode cX5_mark 158 = .ok (.istore_n 3, 1) := by decide +kernel
theorem dX5_mark_159 : decode cX5_mark 159 = .ok (.aload_n 0, 1) := by decide +kernel
theorem dX5_mark_160 : decode cX5_mark 160 = .ok (.getfield 57, 3) := by decide +kernel
theorem dX5_mark_163 : decode cX5_mark 163 = .ok (.bipush 80, 2) := by decide +kernel
theorem dX5_mark_165 : decode cX5_mark 165 = .ok (.iconst 4, 1) := by decide +kernel
theorem dX5_mark_166 : decode cX5_mark 166 = .ok (.iload_n 2, 1) := by decide +kernel
theorem dX5_mark_167 : decode cX5_mark 167 = .ok (.imul, 1) := by decide +kernel
theorem dX5_mark_168 : decode cX5_mark 168 = .ok (.iload 5, 2) := by decide +kernel
theorem dX5_mark_170 : decode cX5_mark 170 = .ok (.iadd, 1) := by decide +kernel
theorem dX5_mark_171 : decode cX5_mark 171 = .ok (.imul, 1) := by decide +kernel
theorem dX5_mark_172 : decode cX5_mark 172 = .ok (.aload_n 0, 1) := by decide +kernel
theorem dX5_mark_173 : decode cX5_mark 173 = .ok (.getfield 54, 3) := by decide +kernel
theorem dX5_mark_176 : decode cX5_mark 176 = .ok (.iconst 4, 1) := by decide +kernel
theorem dX5_mark_177 : decode cX5_mark 177 = .ok (.iload_n 2, 1) := by decide +kernel
theorem dX5_mark_178 : decode cX5_mark 178 = .ok (.imul, 1) := by decide +kernel
theorem dX5_mark_179 : decode cX5_mark 179 = .ok (.iload 5, 2) := by decide +kernel
theorem dX5_mark_181 : decode cX5_mark 181 = .ok (.iadd, 1) := by decide +kernel
theorem dX5_mark_182 : decode cX5_mark 182 = .ok (.iaload, 1) := by decide +kernel
theorem dX5_mark_183 : decode cX5_mark 183 = .ok (.iadd, 1) := by decide +kernel
theorem dX5_mark_184 : decode cX5_mark 184 = .ok (.iload 8, 2) := by decide +kernel
theorem dX5_mark_186 : decode cX5_mark 186 = .ok (.iastore, 1) := by decide +kernel
theorem dX5_mark_187 : decode cX5_mark 187 = .ok (.aload_n 0, 1) := by decide +kernel
theorem dX5_mark_188 : decode cX5_mark 188 = .ok (.getfield 54, 3) := by decide +kernel
theorem dX5_mark_191 : decode cX5_mark 191 = .ok (.iconst 4, 1) := by decide +kernel
theorem dX5_mark_192 : decode cX5_mark 192 = .ok (.iload_n 2, 1) := by decide +kernel
theorem dX5_mark_193 : decode cX5_mark 193 = .ok (.imul, 1) := by decide +kernel
theorem dX5_mark_194 : decode cX5_mark 194 = .ok (.iload 5, 2) := by decide +kernel
theorem dX5_mark_196 : decode cX5_mark 196 = .ok (.iadd, 1) := by decide +kernel
theorem dX5_mark_197 : decode cX5_mark 197 = .ok (.dup2, 1) := by decide +kernel
theorem dX5_mark_198 : decode cX5_mark 198 = .ok (.iaload, 1) := by decide +kernel
theorem dX5_mark_199 : decode cX5_mark 199 = .ok (.iconst 1, 1) := by decide +kernel
theorem dX5_mark_200 : decode cX5_mark 200 = .ok (.iadd, 1) := by decide +kernel
theorem dX5_mark_201 : decode cX5_mark 201 = .ok (.iastore, 1) := by decide +kernel
theorem dX5_mark_202 : decode cX5_mark 202 = .ok (.iload 6, 2) := by decide +kernel
theorem dX5_mark_204 : decode cX5_mark 204 = .ok (.iload 7, 2) := by decide +kernel
theorem dX5_mark_206 : decode cX5_mark 206 = .ok (.iadd, 1) := by decide +kernel
theorem dX5_mark_207 : decode cX5_mark 207 = .ok (.istore 6, 2) := by decide +kernel
theorem dX5_mark_209 : decode cX5_mark 209 = .ok (.iload 4, 2) := by decide +kernel
theorem dX5_mark_211 : decode cX5_mark 211 = .ok (.iload 7, 2) := by decide +kernel
theorem dX5_mark_213 : decode cX5_mark 213 = .ok (.iadd, 1) := by decide +kernel
theorem dX5_mark_214 : decode cX5_mark 214 = .ok (.istore 4, 2) := by decide +kernel
theorem dX5_mark_216 : decode cX5_mark 216 = .ok (.goto (-117), 3) := by decide +kernel
theorem dX5_mark_219 : decode cX5_mark 219 = .ok (.iinc 5 1, 3) := by decide +kernel
theorem dX5_mark_222 : decode cX5_mark 222 = .ok (.goto (-151), 3) := by decide +kernel
theorem dX5_mark_225 : decode cX5_mark 225 = .ok (.iload_n 3, 1) := by decide +kernel
theorem dX5_mark_226 : decode cX5_mark 226 = .ok (.ifCond .ne 50, 3) := by decide +kernel
theorem dX5_mark_229 : decode cX5_mark 229 = .ok (.iconst 0, 1) := by decide +kernel
theorem dX5_mark_230 : decode cX5_mark 230 = .ok (.istore 5, 2) := by decide +kernel
theorem dX5_mark_232 : decode cX5_mark 232 = .ok (.iload 5, 2) := by decide +kernel
theorem dX5_mark_234 : decode cX5_mark 234 = .ok (.bipush 120, 2) := by decide +kernel
theorem dX5_mark_236 : decode cX5_mark 236 = .ok (.if_icmp .ge 37, 3) := by decide +kernel
theorem dX5_mark_239 : decode cX5_mark 239 = .ok (.aload_n 0, 1) := by decide +kernel
theorem dX5_mark_240 : decode cX5_mark 240 = .ok (.getfield 23, 3) := by decide +kernel
theorem dX5_mark_243 : decode cX5_mark 243 = .ok (.iload 5, 2) := by decide +kernel
theorem dX5_mark_245 : decode cX5_mark 245 = .ok (.aload_n 0, 1) := by decide +kernel
theorem dX5_mark_246 : decode cX5_mark 246 = .ok (.getfield 69, 3) := by decide +kernel
theorem dX5_mark_249 : decode cX5_mark 249 = .ok (.iload 5, 2) := by decide +kernel
theorem dX5_mark_251 : decode cX5_mark 251 = .ok (.baload, 1) := by decide +kernel
theorem dX5_mark_252 : decode cX5_mark 252 = .ok (.ifCond .eq 7, 3) := by decide +kernel
theorem dX5_mark_255 : decode cX5_mark 255 = .ok (.iconst 0, 1) := by decide +kernel
theorem dX5_mark_256 : decode cX5_mark 256 = .ok (.goto 10, 3) := by decide +kernel
theorem dX5_mark_259 : decode cX5_mark 259 = .ok (.aload_n 0, 1) := by decide +kernel
theorem dX5_mark_260 : decode cX5_mark 260 = .ok (.getfield 23, 3) := by decide +kernel
theorem dX5_mark_263 : decode cX5_mark 263 = .ok (.iload 5, 2) := by decide +kernel
theorem dX5_mark_265 : decode cX5_mark 265 = .ok (.iaload, 1) := by decide +kernel
theorem dX5_mark_266 : decode cX5_mark 266 = .ok (.iastore, 1) := by decide +kernel
theorem dX5_mark_267 : decode cX5_mark 267 = .ok (.iinc 5 1, 3) := by decide +kernel
theorem dX5_mark_270 : decode cX5_mark 270 = .ok (.goto (-38), 3) := by decide +kernel
theorem dX5_mark_273 : decode cX5_mark 273 = .ok (.bipush (-3), 2) := by decide +kernel
theorem dX5_mark_275 : decode cX5_mark 275 = .ok (.ireturn, 1) := by decide +kernel
theorem dX5_mark_276 : decode cX5_mark 276 = .ok (.iload_n 1, 1) := by decide +kernel
theorem dX5_mark_277 : decode cX5_mark 277 = .ok (.iconst 1, 1) := by decide +kernel
theorem dX5_mark_278 : decode cX5_mark 278 = .ok (.if_icmp .ne 7, 3) := by decide +kernel
theorem dX5_mark_281 : decode cX5_mark 281 = .ok (.iconst (-1), 1) := by decide +kernel
theorem dX5_mark_282 : decode cX5_mark 282 = .ok (.goto 11, 3) := by decide +kernel
theorem dX5_mark_285 : decode cX5_mark 285 = .ok (.aload_n 0, 1) := by decide +kernel
theorem dX5_mark_286 : decode cX5_mark 286 = .ok (.aload_n 0, 1) := by decide +kernel
theorem dX5_mark_287 : decode cX5_mark 287 = .ok (.getfield 128, 3) := by decide +kernel
theorem dX5_mark_290 : decode cX5_mark 290 = .ok (.invokevirtual 131, 3) := by decide +kernel
theorem dX5_mark_293 : decode cX5_mark 293 = .ok (.istore 5, 2) := by decide +kernel
theorem dX5_mark_295 : decode cX5_mark 295 = .ok (.aload_n 0, 1) := by decide +kernel
theorem dX5_mark_296 : decode cX5_mark 296 = .ok (.getfield 66, 3) := by decide +kernel
theorem dX5_mark_299 : decode cX5_mark 299 = .ok (.iload_n 2, 1) := by decide +kernel
theorem dX5_mark_300 : decode cX5_mark 300 = .ok (.iconst 0, 1) := by decide +kernel
theorem dX5_mark_301 : decode cX5_mark 301 = .ok (.iastore, 1) := by decide +kernel
theorem dX5_mark_302 : decode cX5_mark 302 = .ok (.iconst 0, 1) := by decide +kernel
theorem dX5_mark_303 : decode cX5_mark 303 = .ok (.istore 6, 2) := by decide +kernel
theorem dX5_mark_305 : decode cX5_mark 305 = .ok (.iload 6, 2) := by decide +kernel
theorem dX5_mark_307 : decode cX5_mark 307 = .ok (.bipush 120, 2) := by decide +kernel
theorem dX5_mark_309 : decode cX5_mark 309 = .ok (.if_icmp .ge 39, 3) := by decide +kernel
theorem dX5_mark_312 : decode cX5_mark 312 = .ok (.aload_n 0, 1) := by decide +kernel
theorem dX5_mark_313 : decode cX5_mark 313 = .ok (.getfield 66, 3) := by decide +kernel
theorem dX5_mark_316 : decode cX5_mark 316 = .ok (.iload_n 2, 1) := by decide +kernel
theorem dX5_mark_317 : decode cX5_mark 317 = .ok (.dup2, 1) := by decide +kernel
theorem dX5_mark_318 : decode cX5_mark 318 = .ok (.iaload, 1) := by decide +kernel
theorem dX5_mark_319 : decode cX5_mark 319 = .ok (.aload_n 0, 1) := by decide +kernel
theorem dX5_mark_320 : decode cX5_mark 320 = .ok (.getfield 69, 3) := by decide +kernel
theorem dX5_mark_323 : decode cX5_mark 323 = .ok (.iload 6, 2) := by decide +kernel
theorem dX5_mark_325 : decode cX5_mark 325 = .ok (.baload, 1) := by decide +kernel
theorem dX5_mark_326 : decode cX5_mark 326 = .ok (.ifCond .eq 13, 3) := by decide +kernel
theorem dX5_mark_329 : decode cX5_mark 329 = .ok (.aload_n 0, 1) := by decide +kernel
theorem dX5_mark_330 : decode cX5_mark 330 = .ok (.getfield 23, 3) := by decide +kernel
theorem dX5_mark_333 : decode cX5_mark 333 = .ok (.iload 6, 2) := by decide +kernel
theorem dX5_mark_335 : decode cX5_mark 335 = .ok (.iaload, 1) := by decide +kernel
theorem dX5_mark_336 : decode cX5_mark 336 = .ok (.goto 4, 3) := by decide +kernel
theorem dX5_mark_339 : decode cX5_mark 339 = .ok (.iconst 0, 1) := by decide +kernel
theorem dX5_mark_340 : decode cX5_mark 340 = .ok (.iadd, 1) := by decide +kernel
theorem dX5_mark_341 : decode cX5_mark 341 = .ok (.iastore, 1) := by decide +kernel
theorem dX5_mark_342 : decode cX5_mark 342 = .ok (.iinc 6 1, 3) := by decide +kernel
theorem dX5_mark_345 : decode cX5_mark 345 = .ok (.goto (-40), 3) := by decide +kernel
theorem dX5_mark_348 : decode cX5_mark 348 = .ok (.aload_n 0, 1) := by decide +kernel
theorem dX5_mark_349 : decode cX5_mark 349 = .ok (.getfield 63, 3) := by decide +kernel
theorem dX5_mark_352 : decode cX5_mark 352 = .ok (.iload_n 2, 1) := by decide +kernel
theorem dX5_mark_353 : decode cX5_mark 353 = .ok (.iload 4, 2) := by decide +kernel
theorem dX5_mark_355 : decode cX5_mark 355 = .ok (.iastore, 1) := by decide +kernel
theorem dX5_mark_356 : decode cX5_mark 356 = .ok (.aload_n 0, 1) := by decide +kernel
theorem dX5_mark_357 : decode cX5_mark 357 = .ok (.getfield 42, 3) := by decide +kernel
theorem dX5_mark_360 : decode cX5_mark 360 = .ok (.iload_n 2, 1) := by decide +kernel
theorem dX5_mark_361 : decode cX5_mark 361 = .ok (.aload_n 0, 1) := by decide +kernel
theorem dX5_mark_362 : decode cX5_mark 362 = .ok (.getfield 128, 3) := by decide +kernel
theorem dX5_mark_365 : decode cX5_mark 365 = .ok (.iastore, 1) := by decide +kernel
theorem dX5_mark_366 : decode cX5_mark 366 = .ok (.aload_n 0, 1) := by decide +kernel
theorem dX5_mark_367 : decode cX5_mark 367 = .ok (.dup, 1) := by decide +kernel
theorem dX5_mark_368 : decode cX5_mark 368 = .ok (.getfield 128, 3) := by decide +kernel
theorem dX5_mark_371 : decode cX5_mark 371 = .ok (.iconst 1, 1) := by decide +kernel
theorem dX5_mark_372 : decode cX5_mark 372 = .ok (.iadd, 1) := by decide +kernel
theorem dX5_mark_373 : decode cX5_mark 373 = .ok (.putfield 128, 3) := by decide +kernel
theorem dX5_mark_376 : decode cX5_mark 376 = .ok (.aload_n 0, 1) := by decide +kernel
theorem dX5_mark_377 : decode cX5_mark 377 = .ok (.getfield 45, 3) := by decide +kernel
theorem dX5_mark_380 : decode cX5_mark 380 = .ok (.iload_n 2, 1) := by decide +kernel
theorem dX5_mark_381 : decode cX5_mark 381 = .ok (.iconst 1, 1) := by decide +kernel
theorem dX5_mark_382 : decode cX5_mark 382 = .ok (.bastore, 1) := by decide +kernel
theorem dX5_mark_383 : decode cX5_mark 383 = .ok (.aload_n 0, 1) := by decide +kernel
theorem dX5_mark_384 : decode cX5_mark 384 = .ok (.getfield 51, 3) := by decide +kernel
theorem dX5_mark_387 : decode cX5_mark 387 = .ok (.iload_n 2, 1) := by decide +kernel
theorem dX5_mark_388 : decode cX5_mark 388 = .ok (.aload_n 0, 1) := by decide +kernel
theorem dX5_mark_389 : decode cX5_mark 389 = .ok (.getfield 7, 3) := by decide +kernel
theorem dX5_mark_392 : decode cX5_mark 392 = .ok (.iastore, 1) := by decide +kernel
theorem dX5_mark_393 : decode cX5_mark 393 = .ok (.aload_n 0, 1) := by decide +kernel
theorem dX5_mark_394 : decode cX5_mark 394 = .ok (.getfield 48, 3) := by decide +kernel
theorem dX5_mark_397 : decode cX5_mark 397 = .ok (.iload_n 2, 1) := by decide +kernel
theorem dX5_mark_398 : decode cX5_mark 398 = .ok (.iload 5, 2) := by decide +kernel
theorem dX5_mark_400 : decode cX5_mark 400 = .ok (.iconst (-1), 1) := by decide +kernel
theorem dX5_mark_401 : decode cX5_mark 401 = .ok (.if_icmp .ne 7, 3) := by decide +kernel
theorem dX5_mark_404 : decode cX5_mark 404 = .ok (.iconst (-1), 1) := by decide +kernel
theorem dX5_mark_405 : decode cX5_mark 405 = .ok (.goto 10, 3) := by decide +kernel
theorem dX5_mark_408 : decode cX5_mark 408 = .ok (.aload_n 0, 1) := by decide +kernel
theorem dX5_mark_409 : decode cX5_mark 409 = .ok (.getfield 42, 3) := by decide +kernel
theorem dX5_mark_412 : decode cX5_mark 412 = .ok (.iload 5, 2) := by decide +kernel
theorem dX5_mark_414 : decode cX5_mark 414 = .ok (.iaload, 1) := by decide +kernel
theorem dX5_mark_415 : decode cX5_mark 415 = .ok (.iastore, 1) := by decide +kernel
theorem dX5_mark_416 : decode cX5_mark 416 = .ok (.aload_n 0, 1) := by decide +kernel
theorem dX5_mark_417 : decode cX5_mark 417 = .ok (.getfield 60, 3) := by decide +kernel
theorem dX5_mark_420 : decode cX5_mark 420 = .ok (.iload_n 2, 1) := by decide +kernel
theorem dX5_mark_421 : decode cX5_mark 421 = .ok (.aload_n 0, 1) := by decide +kernel
theorem dX5_mark_422 : decode cX5_mark 422 = .ok (.iload_n 2, 1) := by decide +kernel
theorem dX5_mark_423 : decode cX5_mark 423 = .ok (.iload 5, 2) := by decide +kernel
theorem dX5_mark_425 : decode cX5_mark 425 = .ok (.invokevirtual 134, 3) := by decide +kernel
theorem dX5_mark_428 : decode cX5_mark 428 = .ok (.iastore, 1) := by decide +kernel
theorem dX5_mark_429 : decode cX5_mark 429 = .ok (.iconst 0, 1) := by decide +kernel
theorem dX5_mark_430 : decode cX5_mark 430 = .ok (.istore 6, 2) := by decide +kernel
theorem dX5_mark_432 : decode cX5_mark 432 = .ok (.iload 6, 2) := by decide +kernel
theorem dX5_mark_434 : decode cX5_mark 434 = .ok (.aload_n 0, 1) := by decide +kernel
theorem dX5_mark_435 : decode cX5_mark 435 = .ok (.getfield 7, 3) := by decide +kernel
theorem dX5_mark_438 : decode cX5_mark 438 = .ok (.if_icmp .ge 139, 3) := by decide +kernel
theorem dX5_mark_441 : decode cX5_mark 441 = .ok (.iconst 0, 1) := by decide +kernel
theorem dX5_mark_442 : decode cX5_mark 442 = .ok (.istore 7, 2) := by decide +kernel
theorem dX5_mark_444 : decode cX5_mark 444 = .ok (.iconst 0, 1) := by decide +kernel
theorem dX5_mark_445 : decode cX5_mark 445 = .ok (.istore 8, 2) := by decide +kernel
theorem dX5_mark_447 : decode cX5_mark 447 = .ok (.iload 8, 2) := by decide +kernel
theorem dX5_mark_449 : decode cX5_mark 449 = .ok (.aload_n 0, 1) := by decide +kernel
theorem dX5_mark_450 : decode cX5_mark 450 = .ok (.getfield 54, 3) := by decide +kernel
theorem dX5_mark_453 : decode cX5_mark 453 = .ok (.iconst 4, 1) := by decide +kernel
theorem dX5_mark_454 : decode cX5_mark 454 = .ok (.iload_n 2, 1) := by decide +kernel
theorem dX5_mark_455 : decode cX5_mark 455 = .ok (.imul, 1) := by decide +kernel
theorem dX5_mark_456 : decode cX5_mark 456 = .ok (.iload 6, 2) := by decide +kernel
theorem dX5_mark_458 : decode cX5_mark 458 = .ok (.iadd, 1) := by decide +kernel
theorem dX5_mark_459 : decode cX5_mark 459 = .ok (.iaload, 1) := by decide +kernel
theorem dX5_mark_460 : decode cX5_mark 460 = .ok (.if_icmp .ge 111, 3) := by decide +kernel
theorem dX5_mark_463 : decode cX5_mark 463 = .ok (.aload_n 0, 1) := by decide +kernel
theorem dX5_mark_464 : decode cX5_mark 464 = .ok (.getfield 57, 3) := by decide +kernel
theorem dX5_mark_467 : decode cX5_mark 467 = .ok (.bipush 80, 2) := by decide +kernel
theorem dX5_mark_469 : decode cX5_mark 469 = .ok (.iconst 4, 1) := by decide +kernel
theorem dX5_mark_470 : decode cX5_mark 470 = .ok (.iload_n 2, 1) := by decide +kernel
theorem dX5_mark_471 : decode cX5_mark 471 = .ok (.imul, 1) := by decide +kernel
theorem dX5_mark_472 : decode cX5_mark 472 = .ok (.iload 6, 2) := by decide +kernel
theorem dX5_mark_474 : decode cX5_mark 474 = .ok (.iadd, 1) := by decide +kernel
theorem dX5_mark_475 : decode cX5_mark 475 = .ok (.imul, 1) := by decide +kernel
theorem dX5_mark_476 : decode cX5_mark 476 = .ok (.iload 8, 2) := by decide +kernel
theorem dX5_mark_478 : decode cX5_mark 478 = .ok (.iadd, 1) := by decide +kernel
theorem dX5_mark_479 : decode cX5_mark 479 = .ok (.iaload, 1) := by decide +kernel
theorem dX5_mark_480 : decode cX5_mark 480 = .ok (.istore 9, 2) := by decide +kernel
theorem dX5_mark_482 : decode cX5_mark 482 = .ok (.aload_n 0, 1) := by decide +kernel
theorem dX5_mark_483 : decode cX5_mark 483 = .ok (.getfield 36, 3) := by decide +kernel
theorem dX5_mark_486 : decode cX5_mark 486 = .ok (.bipush 120, 2) := by decide +kernel
theorem dX5_mark_488 : decode cX5_mark 488 = .ok (.iload 6, 2) := by decide +kernel
theorem dX5_mark_490 : decode cX5_mark 490 = .ok (.imul, 1) := by decide +kernel
theorem dX5_mark_491 : decode cX5_mark 491 = .ok (.iload 9, 2) := by decide +kernel
theorem dX5_mark_493 : decode cX5_mark 493 = .ok (.iadd, 1) := by decide +kernel
theorem dX5_mark_494 : decode cX5_mark 494 = .ok (.iconst 1, 1) := by decide +kernel
theorem dX5_mark_495 : decode cX5_mark 495 = .ok (.bastore, 1) := by decide +kernel
theorem dX5_mark_496 : decode cX5_mark 496 = .ok (.iconst 0, 1) := by decide +kernel
theorem dX5_mark_497 : decode cX5_mark 497 = .ok (.istore 10, 2) := by decide +kernel
theorem dX5_mark_499 : decode cX5_mark 499 = .ok (.iload 10, 2) := by decide +kernel
theorem dX5_mark_501 : decode cX5_mark 501 = .ok (.aload_n 0, 1) := by decide +kernel
theorem dX5_mark_502 : decode cX5_mark 502 = .ok (.getfield 23, 3) := by decide +kernel
theorem dX5_mark_505 : decode cX5_mark 505 = .ok (.iload 9, 2) := by decide +kernel
theorem dX5_mark_507 : decode cX5_mark 507 = .ok (.iaload, 1) := by decide +kernel
theorem dX5_mark_508 : decode cX5_mark 508 = .ok (.if_icmp .ge 45, 3) := by decide +kernel
theorem dX5_mark_511 : decode cX5_mark 511 = .ok (.aload_n 0, 1) := by decide +kernel
theorem dX5_mark_512 : decode cX5_mark 512 = .ok (.getfield 39, 3) := by decide +kernel
theorem dX5_mark_515 : decode cX5_mark 515 = .ok (.bipush 32, 2) := by decide +kernel
theorem dX5_mark_517 : decode cX5_mark 517 = .ok (.bipush 120, 2) := by decide +kernel
theorem dX5_mark_519 : decode cX5_mark 519 = .ok (.iload 6, 2) := by decide +kernel
theorem dX5_mark_521 : decode cX5_mark 521 = .ok (.imul, 1) := by decide +kernel
theorem dX5_mark_522 : decode cX5_mark 522 = .ok (.iload 9, 2) := by decide +kernel
theorem dX5_mark_524 : decode cX5_mark 524 = .ok (.iadd, 1) := by decide +kernel
theorem dX5_mark_525 : decode cX5_mark 525 = .ok (.imul, 1) := by decide +kernel
theorem dX5_mark_526 : decode cX5_mark 526 = .ok (.iload 10, 2) := by decide +kernel
theorem dX5_mark_528 : decode cX5_mark 528 = .ok (.iadd, 1) := by decide +kernel
theorem dX5_mark_529 : decode cX5_mark 529 = .ok (.aload_n 0, 1) := by decide +kernel
theorem dX5_mark_530 : decode cX5_mark 530 = .ok (.getfield 17, 3) := by decide +kernel
theorem dX5_mark_533 : decode cX5_mark 533 = .ok (.sipush 300, 3) := by decide +kernel
theorem dX5_mark_536 : decode cX5_mark 536 = .ok (.iload 6, 2) := by decide +kernel
theorem dX5_mark_538 : decode cX5_mark 538 = .ok (.imul, 1) := by decide +kernel
theorem dX5_mark_539 : decode cX5_mark 539 = .ok (.iload 7, 2) := by decide +kernel
theorem dX5_mark_541 : decode cX5_mark 541 = .ok (.iadd, 1) := by decide +kernel
theorem dX5_mark_542 : decode cX5_mark 542 = .ok (.iload 10, 2) := by decide +kernel
theorem dX5_mark_544 : decode cX5_mark 544 = .ok (.iadd, 1) := by decide +kernel
theorem dX5_mark_545 : decode cX5_mark 545 = .ok (.iaload, 1) := by decide +kernel
theorem dX5_mark_546 : decode cX5_mark 546 = .ok (.iastore, 1) := by decide +kernel
theorem dX5_mark_547 : decode cX5_mark 547 = .ok (.iinc 10 1, 3) := by decide +kernel
theorem dX5_mark_550 : decode cX5_mark 550 = .ok (.goto (-51), 3) := by decide +kernel
theorem dX5_mark_553 : decode cX5_mark 553 = .ok (.iload 7, 2) := by decide +kernel
theorem dX5_mark_555 : decode cX5_mark 555 = .ok (.aload_n 0, 1) := by decide +kernel
theorem dX5_mark_556 : decode cX5_mark 556 = .ok (.getfield 23, 3) := by decide +kernel
theorem dX5_mark_559 : decode cX5_mark 559 = .ok (.iload 9, 2) := by decide +kernel
theorem dX5_mark_561 : decode cX5_mark 561 = .ok (.iaload, 1) := by decide +kernel
theorem dX5_mark_562 : decode cX5_mark 562 = .ok (.iadd, 1) := by decide +kernel
theorem dX5_mark_563 : decode cX5_mark 563 = .ok (.istore 7, 2) := by decide +kernel
theorem dX5_mark_565 : decode cX5_mark 565 = .ok (.iinc 8 1, 3) := by decide +kernel
theorem dX5_mark_568 : decode cX5_mark 568 = .ok (.goto (-121), 3) := by decide +kernel
theorem dX5_mark_571 : decode cX5_mark 571 = .ok (.iinc 6 1, 3) := by decide +kernel
theorem dX5_mark_574 : decode cX5_mark 574 = .ok (.goto (-142), 3) := by decide +kernel
theorem dX5_mark_577 : decode cX5_mark 577 = .ok (.aload_n 0, 1) := by decide +kernel
theorem dX5_mark_578 : decode cX5_mark 578 = .ok (.getfield 42, 3) := by decide +kernel
theorem dX5_mark_581 : decode cX5_mark 581 = .ok (.iload_n 2, 1) := by decide +kernel
theorem dX5_mark_582 : decode cX5_mark 582 = .ok (.iaload, 1) := by decide +kernel
theorem dX5_mark_583 : decode cX5_mark 583 = .ok (.ireturn, 1) := by decide +kernel
theorem dX5_tells_0 : decode cX5_tells 0 = .ok (.iconst 0, 1) := by decide +kernel
theorem dX5_tells_1 : decode cX5_tells 1 = .ok (.istore_n 3, 1) := by decide +kernel
theorem dX5_tells_2 : decode cX5_tells 2 = .ok (.iconst 0, 1) := by decide +kernel
theorem dX5_tells_3 : decode cX5_tells 3 = .ok (.istore 4, 2) := by decide +kernel
theorem dX5_tells_5 : decode cX5_tells 5 = .ok (.iload 4, 2) := by decide +kernel
theorem dX5_tells_7 : decode cX5_tells 7 = .ok (.aload_n 0, 1) := by decide +kernel
theorem dX5_tells_8 : decode cX5_tells 8 = .ok (.getfield 51, 3) := by decide +kernel
theorem dX5_tells_11 : decode cX5_tells 11 = .ok (.iload_n 1, 1) := by decide +kernel
theorem dX5_tells_12 : decode cX5_tells 12 = .ok (.iaload, 1) := by decide +kernel
theorem dX5_tells_13 : decode cX5_tells 13 = .ok (.if_icmp .ge 196, 3) := by decide +kernel
theorem dX5_tells_16 : decode cX5_tells 16 = .ok (.aload_n 0, 1) := by decide +kernel
theorem dX5_tells_17 : decode cX5_tells 17 = .ok (.getfield 54, 3) := by decide +kernel
theorem dX5_tells_20 : decode cX5_tells 20 = .ok (.iconst 4, 1) := by decide +kernel
theorem dX5_tells_21 : decode cX5_tells 21 = .ok (.iload_n 1, 1) := by decide +kernel
theorem dX5_tells_22 : decode cX5_tells 22 = .ok (.imul, 1) := by decide +kernel
theorem dX5_tells_23 : decode cX5_tells 23 = .ok (.iload 4, 2) := by decide +kernel
theorem dX5_tells_25 : decode cX5_tells 25 = .ok (.iadd, 1) := by decide +kernel
theorem dX5_tells_26 : decode cX5_tells 26 = .ok (.iaload, 1) := by decide +kernel
theorem dX5_tells_27 : decode cX5_tells 27 = .ok (.istore 5, 2) := by decide +kernel
theorem dX5_tells_29 : decode cX5_tells 29 = .ok (.iconst 0, 1) := by decide +kernel
theorem dX5_tells_30 : decode cX5_tells 30 = .ok (.istore 6, 2) := by decide +kernel
theorem dX5_tells_32 : decode cX5_tells 32 = .ok (.iload_n 2, 1) := by decide +kernel
theorem dX5_tells_33 : decode cX5_tells 33 = .ok (.iconst (-1), 1) := by decide +kernel
theorem dX5_tells_34 : decode cX5_tells 34 = .ok (.if_icmp .eq 161, 3) := by decide +kernel
theorem dX5_tells_37 : decode cX5_tells 37 = .ok (.iload 4, 2) := by decide +kernel
theorem dX5_tells_39 : decode cX5_tells 39 = .ok (.aload_n 0, 1) := by decide +kernel
theorem dX5_tells_40 : decode cX5_tells 40 = .ok (.getfield 51, 3) := by decide +kernel
theorem dX5_tells_43 : decode cX5_tells 43 = .ok (.iload_n 2, 1) := by decide +kernel
theorem dX5_tells_44 : decode cX5_tells 44 = .ok (.iaload, 1) := by decide +kernel
theorem dX5_tells_45 : decode cX5_tells 45 = .ok (.if_icmp .ge 150, 3) := by decide +kernel
theorem dX5_tells_48 : decode cX5_tells 48 = .ok (.aload_n 0, 1) := by decide +kernel
theorem dX5_tells_49 : decode cX5_tells 49 = .ok (.getfield 54, 3) := by decide +kernel
theorem dX5_tells_52 : decode cX5_tells 52 = .ok (.iconst 4, 1) := by decide +kernel
theorem dX5_tells_53 : decode cX5_tells 53 = .ok (.iload_n 2, 1) := by decide +kernel
theorem dX5_tells_54 : decode cX5_tells 54 = .ok (.imul, 1) := by decide +kernel
theorem dX5_tells_55 : decode cX5_tells 55 = .ok (.iload 4, 2) := by decide +kernel
theorem dX5_tells_57 : decode cX5_tells 57 = .ok (.iadd, 1) := by decide +kernel
theorem dX5_tells_58 : decode cX5_tells 58 = .ok (.iaload, 1) := by decide +kernel
theorem dX5_tells_59 : decode cX5_tells 59 = .ok (.istore 7, 2) := by decide +kernel
theorem dX5_tells_61 : decode cX5_tells 61 = .ok (.bipush 80, 2) := by decide +kernel
theorem dX5_tells_63 : decode cX5_tells 63 = .ok (.iconst 4, 1) := by decide +kernel
theorem dX5_tells_64 : decode cX5_tells 64 = .ok (.iload_n 1, 1) := by decide +kernel
theorem dX5_tells_65 : decode cX5_tells 65 = .ok (.imul, 1) := by decide +kernel
theorem dX5_tells_66 : decode cX5_tells 66 = .ok (.iload 4, 2) := by decide +kernel
theorem dX5_tells_68 : decode cX5_tells 68 = .ok (.iadd, 1) := by decide +kernel
theorem dX5_tells_69 : decode cX5_tells 69 = .ok (.imul, 1) := by decide +kernel
theorem dX5_tells_70 : decode cX5_tells 70 = .ok (.istore 8, 2) := by decide +kernel
theorem dX5_tells_72 : decode cX5_tells 72 = .ok (.bipush 80, 2) := by decide +kernel
theorem dX5_tells_74 : decode cX5_tells 74 = .ok (.iconst 4, 1) := by decide +kernel
theorem dX5_tells_75 : decode cX5_tells 75 = .ok (.iload_n 2, 1) := by decide +kernel
theorem dX5_tells_76 : decode cX5_tells 76 = .ok (.imul, 1) := by decide +kernel
theorem dX5_tells_77 : decode cX5_tells 77 = .ok (.iload 4, 2) := by decide +kernel
theorem dX5_tells_79 : decode cX5_tells 79 = .ok (.iadd, 1) := by decide +kernel
theorem dX5_tells_80 : decode cX5_tells 80 = .ok (.imul, 1) := by decide +kernel
theorem dX5_tells_81 : decode cX5_tells 81 = .ok (.istore 9, 2) := by decide +kernel
theorem dX5_tells_83 : decode cX5_tells 83 = .ok (.iload 6, 2) := by decide +kernel
theorem dX5_tells_85 : decode cX5_tells 85 = .ok (.iload 5, 2) := by decide +kernel
theorem dX5_tells_87 : decode cX5_tells 87 = .ok (.if_icmp .ge 39, 3) := by decide +kernel
theorem dX5_tells_90 : decode cX5_tells 90 = .ok (.iload 6, 2) := by decide +kernel
theorem dX5_tells_92 : decode cX5_tells 92 = .ok (.iload 7, 2) := by decide +kernel
theorem dX5_tells_94 : decode cX5_tells 94 = .ok (.if_icmp .ge 32, 3) := by decide +kernel
theorem dX5_tells_97 : decode cX5_tells 97 = .ok (.aload_n 0, 1) := by decide +kernel
theorem dX5_tells_98 : decode cX5_tells 98 = .ok (.getfield 57, 3) := by decide +kernel
theorem dX5_tells_101 : decode cX5_tells 101 = .ok (.iload 8, 2) := by decide +kernel
theorem dX5_tells_103 : decode cX5_tells 103 = .ok (.iload 6, 2) := by decide +kernel
theorem dX5_tells_105 : decode cX5_tells 105 = .ok (.iadd, 1) := by decide +kernel
theorem dX5_tells_106 : decode cX5_tells 106 = .ok (.iaload, 1) := by decide +kernel
theorem dX5_tells_107 : decode cX5_tells 107 = .ok (.aload_n 0, 1) := by decide +kernel
theorem dX5_tells_108 : decode cX5_tells 108 = .ok (.getfield 57, 3) := by decide +kernel
theorem dX5_tells_111 : decode cX5_tells 111 = .ok (.iload 9, 2) := by decide +kernel
theorem dX5_tells_113 : decode cX5_tells 113 = .ok (.iload 6, 2) := by decide +kernel
theorem dX5_tells_115 : decode cX5_tells 115 = .ok (.iadd, 1) := by decide +kernel
theorem dX5_tells_116 : decode cX5_tells 116 = .ok (.iaload, 1) := by decide +kernel
theorem dX5_tells_117 : decode cX5_tells 117 = .ok (.if_icmp .ne 9, 3) := by decide +kernel
theorem dX5_tells_120 : decode cX5_tells 120 = .ok (.iinc 6 1, 3) := by decide +kernel
theorem dX5_tells_123 : decode cX5_tells 123 = .ok (.goto (-40), 3) := by decide +kernel
theorem dX5_tells_126 : decode cX5_tells 126 = .ok (.iconst 0, 1) := by decide +kernel
theorem dX5_tells_127 : decode cX5_tells 127 = .ok (.istore 10, 2) := by decide +kernel
theorem dX5_tells_129 : decode cX5_tells 129 = .ok (.iload 10, 2) := by decide +kernel
theorem dX5_tells_131 : decode cX5_tells 131 = .ok (.iload 5, 2) := by decide +kernel
theorem dX5_tells_133 : decode cX5_tells 133 = .ok (.iload 6, 2) := by decide +kernel
theorem dX5_tells_135 : decode cX5_tells 135 = .ok (.isub, 1) := by decide +kernel
theorem dX5_tells_136 : decode cX5_tells 136 = .ok (.if_icmp .ge 52, 3) := by decide +kernel
theorem dX5_tells_139 : decode cX5_tells 139 = .ok (.iload 10, 2) := by decide +kernel
theorem dX5_tells_141 : decode cX5_tells 141 = .ok (.iload 7, 2) := by decide +kernel
theorem dX5_tells_143 : decode cX5_tells 143 = .ok (.iload 6, 2) := by decide +kernel
theorem dX5_tells_145 : decode cX5_tells 145 = .ok (.isub, 1) := by decide +kernel
theorem dX5_tells_146 : decode cX5_tells 146 = .ok (.if_icmp .ge 42, 3) := by decide +kernel
theorem dX5_tells_149 : decode cX5_tells 149 = .ok (.aload_n 0, 1) := by decide +kernel
theorem dX5_tells_150 : decode cX5_tells 150 = .ok (.getfield 57, 3) := by decide +kernel
theorem dX5_tells_153 : decode cX5_tells 153 = .ok (.iload 8, 2) := by decide +kernel
theorem dX5_tells_155 : decode cX5_tells 155 = .ok (.iload 5, 2) := by decide +kernel
theorem dX5_tells_157 : decode cX5_tells 157 = .ok (.iadd, 1) := by decide +kernel
theorem dX5_tells_158 : decode cX5_tells 158 = .ok (.iconst 1, 1) := by decide +kernel
theorem dX5_tells_159 : decode cX5_tells 159 = .ok (.isub, 1) := by decide +kernel
theorem dX5_tells_160 : decode cX5_tells 160 = .ok (.iload 10, 2) := by decide +kernel
theorem dX5_tells_162 : decode cX5_tells 162 = .ok (.isub, 1) := by decide +kernel
theorem dX5_tells_163 : decode cX5_tells 163 = .ok (.iaload, 1) := by decide +kernel
theorem dX5_tells_164 : decode cX5_tells 164 = .ok (.aload_n 0, 1) := by decide +kernel
theorem dX5_tells_165 : decode cX5_tells 165 = .ok (.getfield 57, 3) := by decide +kernel
theorem dX5_tells_168 : decode cX5_tells 168 = .ok (.iload 9, 2) := by decide +kernel
theorem dX5_tells_170 : decode cX5_tells 170 = .ok (.iload 7, 2) := by decide +kernel
theorem dX5_tells_172 : decode cX5_tells 172 = .ok (.iadd, 1) := by decide +kernel
theorem dX5_tells_173 : decode cX5_tells 173 = .ok (.iconst 1, 1) := by decide +kernel
theorem dX5_tells_174 : decode cX5_tells 174 = .ok (.isub, 1) := by decide +kernel
theorem dX5_tells_175 : decode cX5_tells 175 = .ok (.iload 10, 2) := by decide +kernel
theorem dX5_tells_177 : decode cX5_tells 177 = .ok (.isub, 1) := by decide +kernel
theorem dX5_tells_178 : decode cX5_tells 178 = .ok (.iaload, 1) := by decide +kernel
theorem dX5_tells_179 : decode cX5_tells 179 = .ok (.if_icmp .ne 9, 3) := by decide +kernel
theorem dX5_tells_182 : decode cX5_tells 182 = .ok (.iinc 10 1, 3) := by decide +kernel
theorem dX5_tells_185 : decode cX5_tells 185 = .ok (.goto (-56), 3) := by decide +kernel
theorem dX5_tells_188 : decode cX5_tells 188 = .ok (.iload 6, 2) := by decide +kernel
theorem dX5_tells_190 : decode cX5_tells 190 = .ok (.iload 10, 2) := by decide +kernel
theorem dX5_tells_192 : decode cX5_tells 192 = .ok (.iadd, 1) := by decide +kernel
theorem dX5_tells_193 : decode cX5_tells 193 = .ok (.istore 6, 2) := by decide +kernel
theorem dX5_tells_195 : decode cX5_tells 195 = .ok (.iload_n 3, 1) := by decide +kernel
theorem dX5_tells_196 : decode cX5_tells 196 = .ok (.iload 5, 2) := by decide +kernel
theorem dX5_tells_198 : decode cX5_tells 198 = .ok (.iload 6, 2) := by decide +kernel
theorem dX5_tells_200 : decode cX5_tells 200 = .ok (.isub, 1) := by decide +kernel
theorem dX5_tells_201 : decode cX5_tells 201 = .ok (.iadd, 1) := by decide +kernel
theorem dX5_tells_202 : decode cX5_tells 202 = .ok (.istore_n 3, 1) := by decide +kernel
theorem dX5_tells_203 : decode cX5_tells 203 = .ok (.iinc 4 1, 3) := by decide +kernel
theorem dX5_tells_206 : decode cX5_tells 206 = .ok (.goto (-201), 3) := by decide +kernel
theorem dX5_tells_209 : decode cX5_tells 209 = .ok (.iload_n 3, 1) := by decide +kernel
theorem dX5_tells_210 : decode cX5_tells 210 = .ok (.ireturn, 1) := by decide +kernel
theorem dX5_drop_0 : decode cX5_drop 0 = .ok (.aload_n 0, 1) := by decide +kernel
theorem dX5_drop_1 : decode cX5_drop 1 = .ok (.iload_n 1, 1) := by decide +kernel
theorem dX5_drop_2 : decode cX5_drop 2 = .ok (.invokevirtual 137, 3) := by decide +kernel
theorem dX5_drop_5 : decode cX5_drop 5 = .ok (.istore_n 2, 1) := by decide +kernel
theorem dX5_drop_6 : decode cX5_drop 6 = .ok (.iload_n 2, 1) := by decide +kernel
theorem dX5_drop_7 : decode cX5_drop 7 = .ok (.iconst (-1), 1) := by decide +kernel
theorem dX5_drop_8 : decode cX5_drop 8 = .ok (.if_icmp .ne 6, 3) := by decide +kernel
theorem dX5_drop_11 : decode cX5_drop 11 = .ok (.bipush (-2), 2) := by decide +kernel
theorem dX5_drop_13 : decode cX5_drop 13 = .ok (.ireturn, 1) := by decide +kernel
theorem dX5_drop_14 : decode cX5_drop 14 = .ok (.aload_n 0, 1) := by decide +kernel
theorem dX5_drop_15 : decode cX5_drop 15 = .ok (.getfield 45, 3) := by decide +kernel
theorem dX5_drop_18 : decode cX5_drop 18 = .ok (.iload_n 2, 1) := by decide +kernel
theorem dX5_drop_19 : decode cX5_drop 19 = .ok (.iconst 0, 1) := by decide +kernel
theorem dX5_drop_20 : decode cX5_drop 20 = .ok (.bastore, 1) := by decide +kernel
theorem dX5_drop_21 : decode cX5_drop 21 = .ok (.iconst 0, 1) := by decide +kernel
theorem dX5_drop_22 : decode cX5_drop 22 = .ok (.istore_n 3, 1) := by decide +kernel
theorem dX5_drop_23 : decode cX5_drop 23 = .ok (.iconst 0, 1) := by decide +kernel
theorem dX5_drop_24 : decode cX5_drop 24 = .ok (.istore 4, 2) := by decide +kernel
theorem dX5_drop_26 : decode cX5_drop 26 = .ok (.iload 4, 2) := by decide +kernel
theorem dX5_drop_28 : decode cX5_drop 28 = .ok (.bipush 120, 2) := by decide +kernel
theorem dX5_drop_30 : decode cX5_drop 30 = .ok (.if_icmp .ge 127, 3) := by decide +kernel
theorem dX5_drop_33 : decode cX5_drop 33 = .ok (.iconst 0, 1) := by decide +kernel
theorem dX5_drop_34 : decode cX5_drop 34 = .ok (.istore 5, 2) := by decide +kernel
theorem dX5_drop_36 : decode cX5_drop 36 = .ok (.iconst 0, 1) := by decide +kernel
theorem dX5_drop_37 : decode cX5_drop 37 = .ok (.istore 6, 2) := by decide +kernel
theorem dX5_drop_39 : decode cX5_drop 39 = .ok (.iload 6, 2) := by decide +kernel
theorem dX5_drop_41 : decode cX5_drop 41 = .ok (.bipush 12, 2) := by decide +kernel
theorem dX5_drop_43 : decode cX5_drop 43 = .ok (.if_icmp .ge 53, 3) := by decide +kernel
theorem dX5_drop_46 : decode cX5_drop 46 = .ok (.iload 5, 2) := by decide +kernel
theorem dX5_drop_48 : decode cX5_drop 48 = .ok (.ifCond .ne 35, 3) := by decide +kernel
theorem dX5_drop_51 : decode cX5_drop 51 = .ok (.aload_n 0, 1) := by decide +kernel
theorem dX5_drop_52 : decode cX5_drop 52 = .ok (.getfield 42, 3) := by decide +kernel
theorem dX5_drop_55 : decode cX5_drop 55 = .ok (.iload 6, 2) := by decide +kernel
theorem dX5_drop_57 : decode cX5_drop 57 = .ok (.iaload, 1) := by decide +kernel
theorem dX5_drop_58 : decode cX5_drop 58 = .ok (.iconst (-1), 1) := by decide +kernel
theorem dX5_drop_59 : decode cX5_drop 59 = .ok (.if_icmp .eq 28, 3) := by decide +kernel
theorem dX5_drop_62 : decode cX5_drop 62 = .ok (.aload_n 0, 1) := by decide +kernel
theorem dX5_drop_63 : decode cX5_drop 63 = .ok (.getfield 45, 3) := by decide +kernel
theorem dX5_drop_66 : decode cX5_drop 66 = .ok (.iload 6, 2) := by decide +kernel
theorem dX5_drop_68 : decode cX5_drop 68 = .ok (.baload, 1) := by decide +kernel
theorem dX5_drop_69 : decode cX5_drop 69 = .ok (.ifCond .eq 18, 3) := by decide +kernel
theorem dX5_drop_72 : decode cX5_drop 72 = .ok (.aload_n 0, 1) := by decide +kernel
theorem dX5_drop_73 : decode cX5_drop 73 = .ok (.iload 6, 2) := by decide +kernel
theorem dX5_drop_75 : decode cX5_drop 75 = .ok (.iload 4, 2) := by decide +kernel
theorem dX5_drop_77 : decode cX5_drop 77 = .ok (.invokevirtual 100, 3) := by decide +kernel
theorem dX5_drop_80 : decode cX5_drop 80 = .ok (.ifCond .eq 7, 3) := by decide +kernel
theorem dX5_drop_83 : decode cX5_drop 83 = .ok (.iconst 1, 1) := by decide +kernel
theorem dX5_drop_84 : decode cX5_drop 84 = .ok (.goto 4, 3) := by decide +kernel
theorem dX5_drop_87 : decode cX5_drop 87 = .ok (.iconst 0, 1) := by decide +kernel
theorem dX5_drop_88 : decode cX5_drop 88 = .ok (.istore 5, 2) := by decide +kernel
theorem dX5_drop_90 : decode cX5_drop 90 = .ok (.iinc 6 1, 3) := by decide +kernel
theorem dX5_drop_93 : decode cX5_drop 93 = .ok (.goto (-54), 3) := by decide +kernel
theorem dX5_drop_96 : decode cX5_drop 96 = .ok (.aload_n 0, 1) := by decide +kernel
theorem dX5_drop_97 : decode cX5_drop 97 = .ok (.getfield 23, 3) := by decide +kernel
theorem dX5_drop_100 : decode cX5_drop 100 = .ok (.iload 4, 2) := by decide +kernel
theorem dX5_drop_102 : decode cX5_drop 102 = .ok (.iaload, 1) := by decide +kernel
theorem dX5_drop_103 : decode cX5_drop 103 = .ok (.ifCond .le 48, 3) := by decide +kernel
theorem dX5_drop_106 : decode cX5_drop 106 = .ok (.iload 5, 2) := by decide +kernel
theorem dX5_drop_108 : decode cX5_drop 108 = .ok (.ifCond .ne 43, 3) := by decide +kernel
theorem dX5_drop_111 : decode cX5_drop 111 = .ok (.iinc 3 1, 3) := by decide +kernel
theorem dX5_drop_114 : decode cX5_drop 114 = .ok (.aload_n 0, 1) := by decide +kernel
theorem dX5_drop_115 : decode cX5_drop 115 = .ok (.getfield 23, 3) := by decide +kernel
theorem dX5_drop_118 : decode cX5_drop 118 = .ok (.iload 4, 2) := by decide +kernel
theorem dX5_drop_120 : decode cX5_drop 120 = .ok (.iconst 0, 1) := by decide +kernel
theorem dX5_drop_121 : decode cX5_drop 121 = .ok (.iastore, 1) := by decide +kernel
theorem dX5_drop_122 : decode cX5_drop 122 = .ok (.iconst 0, 1) := by decide +kernel
theorem dX5_drop_123 : decode cX5_drop 123 = .ok (.istore 6, 2) := by decide +kernel
theorem dX5_drop_125 : decode cX5_drop 125 = .ok (.iload 6, 2) := by decide +kernel
theorem dX5_drop_127 : decode cX5_drop 127 = .ok (.iconst 4, 1) := by decide +kernel
theorem dX5_drop_128 : decode cX5_drop 128 = .ok (.if_icmp .ge 23, 3) := by decide +kernel
theorem dX5_drop_131 : decode cX5_drop 131 = .ok (.aload_n 0, 1) := by decide +kernel
theorem dX5_drop_132 : decode cX5_drop 132 = .ok (.getfield 36, 3) := by decide +kernel
theorem dX5_drop_135 : decode cX5_drop 135 = .ok (.bipush 120, 2) := by decide +kernel
theorem dX5_drop_137 : decode cX5_drop 137 = .ok (.iload 6, 2) := by decide +kernel
theorem dX5_drop_139 : decode cX5_drop 139 = .ok (.imul, 1) := by decide +kernel
theorem dX5_drop_140 : decode cX5_drop 140 = .ok (.iload 4, 2) := by decide +kernel
theorem dX5_drop_142 : decode cX5_drop 142 = .ok (.iadd, 1) := by decide +kernel
theorem dX5_drop_143 : decode cX5_drop 143 = .ok (.iconst 0, 1) := by decide +kernel
theorem dX5_drop_144 : decode cX5_drop 144 = .ok (.bastore, 1) := by decide +kernel
theorem dX5_drop_145 : decode cX5_drop 145 = .ok (.iinc 6 1, 3) := by decide +kernel
theorem dX5_drop_148 : decode cX5_drop 148 = .ok (.goto (-23), 3) := by decide +kernel
theorem dX5_drop_151 : decode cX5_drop 151 = .ok (.iinc 4 1, 3) := by decide +kernel
theorem dX5_drop_154 : decode cX5_drop 154 = .ok (.goto (-128), 3) := by decide +kernel
theorem dX5_drop_157 : decode cX5_drop 157 = .ok (.iconst 1, 1) := by decide +kernel
theorem dX5_drop_158 : decode cX5_drop 158 = .ok (.istore 4, 2) := by decide +kernel
theorem dX5_drop_160 : decode cX5_drop 160 = .ok (.iload 4, 2) := by decide +kernel
theorem dX5_drop_162 : decode cX5_drop 162 = .ok (.ifCond .eq 128, 3) := by decide +kernel
theorem dX5_drop_165 : decode cX5_drop 165 = .ok (.iconst 0, 1) := by decide +kernel
theorem dX5_drop_166 : decode cX5_drop 166 = .ok (.istore 4, 2) := by decide +kernel
theorem dX5_drop_168 : decode cX5_drop 168 = .ok (.iconst 0, 1) := by decide +kernel
theorem dX5_drop_169 : decode cX5_drop 169 = .ok (.istore 5, 2) := by decide +kernel
theorem dX5_drop_171 : decode cX5_drop 171 = .ok (.iload 5, 2) := by decide +kernel
theorem dX5_drop_173 : decode cX5_drop 173 = .ok (.bipush 12, 2) := by decide +kernel
theorem dX5_drop_175 : decode cX5_drop 175 = .ok (.if_icmp .ge 112, 3) := by decide +kernel
theorem dX5_drop_178 : decode cX5_drop 178 = .ok (.aload_n 0, 1) := by decide +kernel
theorem dX5_drop_179 : decode cX5_drop 179 = .ok (.getfield 45, 3) := by decide +kernel
theorem dX5_drop_182 : decode cX5_drop 182 = .ok (.iload 5, 2) := by decide +kernel
theorem dX5_drop_184 : decode cX5_drop 184 = .ok (.baload, 1) := by decide +kernel
theorem dX5_drop_185 : decode cX5_drop 185 = .ok (.istore 6, 2) := by decide +kernel
theorem dX5_drop_187 : decode cX5_drop 187 = .ok (.iconst 0, 1) := by decide +kernel
theorem dX5_drop_188 : decode cX5_drop 188 = .ok (.istore 7, 2) := by decide +kernel
theorem dX5_drop_190 : decode cX5_drop 190 = .ok (.iload 7, 2) := by decide +kernel
theorem dX5_drop_192 : decode cX5_drop 192 = .ok (.bipush 12, 2) := by decide +kernel
theorem dX5_drop_194 : decode cX5_drop 194 = .ok (.if_icmp .ge 60, 3) := by decide +kernel
theorem dX5_drop_197 : decode cX5_drop 197 = .ok (.iload 6, 2) := by decide +kernel
theorem dX5_drop_199 : decode cX5_drop 199 = .ok (.ifCond .ne 42, 3) := by decide +kernel
theorem dX5_drop_202 : decode cX5_drop 202 = .ok (.aload_n 0, 1) := by decide +kernel
theorem dX5_drop_203 : decode cX5_drop 203 = .ok (.getfield 42, 3) := by decide +kernel
theorem dX5_drop_206 : decode cX5_drop 206 = .ok (.iload 7, 2) := by decide +kernel
theorem dX5_drop_208 : decode cX5_drop 208 = .ok (.iaload, 1) := by decide +kernel
theorem dX5_drop_209 : decode cX5_drop 209 = .ok (.iconst (-1), 1) := by decide +kernel
theorem dX5_drop_210 : decode cX5_drop 210 = .ok (.if_icmp .eq 35, 3) := by decide +kernel
theorem dX5_drop_213 : decode cX5_drop 213 = .ok (.aload_n 0, 1) := by decide +kernel
theorem dX5_drop_214 : decode cX5_drop 214 = .ok (.getfield 42, 3) := by decide +kernel
theorem dX5_drop_217 : decode cX5_drop 217 = .ok (.iload 5, 2) := by decide +kernel
theorem dX5_drop_219 : decode cX5_drop 219 = .ok (.iaload, 1) := by decide +kernel
theorem dX5_drop_220 : decode cX5_drop 220 = .ok (.iconst (-1), 1) := by decide +kernel
theorem dX5_drop_221 : decode cX5_drop 221 = .ok (.if_icmp .eq 24, 3) := by decide +kernel
theorem dX5_drop_224 : decode cX5_drop 224 = .ok (.aload_n 0, 1) := by decide +kernel
theorem dX5_drop_225 : decode cX5_drop 225 = .ok (.getfield 48, 3) := by decide +kernel
theorem dX5_drop_228 : decode cX5_drop 228 = .ok (.iload 7, 2) := by decide +kernel
theorem dX5_drop_230 : decode cX5_drop 230 = .ok (.iaload, 1) := by decide +kernel
theorem dX5_drop_231 : decode cX5_drop 231 = .ok (.aload_n 0, 1) := by decide +kernel
theorem dX5_drop_232 : decode cX5_drop 232 = .ok (.getfield 42, 3) := by decide +kernel
theorem dX5_drop_235 : decode cX5_drop 235 = .ok (.iload 5, 2) := by decide +kernel
theorem dX5_drop_237 : decode cX5_drop 237 = .ok (.iaload, 1) := by decide +kernel
theorem dX5_drop_238 : decode cX5_drop 238 = .ok (.if_icmp .ne 7, 3) := by decide +kernel
theorem dX5_drop_241 : decode cX5_drop 241 = .ok (.iconst 1, 1) := by decide +kernel
theorem dX5_drop_242 : decode cX5_drop 242 = .ok (.goto 4, 3) := by decide +kernel
theorem dX5_drop_245 : decode cX5_drop 245 = .ok (.iconst 0, 1) := by decide +kernel
theorem dX5_drop_246 : decode cX5_drop 246 = .ok (.istore 6, 2) := by decide +kernel
theorem dX5_drop_248 : decode cX5_drop 248 = .ok (.iinc 7 1, 3) := by decide +kernel
theorem dX5_drop_251 : decode cX5_drop 251 = .ok (.goto (-61), 3) := by decide +kernel
theorem dX5_drop_254 : decode cX5_drop 254 = .ok (.aload_n 0, 1) := by decide +kernel
theorem dX5_drop_255 : decode cX5_drop 255 = .ok (.getfield 42, 3) := by decide +kernel
theorem dX5_drop_258 : decode cX5_drop 258 = .ok (.iload 5, 2) := by decide +kernel
theorem dX5_drop_260 : decode cX5_drop 260 = .ok (.iaload, 1) := by decide +kernel
theorem dX5_drop_261 : decode cX5_drop 261 = .ok (.iconst (-1), 1) := by decide +kernel
theorem dX5_drop_262 : decode cX5_drop 262 = .ok (.if_icmp .eq 19, 3) := by decide +kernel
theorem dX5_drop_265 : decode cX5_drop 265 = .ok (.iload 6, 2) := by decide +kernel
theorem dX5_drop_267 : decode cX5_drop 267 = .ok (.ifCond .ne 14, 3) := by decide +kernel
theorem dX5_drop_270 : decode cX5_drop 270 = .ok (.aload_n 0, 1) := by decide +kernel
theorem dX5_drop_271 : decode cX5_drop 271 = .ok (.getfield 42, 3) := by decide +kernel
theorem dX5_drop_274 : decode cX5_drop 274 = .ok (.iload 5, 2) := by decide +kernel
theorem dX5_drop_276 : decode cX5_drop 276 = .ok (.iconst (-1), 1) := by decide +kernel
theorem dX5_drop_277 : decode cX5_drop 277 = .ok (.iastore, 1) := by decide +kernel
theorem dX5_drop_278 : decode cX5_drop 278 = .ok (.iconst 1, 1) := by decide +kernel
theorem dX5_drop_279 : decode cX5_drop 279 = .ok (.istore 4, 2) := by decide +kernel
theorem dX5_drop_281 : decode cX5_drop 281 = .ok (.iinc 5 1, 3) := by decide +kernel
theorem dX5_drop_284 : decode cX5_drop 284 = .ok (.goto (-113), 3) := by decide +kernel
theorem dX5_drop_287 : decode cX5_drop 287 = .ok (.goto (-127), 3) := by decide +kernel
theorem dX5_drop_290 : decode cX5_drop 290 = .ok (.iload_n 3, 1) := by decide +kernel
theorem dX5_drop_291 : decode cX5_drop 291 = .ok (.ireturn, 1) := by decide +kernel
theorem dX5_isUsable_0 : decode cX5_isUsable 0 = .ok (.iconst 1, 1) := by decide +kernel
theorem dX5_isUsable_1 : decode cX5_isUsable 1 = .ok (.istore_n 2, 1) := by decide +kernel
theorem dX5_isUsable_2 : decode cX5_isUsable 2 = .ok (.iconst 0, 1) := by decide +kernel
theorem dX5_isUsable_3 : decode cX5_isUsable 3 = .ok (.istore_n 3, 1) := by decide +kernel
theorem dX5_isUsable_4 : decode cX5_isUsable 4 = .ok (.iload_n 3, 1) := by decide +kernel
theorem dX5_isUsable_5 : decode cX5_isUsable 5 = .ok (.aload_n 0, 1) := by decide +kernel
theorem dX5_isUsable_6 : decode cX5_isUsable 6 = .ok (.getfield 51, 3) := by decide +kernel
theorem dX5_isUsable_9 : decode cX5_isUsable 9 = .ok (.iload_n 1, 1) := by decide +kernel
theorem dX5_isUsable_10 : decode cX5_isUsable 10 = .ok (.iaload, 1) := by decide +kernel
theorem dX5_isUsable_11 : decode cX5_isUsable 11 = .ok (.if_icmp .ge 67, 3) := by decide +kernel
theorem dX5_isUsable_14 : decode cX5_isUsable 14 = .ok (.iconst 0, 1) := by decide +kernel
theorem dX5_isUsable_15 : decode cX5_isUsable 15 = .ok (.istore 4, 2) := by decide +kernel
theorem dX5_isUsable_17 : decode cX5_isUsable 17 = .ok (.iload 4, 2) := by decide +kernel
theorem dX5_isUsable_19 : decode cX5_isUsable 19 = .ok (.aload_n 0, 1) := by decide +kernel
theorem dX5_isUsable_20 : decode cX5_isUsable 20 = .ok (.getfield 54, 3) := by decide +kernel
theorem dX5_isUsable_23 : decode cX5_isUsable 23 = .ok (.iconst 4, 1) := by decide +kernel
theorem dX5_isUsable_24 : decode cX5_isUsable 24 = .ok (.iload_n 1, 1) := by decide +kernel
theorem dX5_isUsable_25 : decode cX5_isUsable 25 = .ok (.imul, 1) := by decide +kernel
theorem dX5_isUsable_26 : decode cX5_isUsable 26 = .ok (.iload_n 3, 1) := by decide +kernel
theorem dX5_isUsable_27 : decode cX5_isUsable 27 = .ok (.iadd, 1) := by decide +kernel
theorem dX5_isUsable_28 : decode cX5_isUsable 28 = .ok (.iaload, 1) := by decide +kernel
theorem dX5_isUsable_29 : decode cX5_isUsable 29 = .ok (.if_icmp .ge 43, 3) := by decide +kernel
theorem dX5_isUsable_32 : decode cX5_isUsable 32 = .ok (.iload_n 2, 1) := by decide +kernel
theorem dX5_isUsable_33 : decode cX5_isUsable 33 = .ok (.ifCond .eq 31, 3) := by decide +kernel
theorem dX5_isUsable_36 : decode cX5_isUsable 36 = .ok (.aload_n 0, 1) := by decide +kernel
theorem dX5_isUsable_37 : decode cX5_isUsable 37 = .ok (.iload_n 3, 1) := by decide +kernel
theorem dX5_isUsable_38 : decode cX5_isUsable 38 = .ok (.aload_n 0, 1) := by decide +kernel
theorem dX5_isUsable_39 : decode cX5_isUsable 39 = .ok (.getfield 57, 3) := by decide +kernel
theorem dX5_isUsable_42 : decode cX5_isUsable 42 = .ok (.bipush 80, 2) := by decide +kernel
theorem dX5_isUsable_44 : decode cX5_isUsable 44 = .ok (.iconst 4, 1) := by decide +kernel
theorem dX5_isUsable_45 : decode cX5_isUsable 45 = .ok (.iload_n 1, 1) := by decide +kernel
theorem dX5_isUsable_46 : decode cX5_isUsable 46 = .ok (.imul, 1) := by decide +kernel
theorem dX5_isUsable_47 : decode cX5_isUsable 47 = .ok (.iload_n 3, 1) := by decide +kernel
theorem dX5_isUsable_48 : decode cX5_isUsable 48 = .ok (.iadd, 1) := by decide +kernel
theorem dX5_isUsable_49 : decode cX5_isUsable 49 = .ok (.imul, 1) := by decide +kernel
theorem dX5_isUsable_50 : decode cX5_isUsable 50 = .ok (.iload 4, 2) := by decide +kernel
theorem dX5_isUsable_52 : decode cX5_isUsable 52 = .ok (.iadd, 1) := by decide +kernel
theorem dX5_isUsable_53 : decode cX5_isUsable 53 = .ok (.iaload, 1) := by decide +kernel
theorem dX5_isUsable_54 : decode cX5_isUsable 54 = .ok (.invokevirtual 140, 3) := by decide +kernel
theorem dX5_isUsable_57 : decode cX5_isUsable 57 = .ok (.ifCond .eq 7, 3) := by decide +kernel
theorem dX5_isUsable_60 : decode cX5_isUsable 60 = .ok (.iconst 1, 1) := by decide +kernel
theorem dX5_isUsable_61 : decode cX5_isUsable 61 = .ok (.goto 4, 3) := by decide +kernel
theorem dX5_isUsable_64 : decode cX5_isUsable 64 = .ok (.iconst 0, 1) := by decide +kernel
theorem dX5_isUsable_65 : decode cX5_isUsable 65 = .ok (.istore_n 2, 1) := by decide +kernel
theorem dX5_isUsable_66 : decode cX5_isUsable 66 = .ok (.iinc 4 1, 3) := by decide +kernel
theorem dX5_isUsable_69 : decode cX5_isUsable 69 = .ok (.goto (-52), 3) := by decide +kernel
theorem dX5_isUsable_72 : decode cX5_isUsable 72 = .ok (.iinc 3 1, 3) := by decide +kernel
theorem dX5_isUsable_75 : decode cX5_isUsable 75 = .ok (.goto (-71), 3) := by decide +kernel
theorem dX5_isUsable_78 : decode cX5_isUsable 78 = .ok (.iload_n 2, 1) := by decide +kernel
theorem dX5_isUsable_79 : decode cX5_isUsable 79 = .ok (.ireturn, 1) := by decide +kernel
theorem dX5_usable_0 : decode cX5_usable 0 = .ok (.aload_n 0, 1) := by decide +kernel
theorem dX5_usable_1 : decode cX5_usable 1 = .ok (.iload_n 1, 1) := by decide +kernel
theorem dX5_usable_2 : decode cX5_usable 2 = .ok (.invokevirtual 137, 3) := by decide +kernel
theorem dX5_usable_5 : decode cX5_usable 5 = .ok (.istore_n 2, 1) := by decide +kernel
theorem dX5_usable_6 : decode cX5_usable 6 = .ok (.iload_n 2, 1) := by decide +kernel
theorem dX5_usable_7 : decode cX5_usable 7 = .ok (.iconst (-1), 1) := by decide +kernel
theorem dX5_usable_8 : decode cX5_usable 8 = .ok (.if_icmp .ne 8, 3) := by decide +kernel
theorem dX5_usable_11 : decode cX5_usable 11 = .ok (.bipush (-2), 2) := by decide +kernel
theorem dX5_usable_13 : decode cX5_usable 13 = .ok (.goto 16, 3) := by decide +kernel
theorem dX5_usable_16 : decode cX5_usable 16 = .ok (.aload_n 0, 1) := by decide +kernel
theorem dX5_usable_17 : decode cX5_usable 17 = .ok (.iload_n 2, 1) := by decide +kernel
theorem dX5_usable_18 : decode cX5_usable 18 = .ok (.invokevirtual 143, 3) := by decide +kernel
theorem dX5_usable_21 : decode cX5_usable 21 = .ok (.ifCond .eq 7, 3) := by decide +kernel
theorem dX5_usable_24 : decode cX5_usable 24 = .ok (.iconst 1, 1) := by decide +kernel
theorem dX5_usable_25 : decode cX5_usable 25 = .ok (.goto 4, 3) := by decide +kernel
theorem dX5_usable_28 : decode cX5_usable 28 = .ok (.iconst 0, 1) := by decide +kernel
theorem dX5_usable_29 : decode cX5_usable 29 = .ok (.ireturn, 1) := by decide +kernel
theorem dX5_back_0 : decode cX5_back 0 = .ok (.iload_n 1, 1) := by decide +kernel
theorem dX5_back_1 : decode cX5_back 1 = .ok (.iconst 0, 1) := by decide +kernel
theorem dX5_back_2 : decode cX5_back 2 = .ok (.aload_n 0, 1) := by decide +kernel
theorem dX5_back_3 : decode cX5_back 3 = .ok (.getfield 128, 3) := by decide +kernel
theorem dX5_back_6 : decode cX5_back 6 = .ok (.iconst 1, 1) := by decide +kernel
theorem dX5_back_7 : decode cX5_back 7 = .ok (.isub, 1) := by decide +kernel
theorem dX5_back_8 : decode cX5_back 8 = .ok (.invokestatic 72, 3) := by decide +kernel
theorem dX5_back_11 : decode cX5_back 11 = .ok (.ifCond .ne 6, 3) := by decide +kernel
theorem dX5_back_14 : decode cX5_back 14 = .ok (.bipush (-2), 2) := by decide +kernel
theorem dX5_back_16 : decode cX5_back 16 = .ok (.ireturn, 1) := by decide +kernel
theorem dX5_back_17 : decode cX5_back 17 = .ok (.aload_n 0, 1) := by decide +kernel
theorem dX5_back_18 : decode cX5_back 18 = .ok (.iload_n 1, 1) := by decide +kernel
theorem dX5_back_19 : decode cX5_back 19 = .ok (.iconst 1, 1) := by decide +kernel
theorem dX5_back_20 : decode cX5_back 20 = .ok (.iadd, 1) := by decide +kernel
theorem dX5_back_21 : decode cX5_back 21 = .ok (.invokevirtual 131, 3) := by decide +kernel
theorem dX5_back_24 : decode cX5_back 24 = .ok (.istore_n 2, 1) := by decide +kernel
theorem dX5_back_25 : decode cX5_back 25 = .ok (.iload_n 2, 1) := by decide +kernel
theorem dX5_back_26 : decode cX5_back 26 = .ok (.iconst (-1), 1) := by decide +kernel
theorem dX5_back_27 : decode cX5_back 27 = .ok (.if_icmp .eq 25, 3) := by decide +kernel
theorem dX5_back_30 : decode cX5_back 30 = .ok (.aload_n 0, 1) := by decide +kernel
theorem dX5_back_31 : decode cX5_back 31 = .ok (.iload_n 2, 1) := by decide +kernel
theorem dX5_back_32 : decode cX5_back 32 = .ok (.invokevirtual 143, 3) := by decide +kernel
theorem dX5_back_35 : decode cX5_back 35 = .ok (.ifCond .ne 17, 3) := by decide +kernel
theorem dX5_back_38 : decode cX5_back 38 = .ok (.aload_n 0, 1) := by decide +kernel
theorem dX5_back_39 : decode cX5_back 39 = .ok (.aload_n 0, 1) := by decide +kernel
theorem dX5_back_40 : decode cX5_back 40 = .ok (.getfield 42, 3) := by decide +kernel
theorem dX5_back_43 : decode cX5_back 43 = .ok (.iload_n 2, 1) := by decide +kernel
theorem dX5_back_44 : decode cX5_back 44 = .ok (.iaload, 1) := by decide +kernel
theorem dX5_back_45 : decode cX5_back 45 = .ok (.invokevirtual 131, 3) := by decide +kernel
theorem dX5_back_48 : decode cX5_back 48 = .ok (.istore_n 2, 1) := by decide +kernel
theorem dX5_back_49 : decode cX5_back 49 = .ok (.goto (-24), 3) := by decide +kernel
theorem dX5_back_52 : decode cX5_back 52 = .ok (.iload_n 2, 1) := by decide +kernel
theorem dX5_back_53 : decode cX5_back 53 = .ok (.iconst (-1), 1) := by decide +kernel
theorem dX5_back_54 : decode cX5_back 54 = .ok (.if_icmp .ne 5, 3) := by decide +kernel
theorem dX5_back_57 : decode cX5_back 57 = .ok (.iconst (-1), 1) := by decide +kernel
theorem dX5_back_58 : decode cX5_back 58 = .ok (.ireturn, 1) := by decide +kernel
theorem dX5_back_59 : decode cX5_back 59 = .ok (.aload_n 0, 1) := by decide +kernel
theorem dX5_back_60 : decode cX5_back 60 = .ok (.aload_n 0, 1) := by decide +kernel
theorem dX5_back_61 : decode cX5_back 61 = .ok (.getfield 51, 3) := by decide +kernel
theorem dX5_back_64 : decode cX5_back 64 = .ok (.iload_n 2, 1) := by decide +kernel
theorem dX5_back_65 : decode cX5_back 65 = .ok (.iaload, 1) := by decide +kernel
theorem dX5_back_66 : decode cX5_back 66 = .ok (.invokevirtual 86, 3) := by decide +kernel
theorem dX5_back_69 : decode cX5_back 69 = .ok (.iconst 0, 1) := by decide +kernel
theorem dX5_back_70 : decode cX5_back 70 = .ok (.istore_n 3, 1) := by decide +kernel
theorem dX5_back_71 : decode cX5_back 71 = .ok (.iload_n 3, 1) := by decide +kernel
theorem dX5_back_72 : decode cX5_back 72 = .ok (.aload_n 0, 1) := by decide +kernel
theorem dX5_back_73 : decode cX5_back 73 = .ok (.getfield 7, 3) := by decide +kernel
theorem dX5_back_76 : decode cX5_back 76 = .ok (.if_icmp .ge 61, 3) := by decide +kernel
theorem dX5_back_79 : decode cX5_back 79 = .ok (.aload_n 0, 1) := by decide +kernel
theorem dX5_back_80 : decode cX5_back 80 = .ok (.getfield 13, 3) := by decide +kernel
theorem dX5_back_83 : decode cX5_back 83 = .ok (.iload_n 3, 1) := by decide +kernel
theorem dX5_back_84 : decode cX5_back 84 = .ok (.iconst 0, 1) := by decide +kernel
theorem dX5_back_85 : decode cX5_back 85 = .ok (.iastore, 1) := by decide +kernel
theorem dX5_back_86 : decode cX5_back 86 = .ok (.iconst 0, 1) := by decide +kernel
theorem dX5_back_87 : decode cX5_back 87 = .ok (.istore 4, 2) := by decide +kernel
theorem dX5_back_89 : decode cX5_back 89 = .ok (.iload 4, 2) := by decide +kernel
theorem dX5_back_91 : decode cX5_back 91 = .ok (.aload_n 0, 1) := by decide +kernel
theorem dX5_back_92 : decode cX5_back 92 = .ok (.getfield 54, 3) := by decide +kernel
theorem dX5_back_95 : decode cX5_back 95 = .ok (.iconst 4, 1) := by decide +kernel
theorem dX5_back_96 : decode cX5_back 96 = .ok (.iload_n 2, 1) := by decide +kernel
theorem dX5_back_97 : decode cX5_back 97 = .ok (.imul, 1) := by decide +kernel
theorem dX5_back_98 : decode cX5_back 98 = .ok (.iload_n 3, 1) := by decide +kernel
theorem dX5_back_99 : decode cX5_back 99 = .ok (.iadd, 1) := by decide +kernel
theorem dX5_back_100 : decode cX5_back 100 = .ok (.iaload, 1) := by decide +kernel
theorem dX5_back_101 : decode cX5_back 101 = .ok (.if_icmp .ge 30, 3) := by decide +kernel
theorem dX5_back_104 : decode cX5_back 104 = .ok (.aload_n 0, 1) := by decide +kernel
theorem dX5_back_105 : decode cX5_back 105 = .ok (.iload_n 3, 1) := by decide +kernel
theorem dX5_back_106 : decode cX5_back 106 = .ok (.aload_n 0, 1) := by decide +kernel
theorem dX5_back_107 : decode cX5_back 107 = .ok (.getfield 57, 3) := by decide +kernel
theorem dX5_back_110 : decode cX5_back 110 = .ok (.bipush 80, 2) := by decide +kernel
theorem dX5_back_112 : decode cX5_back 112 = .ok (.iconst 4, 1) := by decide +kernel
theorem dX5_back_113 : decode cX5_back 113 = .ok (.iload_n 2, 1) := by decide +kernel
theorem dX5_back_114 : decode cX5_back 114 = .ok (.imul, 1) := by decide +kernel
theorem dX5_back_115 : decode cX5_back 115 = .ok (.iload_n 3, 1) := by decide +kernel
theorem dX5_back_116 : decode cX5_back 116 = .ok (.iadd, 1) := by decide +kernel
theorem dX5_back_117 : decode cX5_back 117 = .ok (.imul, 1) := by decide +kernel
theorem dX5_back_118 : decode cX5_back 118 = .ok (.iload 4, 2) := by decide +kernel
theorem dX5_back_120 : decode cX5_back 120 = .ok (.iadd, 1) := by decide +kernel
theorem dX5_back_121 : decode cX5_back 121 = .ok (.iaload, 1) := by decide +kernel
theorem dX5_back_122 : decode cX5_back 122 = .ok (.invokevirtual 146, 3) := by decide +kernel
theorem dX5_back_125 : decode cX5_back 125 = .ok (.iinc 4 1, 3) := by decide +kernel
theorem dX5_back_128 : decode cX5_back 128 = .ok (.goto (-39), 3) := by decide +kernel
theorem dX5_back_131 : decode cX5_back 131 = .ok (.iinc 3 1, 3) := by decide +kernel
theorem dX5_back_134 : decode cX5_back 134 = .ok (.goto (-63), 3) := by decide +kernel
theorem dX5_back_137 : decode cX5_back 137 = .ok (.aload_n 0, 1) := by decide +kernel
theorem dX5_back_138 : decode cX5_back 138 = .ok (.getfield 42, 3) := by decide +kernel
theorem dX5_back_141 : decode cX5_back 141 = .ok (.iload_n 2, 1) := by decide +kernel
theorem dX5_back_142 : decode cX5_back 142 = .ok (.iaload, 1) := by decide +kernel
theorem dX5_back_143 : decode cX5_back 143 = .ok (.ireturn, 1) := by decide +kernel
theorem dX5_read_0 : decode cX5_read 0 = .ok (.bipush 32, 2) := by decide +kernel
theorem dX5_read_2 : decode cX5_read 2 = .ok (.bipush 120, 2) := by decide +kernel
theorem dX5_read_4 : decode cX5_read 4 = .ok (.iload_n 1, 1) := by decide +kernel
theorem dX5_read_5 : decode cX5_read 5 = .ok (.imul, 1) := by decide +kernel
theorem dX5_read_6 : decode cX5_read 6 = .ok (.iload_n 2, 1) := by decide +kernel
theorem dX5_read_7 : decode cX5_read 7 = .ok (.iadd, 1) := by decide +kernel
theorem dX5_read_8 : decode cX5_read 8 = .ok (.imul, 1) := by decide +kernel
theorem dX5_read_9 : decode cX5_read 9 = .ok (.istore_n 3, 1) := by decide +kernel
theorem dX5_read_10 : decode cX5_read 10 = .ok (.aload_n 0, 1) := by decide +kernel
theorem dX5_read_11 : decode cX5_read 11 = .ok (.iload_n 1, 1) := by decide +kernel
theorem dX5_read_12 : decode cX5_read 12 = .ok (.iload_n 2, 1) := by decide +kernel
theorem dX5_read_13 : decode cX5_read 13 = .ok (.invokevirtual 93, 3) := by decide +kernel
theorem dX5_read_16 : decode cX5_read 16 = .ok (.ifCond .ne 56, 3) := by decide +kernel
theorem dX5_read_19 : decode cX5_read 19 = .ok (.aload_n 0, 1) := by decide +kernel
theorem dX5_read_20 : decode cX5_read 20 = .ok (.getfield 36, 3) := by decide +kernel
theorem dX5_read_23 : decode cX5_read 23 = .ok (.bipush 120, 2) := by decide +kernel
theorem dX5_read_25 : decode cX5_read 25 = .ok (.iload_n 1, 1) := by decide +kernel
theorem dX5_read_26 : decode cX5_read 26 = .ok (.imul, 1) := by decide +kernel
theorem dX5_read_27 : decode cX5_read 27 = .ok (.iload_n 2, 1) := by decide +kernel
theorem dX5_read_28 : decode cX5_read 28 = .ok (.iadd, 1) := by decide +kernel
theorem dX5_read_29 : decode cX5_read 29 = .ok (.iconst 1, 1) := by decide +kernel
theorem dX5_read_30 : decode cX5_read 30 = .ok (.bastore, 1) := by decide +kernel
theorem dX5_read_31 : decode cX5_read 31 = .ok (.iconst 0, 1) := by decide +kernel
theorem dX5_read_32 : decode cX5_read 32 = .ok (.istore 4, 2) := by decide +kernel
theorem dX5_read_34 : decode cX5_read 34 = .ok (.iload 4, 2) := by decide +kernel
theorem dX5_read_36 : decode cX5_read 36 = .ok (.aload_n 0, 1) := by decide +kernel
theorem dX5_read_37 : decode cX5_read 37 = .ok (.getfield 23, 3) := by decide +kernel
theorem dX5_read_40 : decode cX5_read 40 = .ok (.iload_n 2, 1) := by decide +kernel
theorem dX5_read_41 : decode cX5_read 41 = .ok (.iaload, 1) := by decide +kernel
theorem dX5_read_42 : decode cX5_read 42 = .ok (.if_icmp .ge 30, 3) := by decide +kernel
theorem dX5_read_45 : decode cX5_read 45 = .ok (.aload_n 0, 1) := by decide +kernel
theorem dX5_read_46 : decode cX5_read 46 = .ok (.getfield 39, 3) := by decide +kernel
theorem dX5_read_49 : decode cX5_read 49 = .ok (.iload_n 3, 1) := by decide +kernel
theorem dX5_read_50 : decode cX5_read 50 = .ok (.iload 4, 2) := by decide +kernel
theorem dX5_read_52 : decode cX5_read 52 = .ok (.iadd, 1) := by decide +kernel
theorem dX5_read_53 : decode cX5_read 53 = .ok (.aload_n 0, 1) := by decide +kernel
theorem dX5_read_54 : decode cX5_read 54 = .ok (.getfield 33, 3) := by decide +kernel
theorem dX5_read_57 : decode cX5_read 57 = .ok (.bipush 32, 2) := by decide +kernel
theorem dX5_read_59 : decode cX5_read 59 = .ok (.iload_n 2, 1) := by decide +kernel
theorem dX5_read_60 : decode cX5_read 60 = .ok (.imul, 1) := by decide +kernel
theorem dX5_read_61 : decode cX5_read 61 = .ok (.iload 4, 2) := by decide +kernel
theorem dX5_read_63 : decode cX5_read 63 = .ok (.iadd, 1) := by decide +kernel
theorem dX5_read_64 : decode cX5_read 64 = .ok (.iaload, 1) := by decide +kernel
theorem dX5_read_65 : decode cX5_read 65 = .ok (.iastore, 1) := by decide +kernel
theorem dX5_read_66 : decode cX5_read 66 = .ok (.iinc 4 1, 3) := by decide +kernel
theorem dX5_read_69 : decode cX5_read 69 = .ok (.goto (-35), 3) := by decide +kernel
theorem dX5_read_72 : decode cX5_read 72 = .ok (.iconst 0, 1) := by decide +kernel
theorem dX5_read_73 : decode cX5_read 73 = .ok (.istore 4, 2) := by decide +kernel
theorem dX5_read_75 : decode cX5_read 75 = .ok (.iload 4, 2) := by decide +kernel
theorem dX5_read_77 : decode cX5_read 77 = .ok (.aload_n 0, 1) := by decide +kernel
theorem dX5_read_78 : decode cX5_read 78 = .ok (.getfield 23, 3) := by decide +kernel
theorem dX5_read_81 : decode cX5_read 81 = .ok (.iload_n 2, 1) := by decide +kernel
theorem dX5_read_82 : decode cX5_read 82 = .ok (.iaload, 1) := by decide +kernel
theorem dX5_read_83 : decode cX5_read 83 = .ok (.if_icmp .ge 38, 3) := by decide +kernel
theorem dX5_read_86 : decode cX5_read 86 = .ok (.aload_n 0, 1) := by decide +kernel
theorem dX5_read_87 : decode cX5_read 87 = .ok (.getfield 17, 3) := by decide +kernel
theorem dX5_read_90 : decode cX5_read 90 = .ok (.sipush 300, 3) := by decide +kernel
theorem dX5_read_93 : decode cX5_read 93 = .ok (.iload_n 1, 1) := by decide +kernel
theorem dX5_read_94 : decode cX5_read 94 = .ok (.imul, 1) := by decide +kernel
theorem dX5_read_95 : decode cX5_read 95 = .ok (.aload_n 0, 1) := by decide +kernel
theorem dX5_read_96 : decode cX5_read 96 = .ok (.getfield 13, 3) := by decide +kernel
theorem dX5_read_99 : decode cX5_read 99 = .ok (.iload_n 1, 1) := by decide +kernel
theorem dX5_read_100 : decode cX5_read 100 = .ok (.iaload, 1) := by decide +kernel
theorem dX5_read_101 : decode cX5_read 101 = .ok (.iadd, 1) := by decide +kernel
theorem dX5_read_102 : decode cX5_read 102 = .ok (.iload 4, 2) := by decide +kernel
theorem dX5_read_104 : decode cX5_read 104 = .ok (.iadd, 1) := by decide +kernel
theorem dX5_read_105 : decode cX5_read 105 = .ok (.aload_n 0, 1) := by decide +kernel
theorem dX5_read_106 : decode cX5_read 106 = .ok (.getfield 39, 3) := by decide +kernel
theorem dX5_read_109 : decode cX5_read 109 = .ok (.iload_n 3, 1) := by decide +kernel
theorem dX5_read_110 : decode cX5_read 110 = .ok (.iload 4, 2) := by decide +kernel
theorem dX5_read_112 : decode cX5_read 112 = .ok (.iadd, 1) := by decide +kernel
theorem dX5_read_113 : decode cX5_read 113 = .ok (.iaload, 1) := by decide +kernel
theorem dX5_read_114 : decode cX5_read 114 = .ok (.iastore, 1) := by decide +kernel
theorem dX5_read_115 : decode cX5_read 115 = .ok (.iinc 4 1, 3) := by decide +kernel
theorem dX5_read_118 : decode cX5_read 118 = .ok (.goto (-43), 3) := by decide +kernel
theorem dX5_read_121 : decode cX5_read 121 = .ok (.aload_n 0, 1) := by decide +kernel
theorem dX5_read_122 : decode cX5_read 122 = .ok (.getfield 13, 3) := by decide +kernel
theorem dX5_read_125 : decode cX5_read 125 = .ok (.iload_n 1, 1) := by decide +kernel
theorem dX5_read_126 : decode cX5_read 126 = .ok (.dup2, 1) := by decide +kernel
theorem dX5_read_127 : decode cX5_read 127 = .ok (.iaload, 1) := by decide +kernel
theorem dX5_read_128 : decode cX5_read 128 = .ok (.aload_n 0, 1) := by decide +kernel
theorem dX5_read_129 : decode cX5_read 129 = .ok (.getfield 23, 3) := by decide +kernel
theorem dX5_read_132 : decode cX5_read 132 = .ok (.iload_n 2, 1) := by decide +kernel
theorem dX5_read_133 : decode cX5_read 133 = .ok (.iaload, 1) := by decide +kernel
theorem dX5_read_134 : decode cX5_read 134 = .ok (.iadd, 1) := by decide +kernel
theorem dX5_read_135 : decode cX5_read 135 = .ok (.iastore, 1) := by decide +kernel
theorem dX5_read_136 : decode cX5_read 136 = .ok (.return_, 1) := by decide +kernel
theorem dX5_markTold_0 : decode cX5_markTold 0 = .ok (.aload_n 0, 1) := by decide +kernel
theorem dX5_markTold_1 : decode cX5_markTold 1 = .ok (.iload_n 1, 1) := by decide +kernel
theorem dX5_markTold_2 : decode cX5_markTold 2 = .ok (.invokevirtual 110, 3) := by decide +kernel
theorem dX5_markTold_5 : decode cX5_markTold 5 = .ok (.istore_n 3, 1) := by decide +kernel
theorem dX5_markTold_6 : decode cX5_markTold 6 = .ok (.iload_n 3, 1) := by decide +kernel
theorem dX5_markTold_7 : decode cX5_markTold 7 = .ok (.iconst (-1), 1) := by decide +kernel
theorem dX5_markTold_8 : decode cX5_markTold 8 = .ok (.if_icmp .eq 13, 3) := by decide +kernel
theorem dX5_markTold_11 : decode cX5_markTold 11 = .ok (.iload_n 2, 1) := by decide +kernel
theorem dX5_markTold_12 : decode cX5_markTold 12 = .ok (.iconst 0, 1) := by decide +kernel
theorem dX5_markTold_13 : decode cX5_markTold 13 = .ok (.bipush 6, 2) := by decide +kernel
theorem dX5_markTold_15 : decode cX5_markTold 15 = .ok (.invokestatic 72, 3) := by decide +kernel
theorem dX5_markTold_18 : decode cX5_markTold 18 = .ok (.ifCond .ne 6, 3) := by decide +kernel
theorem dX5_markTold_21 : decode cX5_markTold 21 = .ok (.bipush (-2), 2) := by decide +kernel
theorem dX5_markTold_23 : decode cX5_markTold 23 = .ok (.ireturn, 1) := by decide +kernel
theorem dX5_markTold_24 : decode cX5_markTold 24 = .ok (.iconst 0, 1) := by decide +kernel
theorem dX5_markTold_25 : decode cX5_markTold 25 = .ok (.istore 4, 2) := by decide +kernel
theorem dX5_markTold_27 : decode cX5_markTold 27 = .ok (.iconst 0, 1) := by decide +kernel
theorem dX5_markTold_28 : decode cX5_markTold 28 = .ok (.istore 5, 2) := by decide +kernel
theorem dX5_markTold_30 : decode cX5_markTold 30 = .ok (.iload 5, 2) := by decide +kernel
theorem dX5_markTold_32 : decode cX5_markTold 32 = .ok (.aload_n 0, 1) := by decide +kernel
theorem dX5_markTold_33 : decode cX5_markTold 33 = .ok (.getfield 51, 3) := by decide +kernel
theorem dX5_markTold_36 : decode cX5_markTold 36 = .ok (.iload_n 3, 1) := by decide +kernel
theorem dX5_markTold_37 : decode cX5_markTold 37 = .ok (.iaload, 1) := by decide +kernel
theorem dX5_markTold_38 : decode cX5_markTold 38 = .ok (.if_icmp .ge 25, 3) := by decide +kernel
theorem dX5_markTold_41 : decode cX5_markTold 41 = .ok (.iload 4, 2) := by decide +kernel
theorem dX5_markTold_43 : decode cX5_markTold 43 = .ok (.aload_n 0, 1) := by decide +kernel
theorem dX5_markTold_44 : decode cX5_markTold 44 = .ok (.getfield 54, 3) := by decide +kernel
theorem dX5_markTold_47 : decode cX5_markTold 47 = .ok (.iconst 4, 1) := by decide +kernel
theorem dX5_markTold_48 : decode cX5_markTold 48 = .ok (.iload_n 3, 1) := by decide +kernel
theorem dX5_markTold_49 : decode cX5_markTold 49 = .ok (.imul, 1) := by decide +kernel
theorem dX5_markTold_50 : decode cX5_markTold 50 = .ok (.iload 5, 2) := by decide +kernel
theorem dX5_markTold_52 : decode cX5_markTold 52 = .ok (.iadd, 1) := by decide +kernel
theorem dX5_markTold_53 : decode cX5_markTold 53 = .ok (.iaload, 1) := by decide +kernel
