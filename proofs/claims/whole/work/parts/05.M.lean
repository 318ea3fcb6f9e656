theorem dX10_init_0 : decode cX10_init 0 = .ok (.aload_n 0, 1) := by decide +kernel
theorem dX10_init_1 : decode cX10_init 1 = .ok (.invokespecial 1, 3) := by decide +kernel
theorem dX10_init_4 : decode cX10_init 4 = .ok (.aload_n 0, 1) := by decide +kernel
theorem dX10_init_5 : decode cX10_init 5 = .ok (.iconst 1, 1) := by decide +kernel
theorem dX10_init_6 : decode cX10_init 6 = .ok (.putfield 7, 3) := by decide +kernel
theorem dX10_init_9 : decode cX10_init 9 = .ok (.aload_n 0, 1) := by decide +kernel
theorem dX10_init_10 : decode cX10_init 10 = .ok (.bipush 6, 2) := by decide +kernel
theorem dX10_init_12 : decode cX10_init 12 = .ok (.newarray .int, 2) := by decide +kernel
theorem dX10_init_14 : decode cX10_init 14 = .ok (.dup, 1) := by decide +kernel
theorem dX10_init_15 : decode cX10_init 15 = .ok (.iconst 0, 1) := by decide +kernel
theorem dX10_init_16 : decode cX10_init 16 = .ok (.iconst 3, 1) := by decide +kernel
theorem dX10_init_17 : decode cX10_init 17 = .ok (.iastore, 1) := by decide +kernel
theorem dX10_init_18 : decode cX10_init 18 = .ok (.dup, 1) := by decide +kernel
theorem dX10_init_19 : decode cX10_init 19 = .ok (.iconst 1, 1) := by decide +kernel
theorem dX10_init_20 : decode cX10_init 20 = .ok (.iconst 3, 1) := by decide +kernel
theorem dX10_init_21 : decode cX10_init 21 = .ok (.iastore, 1) := by decide +kernel
theorem dX10_init_22 : decode cX10_init 22 = .ok (.dup, 1) := by decide +kernel
theorem dX10_init_23 : decode cX10_init 23 = .ok (.iconst 2, 1) := by decide +kernel
theorem dX10_init_24 : decode cX10_init 24 = .ok (.iconst 3, 1) := by decide +kernel
theorem dX10_init_25 : decode cX10_init 25 = .ok (.iastore, 1) := by decide +kernel
theorem dX10_init_26 : decode cX10_init 26 = .ok (.dup, 1) := by decide +kernel
theorem dX10_init_27 : decode cX10_init 27 = .ok (.iconst 3, 1) := by decide +kernel
theorem dX10_init_28 : decode cX10_init 28 = .ok (.iconst 3, 1) := by decide +kernel
theorem dX10_init_29 : decode cX10_init 29 = .ok (.iastore, 1) := by decide +kernel
theorem dX10_init_30 : decode cX10_init 30 = .ok (.dup, 1) := by decide +kernel
theorem dX10_init_31 : decode cX10_init 31 = .ok (.iconst 4, 1) := by decide +kernel
theorem dX10_init_32 : decode cX10_init 32 = .ok (.iconst 3, 1) := by decide +kernel
theorem dX10_init_33 : decode cX10_init 33 = .ok (.iastore, 1) := by decide +kernel
theorem dX10_init_34 : decode cX10_init 34 = .ok (.dup, 1) := by decide +kernel
theorem dX10_init_35 : decode cX10_init 35 = .ok (.iconst 5, 1) := by decide +kernel
theorem dX10_init_36 : decode cX10_init 36 = .ok (.iconst 3, 1) := by decide +kernel
theorem dX10_init_37 : decode cX10_init 37 = .ok (.iastore, 1) := by decide +kernel
theorem dX10_init_38 : decode cX10_init 38 = .ok (.putfield 13, 3) := by decide +kernel
theorem dX10_init_41 : decode cX10_init 41 = .ok (.aload_n 0, 1) := by decide +kernel
theorem dX10_init_42 : decode cX10_init 42 = .ok (.bipush 6, 2) := by decide +kernel
theorem dX10_init_44 : decode cX10_init 44 = .ok (.newarray .int, 2) := by decide +kernel
theorem dX10_init_46 : decode cX10_init 46 = .ok (.dup, 1) := by decide +kernel
theorem dX10_init_47 : decode cX10_init 47 = .ok (.iconst 0, 1) := by decide +kernel
theorem dX10_init_48 : decode cX10_init 48 = .ok (.bipush 10, 2) := by decide +kernel
theorem dX10_init_50 : decode cX10_init 50 = .ok (.iastore, 1) := by decide +kernel
theorem dX10_init_51 : decode cX10_init 51 = .ok (.dup, 1) := by decide +kernel
theorem dX10_init_52 : decode cX10_init 52 = .ok (.iconst 1, 1) := by decide +kernel
theorem dX10_init_53 : decode cX10_init 53 = .ok (.bipush 10, 2) := by decide +kernel
theorem dX10_init_55 : decode cX10_init 55 = .ok (.iastore, 1) := by decide +kernel
theorem dX10_init_56 : decode cX10_init 56 = .ok (.dup, 1) := by decide +kernel
theorem dX10_init_57 : decode cX10_init 57 = .ok (.iconst 2, 1) := by decide +kernel
theorem dX10_init_58 : decode cX10_init 58 = .ok (.bipush 10, 2) := by decide +kernel
theorem dX10_init_60 : decode cX10_init 60 = .ok (.iastore, 1) := by decide +kernel
theorem dX10_init_61 : decode cX10_init 61 = .ok (.dup, 1) := by decide +kernel
theorem dX10_init_62 : decode cX10_init 62 = .ok (.iconst 3, 1) := by decide +kernel
theorem dX10_init_63 : decode cX10_init 63 = .ok (.bipush 10, 2) := by decide +kernel
theorem dX10_init_65 : decode cX10_init 65 = .ok (.iastore, 1) := by decide +kernel
theorem dX10_init_66 : decode cX10_init 66 = .ok (.dup, 1) := by decide +kernel
theorem dX10_init_67 : decode cX10_init 67 = .ok (.iconst 4, 1) := by decide +kernel
theorem dX10_init_68 : decode cX10_init 68 = .ok (.bipush 10, 2) := by decide +kernel
theorem dX10_init_70 : decode cX10_init 70 = .ok (.iastore, 1) := by decide +kernel
theorem dX10_init_71 : decode cX10_init 71 = .ok (.dup, 1) := by decide +kernel
theorem dX10_init_72 : decode cX10_init 72 = .ok (.iconst 5, 1) := by decide +kernel
theorem dX10_init_73 : decode cX10_init 73 = .ok (.bipush 10, 2) := by decide +kernel
theorem dX10_init_75 : decode cX10_init 75 = .ok (.iastore, 1) := by decide +kernel
theorem dX10_init_76 : decode cX10_init 76 = .ok (.putfield 17, 3) := by decide +kernel
theorem dX10_init_79 : decode cX10_init 79 = .ok (.aload_n 0, 1) := by decide +kernel
theorem dX10_init_80 : decode cX10_init 80 = .ok (.iconst 4, 1) := by decide +kernel
theorem dX10_init_81 : decode cX10_init 81 = .ok (.newarray .int, 2) := by decide +kernel
theorem dX10_init_83 : decode cX10_init 83 = .ok (.dup, 1) := by decide +kernel
theorem dX10_init_84 : decode cX10_init 84 = .ok (.iconst 0, 1) := by decide +kernel
theorem dX10_init_85 : decode cX10_init 85 = .ok (.iconst (-1), 1) := by decide +kernel
theorem dX10_init_86 : decode cX10_init 86 = .ok (.iastore, 1) := by decide +kernel
theorem dX10_init_87 : decode cX10_init 87 = .ok (.dup, 1) := by decide +kernel
theorem dX10_init_88 : decode cX10_init 88 = .ok (.iconst 1, 1) := by decide +kernel
theorem dX10_init_89 : decode cX10_init 89 = .ok (.iconst (-1), 1) := by decide +kernel
theorem dX10_init_90 : decode cX10_init 90 = .ok (.iastore, 1) := by decide +kernel
theorem dX10_init_91 : decode cX10_init 91 = .ok (.dup, 1) := by decide +kernel
theorem dX10_init_92 : decode cX10_init 92 = .ok (.iconst 2, 1) := by decide +kernel
theorem dX10_init_93 : decode cX10_init 93 = .ok (.iconst (-1), 1) := by decide +kernel
theorem dX10_init_94 : decode cX10_init 94 = .ok (.iastore, 1) := by decide +kernel
theorem dX10_init_95 : decode cX10_init 95 = .ok (.dup, 1) := by decide +kernel
theorem dX10_init_96 : decode cX10_init 96 = .ok (.iconst 3, 1) := by decide +kernel
theorem dX10_init_97 : decode cX10_init 97 = .ok (.iconst (-1), 1) := by decide +kernel
theorem dX10_init_98 : decode cX10_init 98 = .ok (.iastore, 1) := by decide +kernel
theorem dX10_init_99 : decode cX10_init 99 = .ok (.putfield 20, 3) := by decide +kernel
theorem dX10_init_102 : decode cX10_init 102 = .ok (.aload_n 0, 1) := by decide +kernel
theorem dX10_init_103 : decode cX10_init 103 = .ok (.bipush 120, 2) := by decide +kernel
theorem dX10_init_105 : decode cX10_init 105 = .ok (.newarray .int, 2) := by decide +kernel
theorem dX10_init_107 : decode cX10_init 107 = .ok (.putfield 23, 3) := by decide +kernel
theorem dX10_init_110 : decode cX10_init 110 = .ok (.aload_n 0, 1) := by decide +kernel
theorem dX10_init_111 : decode cX10_init 111 = .ok (.bipush 6, 2) := by decide +kernel
theorem dX10_init_113 : decode cX10_init 113 = .ok (.newarray .int, 2) := by decide +kernel
theorem dX10_init_115 : decode cX10_init 115 = .ok (.dup, 1) := by decide +kernel
theorem dX10_init_116 : decode cX10_init 116 = .ok (.iconst 0, 1) := by decide +kernel
theorem dX10_init_117 : decode cX10_init 117 = .ok (.iconst (-1), 1) := by decide +kernel
theorem dX10_init_118 : decode cX10_init 118 = .ok (.iastore, 1) := by decide +kernel
theorem dX10_init_119 : decode cX10_init 119 = .ok (.dup, 1) := by decide +kernel
theorem dX10_init_120 : decode cX10_init 120 = .ok (.iconst 1, 1) := by decide +kernel
theorem dX10_init_121 : decode cX10_init 121 = .ok (.iconst (-1), 1) := by decide +kernel
theorem dX10_init_122 : decode cX10_init 122 = .ok (.iastore, 1) := by decide +kernel
theorem dX10_init_123 : decode cX10_init 123 = .ok (.dup, 1) := by decide +kernel
theorem dX10_init_124 : decode cX10_init 124 = .ok (.iconst 2, 1) := by decide +kernel
theorem dX10_init_125 : decode cX10_init 125 = .ok (.iconst (-1), 1) := by decide +kernel
theorem dX10_init_126 : decode cX10_init 126 = .ok (.iastore, 1) := by decide +kernel
theorem dX10_init_127 : decode cX10_init 127 = .ok (.dup, 1) := by decide +kernel
theorem dX10_init_128 : decode cX10_init 128 = .ok (.iconst 3, 1) := by decide +kernel
theorem dX10_init_129 : decode cX10_init 129 = .ok (.iconst (-1), 1) := by decide +kernel
theorem dX10_init_130 : decode cX10_init 130 = .ok (.iastore, 1) := by decide +kernel
theorem dX10_init_131 : decode cX10_init 131 = .ok (.dup, 1) := by decide +kernel
theorem dX10_init_132 : decode cX10_init 132 = .ok (.iconst 4, 1) := by decide +kernel
theorem dX10_init_133 : decode cX10_init 133 = .ok (.iconst (-1), 1) := by decide +kernel
theorem dX10_init_134 : decode cX10_init 134 = .ok (.iastore, 1) := by decide +kernel
theorem dX10_init_135 : decode cX10_init 135 = .ok (.dup, 1) := by decide +kernel
theorem dX10_init_136 : decode cX10_init 136 = .ok (.iconst 5, 1) := by decide +kernel
theorem dX10_init_137 : decode cX10_init 137 = .ok (.iconst (-1), 1) := by decide +kernel
theorem dX10_init_138 : decode cX10_init 138 = .ok (.iastore, 1) := by decide +kernel
theorem dX10_init_139 : decode cX10_init 139 = .ok (.putfield 26, 3) := by decide +kernel
theorem dX10_init_142 : decode cX10_init 142 = .ok (.aload_n 0, 1) := by decide +kernel
theorem dX10_init_143 : decode cX10_init 143 = .ok (.bipush 8, 2) := by decide +kernel
theorem dX10_init_145 : decode cX10_init 145 = .ok (.newarray .int, 2) := by decide +kernel
theorem dX10_init_147 : decode cX10_init 147 = .ok (.putfield 29, 3) := by decide +kernel
theorem dX10_init_150 : decode cX10_init 150 = .ok (.aload_n 0, 1) := by decide +kernel
theorem dX10_init_151 : decode cX10_init 151 = .ok (.bipush 8, 2) := by decide +kernel
theorem dX10_init_153 : decode cX10_init 153 = .ok (.newarray .int, 2) := by decide +kernel
theorem dX10_init_155 : decode cX10_init 155 = .ok (.putfield 32, 3) := by decide +kernel
theorem dX10_init_158 : decode cX10_init 158 = .ok (.aload_n 0, 1) := by decide +kernel
theorem dX10_init_159 : decode cX10_init 159 = .ok (.bipush 8, 2) := by decide +kernel
theorem dX10_init_161 : decode cX10_init 161 = .ok (.newarray .int, 2) := by decide +kernel
theorem dX10_init_163 : decode cX10_init 163 = .ok (.putfield 35, 3) := by decide +kernel
theorem dX10_init_166 : decode cX10_init 166 = .ok (.aload_n 0, 1) := by decide +kernel
theorem dX10_init_167 : decode cX10_init 167 = .ok (.bipush 8, 2) := by decide +kernel
theorem dX10_init_169 : decode cX10_init 169 = .ok (.newarray .int, 2) := by decide +kernel
theorem dX10_init_171 : decode cX10_init 171 = .ok (.putfield 38, 3) := by decide +kernel
theorem dX10_init_174 : decode cX10_init 174 = .ok (.aload_n 0, 1) := by decide +kernel
theorem dX10_init_175 : decode cX10_init 175 = .ok (.bipush 8, 2) := by decide +kernel
theorem dX10_init_177 : decode cX10_init 177 = .ok (.newarray .int, 2) := by decide +kernel
theorem dX10_init_179 : decode cX10_init 179 = .ok (.putfield 41, 3) := by decide +kernel
theorem dX10_init_182 : decode cX10_init 182 = .ok (.aload_n 0, 1) := by decide +kernel
theorem dX10_init_183 : decode cX10_init 183 = .ok (.bipush 8, 2) := by decide +kernel
theorem dX10_init_185 : decode cX10_init 185 = .ok (.newarray .int, 2) := by decide +kernel
theorem dX10_init_187 : decode cX10_init 187 = .ok (.putfield 44, 3) := by decide +kernel
theorem dX10_init_190 : decode cX10_init 190 = .ok (.aload_n 0, 1) := by decide +kernel
theorem dX10_init_191 : decode cX10_init 191 = .ok (.bipush 8, 2) := by decide +kernel
theorem dX10_init_193 : decode cX10_init 193 = .ok (.newarray .int, 2) := by decide +kernel
theorem dX10_init_195 : decode cX10_init 195 = .ok (.putfield 47, 3) := by decide +kernel
theorem dX10_init_198 : decode cX10_init 198 = .ok (.aload_n 0, 1) := by decide +kernel
theorem dX10_init_199 : decode cX10_init 199 = .ok (.bipush 48, 2) := by decide +kernel
theorem dX10_init_201 : decode cX10_init 201 = .ok (.newarray .int, 2) := by decide +kernel
theorem dX10_init_203 : decode cX10_init 203 = .ok (.putfield 50, 3) := by decide +kernel
theorem dX10_init_206 : decode cX10_init 206 = .ok (.aload_n 0, 1) := by decide +kernel
theorem dX10_init_207 : decode cX10_init 207 = .ok (.bipush 12, 2) := by decide +kernel
theorem dX10_init_209 : decode cX10_init 209 = .ok (.newarray .int, 2) := by decide +kernel
theorem dX10_init_211 : decode cX10_init 211 = .ok (.putfield 53, 3) := by decide +kernel
theorem dX10_init_214 : decode cX10_init 214 = .ok (.aload_n 0, 1) := by decide +kernel
theorem dX10_init_215 : decode cX10_init 215 = .ok (.bipush 12, 2) := by decide +kernel
theorem dX10_init_217 : decode cX10_init 217 = .ok (.newarray .int, 2) := by decide +kernel
theorem dX10_init_219 : decode cX10_init 219 = .ok (.putfield 56, 3) := by decide +kernel
theorem dX10_init_222 : decode cX10_init 222 = .ok (.aload_n 0, 1) := by decide +kernel
theorem dX10_init_223 : decode cX10_init 223 = .ok (.bipush 12, 2) := by decide +kernel
theorem dX10_init_225 : decode cX10_init 225 = .ok (.newarray .int, 2) := by decide +kernel
theorem dX10_init_227 : decode cX10_init 227 = .ok (.putfield 59, 3) := by decide +kernel
theorem dX10_init_230 : decode cX10_init 230 = .ok (.aload_n 0, 1) := by decide +kernel
theorem dX10_init_231 : decode cX10_init 231 = .ok (.bipush 12, 2) := by decide +kernel
theorem dX10_init_233 : decode cX10_init 233 = .ok (.newarray .int, 2) := by decide +kernel
theorem dX10_init_235 : decode cX10_init 235 = .ok (.putfield 62, 3) := by decide +kernel
theorem dX10_init_238 : decode cX10_init 238 = .ok (.aload_n 0, 1) := by decide +kernel
theorem dX10_init_239 : decode cX10_init 239 = .ok (.bipush 100, 2) := by decide +kernel
theorem dX10_init_241 : decode cX10_init 241 = .ok (.newarray .int, 2) := by decide +kernel
theorem dX10_init_243 : decode cX10_init 243 = .ok (.putfield 65, 3) := by decide +kernel
theorem dX10_init_246 : decode cX10_init 246 = .ok (.aload_n 0, 1) := by decide +kernel
theorem dX10_init_247 : decode cX10_init 247 = .ok (.bipush 100, 2) := by decide +kernel
theorem dX10_init_249 : decode cX10_init 249 = .ok (.newarray .int, 2) := by decide +kernel
theorem dX10_init_251 : decode cX10_init 251 = .ok (.putfield 68, 3) := by decide +kernel
theorem dX10_init_254 : decode cX10_init 254 = .ok (.aload_n 0, 1) := by decide +kernel
theorem dX10_init_255 : decode cX10_init 255 = .ok (.bipush 100, 2) := by decide +kernel
theorem dX10_init_257 : decode cX10_init 257 = .ok (.newarray .int, 2) := by decide +kernel
theorem dX10_init_259 : decode cX10_init 259 = .ok (.putfield 71, 3) := by decide +kernel
theorem dX10_init_262 : decode cX10_init 262 = .ok (.aload_n 0, 1) := by decide +kernel
theorem dX10_init_263 : decode cX10_init 263 = .ok (.bipush 100, 2) := by decide +kernel
theorem dX10_init_265 : decode cX10_init 265 = .ok (.newarray .int, 2) := by decide +kernel
theorem dX10_init_267 : decode cX10_init 267 = .ok (.putfield 74, 3) := by decide +kernel
theorem dX10_init_270 : decode cX10_init 270 = .ok (.aload_n 0, 1) := by decide +kernel
theorem dX10_init_271 : decode cX10_init 271 = .ok (.bipush 100, 2) := by decide +kernel
theorem dX10_init_273 : decode cX10_init 273 = .ok (.newarray .int, 2) := by decide +kernel
theorem dX10_init_275 : decode cX10_init 275 = .ok (.putfield 77, 3) := by decide +kernel
theorem dX10_init_278 : decode cX10_init 278 = .ok (.aload_n 0, 1) := by decide +kernel
theorem dX10_init_279 : decode cX10_init 279 = .ok (.bipush 100, 2) := by decide +kernel
theorem dX10_init_281 : decode cX10_init 281 = .ok (.newarray .int, 2) := by decide +kernel
theorem dX10_init_283 : decode cX10_init 283 = .ok (.putfield 80, 3) := by decide +kernel
theorem dX10_init_286 : decode cX10_init 286 = .ok (.aload_n 0, 1) := by decide +kernel
theorem dX10_init_287 : decode cX10_init 287 = .ok (.bipush 6, 2) := by decide +kernel
theorem dX10_init_289 : decode cX10_init 289 = .ok (.newarray .int, 2) := by decide +kernel
theorem dX10_init_291 : decode cX10_init 291 = .ok (.putfield 83, 3) := by decide +kernel
theorem dX10_init_294 : decode cX10_init 294 = .ok (.aload_n 0, 1) := by decide +kernel
theorem dX10_init_295 : decode cX10_init 295 = .ok (.bipush 6, 2) := by decide +kernel
theorem dX10_init_297 : decode cX10_init 297 = .ok (.newarray .int, 2) := by decide +kernel
theorem dX10_init_299 : decode cX10_init 299 = .ok (.putfield 86, 3) := by decide +kernel
theorem dX10_init_302 : decode cX10_init 302 = .ok (.aload_n 0, 1) := by decide +kernel
theorem dX10_init_303 : decode cX10_init 303 = .ok (.bipush 6, 2) := by decide +kernel
theorem dX10_init_305 : decode cX10_init 305 = .ok (.newarray .boolean, 2) := by decide +kernel
theorem dX10_init_307 : decode cX10_init 307 = .ok (.putfield 89, 3) := by decide +kernel
theorem dX10_init_310 : decode cX10_init 310 = .ok (.aload_n 0, 1) := by decide +kernel
theorem dX10_init_311 : decode cX10_init 311 = .ok (.bipush 6, 2) := by decide +kernel
theorem dX10_init_313 : decode cX10_init 313 = .ok (.newarray .int, 2) := by decide +kernel
theorem dX10_init_315 : decode cX10_init 315 = .ok (.putfield 93, 3) := by decide +kernel
theorem dX10_init_318 : decode cX10_init 318 = .ok (.aload_n 0, 1) := by decide +kernel
theorem dX10_init_319 : decode cX10_init 319 = .ok (.bipush 6, 2) := by decide +kernel
theorem dX10_init_321 : decode cX10_init 321 = .ok (.newarray .boolean, 2) := by decide +kernel
theorem dX10_init_323 : decode cX10_init 323 = .ok (.putfield 96, 3) := by decide +kernel
theorem dX10_init_326 : decode cX10_init 326 = .ok (.aload_n 0, 1) := by decide +kernel
theorem dX10_init_327 : decode cX10_init 327 = .ok (.bipush 20, 2) := by decide +kernel
theorem dX10_init_329 : decode cX10_init 329 = .ok (.newarray .int, 2) := by decide +kernel
theorem dX10_init_331 : decode cX10_init 331 = .ok (.putfield 99, 3) := by decide +kernel
theorem dX10_init_334 : decode cX10_init 334 = .ok (.aload_n 0, 1) := by decide +kernel
theorem dX10_init_335 : decode cX10_init 335 = .ok (.bipush 20, 2) := by decide +kernel
theorem dX10_init_337 : decode cX10_init 337 = .ok (.newarray .int, 2) := by decide +kernel
theorem dX10_init_339 : decode cX10_init 339 = .ok (.putfield 102, 3) := by decide +kernel
theorem dX10_init_342 : decode cX10_init 342 = .ok (.aload_n 0, 1) := by decide +kernel
theorem dX10_init_343 : decode cX10_init 343 = .ok (.bipush 20, 2) := by decide +kernel
theorem dX10_init_345 : decode cX10_init 345 = .ok (.newarray .int, 2) := by decide +kernel
theorem dX10_init_347 : decode cX10_init 347 = .ok (.putfield 105, 3) := by decide +kernel
theorem dX10_init_350 : decode cX10_init 350 = .ok (.aload_n 0, 1) := by decide +kernel
theorem dX10_init_351 : decode cX10_init 351 = .ok (.bipush 60, 2) := by decide +kernel
theorem dX10_init_353 : decode cX10_init 353 = .ok (.newarray .int, 2) := by decide +kernel
theorem dX10_init_355 : decode cX10_init 355 = .ok (.putfield 108, 3) := by decide +kernel
theorem dX10_init_358 : decode cX10_init 358 = .ok (.aload_n 0, 1) := by decide +kernel
theorem dX10_init_359 : decode cX10_init 359 = .ok (.bipush 60, 2) := by decide +kernel
theorem dX10_init_361 : decode cX10_init 361 = .ok (.newarray .int, 2) := by decide +kernel
theorem dX10_init_363 : decode cX10_init 363 = .ok (.putfield 111, 3) := by decide +kernel
theorem dX10_init_366 : decode cX10_init 366 = .ok (.aload_n 0, 1) := by decide +kernel
theorem dX10_init_367 : decode cX10_init 367 = .ok (.bipush 60, 2) := by decide +kernel
theorem dX10_init_369 : decode cX10_init 369 = .ok (.newarray .int, 2) := by decide +kernel
theorem dX10_init_371 : decode cX10_init 371 = .ok (.putfield 114, 3) := by decide +kernel
theorem dX10_init_374 : decode cX10_init 374 = .ok (.aload_n 0, 1) := by decide +kernel
theorem dX10_init_375 : decode cX10_init 375 = .ok (.bipush 6, 2) := by decide +kernel
theorem dX10_init_377 : decode cX10_init 377 = .ok (.newarray .int, 2) := by decide +kernel
theorem dX10_init_379 : decode cX10_init 379 = .ok (.putfield 117, 3) := by decide +kernel
theorem dX10_init_382 : decode cX10_init 382 = .ok (.aload_n 0, 1) := by decide +kernel
theorem dX10_init_383 : decode cX10_init 383 = .ok (.bipush 6, 2) := by decide +kernel
theorem dX10_init_385 : decode cX10_init 385 = .ok (.newarray .int, 2) := by decide +kernel
theorem dX10_init_387 : decode cX10_init 387 = .ok (.putfield 120, 3) := by decide +kernel
theorem dX10_init_390 : decode cX10_init 390 = .ok (.aload_n 0, 1) := by decide +kernel
theorem dX10_init_391 : decode cX10_init 391 = .ok (.bipush 34, 2) := by decide +kernel
theorem dX10_init_393 : decode cX10_init 393 = .ok (.newarray .int, 2) := by decide +kernel
theorem dX10_init_395 : decode cX10_init 395 = .ok (.putfield 123, 3) := by decide +kernel
theorem dX10_init_398 : decode cX10_init 398 = .ok (.aload_n 0, 1) := by decide +kernel
theorem dX10_init_399 : decode cX10_init 399 = .ok (.bipush 34, 2) := by decide +kernel
theorem dX10_init_401 : decode cX10_init 401 = .ok (.newarray .int, 2) := by decide +kernel
theorem dX10_init_403 : decode cX10_init 403 = .ok (.putfield 126, 3) := by decide +kernel
theorem dX10_init_406 : decode cX10_init 406 = .ok (.aload_n 0, 1) := by decide +kernel
theorem dX10_init_407 : decode cX10_init 407 = .ok (.bipush 34, 2) := by decide +kernel
theorem dX10_init_409 : decode cX10_init 409 = .ok (.newarray .int, 2) := by decide +kernel
theorem dX10_init_411 : decode cX10_init 411 = .ok (.putfield 129, 3) := by decide +kernel
theorem dX10_init_414 : decode cX10_init 414 = .ok (.aload_n 0, 1) := by decide +kernel
theorem dX10_init_415 : decode cX10_init 415 = .ok (.bipush 8, 2) := by decide +kernel
theorem dX10_init_417 : decode cX10_init 417 = .ok (.newarray .int, 2) := by decide +kernel
theorem dX10_init_419 : decode cX10_init 419 = .ok (.putfield 132, 3) := by decide +kernel
theorem dX10_init_422 : decode cX10_init 422 = .ok (.aload_n 0, 1) := by decide +kernel
theorem dX10_init_423 : decode cX10_init 423 = .ok (.bipush 8, 2) := by decide +kernel
theorem dX10_init_425 : decode cX10_init 425 = .ok (.newarray .int, 2) := by decide +kernel
theorem dX10_init_427 : decode cX10_init 427 = .ok (.putfield 135, 3) := by decide +kernel
theorem dX10_init_430 : decode cX10_init 430 = .ok (.aload_n 0, 1) := by decide +kernel
theorem dX10_init_431 : decode cX10_init 431 = .ok (.bipush 30, 2) := by decide +kernel
theorem dX10_init_433 : decode cX10_init 433 = .ok (.newarray .int, 2) := by decide +kernel
theorem dX10_init_435 : decode cX10_init 435 = .ok (.putfield 138, 3) := by decide +kernel
theorem dX10_init_438 : decode cX10_init 438 = .ok (.aload_n 0, 1) := by decide +kernel
theorem dX10_init_439 : decode cX10_init 439 = .ok (.bipush 6, 2) := by decide +kernel
theorem dX10_init_441 : decode cX10_init 441 = .ok (.newarray .int, 2) := by decide +kernel
theorem dX10_init_443 : decode cX10_init 443 = .ok (.putfield 141, 3) := by decide +kernel
theorem dX10_init_446 : decode cX10_init 446 = .ok (.return_, 1) := by decide +kernel
theorem dX10_in_0 : decode cX10_in 0 = .ok (.iload_n 0, 1) := by decide +kernel
theorem dX10_in_1 : decode cX10_in 1 = .ok (.iload_n 1, 1) := by decide +kernel
theorem dX10_in_2 : decode cX10_in 2 = .ok (.if_icmp .lt 12, 3) := by decide +kernel
theorem dX10_in_5 : decode cX10_in 5 = .ok (.iload_n 0, 1) := by decide +kernel
theorem dX10_in_6 : decode cX10_in 6 = .ok (.iload_n 2, 1) := by decide +kernel
theorem dX10_in_7 : decode cX10_in 7 = .ok (.if_icmp .gt 7, 3) := by decide +kernel
theorem dX10_in_10 : decode cX10_in 10 = .ok (.iconst 1, 1) := by decide +kernel
theorem dX10_in_11 : decode cX10_in 11 = .ok (.goto 4, 3) := by decide +kernel
theorem dX10_in_14 : decode cX10_in 14 = .ok (.iconst 0, 1) := by decide +kernel
theorem dX10_in_15 : decode cX10_in 15 = .ok (.ireturn, 1) := by decide +kernel
theorem dX10_refuse_0 : decode cX10_refuse 0 = .ok (.aload_n 0, 1) := by decide +kernel
theorem dX10_refuse_1 : decode cX10_refuse 1 = .ok (.getfield 135, 3) := by decide +kernel
theorem dX10_refuse_4 : decode cX10_refuse 4 = .ok (.iload_n 1, 1) := by decide +kernel
theorem dX10_refuse_5 : decode cX10_refuse 5 = .ok (.ineg, 1) := by decide +kernel
theorem dX10_refuse_6 : decode cX10_refuse 6 = .ok (.dup2, 1) := by decide +kernel
theorem dX10_refuse_7 : decode cX10_refuse 7 = .ok (.iaload, 1) := by decide +kernel
theorem dX10_refuse_8 : decode cX10_refuse 8 = .ok (.iconst 1, 1) := by decide +kernel
theorem dX10_refuse_9 : decode cX10_refuse 9 = .ok (.iadd, 1) := by decide +kernel
theorem dX10_refuse_10 : decode cX10_refuse 10 = .ok (.iastore, 1) := by decide +kernel
theorem dX10_refuse_11 : decode cX10_refuse 11 = .ok (.iload_n 1, 1) := by decide +kernel
theorem dX10_refuse_12 : decode cX10_refuse 12 = .ok (.ireturn, 1) := by decide +kernel
set_option maxRecDepth 20000 in
theorem ggX10_isCove_X10_in : GoodIn wsX10_isCove wsX10_in := goodIn_r _ [4] (by decide +kernel) (by decide +kernel)
set_option maxRecDepth 20000 in
theorem gX10_isCove_X10_in : GoodIn wsX10_isCove (va_wsS RX10 144 yX10_in wsX10_in) := goodIn_app (goodIn_of _ (by decide +kernel)) ggX10_isCove_X10_in
theorem dX10_isCove_0 : decode cX10_isCove 0 = .ok (.iload_n 0, 1) := by decide +kernel
theorem dX10_isCove_1 : decode cX10_isCove 1 = .ok (.iconst 0, 1) := by decide +kernel
theorem dX10_isCove_2 : decode cX10_isCove 2 = .ok (.iconst 5, 1) := by decide +kernel
theorem dX10_isCove_3 : decode cX10_isCove 3 = .ok (.invokestatic 144, 3) := by decide +kernel
theorem dX10_isCove_6 : decode cX10_isCove 6 = .ok (.ireturn, 1) := by decide +kernel
theorem dX10_seed_0 : decode cX10_seed 0 = .ok (.aload_n 0, 1) := by decide +kernel
theorem dX10_seed_1 : decode cX10_seed 1 = .ok (.getfield 7, 3) := by decide +kernel
theorem dX10_seed_4 : decode cX10_seed 4 = .ok (.istore_n 2, 1) := by decide +kernel
theorem dX10_seed_5 : decode cX10_seed 5 = .ok (.aload_n 0, 1) := by decide +kernel
theorem dX10_seed_6 : decode cX10_seed 6 = .ok (.iload_n 1, 1) := by decide +kernel
theorem dX10_seed_7 : decode cX10_seed 7 = .ok (.putfield 7, 3) := by decide +kernel
theorem dX10_seed_10 : decode cX10_seed 10 = .ok (.iload_n 2, 1) := by decide +kernel
theorem dX10_seed_11 : decode cX10_seed 11 = .ok (.ireturn, 1) := by decide +kernel
set_option maxRecDepth 20000 in
theorem ggX10_cove_X10_isCove : GoodIn wsX10_cove wsX10_isCove := goodIn_r _ [6, 7, 8, 5, 9] (by decide +kernel) (by decide +kernel)
set_option maxRecDepth 20000 in
theorem gX10_cove_X10_isCove : GoodIn wsX10_cove (va_wsS RX10 148 yX10_isCove wsX10_isCove) := goodIn_app (goodIn_of _ (by decide +kernel)) ggX10_cove_X10_isCove
set_option maxRecDepth 20000 in
theorem ggX10_cove_X10_refuse : GoodIn wsX10_cove wsX10_refuse := goodIn_r _ [13, 14, 15, 16, 17, 18, 19, 20, 21, 22, 23, 24, 25, 26, 27, 28, 29, 30, 31, 32, 33, 34, 35, 36, 37, 38, 39, 40, 41, 42, 43, 44, 45, 46, 47, 48, 49, 50, 51, 52, 53, 54, 55, 56, 57, 58, 59, 60, 61, 62, 63, 64, 65, 66, 67, 68] (by decide +kernel) (by decide +kernel)
set_option maxRecDepth 20000 in
theorem gX10_cove_X10_refuse : GoodIn wsX10_cove (wsV RX10 152 RX10 yX10_refuse wsX10_refuse) := goodIn_app (goodIn_of _ (by decide +kernel)) ggX10_cove_X10_refuse
theorem dX10_cove_0 : decode cX10_cove 0 = .ok (.iload_n 1, 1) := by decide +kernel
theorem dX10_cove_1 : decode cX10_cove 1 = .ok (.invokestatic 148, 3) := by decide +kernel
theorem dX10_cove_4 : decode cX10_cove 4 = .ok (.ifCond .ne 9, 3) := by decide +kernel
theorem dX10_cove_7 : decode cX10_cove 7 = .ok (.aload_n 0, 1) := by decide +kernel
theorem dX10_cove_8 : decode cX10_cove 8 = .ok (.iconst (-1), 1) := by decide +kernel
theorem dX10_cove_9 : decode cX10_cove 9 = .ok (.invokevirtual 152, 3) := by decide +kernel
theorem dX10_cove_12 : decode cX10_cove 12 = .ok (.ireturn, 1) := by decide +kernel
theorem dX10_cove_13 : decode cX10_cove 13 = .ok (.iload_n 2, 1) := by decide +kernel
theorem dX10_cove_14 : decode cX10_cove 14 = .ok (.ifCond .lt 8, 3) := by decide +kernel
theorem dX10_cove_17 : decode cX10_cove 17 = .ok (.iload_n 3, 1) := by decide +kernel
theorem dX10_cove_18 : decode cX10_cove 18 = .ok (.iconst 1, 1) := by decide +kernel
theorem dX10_cove_19 : decode cX10_cove 19 = .ok (.if_icmp .ge 10, 3) := by decide +kernel
theorem dX10_cove_22 : decode cX10_cove 22 = .ok (.aload_n 0, 1) := by decide +kernel
theorem dX10_cove_23 : decode cX10_cove 23 = .ok (.bipush (-4), 2) := by decide +kernel
theorem dX10_cove_25 : decode cX10_cove 25 = .ok (.invokevirtual 152, 3) := by decide +kernel
theorem dX10_cove_28 : decode cX10_cove 28 = .ok (.ireturn, 1) := by decide +kernel
theorem dX10_cove_29 : decode cX10_cove 29 = .ok (.iload_n 2, 1) := by decide +kernel
theorem dX10_cove_30 : decode cX10_cove 30 = .ok (.bipush 9, 2) := by decide +kernel
theorem dX10_cove_32 : decode cX10_cove 32 = .ok (.if_icmp .gt 9, 3) := by decide +kernel
theorem dX10_cove_35 : decode cX10_cove 35 = .ok (.iload_n 3, 1) := by decide +kernel
theorem dX10_cove_36 : decode cX10_cove 36 = .ok (.bipush 99, 2) := by decide +kernel
theorem dX10_cove_38 : decode cX10_cove 38 = .ok (.if_icmp .le 10, 3) := by decide +kernel
theorem dX10_cove_41 : decode cX10_cove 41 = .ok (.aload_n 0, 1) := by decide +kernel
theorem dX10_cove_42 : decode cX10_cove 42 = .ok (.bipush (-6), 2) := by decide +kernel
theorem dX10_cove_44 : decode cX10_cove 44 = .ok (.invokevirtual 152, 3) := by decide +kernel
theorem dX10_cove_47 : decode cX10_cove 47 = .ok (.ireturn, 1) := by decide +kernel
theorem dX10_cove_48 : decode cX10_cove 48 = .ok (.aload_n 0, 1) := by decide +kernel
theorem dX10_cove_49 : decode cX10_cove 49 = .ok (.getfield 13, 3) := by decide +kernel
theorem dX10_cove_52 : decode cX10_cove 52 = .ok (.iload_n 1, 1) := by decide +kernel
theorem dX10_cove_53 : decode cX10_cove 53 = .ok (.iload_n 2, 1) := by decide +kernel
theorem dX10_cove_54 : decode cX10_cove 54 = .ok (.iastore, 1) := by decide +kernel
theorem dX10_cove_55 : decode cX10_cove 55 = .ok (.aload_n 0, 1) := by decide +kernel
theorem dX10_cove_56 : decode cX10_cove 56 = .ok (.getfield 17, 3) := by decide +kernel
theorem dX10_cove_59 : decode cX10_cove 59 = .ok (.iload_n 1, 1) := by decide +kernel
theorem dX10_cove_60 : decode cX10_cove 60 = .ok (.iload_n 3, 1) := by decide +kernel
theorem dX10_cove_61 : decode cX10_cove 61 = .ok (.iastore, 1) := by decide +kernel
theorem dX10_cove_62 : decode cX10_cove 62 = .ok (.iconst 1, 1) := by decide +kernel
theorem dX10_cove_63 : decode cX10_cove 63 = .ok (.ireturn, 1) := by decide +kernel
set_option maxRecDepth 20000 in
theorem ggX10_row_X10_in : GoodIn wsX10_row wsX10_in := goodIn_r _ [6] (by decide +kernel) (by decide +kernel)
set_option maxRecDepth 20000 in
theorem gX10_row_X10_in : GoodIn wsX10_row (va_wsS RX10 144 yX10_in wsX10_in) := goodIn_app (goodIn_of _ (by decide +kernel)) ggX10_row_X10_in
set_option maxRecDepth 20000 in
theorem ggX10_row_X10_refuse : GoodIn wsX10_row wsX10_refuse := goodIn_r _ [10, 11, 12, 13, 14, 15, 16, 17, 18, 19, 20, 21, 22, 23, 24, 25, 26, 27, 28, 29, 30, 31, 32, 33, 34, 35, 36, 37, 38, 39, 40, 41, 42, 43, 44, 45, 46, 47, 48, 49, 50, 51, 52, 53, 54, 55, 56, 57, 58, 59, 60, 61, 62, 63, 64, 65] (by decide +kernel) (by decide +kernel)
set_option maxRecDepth 20000 in
theorem gX10_row_X10_refuse : GoodIn wsX10_row (wsV RX10 152 RX10 yX10_refuse wsX10_refuse) := goodIn_app (goodIn_of _ (by decide +kernel)) ggX10_row_X10_refuse
theorem dX10_row_0 : decode cX10_row 0 = .ok (.iload_n 1, 1) := by decide +kernel
theorem dX10_row_1 : decode cX10_row 1 = .ok (.iconst 0, 1) := by decide +kernel
theorem dX10_row_2 : decode cX10_row 2 = .ok (.iconst 3, 1) := by decide +kernel
theorem dX10_row_3 : decode cX10_row 3 = .ok (.invokestatic 144, 3) := by decide +kernel
theorem dX10_row_6 : decode cX10_row 6 = .ok (.ifCond .ne 9, 3) := by decide +kernel
theorem dX10_row_9 : decode cX10_row 9 = .ok (.aload_n 0, 1) := by decide +kernel
theorem dX10_row_10 : decode cX10_row 10 = .ok (.iconst (-1), 1) := by decide +kernel
theorem dX10_row_11 : decode cX10_row 11 = .ok (.invokevirtual 152, 3) := by decide +kernel
theorem dX10_row_14 : decode cX10_row 14 = .ok (.ireturn, 1) := by decide +kernel
theorem dX10_row_15 : decode cX10_row 15 = .ok (.iload_n 2, 1) := by decide +kernel
theorem dX10_row_16 : decode cX10_row 16 = .ok (.ifCond .ge 10, 3) := by decide +kernel
theorem dX10_row_19 : decode cX10_row 19 = .ok (.aload_n 0, 1) := by decide +kernel
theorem dX10_row_20 : decode cX10_row 20 = .ok (.bipush (-4), 2) := by decide +kernel
theorem dX10_row_22 : decode cX10_row 22 = .ok (.invokevirtual 152, 3) := by decide +kernel
theorem dX10_row_25 : decode cX10_row 25 = .ok (.ireturn, 1) := by decide +kernel
theorem dX10_row_26 : decode cX10_row 26 = .ok (.iload_n 2, 1) := by decide +kernel
theorem dX10_row_27 : decode cX10_row 27 = .ok (.bipush 30, 2) := by decide +kernel
theorem dX10_row_29 : decode cX10_row 29 = .ok (.if_icmp .le 10, 3) := by decide +kernel
theorem dX10_row_32 : decode cX10_row 32 = .ok (.aload_n 0, 1) := by decide +kernel
theorem dX10_row_33 : decode cX10_row 33 = .ok (.bipush (-6), 2) := by decide +kernel
theorem dX10_row_35 : decode cX10_row 35 = .ok (.invokevirtual 152, 3) := by decide +kernel
theorem dX10_row_38 : decode cX10_row 38 = .ok (.ireturn, 1) := by decide +kernel
theorem dX10_row_39 : decode cX10_row 39 = .ok (.aload_n 0, 1) := by decide +kernel
theorem dX10_row_40 : decode cX10_row 40 = .ok (.getfield 20, 3) := by decide +kernel
theorem dX10_row_43 : decode cX10_row 43 = .ok (.iload_n 1, 1) := by decide +kernel
theorem dX10_row_44 : decode cX10_row 44 = .ok (.iload_n 2, 1) := by decide +kernel
theorem dX10_row_45 : decode cX10_row 45 = .ok (.iastore, 1) := by decide +kernel
theorem dX10_row_46 : decode cX10_row 46 = .ok (.iconst 0, 1) := by decide +kernel
theorem dX10_row_47 : decode cX10_row 47 = .ok (.istore_n 3, 1) := by decide +kernel
theorem dX10_row_48 : decode cX10_row 48 = .ok (.iload_n 3, 1) := by decide +kernel
theorem dX10_row_49 : decode cX10_row 49 = .ok (.iload_n 2, 1) := by decide +kernel
theorem dX10_row_50 : decode cX10_row 50 = .ok (.if_icmp .ge 21, 3) := by decide +kernel
theorem dX10_row_53 : decode cX10_row 53 = .ok (.aload_n 0, 1) := by decide +kernel
theorem dX10_row_54 : decode cX10_row 54 = .ok (.getfield 23, 3) := by decide +kernel
theorem dX10_row_57 : decode cX10_row 57 = .ok (.bipush 30, 2) := by decide +kernel
theorem dX10_row_59 : decode cX10_row 59 = .ok (.iload_n 1, 1) := by decide +kernel
theorem dX10_row_60 : decode cX10_row 60 = .ok (.imul, 1) := by decide +kernel
theorem dX10_row_61 : decode cX10_row 61 = .ok (.iload_n 3, 1) := by decide +kernel
theorem dX10_row_62 : decode cX10_row 62 = .ok (.iadd, 1) := by decide +kernel
theorem dX10_row_63 : decode cX10_row 63 = .ok (.iconst 0, 1) := by decide +kernel
theorem dX10_row_64 : decode cX10_row 64 = .ok (.iastore, 1) := by decide +kernel
theorem dX10_row_65 : decode cX10_row 65 = .ok (.iinc 3 1, 3) := by decide +kernel
theorem dX10_row_68 : decode cX10_row 68 = .ok (.goto (-20), 3) := by decide +kernel
theorem dX10_row_71 : decode cX10_row 71 = .ok (.iload_n 2, 1) := by decide +kernel
theorem dX10_row_72 : decode cX10_row 72 = .ok (.ireturn, 1) := by decide +kernel
set_option maxRecDepth 20000 in
theorem ggX10_lose_X10_in : GoodIn wsX10_lose wsX10_in := goodIn_r _ [5] (by decide +kernel) (by decide +kernel)
set_option maxRecDepth 20000 in
theorem gX10_lose_X10_in : GoodIn wsX10_lose (va_wsS RX10 144 yX10_in wsX10_in) := goodIn_app (goodIn_of _ (by decide +kernel)) ggX10_lose_X10_in
set_option maxRecDepth 20000 in
theorem ggX10_lose_X10_refuse : GoodIn wsX10_lose wsX10_refuse := goodIn_r _ [9, 10, 11, 12, 13, 14, 15, 16, 17, 18, 19, 20, 21, 22, 23, 24, 25, 26, 27, 28, 29, 30, 31, 32, 33, 34, 35, 36, 37, 38, 39, 40, 41, 42, 43, 44, 45, 46, 47, 48, 49, 50, 51, 52, 53, 54, 55, 56, 57, 58, 59, 60, 61, 62, 63, 64] (by decide +kernel) (by decide +kernel)
set_option maxRecDepth 20000 in
theorem gX10_lose_X10_refuse : GoodIn wsX10_lose (wsV RX10 152 RX10 yX10_refuse wsX10_refuse) := goodIn_app (goodIn_of _ (by decide +kernel)) ggX10_lose_X10_refuse
theorem dX10_lose_0 : decode cX10_lose 0 = .ok (.iload_n 1, 1) := by decide +kernel
theorem dX10_lose_1 : decode cX10_lose 1 = .ok (.iconst 0, 1) := by decide +kernel
theorem dX10_lose_2 : decode cX10_lose 2 = .ok (.iconst 3, 1) := by decide +kernel
theorem dX10_lose_3 : decode cX10_lose 3 = .ok (.invokestatic 144, 3) := by decide +kernel
theorem dX10_lose_6 : decode cX10_lose 6 = .ok (.ifCond .ne 9, 3) := by decide +kernel
theorem dX10_lose_9 : decode cX10_lose 9 = .ok (.aload_n 0, 1) := by decide +kernel
theorem dX10_lose_10 : decode cX10_lose 10 = .ok (.iconst (-1), 1) := by decide +kernel
theorem dX10_lose_11 : decode cX10_lose 11 = .ok (.invokevirtual 152, 3) := by decide +kernel
theorem dX10_lose_14 : decode cX10_lose 14 = .ok (.ireturn, 1) := by decide +kernel
theorem dX10_lose_15 : decode cX10_lose 15 = .ok (.aload_n 0, 1) := by decide +kernel
theorem dX10_lose_16 : decode cX10_lose 16 = .ok (.getfield 20, 3) := by decide +kernel
theorem dX10_lose_19 : decode cX10_lose 19 = .ok (.iload_n 1, 1) := by decide +kernel
theorem dX10_lose_20 : decode cX10_lose 20 = .ok (.iaload, 1) := by decide +kernel
theorem dX10_lose_21 : decode cX10_lose 21 = .ok (.istore_n 2, 1) := by decide +kernel
theorem dX10_lose_22 : decode cX10_lose 22 = .ok (.aload_n 0, 1) := by decide +kernel
theorem dX10_lose_23 : decode cX10_lose 23 = .ok (.getfield 20, 3) := by decide +kernel
theorem dX10_lose_26 : decode cX10_lose 26 = .ok (.iload_n 1, 1) := by decide +kernel
theorem dX10_lose_27 : decode cX10_lose 27 = .ok (.iconst (-1), 1) := by decide +kernel
theorem dX10_lose_28 : decode cX10_lose 28 = .ok (.iastore, 1) := by decide +kernel
theorem dX10_lose_29 : decode cX10_lose 29 = .ok (.iload_n 2, 1) := by decide +kernel
theorem dX10_lose_30 : decode cX10_lose 30 = .ok (.ifCond .ge 7, 3) := by decide +kernel
theorem dX10_lose_33 : decode cX10_lose 33 = .ok (.iconst 0, 1) := by decide +kernel
theorem dX10_lose_34 : decode cX10_lose 34 = .ok (.goto 4, 3) := by decide +kernel
theorem dX10_lose_37 : decode cX10_lose 37 = .ok (.iconst 1, 1) := by decide +kernel
theorem dX10_lose_38 : decode cX10_lose 38 = .ok (.ireturn, 1) := by decide +kernel
set_option maxRecDepth 20000 in
theorem ggX10_put_X10_in : GoodIn wsX10_put wsX10_in := goodIn_r _ [6] (by decide +kernel) (by decide +kernel)
set_option maxRecDepth 20000 in
theorem gX10_put_X10_in : GoodIn wsX10_put (va_wsS RX10 144 yX10_in wsX10_in) := goodIn_app (goodIn_of _ (by decide +kernel)) ggX10_put_X10_in
set_option maxRecDepth 20000 in
theorem ggX10_put_X10_refuse : GoodIn wsX10_put wsX10_refuse := goodIn_r _ [10, 11, 12, 13, 14, 15, 16, 17, 18, 19, 20, 21, 22, 23, 24, 25, 26, 27, 28, 29, 30, 31, 32, 33, 34, 35, 36, 37, 38, 39, 40, 41, 42, 43, 44, 45, 46, 47, 48, 49, 50, 51, 52, 53, 54, 55, 56, 57, 58, 59, 60, 61, 62, 63, 64, 65] (by decide +kernel) (by decide +kernel)
set_option maxRecDepth 20000 in
theorem gX10_put_X10_refuse : GoodIn wsX10_put (wsV RX10 152 RX10 yX10_refuse wsX10_refuse) := goodIn_app (goodIn_of _ (by decide +kernel)) ggX10_put_X10_refuse
theorem dX10_put_0 : decode cX10_put 0 = .ok (.iload_n 1, 1) := by decide +kernel
theorem dX10_put_1 : decode cX10_put 1 = .ok (.iconst 0, 1) := by decide +kernel
theorem dX10_put_2 : decode cX10_put 2 = .ok (.iconst 3, 1) := by decide +kernel
theorem dX10_put_3 : decode cX10_put 3 = .ok (.invokestatic 144, 3) := by decide +kernel
theorem dX10_put_6 : decode cX10_put 6 = .ok (.ifCond .ne 9, 3) := by decide +kernel
theorem dX10_put_9 : decode cX10_put 9 = .ok (.aload_n 0, 1) := by decide +kernel
theorem dX10_put_10 : decode cX10_put 10 = .ok (.iconst (-1), 1) := by decide +kernel
theorem dX10_put_11 : decode cX10_put 11 = .ok (.invokevirtual 152, 3) := by decide +kernel
theorem dX10_put_14 : decode cX10_put 14 = .ok (.ireturn, 1) := by decide +kernel
theorem dX10_put_15 : decode cX10_put 15 = .ok (.aload_n 0, 1) := by decide +kernel
theorem dX10_put_16 : decode cX10_put 16 = .ok (.getfield 20, 3) := by decide +kernel
theorem dX10_put_19 : decode cX10_put 19 = .ok (.iload_n 1, 1) := by decide +kernel
theorem dX10_put_20 : decode cX10_put 20 = .ok (.iaload, 1) := by decide +kernel
theorem dX10_put_21 : decode cX10_put 21 = .ok (.ifCond .ge 10, 3) := by decide +kernel
theorem dX10_put_24 : decode cX10_put 24 = .ok (.aload_n 0, 1) := by decide +kernel
theorem dX10_put_25 : decode cX10_put 25 = .ok (.bipush (-5), 2) := by decide +kernel
theorem dX10_put_27 : decode cX10_put 27 = .ok (.invokevirtual 152, 3) := by decide +kernel
theorem dX10_put_30 : decode cX10_put 30 = .ok (.ireturn, 1) := by decide +kernel
theorem dX10_put_31 : decode cX10_put 31 = .ok (.iload_n 2, 1) := by decide +kernel
theorem dX10_put_32 : decode cX10_put 32 = .ok (.iconst 0, 1) := by decide +kernel
theorem dX10_put_33 : decode cX10_put 33 = .ok (.aload_n 0, 1) := by decide +kernel
theorem dX10_put_34 : decode cX10_put 34 = .ok (.getfield 20, 3) := by decide +kernel
theorem dX10_put_37 : decode cX10_put 37 = .ok (.iload_n 1, 1) := by decide +kernel
theorem dX10_put_38 : decode cX10_put 38 = .ok (.iaload, 1) := by decide +kernel
theorem dX10_put_39 : decode cX10_put 39 = .ok (.iconst 1, 1) := by decide +kernel
theorem dX10_put_40 : decode cX10_put 40 = .ok (.isub, 1) := by decide +kernel
theorem dX10_put_41 : decode cX10_put 41 = .ok (.invokestatic 144, 3) := by decide +kernel
theorem dX10_put_44 : decode cX10_put 44 = .ok (.ifCond .ne 10, 3) := by decide +kernel
theorem dX10_put_47 : decode cX10_put 47 = .ok (.aload_n 0, 1) := by decide +kernel
theorem dX10_put_48 : decode cX10_put 48 = .ok (.bipush (-7), 2) := by decide +kernel
theorem dX10_put_50 : decode cX10_put 50 = .ok (.invokevirtual 152, 3) := by decide +kernel
theorem dX10_put_53 : decode cX10_put 53 = .ok (.ireturn, 1) := by decide +kernel
theorem dX10_put_54 : decode cX10_put 54 = .ok (.iload_n 3, 1) := by decide +kernel
theorem dX10_put_55 : decode cX10_put 55 = .ok (.ifCond .ge 10, 3) := by decide +kernel
theorem dX10_put_58 : decode cX10_put 58 = .ok (.aload_n 0, 1) := by decide +kernel
theorem dX10_put_59 : decode cX10_put 59 = .ok (.bipush (-4), 2) := by decide +kernel
theorem dX10_put_61 : decode cX10_put 61 = .ok (.invokevirtual 152, 3) := by decide +kernel
theorem dX10_put_64 : decode cX10_put 64 = .ok (.ireturn, 1) := by decide +kernel
theorem dX10_put_65 : decode cX10_put 65 = .ok (.iload_n 3, 1) := by decide +kernel
theorem dX10_put_66 : decode cX10_put 66 = .ok (.bipush 20, 2) := by decide +kernel
theorem dX10_put_68 : decode cX10_put 68 = .ok (.if_icmp .le 10, 3) := by decide +kernel
theorem dX10_put_71 : decode cX10_put 71 = .ok (.aload_n 0, 1) := by decide +kernel
theorem dX10_put_72 : decode cX10_put 72 = .ok (.bipush (-6), 2) := by decide +kernel
theorem dX10_put_74 : decode cX10_put 74 = .ok (.invokevirtual 152, 3) := by decide +kernel
theorem dX10_put_77 : decode cX10_put 77 = .ok (.ireturn, 1) := by decide +kernel
theorem dX10_put_78 : decode cX10_put 78 = .ok (.aload_n 0, 1) := by decide +kernel
theorem dX10_put_79 : decode cX10_put 79 = .ok (.getfield 23, 3) := by decide +kernel
theorem dX10_put_82 : decode cX10_put 82 = .ok (.bipush 30, 2) := by decide +kernel
theorem dX10_put_84 : decode cX10_put 84 = .ok (.iload_n 1, 1) := by decide +kernel
theorem dX10_put_85 : decode cX10_put 85 = .ok (.imul, 1) := by decide +kernel
theorem dX10_put_86 : decode cX10_put 86 = .ok (.iload_n 2, 1) := by decide +kernel
theorem dX10_put_87 : decode cX10_put 87 = .ok (.iadd, 1) := by decide +kernel
theorem dX10_put_88 : decode cX10_put 88 = .ok (.iaload, 1) := by decide +kernel
theorem dX10_put_89 : decode cX10_put 89 = .ok (.istore 4, 2) := by decide +kernel
theorem dX10_put_91 : decode cX10_put 91 = .ok (.aload_n 0, 1) := by decide +kernel
theorem dX10_put_92 : decode cX10_put 92 = .ok (.getfield 23, 3) := by decide +kernel
theorem dX10_put_95 : decode cX10_put 95 = .ok (.bipush 30, 2) := by decide +kernel
theorem dX10_put_97 : decode cX10_put 97 = .ok (.iload_n 1, 1) := by decide +kernel
theorem dX10_put_98 : decode cX10_put 98 = .ok (.imul, 1) := by decide +kernel
theorem dX10_put_99 : decode cX10_put 99 = .ok (.iload_n 2, 1) := by decide +kernel
theorem dX10_put_100 : decode cX10_put 100 = .ok (.iadd, 1) := by decide +kernel
theorem dX10_put_101 : decode cX10_put 101 = .ok (.iload_n 3, 1) := by decide +kernel
theorem dX10_put_102 : decode cX10_put 102 = .ok (.iastore, 1) := by decide +kernel
theorem dX10_put_103 : decode cX10_put 103 = .ok (.iload 4, 2) := by decide +kernel
theorem dX10_put_105 : decode cX10_put 105 = .ok (.ireturn, 1) := by decide +kernel
set_option maxRecDepth 20000 in
theorem ggX10_copy_X10_in : GoodIn wsX10_copy wsX10_in := goodIn_r _ [7] (by decide +kernel) (by decide +kernel)
set_option maxRecDepth 20000 in
theorem gX10_copy_X10_in : GoodIn wsX10_copy (va_wsS RX10 144 yX10_in wsX10_in) := goodIn_app (goodIn_of _ (by decide +kernel)) ggX10_copy_X10_in
set_option maxRecDepth 20000 in
theorem ggX10_copy_X10_refuse : GoodIn wsX10_copy wsX10_refuse := goodIn_r _ [11, 12, 13, 14, 15, 16, 17, 18, 19, 20, 21, 22, 23, 24, 25, 26, 27, 28, 29, 30, 31, 32, 33, 34, 35, 36, 37, 38, 39, 40, 41, 42, 43, 44, 45, 46, 47, 48, 49, 50, 51, 52, 53, 54, 55, 56, 57, 58, 59, 60, 61, 62, 63, 64, 65, 66] (by decide +kernel) (by decide +kernel)
set_option maxRecDepth 20000 in
theorem gX10_copy_X10_refuse : GoodIn wsX10_copy (wsV RX10 152 RX10 yX10_refuse wsX10_refuse) := goodIn_app (goodIn_of _ (by decide +kernel)) ggX10_copy_X10_refuse
theorem dX10_copy_0 : decode cX10_copy 0 = .ok (.iload_n 1, 1) := by decide +kernel
theorem dX10_copy_1 : decode cX10_copy 1 = .ok (.iconst 0, 1) := by decide +kernel
theorem dX10_copy_2 : decode cX10_copy 2 = .ok (.iconst 3, 1) := by decide +kernel
theorem dX10_copy_3 : decode cX10_copy 3 = .ok (.invokestatic 144, 3) := by decide +kernel
theorem dX10_copy_6 : decode cX10_copy 6 = .ok (.ifCond .eq 12, 3) := by decide +kernel
theorem dX10_copy_9 : decode cX10_copy 9 = .ok (.iload_n 3, 1) := by decide +kernel
theorem dX10_copy_10 : decode cX10_copy 10 = .ok (.iconst 0, 1) := by decide +kernel
theorem dX10_copy_11 : decode cX10_copy 11 = .ok (.iconst 3, 1) := by decide +kernel
theorem dX10_copy_12 : decode cX10_copy 12 = .ok (.invokestatic 144, 3) := by decide +kernel
theorem dX10_copy_15 : decode cX10_copy 15 = .ok (.ifCond .ne 9, 3) := by decide +kernel
theorem dX10_copy_18 : decode cX10_copy 18 = .ok (.aload_n 0, 1) := by decide +kernel
theorem dX10_copy_19 : decode cX10_copy 19 = .ok (.iconst (-1), 1) := by decide +kernel
theorem dX10_copy_20 : decode cX10_copy 20 = .ok (.invokevirtual 152, 3) := by decide +kernel
theorem dX10_copy_23 : decode cX10_copy 23 = .ok (.ireturn, 1) := by decide +kernel
theorem dX10_copy_24 : decode cX10_copy 24 = .ok (.aload_n 0, 1) := by decide +kernel
theorem dX10_copy_25 : decode cX10_copy 25 = .ok (.getfield 20, 3) := by decide +kernel
theorem dX10_copy_28 : decode cX10_copy 28 = .ok (.iload_n 1, 1) := by decide +kernel
theorem dX10_copy_29 : decode cX10_copy 29 = .ok (.iaload, 1) := by decide +kernel
theorem dX10_copy_30 : decode cX10_copy 30 = .ok (.ifCond .lt 12, 3) := by decide +kernel
theorem dX10_copy_33 : decode cX10_copy 33 = .ok (.aload_n 0, 1) := by decide +kernel
theorem dX10_copy_34 : decode cX10_copy 34 = .ok (.getfield 20, 3) := by decide +kernel
theorem dX10_copy_37 : decode cX10_copy 37 = .ok (.iload_n 3, 1) := by decide +kernel
theorem dX10_copy_38 : decode cX10_copy 38 = .ok (.iaload, 1) := by decide +kernel
theorem dX10_copy_39 : decode cX10_copy 39 = .ok (.ifCond .ge 10, 3) := by decide +kernel
theorem dX10_copy_42 : decode cX10_copy 42 = .ok (.aload_n 0, 1) := by decide +kernel
theorem dX10_copy_43 : decode cX10_copy 43 = .ok (.bipush (-5), 2) := by decide +kernel
theorem dX10_copy_45 : decode cX10_copy 45 = .ok (.invokevirtual 152, 3) := by decide +kernel
theorem dX10_copy_48 : decode cX10_copy 48 = .ok (.ireturn, 1) := by decide +kernel
theorem dX10_copy_49 : decode cX10_copy 49 = .ok (.iload 5, 2) := by decide +kernel
theorem dX10_copy_51 : decode cX10_copy 51 = .ok (.ifCond .lt 46, 3) := by decide +kernel
theorem dX10_copy_54 : decode cX10_copy 54 = .ok (.iload 5, 2) := by decide +kernel
theorem dX10_copy_56 : decode cX10_copy 56 = .ok (.bipush 30, 2) := by decide +kernel
theorem dX10_copy_58 : decode cX10_copy 58 = .ok (.if_icmp .gt 39, 3) := by decide +kernel
theorem dX10_copy_61 : decode cX10_copy 61 = .ok (.iload_n 2, 1) := by decide +kernel
theorem dX10_copy_62 : decode cX10_copy 62 = .ok (.ifCond .lt 35, 3) := by decide +kernel
theorem dX10_copy_65 : decode cX10_copy 65 = .ok (.iload 4, 2) := by decide +kernel
theorem dX10_copy_67 : decode cX10_copy 67 = .ok (.ifCond .lt 30, 3) := by decide +kernel
theorem dX10_copy_70 : decode cX10_copy 70 = .ok (.iload_n 2, 1) := by decide +kernel
theorem dX10_copy_71 : decode cX10_copy 71 = .ok (.aload_n 0, 1) := by decide +kernel
theorem dX10_copy_72 : decode cX10_copy 72 = .ok (.getfield 20, 3) := by decide +kernel
theorem dX10_copy_75 : decode cX10_copy 75 = .ok (.iload_n 1, 1) := by decide +kernel
theorem dX10_copy_76 : decode cX10_copy 76 = .ok (.iaload, 1) := by decide +kernel
theorem dX10_copy_77 : decode cX10_copy 77 = .ok (.iload 5, 2) := by decide +kernel
theorem dX10_copy_79 : decode cX10_copy 79 = .ok (.isub, 1) := by decide +kernel
theorem dX10_copy_80 : decode cX10_copy 80 = .ok (.if_icmp .gt 17, 3) := by decide +kernel
theorem dX10_copy_83 : decode cX10_copy 83 = .ok (.iload 4, 2) := by decide +kernel
theorem dX10_copy_85 : decode cX10_copy 85 = .ok (.aload_n 0, 1) := by decide +kernel
theorem dX10_copy_86 : decode cX10_copy 86 = .ok (.getfield 20, 3) := by decide +kernel
theorem dX10_copy_89 : decode cX10_copy 89 = .ok (.iload_n 3, 1) := by decide +kernel
theorem dX10_copy_90 : decode cX10_copy 90 = .ok (.iaload, 1) := by decide +kernel
theorem dX10_copy_91 : decode cX10_copy 91 = .ok (.iload 5, 2) := by decide +kernel
theorem dX10_copy_93 : decode cX10_copy 93 = .ok (.isub, 1) := by decide +kernel
theorem dX10_copy_94 : decode cX10_copy 94 = .ok (.if_icmp .le 10, 3) := by decide +kernel
theorem dX10_copy_97 : decode cX10_copy 97 = .ok (.aload_n 0, 1) := by decide +kernel
theorem dX10_copy_98 : decode cX10_copy 98 = .ok (.bipush (-7), 2) := by decide +kernel
theorem dX10_copy_100 : decode cX10_copy 100 = .ok (.invokevirtual 152, 3) := by decide +kernel
theorem dX10_copy_103 : decode cX10_copy 103 = .ok (.ireturn, 1) := by decide +kernel
theorem dX10_copy_104 : decode cX10_copy 104 = .ok (.iconst 0, 1) := by decide +kernel
theorem dX10_copy_105 : decode cX10_copy 105 = .ok (.istore 6, 2) := by decide +kernel
theorem dX10_copy_107 : decode cX10_copy 107 = .ok (.iload 6, 2) := by decide +kernel
theorem dX10_copy_109 : decode cX10_copy 109 = .ok (.iload 5, 2) := by decide +kernel
theorem dX10_copy_111 : decode cX10_copy 111 = .ok (.if_icmp .ge 30, 3) := by decide +kernel
theorem dX10_copy_114 : decode cX10_copy 114 = .ok (.aload_n 0, 1) := by decide +kernel
theorem dX10_copy_115 : decode cX10_copy 115 = .ok (.getfield 138, 3) := by decide +kernel
theorem dX10_copy_118 : decode cX10_copy 118 = .ok (.iload 6, 2) := by decide +kernel
theorem dX10_copy_120 : decode cX10_copy 120 = .ok (.aload_n 0, 1) := by decide +kernel
theorem dX10_copy_121 : decode cX10_copy 121 = .ok (.getfield 23, 3) := by decide +kernel
theorem dX10_copy_124 : decode cX10_copy 124 = .ok (.bipush 30, 2) := by decide +kernel
theorem dX10_copy_126 : decode cX10_copy 126 = .ok (.iload_n 1, 1) := by decide +kernel
theorem dX10_copy_127 : decode cX10_copy 127 = .ok (.imul, 1) := by decide +kernel
theorem dX10_copy_128 : decode cX10_copy 128 = .ok (.iload_n 2, 1) := by decide +kernel
theorem dX10_copy_129 : decode cX10_copy 129 = .ok (.iadd, 1) := by decide +kernel
theorem dX10_copy_130 : decode cX10_copy 130 = .ok (.iload 6, 2) := by decide +kernel
theorem dX10_copy_132 : decode cX10_copy 132 = .ok (.iadd, 1) := by decide +kernel
theorem dX10_copy_133 : decode cX10_copy 133 = .ok (.iaload, 1) := by decide +kernel
theorem dX10_copy_134 : decode cX10_copy 134 = .ok (.iastore, 1) := by decide +kernel
theorem dX10_copy_135 : decode cX10_copy 135 = .ok (.iinc 6 1, 3) := by decide +kernel
theorem dX10_copy_138 : decode cX10_copy 138 = .ok (.goto (-31), 3) := by decide +kernel
theorem dX10_copy_141 : decode cX10_copy 141 = .ok (.iconst 0, 1) := by decide +kernel
theorem dX10_copy_142 : decode cX10_copy 142 = .ok (.istore 6, 2) := by decide +kernel
theorem dX10_copy_144 : decode cX10_copy 144 = .ok (.iload 6, 2) := by decide +kernel
theorem dX10_copy_146 : decode cX10_copy 146 = .ok (.iload 5, 2) := by decide +kernel
theorem dX10_copy_148 : decode cX10_copy 148 = .ok (.if_icmp .ge 31, 3) := by decide +kernel
theorem dX10_copy_151 : decode cX10_copy 151 = .ok (.aload_n 0, 1) := by decide +kernel
theorem dX10_copy_152 : decode cX10_copy 152 = .ok (.getfield 23, 3) := by decide +kernel
theorem dX10_copy_155 : decode cX10_copy 155 = .ok (.bipush 30, 2) := by decide +kernel
theorem dX10_copy_157 : decode cX10_copy 157 = .ok (.iload_n 3, 1) := by decide +kernel
theorem dX10_copy_158 : decode cX10_copy 158 = .ok (.imul, 1) := by decide +kernel
theorem dX10_copy_159 : decode cX10_copy 159 = .ok (.iload 4, 2) := by decide +kernel
theorem dX10_copy_161 : decode cX10_copy 161 = .ok (.iadd, 1) := by decide +kernel
theorem dX10_copy_162 : decode cX10_copy 162 = .ok (.iload 6, 2) := by decide +kernel
theorem dX10_copy_164 : decode cX10_copy 164 = .ok (.iadd, 1) := by decide +kernel
theorem dX10_copy_165 : decode cX10_copy 165 = .ok (.aload_n 0, 1) := by decide +kernel
theorem dX10_copy_166 : decode cX10_copy 166 = .ok (.getfield 138, 3) := by decide +kernel
theorem dX10_copy_169 : decode cX10_copy 169 = .ok (.iload 6, 2) := by decide +kernel
theorem dX10_copy_171 : decode cX10_copy 171 = .ok (.iaload, 1) := by decide +kernel
theorem dX10_copy_172 : decode cX10_copy 172 = .ok (.iastore, 1) := by decide +kernel
theorem dX10_copy_173 : decode cX10_copy 173 = .ok (.iinc 6 1, 3) := by decide +kernel
theorem dX10_copy_176 : decode cX10_copy 176 = .ok (.goto (-32), 3) := by decide +kernel
theorem dX10_copy_179 : decode cX10_copy 179 = .ok (.iload 5, 2) := by decide +kernel
theorem dX10_copy_181 : decode cX10_copy 181 = .ok (.ireturn, 1) := by decide +kernel
set_option maxRecDepth 20000 in
theorem ggX10_lead_X10_isCove : GoodIn wsX10_lead wsX10_isCove := goodIn_r _ [7, 8, 9, 6, 10] (by decide +kernel) (by decide +kernel)
set_option maxRecDepth 20000 in
theorem gX10_lead_X10_isCove : GoodIn wsX10_lead (va_wsS RX10 148 yX10_isCove wsX10_isCove) := goodIn_app (goodIn_of _ (by decide +kernel)) ggX10_lead_X10_isCove
set_option maxRecDepth 20000 in
theorem ggX10_lead_X10_in : GoodIn wsX10_lead wsX10_in := goodIn_r _ [10] (by decide +kernel) (by decide +kernel)
set_option maxRecDepth 20000 in
theorem gX10_lead_X10_in : GoodIn wsX10_lead (va_wsS RX10 144 yX10_in wsX10_in) := goodIn_app (goodIn_of _ (by decide +kernel)) ggX10_lead_X10_in
theorem dX10_lead_0 : decode cX10_lead 0 = .ok (.iload_n 1, 1) := by decide +kernel
theorem dX10_lead_1 : decode cX10_lead 1 = .ok (.invokestatic 148, 3) := by decide +kernel
theorem dX10_lead_4 : decode cX10_lead 4 = .ok (.ifCond .eq 12, 3) := by decide +kernel
theorem dX10_lead_7 : decode cX10_lead 7 = .ok (.iload_n 2, 1) := by decide +kernel
theorem dX10_lead_8 : decode cX10_lead 8 = .ok (.iconst (-1), 1) := by decide +kernel
theorem dX10_lead_9 : decode cX10_lead 9 = .ok (.iconst 3, 1) := by decide +kernel
theorem dX10_lead_10 : decode cX10_lead 10 = .ok (.invokestatic 144, 3) := by decide +kernel
theorem dX10_lead_13 : decode cX10_lead 13 = .ok (.ifCond .ne 16, 3) := by decide +kernel
theorem dX10_lead_16 : decode cX10_lead 16 = .ok (.aload_n 0, 1) := by decide +kernel
theorem dX10_lead_17 : decode cX10_lead 17 = .ok (.getfield 135, 3) := by decide +kernel
theorem dX10_lead_20 : decode cX10_lead 20 = .ok (.iconst 1, 1) := by decide +kernel
theorem dX10_lead_21 : decode cX10_lead 21 = .ok (.dup2, 1) := by decide +kernel
theorem dX10_lead_22 : decode cX10_lead 22 = .ok (.iaload, 1) := by decide +kernel
theorem dX10_lead_23 : decode cX10_lead 23 = .ok (.iconst 1, 1) := by decide +kernel
theorem dX10_lead_24 : decode cX10_lead 24 = .ok (.iadd, 1) := by decide +kernel
theorem dX10_lead_25 : decode cX10_lead 25 = .ok (.iastore, 1) := by decide +kernel
theorem dX10_lead_26 : decode cX10_lead 26 = .ok (.ldc 156, 2) := by decide +kernel
theorem dX10_lead_28 : decode cX10_lead 28 = .ok (.ireturn, 1) := by decide +kernel
theorem dX10_lead_29 : decode cX10_lead 29 = .ok (.aload_n 0, 1) := by decide +kernel
theorem dX10_lead_30 : decode cX10_lead 30 = .ok (.getfield 26, 3) := by decide +kernel
theorem dX10_lead_33 : decode cX10_lead 33 = .ok (.iload_n 1, 1) := by decide +kernel
theorem dX10_lead_34 : decode cX10_lead 34 = .ok (.iaload, 1) := by decide +kernel
theorem dX10_lead_35 : decode cX10_lead 35 = .ok (.istore_n 3, 1) := by decide +kernel
theorem dX10_lead_36 : decode cX10_lead 36 = .ok (.aload_n 0, 1) := by decide +kernel
theorem dX10_lead_37 : decode cX10_lead 37 = .ok (.getfield 26, 3) := by decide +kernel
theorem dX10_lead_40 : decode cX10_lead 40 = .ok (.iload_n 1, 1) := by decide +kernel
theorem dX10_lead_41 : decode cX10_lead 41 = .ok (.iload_n 2, 1) := by decide +kernel
theorem dX10_lead_42 : decode cX10_lead 42 = .ok (.iastore, 1) := by decide +kernel
theorem dX10_lead_43 : decode cX10_lead 43 = .ok (.iload_n 3, 1) := by decide +kernel
theorem dX10_lead_44 : decode cX10_lead 44 = .ok (.ireturn, 1) := by decide +kernel
theorem dX10_tideAt_0 : decode cX10_tideAt 0 = .ok (.aload_n 0, 1) := by decide +kernel
theorem dX10_tideAt_1 : decode cX10_tideAt 1 = .ok (.getfield 26, 3) := by decide +kernel
theorem dX10_tideAt_4 : decode cX10_tideAt 4 = .ok (.iload_n 1, 1) := by decide +kernel
theorem dX10_tideAt_5 : decode cX10_tideAt 5 = .ok (.iaload, 1) := by decide +kernel
theorem dX10_tideAt_6 : decode cX10_tideAt 6 = .ok (.istore_n 3, 1) := by decide +kernel
theorem dX10_tideAt_7 : decode cX10_tideAt 7 = .ok (.iload_n 3, 1) := by decide +kernel
theorem dX10_tideAt_8 : decode cX10_tideAt 8 = .ok (.ifCond .lt 31, 3) := by decide +kernel
theorem dX10_tideAt_11 : decode cX10_tideAt 11 = .ok (.aload_n 0, 1) := by decide +kernel
theorem dX10_tideAt_12 : decode cX10_tideAt 12 = .ok (.getfield 20, 3) := by decide +kernel
theorem dX10_tideAt_15 : decode cX10_tideAt 15 = .ok (.iload_n 3, 1) := by decide +kernel
theorem dX10_tideAt_16 : decode cX10_tideAt 16 = .ok (.iaload, 1) := by decide +kernel
theorem dX10_tideAt_17 : decode cX10_tideAt 17 = .ok (.ifCond .le 22, 3) := by decide +kernel
theorem dX10_tideAt_20 : decode cX10_tideAt 20 = .ok (.aload_n 0, 1) := by decide +kernel
theorem dX10_tideAt_21 : decode cX10_tideAt 21 = .ok (.getfield 23, 3) := by decide +kernel
theorem dX10_tideAt_24 : decode cX10_tideAt 24 = .ok (.bipush 30, 2) := by decide +kernel
theorem dX10_tideAt_26 : decode cX10_tideAt 26 = .ok (.iload_n 3, 1) := by decide +kernel
theorem dX10_tideAt_27 : decode cX10_tideAt 27 = .ok (.imul, 1) := by decide +kernel
theorem dX10_tideAt_28 : decode cX10_tideAt 28 = .ok (.iload_n 2, 1) := by decide +kernel
theorem dX10_tideAt_29 : decode cX10_tideAt 29 = .ok (.aload_n 0, 1) := by decide +kernel
theorem dX10_tideAt_30 : decode cX10_tideAt 30 = .ok (.getfield 20, 3) := by decide +kernel
theorem dX10_tideAt_33 : decode cX10_tideAt 33 = .ok (.iload_n 3, 1) := by decide +kernel
theorem dX10_tideAt_34 : decode cX10_tideAt 34 = .ok (.iaload, 1) := by decide +kernel
theorem dX10_tideAt_35 : decode cX10_tideAt 35 = .ok (.irem, 1) := by decide +kernel
theorem dX10_tideAt_36 : decode cX10_tideAt 36 = .ok (.iadd, 1) := by decide +kernel
theorem dX10_tideAt_37 : decode cX10_tideAt 37 = .ok (.iaload, 1) := by decide +kernel
theorem dX10_tideAt_38 : decode cX10_tideAt 38 = .ok (.ireturn, 1) := by decide +kernel
theorem dX10_tideAt_39 : decode cX10_tideAt 39 = .ok (.bipush 7, 2) := by decide +kernel
theorem dX10_tideAt_41 : decode cX10_tideAt 41 = .ok (.iload_n 2, 1) := by decide +kernel
theorem dX10_tideAt_42 : decode cX10_tideAt 42 = .ok (.imul, 1) := by decide +kernel
theorem dX10_tideAt_43 : decode cX10_tideAt 43 = .ok (.iconst 5, 1) := by decide +kernel
theorem dX10_tideAt_44 : decode cX10_tideAt 44 = .ok (.iload_n 1, 1) := by decide +kernel
theorem dX10_tideAt_45 : decode cX10_tideAt 45 = .ok (.imul, 1) := by decide +kernel
theorem dX10_tideAt_46 : decode cX10_tideAt 46 = .ok (.iadd, 1) := by decide +kernel
theorem dX10_tideAt_47 : decode cX10_tideAt 47 = .ok (.bipush 24, 2) := by decide +kernel
theorem dX10_tideAt_49 : decode cX10_tideAt 49 = .ok (.irem, 1) := by decide +kernel
theorem dX10_tideAt_50 : decode cX10_tideAt 50 = .ok (.istore 4, 2) := by decide +kernel
theorem dX10_tideAt_52 : decode cX10_tideAt 52 = .ok (.iload 4, 2) := by decide +kernel
theorem dX10_tideAt_54 : decode cX10_tideAt 54 = .ok (.bipush 12, 2) := by decide +kernel
theorem dX10_tideAt_56 : decode cX10_tideAt 56 = .ok (.if_icmp .gt 8, 3) := by decide +kernel
theorem dX10_tideAt_59 : decode cX10_tideAt 59 = .ok (.iload 4, 2) := by decide +kernel
theorem dX10_tideAt_61 : decode cX10_tideAt 61 = .ok (.goto 8, 3) := by decide +kernel
theorem dX10_tideAt_64 : decode cX10_tideAt 64 = .ok (.bipush 24, 2) := by decide +kernel
theorem dX10_tideAt_66 : decode cX10_tideAt 66 = .ok (.iload 4, 2) := by decide +kernel
theorem dX10_tideAt_68 : decode cX10_tideAt 68 = .ok (.isub, 1) := by decide +kernel
theorem dX10_tideAt_69 : decode cX10_tideAt 69 = .ok (.ireturn, 1) := by decide +kernel
set_option maxRecDepth 20000 in
theorem ggX10_tide_X10_isCove : GoodIn wsX10_tide wsX10_isCove := goodIn_r _ [4, 5, 6, 3, 7] (by decide +kernel) (by decide +kernel)
set_option maxRecDepth 20000 in
theorem gX10_tide_X10_isCove : GoodIn wsX10_tide (va_wsS RX10 148 yX10_isCove wsX10_isCove) := goodIn_app (goodIn_of _ (by decide +kernel)) ggX10_tide_X10_isCove
set_option maxRecDepth 20000 in
theorem ggX10_tide_X10_refuse : GoodIn wsX10_tide wsX10_refuse := goodIn_r _ [11, 12, 20, 21, 22, 23, 24, 25, 26, 27, 28, 29, 30, 31, 32, 33, 34, 35, 36, 37, 38, 39, 40, 41, 42, 43, 44, 45, 46, 47, 48, 49, 50, 51, 52, 53, 54, 55, 56, 57, 58, 59, 60, 61, 62, 63, 64, 65, 66, 67, 68, 69, 70, 71, 72, 73] (by decide +kernel) (by decide +kernel)
set_option maxRecDepth 20000 in
theorem gX10_tide_X10_refuse : GoodIn wsX10_tide (wsV RX10 152 RX10 yX10_refuse wsX10_refuse) := goodIn_app (goodIn_of _ (by decide +kernel)) ggX10_tide_X10_refuse
set_option maxRecDepth 20000 in
theorem ggX10_tide_X10_tideAt : GoodIn wsX10_tide wsX10_tideAt := goodIn_r _ [16, 17, 18, 19, 20, 21, 22, 23, 24, 25, 26, 27, 28, 29, 30, 31, 32, 33, 34, 35, 36, 37, 38, 39, 40, 41, 42, 43, 44, 45, 46, 47, 48, 49, 50, 51, 52, 53, 54, 55, 56, 57, 58, 59, 60, 61, 62, 63, 64, 65, 66, 67, 68, 69, 70, 71, 72, 73] (by decide +kernel) (by decide +kernel)
set_option maxRecDepth 20000 in
theorem gX10_tide_X10_tideAt : GoodIn wsX10_tide (wsV RX10 157 RX10 yX10_tideAt wsX10_tideAt) := goodIn_app (goodIn_of _ (by decide +kernel)) ggX10_tide_X10_tideAt
theorem dX10_tide_0 : decode cX10_tide 0 = .ok (.iload_n 1, 1) := by decide +kernel
theorem dX10_tide_1 : decode cX10_tide 1 = .ok (.invokestatic 148, 3) := by decide +kernel
theorem dX10_tide_4 : decode cX10_tide 4 = .ok (.ifCond .ne 9, 3) := by decide +kernel
theorem dX10_tide_7 : decode cX10_tide 7 = .ok (.aload_n 0, 1) := by decide +kernel
theorem dX10_tide_8 : decode cX10_tide 8 = .ok (.iconst (-1), 1) := by decide +kernel
theorem dX10_tide_9 : decode cX10_tide 9 = .ok (.invokevirtual 152, 3) := by decide +kernel
theorem dX10_tide_12 : decode cX10_tide 12 = .ok (.ireturn, 1) := by decide +kernel
theorem dX10_tide_13 : decode cX10_tide 13 = .ok (.iload_n 2, 1) := by decide +kernel
theorem dX10_tide_14 : decode cX10_tide 14 = .ok (.ifCond .ge 10, 3) := by decide +kernel
theorem dX10_tide_17 : decode cX10_tide 17 = .ok (.aload_n 0, 1) := by decide +kernel
theorem dX10_tide_18 : decode cX10_tide 18 = .ok (.bipush (-4), 2) := by decide +kernel
theorem dX10_tide_20 : decode cX10_tide 20 = .ok (.invokevirtual 152, 3) := by decide +kernel
theorem dX10_tide_23 : decode cX10_tide 23 = .ok (.ireturn, 1) := by decide +kernel
theorem dX10_tide_24 : decode cX10_tide 24 = .ok (.iload_n 2, 1) := by decide +kernel
theorem dX10_tide_25 : decode cX10_tide 25 = .ok (.sipush 1000, 3) := by decide +kernel
theorem dX10_tide_28 : decode cX10_tide 28 = .ok (.if_icmp .le 12, 3) := by decide +kernel
theorem dX10_tide_31 : decode cX10_tide 31 = .ok (.aload_n 0, 1) := by decide +kernel
theorem dX10_tide_32 : decode cX10_tide 32 = .ok (.bipush (-6), 2) := by decide +kernel
theorem dX10_tide_34 : decode cX10_tide 34 = .ok (.invokevirtual 152, 3) := by decide +kernel
theorem dX10_tide_37 : decode cX10_tide 37 = .ok (.goto 9, 3) := by decide +kernel
theorem dX10_tide_40 : decode cX10_tide 40 = .ok (.aload_n 0, 1) := by decide +kernel
theorem dX10_tide_41 : decode cX10_tide 41 = .ok (.iload_n 1, 1) := by decide +kernel
theorem dX10_tide_42 : decode cX10_tide 42 = .ok (.iload_n 2, 1) := by decide +kernel
theorem dX10_tide_43 : decode cX10_tide 43 = .ok (.invokevirtual 157, 3) := by decide +kernel
theorem dX10_tide_46 : decode cX10_tide 46 = .ok (.ireturn, 1) := by decide +kernel
theorem dX10_lightAt_0 : decode cX10_lightAt 0 = .ok (.iload_n 0, 1) := by decide +kernel
theorem dX10_lightAt_1 : decode cX10_lightAt 1 = .ok (.bipush 30, 2) := by decide +kernel
theorem dX10_lightAt_3 : decode cX10_lightAt 3 = .ok (.irem, 1) := by decide +kernel
theorem dX10_lightAt_4 : decode cX10_lightAt 4 = .ok (.istore_n 1, 1) := by decide +kernel
theorem dX10_lightAt_5 : decode cX10_lightAt 5 = .ok (.iload_n 1, 1) := by decide +kernel
theorem dX10_lightAt_6 : decode cX10_lightAt 6 = .ok (.bipush 15, 2) := by decide +kernel
theorem dX10_lightAt_8 : decode cX10_lightAt 8 = .ok (.if_icmp .ge 10, 3) := by decide +kernel
theorem dX10_lightAt_11 : decode cX10_lightAt 11 = .ok (.bipush 15, 2) := by decide +kernel
theorem dX10_lightAt_13 : decode cX10_lightAt 13 = .ok (.iload_n 1, 1) := by decide +kernel
theorem dX10_lightAt_14 : decode cX10_lightAt 14 = .ok (.isub, 1) := by decide +kernel
theorem dX10_lightAt_15 : decode cX10_lightAt 15 = .ok (.goto 7, 3) := by decide +kernel
theorem dX10_lightAt_18 : decode cX10_lightAt 18 = .ok (.iload_n 1, 1) := by decide +kernel
theorem dX10_lightAt_19 : decode cX10_lightAt 19 = .ok (.bipush 15, 2) := by decide +kernel
theorem dX10_lightAt_21 : decode cX10_lightAt 21 = .ok (.isub, 1) := by decide +kernel
theorem dX10_lightAt_22 : decode cX10_lightAt 22 = .ok (.ireturn, 1) := by decide +kernel
set_option maxRecDepth 20000 in
theorem ggX10_boat_X10_refuse : GoodIn wsX10_boat wsX10_refuse := goodIn_r _ [10, 11, 12, 13, 14, 15, 16, 17, 18, 19, 20, 21, 22, 23, 24, 25, 26, 27, 28, 29, 30, 31, 32, 33, 34, 35, 36, 37, 38, 39, 40, 41, 42, 43, 44, 45, 46, 47, 48, 49, 50, 51, 52, 53, 54, 55, 56, 57, 58, 59, 60, 61, 62, 63, 64, 65] (by decide +kernel) (by decide +kernel)
set_option maxRecDepth 20000 in
theorem gX10_boat_X10_refuse : GoodIn wsX10_boat (wsV RX10 152 RX10 yX10_refuse wsX10_refuse) := goodIn_app (goodIn_of _ (by decide +kernel)) ggX10_boat_X10_refuse
theorem dX10_boat_0 : decode cX10_boat 0 = .ok (.iload_n 1, 1) := by decide +kernel
theorem dX10_boat_1 : decode cX10_boat 1 = .ok (.ifCond .lt 17, 3) := by decide +kernel
theorem dX10_boat_4 : decode cX10_boat 4 = .ok (.iload_n 2, 1) := by decide +kernel
theorem dX10_boat_5 : decode cX10_boat 5 = .ok (.iconst 1, 1) := by decide +kernel
theorem dX10_boat_6 : decode cX10_boat 6 = .ok (.if_icmp .lt 12, 3) := by decide +kernel
theorem dX10_boat_9 : decode cX10_boat 9 = .ok (.iload_n 3, 1) := by decide +kernel
theorem dX10_boat_10 : decode cX10_boat 10 = .ok (.ifCond .lt 8, 3) := by decide +kernel
theorem dX10_boat_13 : decode cX10_boat 13 = .ok (.iload 4, 2) := by decide +kernel
theorem dX10_boat_15 : decode cX10_boat 15 = .ok (.ifCond .ge 10, 3) := by decide +kernel
theorem dX10_boat_18 : decode cX10_boat 18 = .ok (.aload_n 0, 1) := by decide +kernel
theorem dX10_boat_19 : decode cX10_boat 19 = .ok (.bipush (-4), 2) := by decide +kernel
theorem dX10_boat_21 : decode cX10_boat 21 = .ok (.invokevirtual 152, 3) := by decide +kernel
theorem dX10_boat_24 : decode cX10_boat 24 = .ok (.ireturn, 1) := by decide +kernel
theorem dX10_boat_25 : decode cX10_boat 25 = .ok (.iload_n 1, 1) := by decide +kernel
theorem dX10_boat_26 : decode cX10_boat 26 = .ok (.bipush 20, 2) := by decide +kernel
theorem dX10_boat_28 : decode cX10_boat 28 = .ok (.if_icmp .gt 31, 3) := by decide +kernel
theorem dX10_boat_31 : decode cX10_boat 31 = .ok (.iload_n 2, 1) := by decide +kernel
theorem dX10_boat_32 : decode cX10_boat 32 = .ok (.bipush 60, 2) := by decide +kernel
theorem dX10_boat_34 : decode cX10_boat 34 = .ok (.if_icmp .gt 25, 3) := by decide +kernel
theorem dX10_boat_37 : decode cX10_boat 37 = .ok (.iload_n 3, 1) := by decide +kernel
theorem dX10_boat_38 : decode cX10_boat 38 = .ok (.bipush 99, 2) := by decide +kernel
theorem dX10_boat_40 : decode cX10_boat 40 = .ok (.if_icmp .gt 19, 3) := by decide +kernel
theorem dX10_boat_43 : decode cX10_boat 43 = .ok (.iload 4, 2) := by decide +kernel
theorem dX10_boat_45 : decode cX10_boat 45 = .ok (.bipush 15, 2) := by decide +kernel
theorem dX10_boat_47 : decode cX10_boat 47 = .ok (.if_icmp .gt 12, 3) := by decide +kernel
theorem dX10_boat_50 : decode cX10_boat 50 = .ok (.aload_n 0, 1) := by decide +kernel
theorem dX10_boat_51 : decode cX10_boat 51 = .ok (.getfield 161, 3) := by decide +kernel
theorem dX10_boat_54 : decode cX10_boat 54 = .ok (.bipush 8, 2) := by decide +kernel
theorem dX10_boat_56 : decode cX10_boat 56 = .ok (.if_icmp .ne 10, 3) := by decide +kernel
theorem dX10_boat_59 : decode cX10_boat 59 = .ok (.aload_n 0, 1) := by decide +kernel
theorem dX10_boat_60 : decode cX10_boat 60 = .ok (.bipush (-6), 2) := by decide +kernel
theorem dX10_boat_62 : decode cX10_boat 62 = .ok (.invokevirtual 152, 3) := by decide +kernel
theorem dX10_boat_65 : decode cX10_boat 65 = .ok (.ireturn, 1) := by decide +kernel
theorem dX10_boat_66 : decode cX10_boat 66 = .ok (.aload_n 0, 1) := by decide +kernel
theorem dX10_boat_67 : decode cX10_boat 67 = .ok (.getfield 29, 3) := by decide +kernel
theorem dX10_boat_70 : decode cX10_boat 70 = .ok (.aload_n 0, 1) := by decide +kernel
theorem dX10_boat_71 : decode cX10_boat 71 = .ok (.getfield 161, 3) := by decide +kernel
theorem dX10_boat_74 : decode cX10_boat 74 = .ok (.iload_n 1, 1) := by decide +kernel
theorem dX10_boat_75 : decode cX10_boat 75 = .ok (.iastore, 1) := by decide +kernel
theorem dX10_boat_76 : decode cX10_boat 76 = .ok (.aload_n 0, 1) := by decide +kernel
theorem dX10_boat_77 : decode cX10_boat 77 = .ok (.getfield 32, 3) := by decide +kernel
theorem dX10_boat_80 : decode cX10_boat 80 = .ok (.aload_n 0, 1) := by decide +kernel
theorem dX10_boat_81 : decode cX10_boat 81 = .ok (.getfield 161, 3) := by decide +kernel
theorem dX10_boat_84 : decode cX10_boat 84 = .ok (.iload_n 2, 1) := by decide +kernel
theorem dX10_boat_85 : decode cX10_boat 85 = .ok (.iastore, 1) := by decide +kernel
theorem dX10_boat_86 : decode cX10_boat 86 = .ok (.aload_n 0, 1) := by decide +kernel
theorem dX10_boat_87 : decode cX10_boat 87 = .ok (.getfield 35, 3) := by decide +kernel
theorem dX10_boat_90 : decode cX10_boat 90 = .ok (.aload_n 0, 1) := by decide +kernel
theorem dX10_boat_91 : decode cX10_boat 91 = .ok (.getfield 161, 3) := by decide +kernel
theorem dX10_boat_94 : decode cX10_boat 94 = .ok (.iload_n 3, 1) := by decide +kernel
theorem dX10_boat_95 : decode cX10_boat 95 = .ok (.iastore, 1) := by decide +kernel
theorem dX10_boat_96 : decode cX10_boat 96 = .ok (.aload_n 0, 1) := by decide +kernel
theorem dX10_boat_97 : decode cX10_boat 97 = .ok (.getfield 38, 3) := by decide +kernel
theorem dX10_boat_100 : decode cX10_boat 100 = .ok (.aload_n 0, 1) := by decide +kernel
theorem dX10_boat_101 : decode cX10_boat 101 = .ok (.getfield 161, 3) := by decide +kernel
theorem dX10_boat_104 : decode cX10_boat 104 = .ok (.iload 4, 2) := by decide +kernel
theorem dX10_boat_106 : decode cX10_boat 106 = .ok (.iastore, 1) := by decide +kernel
theorem dX10_boat_107 : decode cX10_boat 107 = .ok (.aload_n 0, 1) := by decide +kernel
theorem dX10_boat_108 : decode cX10_boat 108 = .ok (.dup, 1) := by decide +kernel
theorem dX10_boat_109 : decode cX10_boat 109 = .ok (.getfield 161, 3) := by decide +kernel
theorem dX10_boat_112 : decode cX10_boat 112 = .ok (.iconst 1, 1) := by decide +kernel
theorem dX10_boat_113 : decode cX10_boat 113 = .ok (.iadd, 1) := by decide +kernel
theorem dX10_boat_114 : decode cX10_boat 114 = .ok (.putfield 161, 3) := by decide +kernel
theorem dX10_boat_117 : decode cX10_boat 117 = .ok (.aload_n 0, 1) := by decide +kernel
theorem dX10_boat_118 : decode cX10_boat 118 = .ok (.getfield 161, 3) := by decide +kernel
theorem dX10_boat_121 : decode cX10_boat 121 = .ok (.iconst 1, 1) := by decide +kernel
theorem dX10_boat_122 : decode cX10_boat 122 = .ok (.isub, 1) := by decide +kernel
theorem dX10_boat_123 : decode cX10_boat 123 = .ok (.ireturn, 1) := by decide +kernel
set_option maxRecDepth 20000 in
theorem ggX10_load_X10_in : GoodIn wsX10_load wsX10_in := goodIn_r _ [7] (by decide +kernel) (by decide +kernel)
set_option maxRecDepth 20000 in
theorem gX10_load_X10_in : GoodIn wsX10_load (va_wsS RX10 144 yX10_in wsX10_in) := goodIn_app (goodIn_of _ (by decide +kernel)) ggX10_load_X10_in
set_option maxRecDepth 20000 in
theorem ggX10_load_X10_refuse : GoodIn wsX10_load wsX10_refuse := goodIn_r _ [11, 12, 13, 14, 15, 16, 17, 18, 19, 20, 21, 22, 23, 24, 25, 26, 27, 28, 29, 30, 31, 32, 33, 34, 35, 36, 37, 38, 39, 40, 41, 42, 43, 44, 45, 46, 47, 48, 49, 50, 51, 52, 53, 54, 55, 56, 57, 58, 59, 60, 61, 62, 63, 64, 65, 66] (by decide +kernel) (by decide +kernel)
set_option maxRecDepth 20000 in
theorem gX10_load_X10_refuse : GoodIn wsX10_load (wsV RX10 152 RX10 yX10_refuse wsX10_refuse) := goodIn_app (goodIn_of _ (by decide +kernel)) ggX10_load_X10_refuse
theorem dX10_load_0 : decode cX10_load 0 = .ok (.iload_n 1, 1) := by decide +kernel
theorem dX10_load_1 : decode cX10_load 1 = .ok (.iconst 0, 1) := by decide +kernel
theorem dX10_load_2 : decode cX10_load 2 = .ok (.aload_n 0, 1) := by decide +kernel
theorem dX10_load_3 : decode cX10_load 3 = .ok (.getfield 161, 3) := by decide +kernel
theorem dX10_load_6 : decode cX10_load 6 = .ok (.iconst 1, 1) := by decide +kernel
theorem dX10_load_7 : decode cX10_load 7 = .ok (.isub, 1) := by decide +kernel
theorem dX10_load_8 : decode cX10_load 8 = .ok (.invokestatic 144, 3) := by decide +kernel
theorem dX10_load_11 : decode cX10_load 11 = .ok (.ifCond .ne 9, 3) := by decide +kernel
theorem dX10_load_14 : decode cX10_load 14 = .ok (.aload_n 0, 1) := by decide +kernel
theorem dX10_load_15 : decode cX10_load 15 = .ok (.iconst (-1), 1) := by decide +kernel
theorem dX10_load_16 : decode cX10_load 16 = .ok (.invokevirtual 152, 3) := by decide +kernel
theorem dX10_load_19 : decode cX10_load 19 = .ok (.ireturn, 1) := by decide +kernel
theorem dX10_load_20 : decode cX10_load 20 = .ok (.iload_n 2, 1) := by decide +kernel
theorem dX10_load_21 : decode cX10_load 21 = .ok (.ifCond .ge 10, 3) := by decide +kernel
theorem dX10_load_24 : decode cX10_load 24 = .ok (.aload_n 0, 1) := by decide +kernel
theorem dX10_load_25 : decode cX10_load 25 = .ok (.bipush (-4), 2) := by decide +kernel
theorem dX10_load_27 : decode cX10_load 27 = .ok (.invokevirtual 152, 3) := by decide +kernel
theorem dX10_load_30 : decode cX10_load 30 = .ok (.ireturn, 1) := by decide +kernel
theorem dX10_load_31 : decode cX10_load 31 = .ok (.iload_n 2, 1) := by decide +kernel
theorem dX10_load_32 : decode cX10_load 32 = .ok (.aload_n 0, 1) := by decide +kernel
theorem dX10_load_33 : decode cX10_load 33 = .ok (.getfield 32, 3) := by decide +kernel
theorem dX10_load_36 : decode cX10_load 36 = .ok (.iload_n 1, 1) := by decide +kernel
theorem dX10_load_37 : decode cX10_load 37 = .ok (.iaload, 1) := by decide +kernel
theorem dX10_load_38 : decode cX10_load 38 = .ok (.aload_n 0, 1) := by decide +kernel
theorem dX10_load_39 : decode cX10_load 39 = .ok (.getfield 41, 3) := by decide +kernel
theorem dX10_load_42 : decode cX10_load 42 = .ok (.iload_n 1, 1) := by decide +kernel
theorem dX10_load_43 : decode cX10_load 43 = .ok (.iaload, 1) := by decide +kernel
theorem dX10_load_44 : decode cX10_load 44 = .ok (.isub, 1) := by decide +kernel
theorem dX10_load_45 : decode cX10_load 45 = .ok (.if_icmp .le 10, 3) := by decide +kernel
theorem dX10_load_48 : decode cX10_load 48 = .ok (.aload_n 0, 1) := by decide +kernel
theorem dX10_load_49 : decode cX10_load 49 = .ok (.bipush (-6), 2) := by decide +kernel
theorem dX10_load_51 : decode cX10_load 51 = .ok (.invokevirtual 152, 3) := by decide +kernel
theorem dX10_load_54 : decode cX10_load 54 = .ok (.ireturn, 1) := by decide +kernel
theorem dX10_load_55 : decode cX10_load 55 = .ok (.aload_n 0, 1) := by decide +kernel
theorem dX10_load_56 : decode cX10_load 56 = .ok (.getfield 41, 3) := by decide +kernel
theorem dX10_load_59 : decode cX10_load 59 = .ok (.iload_n 1, 1) := by decide +kernel
theorem dX10_load_60 : decode cX10_load 60 = .ok (.dup2, 1) := by decide +kernel
theorem dX10_load_61 : decode cX10_load 61 = .ok (.iaload, 1) := by decide +kernel
theorem dX10_load_62 : decode cX10_load 62 = .ok (.iload_n 2, 1) := by decide +kernel
theorem dX10_load_63 : decode cX10_load 63 = .ok (.iadd, 1) := by decide +kernel
theorem dX10_load_64 : decode cX10_load 64 = .ok (.iastore, 1) := by decide +kernel
theorem dX10_load_65 : decode cX10_load 65 = .ok (.aload_n 0, 1) := by decide +kernel
theorem dX10_load_66 : decode cX10_load 66 = .ok (.getfield 41, 3) := by decide +kernel
theorem dX10_load_69 : decode cX10_load 69 = .ok (.iload_n 1, 1) := by decide +kernel
theorem dX10_load_70 : decode cX10_load 70 = .ok (.iaload, 1) := by decide +kernel
theorem dX10_load_71 : decode cX10_load 71 = .ok (.ireturn, 1) := by decide +kernel
set_option maxRecDepth 20000 in
theorem ggX10_hide_X10_isCove : GoodIn wsX10_hide wsX10_isCove := goodIn_r _ [8, 9, 10, 7, 11] (by decide +kernel) (by decide +kernel)
set_option maxRecDepth 20000 in
theorem gX10_hide_X10_isCove : GoodIn wsX10_hide (va_wsS RX10 148 yX10_isCove wsX10_isCove) := goodIn_app (goodIn_of _ (by decide +kernel)) ggX10_hide_X10_isCove
set_option maxRecDepth 20000 in
theorem ggX10_hide_X10_refuse : GoodIn wsX10_hide wsX10_refuse := goodIn_r _ [15, 16, 17, 18, 19, 20, 21, 22, 23, 24, 25, 26, 27, 28, 29, 30, 31, 32, 33, 34, 35, 36, 37, 38, 39, 40, 41, 42, 43, 44, 45, 46, 47, 48, 49, 50, 51, 52, 53, 54, 55, 56, 57, 58, 59, 60, 61, 62, 63, 64, 65, 66, 67, 68, 69, 70] (by decide +kernel) (by decide +kernel)
set_option maxRecDepth 20000 in
theorem gX10_hide_X10_refuse : GoodIn wsX10_hide (wsV RX10 152 RX10 yX10_refuse wsX10_refuse) := goodIn_app (goodIn_of _ (by decide +kernel)) ggX10_hide_X10_refuse
theorem dX10_hide_0 : decode cX10_hide 0 = .ok (.iload_n 1, 1) := by decide +kernel
theorem dX10_hide_1 : decode cX10_hide 1 = .ok (.invokestatic 148, 3) := by decide +kernel
theorem dX10_hide_4 : decode cX10_hide 4 = .ok (.ifCond .ne 9, 3) := by decide +kernel
theorem dX10_hide_7 : decode cX10_hide 7 = .ok (.aload_n 0, 1) := by decide +kernel
theorem dX10_hide_8 : decode cX10_hide 8 = .ok (.iconst (-1), 1) := by decide +kernel
theorem dX10_hide_9 : decode cX10_hide 9 = .ok (.invokevirtual 152, 3) := by decide +kernel
theorem dX10_hide_12 : decode cX10_hide 12 = .ok (.ireturn, 1) := by decide +kernel
theorem dX10_hide_13 : decode cX10_hide 13 = .ok (.iload_n 2, 1) := by decide +kernel
theorem dX10_hide_14 : decode cX10_hide 14 = .ok (.iconst 1, 1) := by decide +kernel
theorem dX10_hide_15 : decode cX10_hide 15 = .ok (.if_icmp .lt 8, 3) := by decide +kernel
theorem dX10_hide_18 : decode cX10_hide 18 = .ok (.iload_n 3, 1) := by decide +kernel
theorem dX10_hide_19 : decode cX10_hide 19 = .ok (.iconst 1, 1) := by decide +kernel
theorem dX10_hide_20 : decode cX10_hide 20 = .ok (.if_icmp .ge 10, 3) := by decide +kernel
theorem dX10_hide_23 : decode cX10_hide 23 = .ok (.aload_n 0, 1) := by decide +kernel
theorem dX10_hide_24 : decode cX10_hide 24 = .ok (.bipush (-4), 2) := by decide +kernel
theorem dX10_hide_26 : decode cX10_hide 26 = .ok (.invokevirtual 152, 3) := by decide +kernel
theorem dX10_hide_29 : decode cX10_hide 29 = .ok (.ireturn, 1) := by decide +kernel
theorem dX10_hide_30 : decode cX10_hide 30 = .ok (.iload_n 2, 1) := by decide +kernel
theorem dX10_hide_31 : decode cX10_hide 31 = .ok (.sipush 200, 3) := by decide +kernel
theorem dX10_hide_34 : decode cX10_hide 34 = .ok (.if_icmp .gt 18, 3) := by decide +kernel
theorem dX10_hide_37 : decode cX10_hide 37 = .ok (.iload_n 3, 1) := by decide +kernel
theorem dX10_hide_38 : decode cX10_hide 38 = .ok (.bipush 20, 2) := by decide +kernel
theorem dX10_hide_40 : decode cX10_hide 40 = .ok (.if_icmp .gt 12, 3) := by decide +kernel
theorem dX10_hide_43 : decode cX10_hide 43 = .ok (.aload_n 0, 1) := by decide +kernel
theorem dX10_hide_44 : decode cX10_hide 44 = .ok (.getfield 164, 3) := by decide +kernel
theorem dX10_hide_47 : decode cX10_hide 47 = .ok (.bipush 12, 2) := by decide +kernel
theorem dX10_hide_49 : decode cX10_hide 49 = .ok (.if_icmp .ne 10, 3) := by decide +kernel
theorem dX10_hide_52 : decode cX10_hide 52 = .ok (.aload_n 0, 1) := by decide +kernel
theorem dX10_hide_53 : decode cX10_hide 53 = .ok (.bipush (-6), 2) := by decide +kernel
theorem dX10_hide_55 : decode cX10_hide 55 = .ok (.invokevirtual 152, 3) := by decide +kernel
theorem dX10_hide_58 : decode cX10_hide 58 = .ok (.ireturn, 1) := by decide +kernel
theorem dX10_hide_59 : decode cX10_hide 59 = .ok (.aload_n 0, 1) := by decide +kernel
theorem dX10_hide_60 : decode cX10_hide 60 = .ok (.getfield 53, 3) := by decide +kernel
theorem dX10_hide_63 : decode cX10_hide 63 = .ok (.aload_n 0, 1) := by decide +kernel
theorem dX10_hide_64 : decode cX10_hide 64 = .ok (.getfield 164, 3) := by decide +kernel
theorem dX10_hide_67 : decode cX10_hide 67 = .ok (.iload_n 1, 1) := by decide +kernel
theorem dX10_hide_68 : decode cX10_hide 68 = .ok (.iastore, 1) := by decide +kernel
theorem dX10_hide_69 : decode cX10_hide 69 = .ok (.aload_n 0, 1) := by decide +kernel
theorem dX10_hide_70 : decode cX10_hide 70 = .ok (.getfield 56, 3) := by decide +kernel
theorem dX10_hide_73 : decode cX10_hide 73 = .ok (.aload_n 0, 1) := by decide +kernel
theorem dX10_hide_74 : decode cX10_hide 74 = .ok (.getfield 164, 3) := by decide +kernel
theorem dX10_hide_77 : decode cX10_hide 77 = .ok (.iload_n 2, 1) := by decide +kernel
theorem dX10_hide_78 : decode cX10_hide 78 = .ok (.iastore, 1) := by decide +kernel
theorem dX10_hide_79 : decode cX10_hide 79 = .ok (.aload_n 0, 1) := by decide +kernel
theorem dX10_hide_80 : decode cX10_hide 80 = .ok (.getfield 59, 3) := by decide +kernel
theorem dX10_hide_83 : decode cX10_hide 83 = .ok (.aload_n 0, 1) := by decide +kernel
theorem dX10_hide_84 : decode cX10_hide 84 = .ok (.getfield 164, 3) := by decide +kernel
theorem dX10_hide_87 : decode cX10_hide 87 = .ok (.iload_n 3, 1) := by decide +kernel
theorem dX10_hide_88 : decode cX10_hide 88 = .ok (.iastore, 1) := by decide +kernel
theorem dX10_hide_89 : decode cX10_hide 89 = .ok (.aload_n 0, 1) := by decide +kernel
theorem dX10_hide_90 : decode cX10_hide 90 = .ok (.dup, 1) := by decide +kernel
theorem dX10_hide_91 : decode cX10_hide 91 = .ok (.getfield 164, 3) := by decide +kernel
theorem dX10_hide_94 : decode cX10_hide 94 = .ok (.iconst 1, 1) := by decide +kernel
theorem dX10_hide_95 : decode cX10_hide 95 = .ok (.iadd, 1) := by decide +kernel
theorem dX10_hide_96 : decode cX10_hide 96 = .ok (.putfield 164, 3) := by decide +kernel
theorem dX10_hide_99 : decode cX10_hide 99 = .ok (.aload_n 0, 1) := by decide +kernel
theorem dX10_hide_100 : decode cX10_hide 100 = .ok (.getfield 164, 3) := by decide +kernel
theorem dX10_hide_103 : decode cX10_hide 103 = .ok (.iconst 1, 1) := by decide +kernel
theorem dX10_hide_104 : decode cX10_hide 104 = .ok (.isub, 1) := by decide +kernel
theorem dX10_hide_105 : decode cX10_hide 105 = .ok (.ireturn, 1) := by decide +kernel
set_option maxRecDepth 20000 in
theorem ggX10_stand_X10_isCove : GoodIn wsX10_stand wsX10_isCove := goodIn_r _ [5, 6, 7, 4, 8] (by decide +kernel) (by decide +kernel)
set_option maxRecDepth 20000 in
theorem gX10_stand_X10_isCove : GoodIn wsX10_stand (va_wsS RX10 148 yX10_isCove wsX10_isCove) := goodIn_app (goodIn_of _ (by decide +kernel)) ggX10_stand_X10_isCove
set_option maxRecDepth 20000 in
theorem ggX10_stand_X10_refuse : GoodIn wsX10_stand wsX10_refuse := goodIn_r _ [12, 13, 14, 15, 16, 17, 18, 19, 20, 21, 22, 23, 24, 25, 26, 27, 28, 29, 30, 31, 32, 33, 34, 35, 36, 37, 38, 39, 40, 41, 42, 43, 44, 45, 46, 47, 48, 49, 50, 51, 52, 53, 54, 55, 56, 57, 58, 59, 60, 61, 62, 63, 64, 65, 66, 67] (by decide +kernel) (by decide +kernel)
set_option maxRecDepth 20000 in
theorem gX10_stand_X10_refuse : GoodIn wsX10_stand (wsV RX10 152 RX10 yX10_refuse wsX10_refuse) := goodIn_app (goodIn_of _ (by decide +kernel)) ggX10_stand_X10_refuse
theorem dX10_stand_0 : decode cX10_stand 0 = .ok (.iload_n 1, 1) := by decide +kernel
theorem dX10_stand_1 : decode cX10_stand 1 = .ok (.invokestatic 148, 3) := by decide +kernel
theorem dX10_stand_4 : decode cX10_stand 4 = .ok (.ifCond .ne 9, 3) := by decide +kernel
theorem dX10_stand_7 : decode cX10_stand 7 = .ok (.aload_n 0, 1) := by decide +kernel
theorem dX10_stand_8 : decode cX10_stand 8 = .ok (.iconst (-1), 1) := by decide +kernel
theorem dX10_stand_9 : decode cX10_stand 9 = .ok (.invokevirtual 152, 3) := by decide +kernel
theorem dX10_stand_12 : decode cX10_stand 12 = .ok (.ireturn, 1) := by decide +kernel
theorem dX10_stand_13 : decode cX10_stand 13 = .ok (.iload_n 2, 1) := by decide +kernel
theorem dX10_stand_14 : decode cX10_stand 14 = .ok (.ifCond .ge 10, 3) := by decide +kernel
theorem dX10_stand_17 : decode cX10_stand 17 = .ok (.aload_n 0, 1) := by decide +kernel
theorem dX10_stand_18 : decode cX10_stand 18 = .ok (.bipush (-4), 2) := by decide +kernel
theorem dX10_stand_20 : decode cX10_stand 20 = .ok (.invokevirtual 152, 3) := by decide +kernel
theorem dX10_stand_23 : decode cX10_stand 23 = .ok (.ireturn, 1) := by decide +kernel
theorem dX10_stand_24 : decode cX10_stand 24 = .ok (.iload_n 2, 1) := by decide +kernel
theorem dX10_stand_25 : decode cX10_stand 25 = .ok (.bipush 9, 2) := by decide +kernel
theorem dX10_stand_27 : decode cX10_stand 27 = .ok (.if_icmp .le 10, 3) := by decide +kernel
theorem dX10_stand_30 : decode cX10_stand 30 = .ok (.aload_n 0, 1) := by decide +kernel
theorem dX10_stand_31 : decode cX10_stand 31 = .ok (.bipush (-6), 2) := by decide +kernel
theorem dX10_stand_33 : decode cX10_stand 33 = .ok (.invokevirtual 152, 3) := by decide +kernel
theorem dX10_stand_36 : decode cX10_stand 36 = .ok (.ireturn, 1) := by decide +kernel
theorem dX10_stand_37 : decode cX10_stand 37 = .ok (.aload_n 0, 1) := by decide +kernel
theorem dX10_stand_38 : decode cX10_stand 38 = .ok (.getfield 83, 3) := by decide +kernel
theorem dX10_stand_41 : decode cX10_stand 41 = .ok (.iload_n 1, 1) := by decide +kernel
theorem dX10_stand_42 : decode cX10_stand 42 = .ok (.iaload, 1) := by decide +kernel
theorem dX10_stand_43 : decode cX10_stand 43 = .ok (.istore_n 3, 1) := by decide +kernel
theorem dX10_stand_44 : decode cX10_stand 44 = .ok (.aload_n 0, 1) := by decide +kernel
theorem dX10_stand_45 : decode cX10_stand 45 = .ok (.getfield 83, 3) := by decide +kernel
theorem dX10_stand_48 : decode cX10_stand 48 = .ok (.iload_n 1, 1) := by decide +kernel
theorem dX10_stand_49 : decode cX10_stand 49 = .ok (.iload_n 2, 1) := by decide +kernel
theorem dX10_stand_50 : decode cX10_stand 50 = .ok (.iastore, 1) := by decide +kernel
theorem dX10_stand_51 : decode cX10_stand 51 = .ok (.iload_n 3, 1) := by decide +kernel
theorem dX10_stand_52 : decode cX10_stand 52 = .ok (.ireturn, 1) := by decide +kernel
set_option maxRecDepth 20000 in
theorem ggX10_bribe_X10_isCove : GoodIn wsX10_bribe wsX10_isCove := goodIn_r _ [5, 6, 7, 4, 8] (by decide +kernel) (by decide +kernel)
set_option maxRecDepth 20000 in
theorem gX10_bribe_X10_isCove : GoodIn wsX10_bribe (va_wsS RX10 148 yX10_isCove wsX10_isCove) := goodIn_app (goodIn_of _ (by decide +kernel)) ggX10_bribe_X10_isCove
set_option maxRecDepth 20000 in
theorem ggX10_bribe_X10_refuse : GoodIn wsX10_bribe wsX10_refuse := goodIn_r _ [12, 13, 14, 15, 16, 17, 18, 19, 20, 21, 22, 23, 24, 25, 26, 27, 28, 29, 30, 31, 32, 33, 34, 35, 36, 37, 38, 39, 40, 41, 42, 43, 44, 45, 46, 47, 48, 49, 50, 51, 52, 53, 54, 55, 56, 57, 58, 59, 60, 61, 62, 63, 64, 65, 66, 67] (by decide +kernel) (by decide +kernel)
set_option maxRecDepth 20000 in
theorem gX10_bribe_X10_refuse : GoodIn wsX10_bribe (wsV RX10 152 RX10 yX10_refuse wsX10_refuse) := goodIn_app (goodIn_of _ (by decide +kernel)) ggX10_bribe_X10_refuse
theorem dX10_bribe_0 : decode cX10_bribe 0 = .ok (.iload_n 1, 1) := by decide +kernel
theorem dX10_bribe_1 : decode cX10_bribe 1 = .ok (.invokestatic 148, 3) := by decide +kernel
theorem dX10_bribe_4 : decode cX10_bribe 4 = .ok (.ifCond .ne 9, 3) := by decide +kernel
theorem dX10_bribe_7 : decode cX10_bribe 7 = .ok (.aload_n 0, 1) := by decide +kernel
theorem dX10_bribe_8 : decode cX10_bribe 8 = .ok (.iconst (-1), 1) := by decide +kernel
theorem dX10_bribe_9 : decode cX10_bribe 9 = .ok (.invokevirtual 152, 3) := by decide +kernel
theorem dX10_bribe_12 : decode cX10_bribe 12 = .ok (.ireturn, 1) := by decide +kernel
theorem dX10_bribe_13 : decode cX10_bribe 13 = .ok (.aload_n 0, 1) := by decide +kernel
theorem dX10_bribe_14 : decode cX10_bribe 14 = .ok (.getfield 89, 3) := by decide +kernel
theorem dX10_bribe_17 : decode cX10_bribe 17 = .ok (.iload_n 1, 1) := by decide +kernel
theorem dX10_bribe_18 : decode cX10_bribe 18 = .ok (.baload, 1) := by decide +kernel
theorem dX10_bribe_19 : decode cX10_bribe 19 = .ok (.istore_n 3, 1) := by decide +kernel
theorem dX10_bribe_20 : decode cX10_bribe 20 = .ok (.aload_n 0, 1) := by decide +kernel
theorem dX10_bribe_21 : decode cX10_bribe 21 = .ok (.getfield 89, 3) := by decide +kernel
theorem dX10_bribe_24 : decode cX10_bribe 24 = .ok (.iload_n 1, 1) := by decide +kernel
theorem dX10_bribe_25 : decode cX10_bribe 25 = .ok (.iload_n 2, 1) := by decide +kernel
theorem dX10_bribe_26 : decode cX10_bribe 26 = .ok (.bastore, 1) := by decide +kernel
theorem dX10_bribe_27 : decode cX10_bribe 27 = .ok (.iload_n 3, 1) := by decide +kernel
theorem dX10_bribe_28 : decode cX10_bribe 28 = .ok (.iload_n 2, 1) := by decide +kernel
theorem dX10_bribe_29 : decode cX10_bribe 29 = .ok (.if_icmp .ne 7, 3) := by decide +kernel
theorem dX10_bribe_32 : decode cX10_bribe 32 = .ok (.iconst 0, 1) := by decide +kernel
theorem dX10_bribe_33 : decode cX10_bribe 33 = .ok (.goto 4, 3) := by decide +kernel
theorem dX10_bribe_36 : decode cX10_bribe 36 = .ok (.iconst 1, 1) := by decide +kernel
theorem dX10_bribe_37 : decode cX10_bribe 37 = .ok (.ireturn, 1) := by decide +kernel
set_option maxRecDepth 20000 in
theorem ggX10_share_X10_isCove : GoodIn wsX10_share wsX10_isCove := goodIn_r _ [5, 6, 7, 4, 8] (by decide +kernel) (by decide +kernel)
set_option maxRecDepth 20000 in
theorem gX10_share_X10_isCove : GoodIn wsX10_share (va_wsS RX10 148 yX10_isCove wsX10_isCove) := goodIn_app (goodIn_of _ (by decide +kernel)) ggX10_share_X10_isCove
set_option maxRecDepth 20000 in
theorem ggX10_share_X10_refuse : GoodIn wsX10_share wsX10_refuse := goodIn_r _ [12, 13, 14, 15, 16, 17, 18, 19, 20, 21, 22, 23, 24, 25, 26, 27, 28, 29, 30, 31, 32, 33, 34, 35, 36, 37, 38, 39, 40, 41, 42, 43, 44, 45, 46, 47, 48, 49, 50, 51, 52, 53, 54, 55, 56, 57, 58, 59, 60, 61, 62, 63, 64, 65, 66, 67] (by decide +kernel) (by decide +kernel)
set_option maxRecDepth 20000 in
theorem gX10_share_X10_refuse : GoodIn wsX10_share (wsV RX10 152 RX10 yX10_refuse wsX10_refuse) := goodIn_app (goodIn_of _ (by decide +kernel)) ggX10_share_X10_refuse
theorem dX10_share_0 : decode cX10_share 0 = .ok (.iload_n 1, 1) := by decide +kernel
theorem dX10_share_1 : decode cX10_share 1 = .ok (.invokestatic 148, 3) := by decide +kernel
theorem dX10_share_4 : decode cX10_share 4 = .ok (.ifCond .ne 9, 3) := by decide +kernel
theorem dX10_share_7 : decode cX10_share 7 = .ok (.aload_n 0, 1) := by decide +kernel
theorem dX10_share_8 : decode cX10_share 8 = .ok (.iconst (-1), 1) := by decide +kernel
theorem dX10_share_9 : decode cX10_share 9 = .ok (.invokevirtual 152, 3) := by decide +kernel
theorem dX10_share_12 : decode cX10_share 12 = .ok (.ireturn, 1) := by decide +kernel
theorem dX10_share_13 : decode cX10_share 13 = .ok (.iload_n 2, 1) := by decide +kernel
theorem dX10_share_14 : decode cX10_share 14 = .ok (.ifCond .ge 10, 3) := by decide +kernel
theorem dX10_share_17 : decode cX10_share 17 = .ok (.aload_n 0, 1) := by decide +kernel
theorem dX10_share_18 : decode cX10_share 18 = .ok (.bipush (-4), 2) := by decide +kernel
theorem dX10_share_20 : decode cX10_share 20 = .ok (.invokevirtual 152, 3) := by decide +kernel
theorem dX10_share_23 : decode cX10_share 23 = .ok (.ireturn, 1) := by decide +kernel
theorem dX10_share_24 : decode cX10_share 24 = .ok (.iload_n 2, 1) := by decide +kernel
theorem dX10_share_25 : decode cX10_share 25 = .ok (.bipush 99, 2) := by decide +kernel
theorem dX10_share_27 : decode cX10_share 27 = .ok (.if_icmp .le 10, 3) := by decide +kernel
theorem dX10_share_30 : decode cX10_share 30 = .ok (.aload_n 0, 1) := by decide +kernel
theorem dX10_share_31 : decode cX10_share 31 = .ok (.bipush (-6), 2) := by decide +kernel
theorem dX10_share_33 : decode cX10_share 33 = .ok (.invokevirtual 152, 3) := by decide +kernel
theorem dX10_share_36 : decode cX10_share 36 = .ok (.ireturn, 1) := by decide +kernel
theorem dX10_share_37 : decode cX10_share 37 = .ok (.aload_n 0, 1) := by decide +kernel
theorem dX10_share_38 : decode cX10_share 38 = .ok (.getfield 86, 3) := by decide +kernel
theorem dX10_share_41 : decode cX10_share 41 = .ok (.iload_n 1, 1) := by decide +kernel
theorem dX10_share_42 : decode cX10_share 42 = .ok (.iaload, 1) := by decide +kernel
theorem dX10_share_43 : decode cX10_share 43 = .ok (.istore_n 3, 1) := by decide +kernel
theorem dX10_share_44 : decode cX10_share 44 = .ok (.aload_n 0, 1) := by decide +kernel
theorem dX10_share_45 : decode cX10_share 45 = .ok (.getfield 86, 3) := by decide +kernel
theorem dX10_share_48 : decode cX10_share 48 = .ok (.iload_n 1, 1) := by decide +kernel
theorem dX10_share_49 : decode cX10_share 49 = .ok (.iload_n 2, 1) := by decide +kernel
theorem dX10_share_50 : decode cX10_share 50 = .ok (.iastore, 1) := by decide +kernel
theorem dX10_share_51 : decode cX10_share 51 = .ok (.iload_n 3, 1) := by decide +kernel
theorem dX10_share_52 : decode cX10_share 52 = .ok (.ireturn, 1) := by decide +kernel
set_option maxRecDepth 20000 in
theorem ggX10_draws_X10_refuse : GoodIn wsX10_draws wsX10_refuse := goodIn_r _ [6, 7, 8, 9, 10, 11, 12, 13, 14, 15, 16, 17, 18, 19, 20, 21, 22, 23, 24, 25, 26, 27, 28, 29, 30, 31, 32, 33, 34, 35, 36, 37, 38, 39, 40, 41, 42, 43, 44, 45, 46, 47, 48, 49, 50, 51, 52, 53, 54, 55, 56, 57, 58, 59, 60, 61] (by decide +kernel) (by decide +kernel)
set_option maxRecDepth 20000 in
theorem gX10_draws_X10_refuse : GoodIn wsX10_draws (wsV RX10 152 RX10 yX10_refuse wsX10_refuse) := goodIn_app (goodIn_of _ (by decide +kernel)) ggX10_draws_X10_refuse
theorem dX10_draws_0 : decode cX10_draws 0 = .ok (.iload_n 1, 1) := by decide +kernel
theorem dX10_draws_1 : decode cX10_draws 1 = .ok (.ifCond .ge 10, 3) := by decide +kernel
theorem dX10_draws_4 : decode cX10_draws 4 = .ok (.aload_n 0, 1) := by decide +kernel
theorem dX10_draws_5 : decode cX10_draws 5 = .ok (.bipush (-4), 2) := by decide +kernel
theorem dX10_draws_7 : decode cX10_draws 7 = .ok (.invokevirtual 152, 3) := by decide +kernel
theorem dX10_draws_10 : decode cX10_draws 10 = .ok (.ireturn, 1) := by decide +kernel
theorem dX10_draws_11 : decode cX10_draws 11 = .ok (.iload_n 1, 1) := by decide +kernel
theorem dX10_draws_12 : decode cX10_draws 12 = .ok (.bipush 9, 2) := by decide +kernel
theorem dX10_draws_14 : decode cX10_draws 14 = .ok (.if_icmp .le 10, 3) := by decide +kernel
theorem dX10_draws_17 : decode cX10_draws 17 = .ok (.aload_n 0, 1) := by decide +kernel
theorem dX10_draws_18 : decode cX10_draws 18 = .ok (.bipush (-6), 2) := by decide +kernel
theorem dX10_draws_20 : decode cX10_draws 20 = .ok (.invokevirtual 152, 3) := by decide +kernel
theorem dX10_draws_23 : decode cX10_draws 23 = .ok (.ireturn, 1) := by decide +kernel
theorem dX10_draws_24 : decode cX10_draws 24 = .ok (.aload_n 0, 1) := by decide +kernel
theorem dX10_draws_25 : decode cX10_draws 25 = .ok (.getfield 167, 3) := by decide +kernel
theorem dX10_draws_28 : decode cX10_draws 28 = .ok (.istore_n 2, 1) := by decide +kernel
theorem dX10_draws_29 : decode cX10_draws 29 = .ok (.aload_n 0, 1) := by decide +kernel
theorem dX10_draws_30 : decode cX10_draws 30 = .ok (.iload_n 1, 1) := by decide +kernel
theorem dX10_draws_31 : decode cX10_draws 31 = .ok (.putfield 167, 3) := by decide +kernel
theorem dX10_draws_34 : decode cX10_draws 34 = .ok (.iload_n 2, 1) := by decide +kernel
theorem dX10_draws_35 : decode cX10_draws 35 = .ok (.ireturn, 1) := by decide +kernel
set_option maxRecDepth 20000 in
theorem ggX10_price_X10_refuse : GoodIn wsX10_price wsX10_refuse := goodIn_r _ [6, 7, 8, 9, 10, 11, 12, 13, 14, 15, 16, 17, 18, 19, 20, 21, 22, 23, 24, 25, 26, 27, 28, 29, 30, 31, 32, 33, 34, 35, 36, 37, 38, 39, 40, 41, 42, 43, 44, 45, 46, 47, 48, 49, 50, 51, 52, 53, 54, 55, 56, 57, 58, 59, 60, 61] (by decide +kernel) (by decide +kernel)
set_option maxRecDepth 20000 in
theorem gX10_price_X10_refuse : GoodIn wsX10_price (wsV RX10 152 RX10 yX10_refuse wsX10_refuse) := goodIn_app (goodIn_of _ (by decide +kernel)) ggX10_price_X10_refuse
theorem dX10_price_0 : decode cX10_price 0 = .ok (.iload_n 1, 1) := by decide +kernel
theorem dX10_price_1 : decode cX10_price 1 = .ok (.ifCond .ge 10, 3) := by decide +kernel
theorem dX10_price_4 : decode cX10_price 4 = .ok (.aload_n 0, 1) := by decide +kernel
theorem dX10_price_5 : decode cX10_price 5 = .ok (.bipush (-4), 2) := by decide +kernel
theorem dX10_price_7 : decode cX10_price 7 = .ok (.invokevirtual 152, 3) := by decide +kernel
theorem dX10_price_10 : decode cX10_price 10 = .ok (.ireturn, 1) := by decide +kernel
theorem dX10_price_11 : decode cX10_price 11 = .ok (.iload_n 1, 1) := by decide +kernel
theorem dX10_price_12 : decode cX10_price 12 = .ok (.sipush 999, 3) := by decide +kernel
theorem dX10_price_15 : decode cX10_price 15 = .ok (.if_icmp .le 10, 3) := by decide +kernel
theorem dX10_price_18 : decode cX10_price 18 = .ok (.aload_n 0, 1) := by decide +kernel
theorem dX10_price_19 : decode cX10_price 19 = .ok (.bipush (-6), 2) := by decide +kernel
theorem dX10_price_21 : decode cX10_price 21 = .ok (.invokevirtual 152, 3) := by decide +kernel
theorem dX10_price_24 : decode cX10_price 24 = .ok (.ireturn, 1) := by decide +kernel
theorem dX10_price_25 : decode cX10_price 25 = .ok (.aload_n 0, 1) := by decide +kernel
theorem dX10_price_26 : decode cX10_price 26 = .ok (.getfield 170, 3) := by decide +kernel
theorem dX10_price_29 : decode cX10_price 29 = .ok (.istore_n 2, 1) := by decide +kernel
theorem dX10_price_30 : decode cX10_price 30 = .ok (.aload_n 0, 1) := by decide +kernel
theorem dX10_price_31 : decode cX10_price 31 = .ok (.iload_n 1, 1) := by decide +kernel
theorem dX10_price_32 : decode cX10_price 32 = .ok (.putfield 170, 3) := by decide +kernel
theorem dX10_price_35 : decode cX10_price 35 = .ok (.iload_n 2, 1) := by decide +kernel
theorem dX10_price_36 : decode cX10_price 36 = .ok (.ireturn, 1) := by decide +kernel
set_option maxRecDepth 20000 in
theorem ggX10_law_X10_refuse : GoodIn wsX10_law wsX10_refuse := goodIn_r _ [10, 11, 12, 13, 14, 15, 16, 17, 18, 19, 20, 21, 22, 23, 24, 25, 26, 27, 28, 29, 30, 31, 32, 33, 34, 35, 36, 37, 38, 39, 40, 41, 42, 43, 44, 45, 46, 47, 48, 49, 50, 51, 52, 53, 54, 55, 56, 57, 58, 59, 60, 61, 62, 63, 64, 65] (by decide +kernel) (by decide +kernel)
set_option maxRecDepth 20000 in
theorem gX10_law_X10_refuse : GoodIn wsX10_law (wsV RX10 152 RX10 yX10_refuse wsX10_refuse) := goodIn_app (goodIn_of _ (by decide +kernel)) ggX10_law_X10_refuse
theorem dX10_law_0 : decode cX10_law 0 = .ok (.iload_n 1, 1) := by decide +kernel
theorem dX10_law_1 : decode cX10_law 1 = .ok (.ifCond .lt 15, 3) := by decide +kernel
theorem dX10_law_4 : decode cX10_law 4 = .ok (.iload_n 2, 1) := by decide +kernel
theorem dX10_law_5 : decode cX10_law 5 = .ok (.ifCond .lt 11, 3) := by decide +kernel
theorem dX10_law_8 : decode cX10_law 8 = .ok (.iload_n 3, 1) := by decide +kernel
theorem dX10_law_9 : decode cX10_law 9 = .ok (.aload_n 0, 1) := by decide +kernel
theorem dX10_law_10 : decode cX10_law 10 = .ok (.getfield 173, 3) := by decide +kernel
theorem dX10_law_13 : decode cX10_law 13 = .ok (.if_icmp .ge 10, 3) := by decide +kernel
theorem dX10_law_16 : decode cX10_law 16 = .ok (.aload_n 0, 1) := by decide +kernel
theorem dX10_law_17 : decode cX10_law 17 = .ok (.bipush (-4), 2) := by decide +kernel
theorem dX10_law_19 : decode cX10_law 19 = .ok (.invokevirtual 152, 3) := by decide +kernel
theorem dX10_law_22 : decode cX10_law 22 = .ok (.ireturn, 1) := by decide +kernel
theorem dX10_law_23 : decode cX10_law 23 = .ok (.iload_n 1, 1) := by decide +kernel
theorem dX10_law_24 : decode cX10_law 24 = .ok (.bipush 100, 2) := by decide +kernel
theorem dX10_law_26 : decode cX10_law 26 = .ok (.if_icmp .gt 27, 3) := by decide +kernel
theorem dX10_law_29 : decode cX10_law 29 = .ok (.iload_n 2, 1) := by decide +kernel
theorem dX10_law_30 : decode cX10_law 30 = .ok (.bipush 100, 2) := by decide +kernel
theorem dX10_law_32 : decode cX10_law 32 = .ok (.iload_n 1, 1) := by decide +kernel
theorem dX10_law_33 : decode cX10_law 33 = .ok (.isub, 1) := by decide +kernel
theorem dX10_law_34 : decode cX10_law 34 = .ok (.if_icmp .gt 19, 3) := by decide +kernel
theorem dX10_law_37 : decode cX10_law 37 = .ok (.iload_n 3, 1) := by decide +kernel
theorem dX10_law_38 : decode cX10_law 38 = .ok (.sipush 1000, 3) := by decide +kernel
theorem dX10_law_41 : decode cX10_law 41 = .ok (.if_icmp .gt 12, 3) := by decide +kernel
theorem dX10_law_44 : decode cX10_law 44 = .ok (.aload_n 0, 1) := by decide +kernel
theorem dX10_law_45 : decode cX10_law 45 = .ok (.getfield 176, 3) := by decide +kernel
theorem dX10_law_48 : decode cX10_law 48 = .ok (.bipush 20, 2) := by decide +kernel
theorem dX10_law_50 : decode cX10_law 50 = .ok (.if_icmp .ne 10, 3) := by decide +kernel
theorem dX10_law_53 : decode cX10_law 53 = .ok (.aload_n 0, 1) := by decide +kernel
theorem dX10_law_54 : decode cX10_law 54 = .ok (.bipush (-6), 2) := by decide +kernel
theorem dX10_law_56 : decode cX10_law 56 = .ok (.invokevirtual 152, 3) := by decide +kernel
theorem dX10_law_59 : decode cX10_law 59 = .ok (.ireturn, 1) := by decide +kernel
theorem dX10_law_60 : decode cX10_law 60 = .ok (.aload_n 0, 1) := by decide +kernel
theorem dX10_law_61 : decode cX10_law 61 = .ok (.getfield 99, 3) := by decide +kernel
theorem dX10_law_64 : decode cX10_law 64 = .ok (.aload_n 0, 1) := by decide +kernel
theorem dX10_law_65 : decode cX10_law 65 = .ok (.getfield 176, 3) := by decide +kernel
theorem dX10_law_68 : decode cX10_law 68 = .ok (.iload_n 1, 1) := by decide +kernel
theorem dX10_law_69 : decode cX10_law 69 = .ok (.iastore, 1) := by decide +kernel
theorem dX10_law_70 : decode cX10_law 70 = .ok (.aload_n 0, 1) := by decide +kernel
theorem dX10_law_71 : decode cX10_law 71 = .ok (.getfield 102, 3) := by decide +kernel
theorem dX10_law_74 : decode cX10_law 74 = .ok (.aload_n 0, 1) := by decide +kernel
theorem dX10_law_75 : decode cX10_law 75 = .ok (.getfield 176, 3) := by decide +kernel
theorem dX10_law_78 : decode cX10_law 78 = .ok (.iload_n 2, 1) := by decide +kernel
theorem dX10_law_79 : decode cX10_law 79 = .ok (.iastore, 1) := by decide +kernel
theorem dX10_law_80 : decode cX10_law 80 = .ok (.aload_n 0, 1) := by decide +kernel
theorem dX10_law_81 : decode cX10_law 81 = .ok (.getfield 105, 3) := by decide +kernel
theorem dX10_law_84 : decode cX10_law 84 = .ok (.aload_n 0, 1) := by decide +kernel
theorem dX10_law_85 : decode cX10_law 85 = .ok (.getfield 176, 3) := by decide +kernel
theorem dX10_law_88 : decode cX10_law 88 = .ok (.iload_n 3, 1) := by decide +kernel
theorem dX10_law_89 : decode cX10_law 89 = .ok (.iastore, 1) := by decide +kernel
theorem dX10_law_90 : decode cX10_law 90 = .ok (.aload_n 0, 1) := by decide +kernel
theorem dX10_law_91 : decode cX10_law 91 = .ok (.dup, 1) := by decide +kernel
theorem dX10_law_92 : decode cX10_law 92 = .ok (.getfield 176, 3) := by decide +kernel
theorem dX10_law_95 : decode cX10_law 95 = .ok (.iconst 1, 1) := by decide +kernel
theorem dX10_law_96 : decode cX10_law 96 = .ok (.iadd, 1) := by decide +kernel
theorem dX10_law_97 : decode cX10_law 97 = .ok (.putfield 176, 3) := by decide +kernel
theorem dX10_law_100 : decode cX10_law 100 = .ok (.aload_n 0, 1) := by decide +kernel
theorem dX10_law_101 : decode cX10_law 101 = .ok (.getfield 176, 3) := by decide +kernel
theorem dX10_law_104 : decode cX10_law 104 = .ok (.iconst 1, 1) := by decide +kernel
theorem dX10_law_105 : decode cX10_law 105 = .ok (.isub, 1) := by decide +kernel
theorem dX10_law_106 : decode cX10_law 106 = .ok (.ireturn, 1) := by decide +kernel
set_option maxRecDepth 20000 in
theorem ggX10_word_X10_in : GoodIn wsX10_word wsX10_in := goodIn_r _ [9] (by decide +kernel) (by decide +kernel)
set_option maxRecDepth 20000 in
theorem gX10_word_X10_in : GoodIn wsX10_word (va_wsS RX10 144 yX10_in wsX10_in) := goodIn_app (goodIn_of _ (by decide +kernel)) ggX10_word_X10_in
set_option maxRecDepth 20000 in
theorem ggX10_word_X10_isCove : GoodIn wsX10_word wsX10_isCove := goodIn_r _ [12, 6, 7, 8, 9] (by decide +kernel) (by decide +kernel)
set_option maxRecDepth 20000 in
theorem gX10_word_X10_isCove : GoodIn wsX10_word (va_wsS RX10 148 yX10_isCove wsX10_isCove) := goodIn_app (goodIn_of _ (by decide +kernel)) ggX10_word_X10_isCove
set_option maxRecDepth 20000 in
theorem ggX10_word_X10_refuse : GoodIn wsX10_word wsX10_refuse := goodIn_r _ [16, 17, 18, 19, 20, 21, 22, 23, 24, 25, 26, 27, 28, 29, 30, 31, 32, 33, 34, 35, 36, 37, 38, 39, 40, 41, 42, 43, 44, 45, 46, 47, 48, 49, 50, 51, 52, 53, 54, 55, 56, 57, 58, 59, 60, 61, 62, 63, 64, 65, 66, 67, 68, 69, 70, 71] (by decide +kernel) (by decide +kernel)
set_option maxRecDepth 20000 in
theorem gX10_word_X10_refuse : GoodIn wsX10_word (wsV RX10 152 RX10 yX10_refuse wsX10_refuse) := goodIn_app (goodIn_of _ (by decide +kernel)) ggX10_word_X10_refuse
theorem dX10_word_0 : decode cX10_word 0 = .ok (.iload_n 1, 1) := by decide +kernel
theorem dX10_word_1 : decode cX10_word 1 = .ok (.iconst 0, 1) := by decide +kernel
theorem dX10_word_2 : decode cX10_word 2 = .ok (.iconst 5, 1) := by decide +kernel
theorem dX10_word_3 : decode cX10_word 3 = .ok (.invokestatic 144, 3) := by decide +kernel
theorem dX10_word_6 : decode cX10_word 6 = .ok (.ifCond .eq 10, 3) := by decide +kernel
theorem dX10_word_9 : decode cX10_word 9 = .ok (.iload_n 3, 1) := by decide +kernel
theorem dX10_word_10 : decode cX10_word 10 = .ok (.invokestatic 148, 3) := by decide +kernel
theorem dX10_word_13 : decode cX10_word 13 = .ok (.ifCond .ne 9, 3) := by decide +kernel
theorem dX10_word_16 : decode cX10_word 16 = .ok (.aload_n 0, 1) := by decide +kernel
theorem dX10_word_17 : decode cX10_word 17 = .ok (.iconst (-1), 1) := by decide +kernel
theorem dX10_word_18 : decode cX10_word 18 = .ok (.invokevirtual 152, 3) := by decide +kernel
theorem dX10_word_21 : decode cX10_word 21 = .ok (.ireturn, 1) := by decide +kernel
theorem dX10_word_22 : decode cX10_word 22 = .ok (.iload_n 2, 1) := by decide +kernel
theorem dX10_word_23 : decode cX10_word 23 = .ok (.aload_n 0, 1) := by decide +kernel
theorem dX10_word_24 : decode cX10_word 24 = .ok (.getfield 173, 3) := by decide +kernel
theorem dX10_word_27 : decode cX10_word 27 = .ok (.if_icmp .gt 10, 3) := by decide +kernel
theorem dX10_word_30 : decode cX10_word 30 = .ok (.aload_n 0, 1) := by decide +kernel
theorem dX10_word_31 : decode cX10_word 31 = .ok (.bipush (-4), 2) := by decide +kernel
theorem dX10_word_33 : decode cX10_word 33 = .ok (.invokevirtual 152, 3) := by decide +kernel
theorem dX10_word_36 : decode cX10_word 36 = .ok (.ireturn, 1) := by decide +kernel
theorem dX10_word_37 : decode cX10_word 37 = .ok (.iload_n 2, 1) := by decide +kernel
theorem dX10_word_38 : decode cX10_word 38 = .ok (.sipush 1000, 3) := by decide +kernel
theorem dX10_word_41 : decode cX10_word 41 = .ok (.if_icmp .gt 12, 3) := by decide +kernel
theorem dX10_word_44 : decode cX10_word 44 = .ok (.aload_n 0, 1) := by decide +kernel
theorem dX10_word_45 : decode cX10_word 45 = .ok (.getfield 179, 3) := by decide +kernel
theorem dX10_word_48 : decode cX10_word 48 = .ok (.bipush 60, 2) := by decide +kernel
theorem dX10_word_50 : decode cX10_word 50 = .ok (.if_icmp .ne 10, 3) := by decide +kernel
theorem dX10_word_53 : decode cX10_word 53 = .ok (.aload_n 0, 1) := by decide +kernel
theorem dX10_word_54 : decode cX10_word 54 = .ok (.bipush (-6), 2) := by decide +kernel
theorem dX10_word_56 : decode cX10_word 56 = .ok (.invokevirtual 152, 3) := by decide +kernel
theorem dX10_word_59 : decode cX10_word 59 = .ok (.ireturn, 1) := by decide +kernel
theorem dX10_word_60 : decode cX10_word 60 = .ok (.iconst 0, 1) := by decide +kernel
theorem dX10_word_61 : decode cX10_word 61 = .ok (.istore 4, 2) := by decide +kernel
theorem dX10_word_63 : decode cX10_word 63 = .ok (.iload 4, 2) := by decide +kernel
theorem dX10_word_65 : decode cX10_word 65 = .ok (.aload_n 0, 1) := by decide +kernel
theorem dX10_word_66 : decode cX10_word 66 = .ok (.getfield 179, 3) := by decide +kernel
theorem dX10_word_69 : decode cX10_word 69 = .ok (.if_icmp .ge 49, 3) := by decide +kernel
theorem dX10_word_72 : decode cX10_word 72 = .ok (.aload_n 0, 1) := by decide +kernel
theorem dX10_word_73 : decode cX10_word 73 = .ok (.getfield 108, 3) := by decide +kernel
theorem dX10_word_76 : decode cX10_word 76 = .ok (.iload 4, 2) := by decide +kernel
theorem dX10_word_78 : decode cX10_word 78 = .ok (.iaload, 1) := by decide +kernel
theorem dX10_word_79 : decode cX10_word 79 = .ok (.iload_n 1, 1) := by decide +kernel
theorem dX10_word_80 : decode cX10_word 80 = .ok (.if_icmp .ne 32, 3) := by decide +kernel
theorem dX10_word_83 : decode cX10_word 83 = .ok (.aload_n 0, 1) := by decide +kernel
theorem dX10_word_84 : decode cX10_word 84 = .ok (.getfield 111, 3) := by decide +kernel
theorem dX10_word_87 : decode cX10_word 87 = .ok (.iload 4, 2) := by decide +kernel
theorem dX10_word_89 : decode cX10_word 89 = .ok (.iaload, 1) := by decide +kernel
theorem dX10_word_90 : decode cX10_word 90 = .ok (.iload_n 2, 1) := by decide +kernel
theorem dX10_word_91 : decode cX10_word 91 = .ok (.if_icmp .ne 21, 3) := by decide +kernel
theorem dX10_word_94 : decode cX10_word 94 = .ok (.aload_n 0, 1) := by decide +kernel
theorem dX10_word_95 : decode cX10_word 95 = .ok (.getfield 114, 3) := by decide +kernel
theorem dX10_word_98 : decode cX10_word 98 = .ok (.iload 4, 2) := by decide +kernel
theorem dX10_word_100 : decode cX10_word 100 = .ok (.iaload, 1) := by decide +kernel
theorem dX10_word_101 : decode cX10_word 101 = .ok (.iload_n 3, 1) := by decide +kernel
theorem dX10_word_102 : decode cX10_word 102 = .ok (.if_icmp .ne 10, 3) := by decide +kernel
theorem dX10_word_105 : decode cX10_word 105 = .ok (.aload_n 0, 1) := by decide +kernel
theorem dX10_word_106 : decode cX10_word 106 = .ok (.bipush (-3), 2) := by decide +kernel
theorem dX10_word_108 : decode cX10_word 108 = .ok (.invokevirtual 152, 3) := by decide +kernel
theorem dX10_word_111 : decode cX10_word 111 = .ok (.ireturn, 1) := by decide +kernel
theorem dX10_word_112 : decode cX10_word 112 = .ok (.iinc 4 1, 3) := by decide +kernel
theorem dX10_word_115 : decode cX10_word 115 = .ok (.goto (-52), 3) := by decide +kernel
theorem dX10_word_118 : decode cX10_word 118 = .ok (.aload_n 0, 1) := by decide +kernel
theorem dX10_word_119 : decode cX10_word 119 = .ok (.getfield 108, 3) := by decide +kernel
theorem dX10_word_122 : decode cX10_word 122 = .ok (.aload_n 0, 1) := by decide +kernel
theorem dX10_word_123 : decode cX10_word 123 = .ok (.getfield 179, 3) := by decide +kernel
theorem dX10_word_126 : decode cX10_word 126 = .ok (.iload_n 1, 1) := by decide +kernel
theorem dX10_word_127 : decode cX10_word 127 = .ok (.iastore, 1) := by decide +kernel
theorem dX10_word_128 : decode cX10_word 128 = .ok (.aload_n 0, 1) := by decide +kernel
theorem dX10_word_129 : decode cX10_word 129 = .ok (.getfield 111, 3) := by decide +kernel
theorem dX10_word_132 : decode cX10_word 132 = .ok (.aload_n 0, 1) := by decide +kernel
theorem dX10_word_133 : decode cX10_word 133 = .ok (.getfield 179, 3) := by decide +kernel
theorem dX10_word_136 : decode cX10_word 136 = .ok (.iload_n 2, 1) := by decide +kernel
theorem dX10_word_137 : decode cX10_word 137 = .ok (.iastore, 1) := by decide +kernel
theorem dX10_word_138 : decode cX10_word 138 = .ok (.aload_n 0, 1) := by decide +kernel
theorem dX10_word_139 : decode cX10_word 139 = .ok (.getfield 114, 3) := by decide +kernel
theorem dX10_word_142 : decode cX10_word 142 = .ok (.aload_n 0, 1) := by decide +kernel
theorem dX10_word_143 : decode cX10_word 143 = .ok (.getfield 179, 3) := by decide +kernel
theorem dX10_word_146 : decode cX10_word 146 = .ok (.iload_n 3, 1) := by decide +kernel
theorem dX10_word_147 : decode cX10_word 147 = .ok (.iastore, 1) := by decide +kernel
theorem dX10_word_148 : decode cX10_word 148 = .ok (.aload_n 0, 1) := by decide +kernel
theorem dX10_word_149 : decode cX10_word 149 = .ok (.dup, 1) := by decide +kernel
theorem dX10_word_150 : decode cX10_word 150 = .ok (.getfield 179, 3) := by decide +kernel
theorem dX10_word_153 : decode cX10_word 153 = .ok (.iconst 1, 1) := by decide +kernel
theorem dX10_word_154 : decode cX10_word 154 = .ok (.iadd, 1) := by decide +kernel
theorem dX10_word_155 : decode cX10_word 155 = .ok (.putfield 179, 3) := by decide +kernel
theorem dX10_word_158 : decode cX10_word 158 = .ok (.aload_n 0, 1) := by decide +kernel
theorem dX10_word_159 : decode cX10_word 159 = .ok (.getfield 179, 3) := by decide +kernel
theorem dX10_word_162 : decode cX10_word 162 = .ok (.iconst 1, 1) := by decide +kernel
theorem dX10_word_163 : decode cX10_word 163 = .ok (.isub, 1) := by decide +kernel
theorem dX10_word_164 : decode cX10_word 164 = .ok (.ireturn, 1) := by decide +kernel
theorem dX10_drawBelow_0 : decode cX10_drawBelow 0 = .ok (.aload_n 0, 1) := by decide +kernel
theorem dX10_drawBelow_1 : decode cX10_drawBelow 1 = .ok (.aload_n 0, 1) := by decide +kernel
theorem dX10_drawBelow_2 : decode cX10_drawBelow 2 = .ok (.getfield 7, 3) := by decide +kernel
theorem dX10_drawBelow_5 : decode cX10_drawBelow 5 = .ok (.ldc 182, 2) := by decide +kernel
theorem dX10_drawBelow_7 : decode cX10_drawBelow 7 = .ok (.imul, 1) := by decide +kernel
theorem dX10_drawBelow_8 : decode cX10_drawBelow 8 = .ok (.sipush 12345, 3) := by decide +kernel
theorem dX10_drawBelow_11 : decode cX10_drawBelow 11 = .ok (.iadd, 1) := by decide +kernel
theorem dX10_drawBelow_12 : decode cX10_drawBelow 12 = .ok (.putfield 7, 3) := by decide +kernel
theorem dX10_drawBelow_15 : decode cX10_drawBelow 15 = .ok (.aload_n 0, 1) := by decide +kernel
theorem dX10_drawBelow_16 : decode cX10_drawBelow 16 = .ok (.getfield 7, 3) := by decide +kernel
theorem dX10_drawBelow_19 : decode cX10_drawBelow 19 = .ok (.bipush 16, 2) := by decide +kernel
theorem dX10_drawBelow_21 : decode cX10_drawBelow 21 = .ok (.iushr, 1) := by decide +kernel
theorem dX10_drawBelow_22 : decode cX10_drawBelow 22 = .ok (.iload_n 1, 1) := by decide +kernel
theorem dX10_drawBelow_23 : decode cX10_drawBelow 23 = .ok (.irem, 1) := by decide +kernel
theorem dX10_drawBelow_24 : decode cX10_drawBelow 24 = .ok (.ireturn, 1) := by decide +kernel
set_option maxRecDepth 20000 in
theorem ggX10_watch_X10_drawBelow : GoodIn wsX10_watch wsX10_drawBelow := goodIn_r _ [9, 10, 11, 12, 13, 14, 15, 16, 17, 18, 19, 20, 21, 22, 23, 24, 25, 26, 27, 28, 29, 30, 31, 32, 33, 34, 35, 36, 37, 38, 39, 40, 41, 42, 43, 44, 45, 46, 47, 48, 49, 50, 51, 52, 53, 54, 55, 56, 57, 58, 59, 60, 61, 62, 63, 64, 65] (by decide +kernel) (by decide +kernel)
set_option maxRecDepth 20000 in
theorem gX10_watch_X10_drawBelow : GoodIn wsX10_watch (wsV RX10 183 RX10 yX10_drawBelow wsX10_drawBelow) := goodIn_app (goodIn_of _ (by decide +kernel)) ggX10_watch_X10_drawBelow
theorem dX10_watch_0 : decode cX10_watch 0 = .ok (.iconst 0, 1) := by decide +kernel
theorem dX10_watch_1 : decode cX10_watch 1 = .ok (.istore_n 1, 1) := by decide +kernel
theorem dX10_watch_2 : decode cX10_watch 2 = .ok (.iconst 0, 1) := by decide +kernel
theorem dX10_watch_3 : decode cX10_watch 3 = .ok (.istore_n 2, 1) := by decide +kernel
theorem dX10_watch_4 : decode cX10_watch 4 = .ok (.iload_n 2, 1) := by decide +kernel
theorem dX10_watch_5 : decode cX10_watch 5 = .ok (.bipush 6, 2) := by decide +kernel
theorem dX10_watch_7 : decode cX10_watch 7 = .ok (.if_icmp .ge 30, 3) := by decide +kernel
theorem dX10_watch_10 : decode cX10_watch 10 = .ok (.aload_n 0, 1) := by decide +kernel
theorem dX10_watch_11 : decode cX10_watch 11 = .ok (.getfield 93, 3) := by decide +kernel
theorem dX10_watch_14 : decode cX10_watch 14 = .ok (.iload_n 2, 1) := by decide +kernel
theorem dX10_watch_15 : decode cX10_watch 15 = .ok (.aload_n 0, 1) := by decide +kernel
theorem dX10_watch_16 : decode cX10_watch 16 = .ok (.getfield 83, 3) := by decide +kernel
theorem dX10_watch_19 : decode cX10_watch 19 = .ok (.iload_n 2, 1) := by decide +kernel
theorem dX10_watch_20 : decode cX10_watch 20 = .ok (.iaload, 1) := by decide +kernel
theorem dX10_watch_21 : decode cX10_watch 21 = .ok (.iastore, 1) := by decide +kernel
theorem dX10_watch_22 : decode cX10_watch 22 = .ok (.iload_n 1, 1) := by decide +kernel
theorem dX10_watch_23 : decode cX10_watch 23 = .ok (.aload_n 0, 1) := by decide +kernel
theorem dX10_watch_24 : decode cX10_watch 24 = .ok (.getfield 86, 3) := by decide +kernel
theorem dX10_watch_27 : decode cX10_watch 27 = .ok (.iload_n 2, 1) := by decide +kernel
theorem dX10_watch_28 : decode cX10_watch 28 = .ok (.iaload, 1) := by decide +kernel
theorem dX10_watch_29 : decode cX10_watch 29 = .ok (.iadd, 1) := by decide +kernel
theorem dX10_watch_30 : decode cX10_watch 30 = .ok (.istore_n 1, 1) := by decide +kernel
theorem dX10_watch_31 : decode cX10_watch 31 = .ok (.iinc 2 1, 3) := by decide +kernel
theorem dX10_watch_34 : decode cX10_watch 34 = .ok (.goto (-30), 3) := by decide +kernel
theorem dX10_watch_37 : decode cX10_watch 37 = .ok (.iconst 0, 1) := by decide +kernel
theorem dX10_watch_38 : decode cX10_watch 38 = .ok (.istore_n 2, 1) := by decide +kernel
theorem dX10_watch_39 : decode cX10_watch 39 = .ok (.iload_n 2, 1) := by decide +kernel
theorem dX10_watch_40 : decode cX10_watch 40 = .ok (.aload_n 0, 1) := by decide +kernel
theorem dX10_watch_41 : decode cX10_watch 41 = .ok (.getfield 167, 3) := by decide +kernel
theorem dX10_watch_44 : decode cX10_watch 44 = .ok (.if_icmp .ge 65, 3) := by decide +kernel
theorem dX10_watch_47 : decode cX10_watch 47 = .ok (.iload_n 1, 1) := by decide +kernel
theorem dX10_watch_48 : decode cX10_watch 48 = .ok (.ifCond .le 61, 3) := by decide +kernel
theorem dX10_watch_51 : decode cX10_watch 51 = .ok (.aload_n 0, 1) := by decide +kernel
theorem dX10_watch_52 : decode cX10_watch 52 = .ok (.iload_n 1, 1) := by decide +kernel
theorem dX10_watch_53 : decode cX10_watch 53 = .ok (.invokevirtual 183, 3) := by decide +kernel
theorem dX10_watch_56 : decode cX10_watch 56 = .ok (.istore_n 3, 1) := by decide +kernel
theorem dX10_watch_57 : decode cX10_watch 57 = .ok (.iconst 0, 1) := by decide +kernel
theorem dX10_watch_58 : decode cX10_watch 58 = .ok (.istore 4, 2) := by decide +kernel
theorem dX10_watch_60 : decode cX10_watch 60 = .ok (.aload_n 0, 1) := by decide +kernel
theorem dX10_watch_61 : decode cX10_watch 61 = .ok (.getfield 86, 3) := by decide +kernel
theorem dX10_watch_64 : decode cX10_watch 64 = .ok (.iconst 0, 1) := by decide +kernel
theorem dX10_watch_65 : decode cX10_watch 65 = .ok (.iaload, 1) := by decide +kernel
theorem dX10_watch_66 : decode cX10_watch 66 = .ok (.istore 5, 2) := by decide +kernel
theorem dX10_watch_68 : decode cX10_watch 68 = .ok (.iload 5, 2) := by decide +kernel
theorem dX10_watch_70 : decode cX10_watch 70 = .ok (.iload_n 3, 1) := by decide +kernel
theorem dX10_watch_71 : decode cX10_watch 71 = .ok (.if_icmp .gt 21, 3) := by decide +kernel
theorem dX10_watch_74 : decode cX10_watch 74 = .ok (.iinc 4 1, 3) := by decide +kernel
theorem dX10_watch_77 : decode cX10_watch 77 = .ok (.iload 5, 2) := by decide +kernel
theorem dX10_watch_79 : decode cX10_watch 79 = .ok (.aload_n 0, 1) := by decide +kernel
theorem dX10_watch_80 : decode cX10_watch 80 = .ok (.getfield 86, 3) := by decide +kernel
theorem dX10_watch_83 : decode cX10_watch 83 = .ok (.iload 4, 2) := by decide +kernel
theorem dX10_watch_85 : decode cX10_watch 85 = .ok (.iaload, 1) := by decide +kernel
theorem dX10_watch_86 : decode cX10_watch 86 = .ok (.iadd, 1) := by decide +kernel
theorem dX10_watch_87 : decode cX10_watch 87 = .ok (.istore 5, 2) := by decide +kernel
theorem dX10_watch_89 : decode cX10_watch 89 = .ok (.goto (-21), 3) := by decide +kernel
theorem dX10_watch_92 : decode cX10_watch 92 = .ok (.aload_n 0, 1) := by decide +kernel
theorem dX10_watch_93 : decode cX10_watch 93 = .ok (.getfield 93, 3) := by decide +kernel
theorem dX10_watch_96 : decode cX10_watch 96 = .ok (.iload 4, 2) := by decide +kernel
theorem dX10_watch_98 : decode cX10_watch 98 = .ok (.dup2, 1) := by decide +kernel
theorem dX10_watch_99 : decode cX10_watch 99 = .ok (.iaload, 1) := by decide +kernel
theorem dX10_watch_100 : decode cX10_watch 100 = .ok (.iconst 1, 1) := by decide +kernel
theorem dX10_watch_101 : decode cX10_watch 101 = .ok (.iadd, 1) := by decide +kernel
theorem dX10_watch_102 : decode cX10_watch 102 = .ok (.iastore, 1) := by decide +kernel
theorem dX10_watch_103 : decode cX10_watch 103 = .ok (.iinc 2 1, 3) := by decide +kernel
theorem dX10_watch_106 : decode cX10_watch 106 = .ok (.goto (-67), 3) := by decide +kernel
theorem dX10_watch_109 : decode cX10_watch 109 = .ok (.return_, 1) := by decide +kernel
theorem dX10_counting_0 : decode cX10_counting 0 = .ok (.aload_n 0, 1) := by decide +kernel
theorem dX10_counting_1 : decode cX10_counting 1 = .ok (.getfield 89, 3) := by decide +kernel
theorem dX10_counting_4 : decode cX10_counting 4 = .ok (.iload_n 1, 1) := by decide +kernel
theorem dX10_counting_5 : decode cX10_counting 5 = .ok (.baload, 1) := by decide +kernel
theorem dX10_counting_6 : decode cX10_counting 6 = .ok (.ifCond .eq 23, 3) := by decide +kernel
theorem dX10_counting_9 : decode cX10_counting 9 = .ok (.aload_n 0, 1) := by decide +kernel
theorem dX10_counting_10 : decode cX10_counting 10 = .ok (.getfield 93, 3) := by decide +kernel
theorem dX10_counting_13 : decode cX10_counting 13 = .ok (.iload_n 1, 1) := by decide +kernel
theorem dX10_counting_14 : decode cX10_counting 14 = .ok (.iaload, 1) := by decide +kernel
theorem dX10_counting_15 : decode cX10_counting 15 = .ok (.ifCond .le 14, 3) := by decide +kernel
theorem dX10_counting_18 : decode cX10_counting 18 = .ok (.aload_n 0, 1) := by decide +kernel
theorem dX10_counting_19 : decode cX10_counting 19 = .ok (.getfield 93, 3) := by decide +kernel
theorem dX10_counting_22 : decode cX10_counting 22 = .ok (.iload_n 1, 1) := by decide +kernel
theorem dX10_counting_23 : decode cX10_counting 23 = .ok (.iaload, 1) := by decide +kernel
theorem dX10_counting_24 : decode cX10_counting 24 = .ok (.iconst 1, 1) := by decide +kernel
theorem dX10_counting_25 : decode cX10_counting 25 = .ok (.isub, 1) := by decide +kernel
theorem dX10_counting_26 : decode cX10_counting 26 = .ok (.goto 9, 3) := by decide +kernel
theorem dX10_counting_29 : decode cX10_counting 29 = .ok (.aload_n 0, 1) := by decide +kernel
theorem dX10_counting_30 : decode cX10_counting 30 = .ok (.getfield 93, 3) := by decide +kernel
theorem dX10_counting_33 : decode cX10_counting 33 = .ok (.iload_n 1, 1) := by decide +kernel
theorem dX10_counting_34 : decode cX10_counting 34 = .ok (.iaload, 1) := by decide +kernel
theorem dX10_counting_35 : decode cX10_counting 35 = .ok (.ireturn, 1) := by decide +kernel
set_option maxRecDepth 20000 in
theorem ggX10_choice_X10_lightAt : GoodIn wsX10_choice wsX10_lightAt := goodIn_r _ [10] (by decide +kernel) (by decide +kernel)
set_option maxRecDepth 20000 in
theorem gX10_choice_X10_lightAt : GoodIn wsX10_choice (va_wsS RX10 186 yX10_lightAt wsX10_lightAt) := goodIn_app (goodIn_of _ (by decide +kernel)) ggX10_choice_X10_lightAt
set_option maxRecDepth 20000 in
theorem ggX10_choice_X10_tideAt : GoodIn wsX10_choice wsX10_tideAt := goodIn_r _ [14, 15, 16, 17, 18, 19, 20, 21, 22, 23, 24, 25, 26, 27, 28, 29, 30, 31, 32, 33, 34, 35, 36, 37, 38, 39, 40, 41, 42, 43, 44, 45, 46, 47, 48, 49, 50, 51, 52, 53, 54, 55, 56, 57, 58, 59, 60, 61, 62, 63, 64, 65, 66, 67, 68, 69, 70, 71] (by decide +kernel) (by decide +kernel)
set_option maxRecDepth 20000 in
theorem gX10_choice_X10_tideAt : GoodIn wsX10_choice (wsV RX10 157 RX10 yX10_tideAt wsX10_tideAt) := goodIn_app (goodIn_of _ (by decide +kernel)) ggX10_choice_X10_tideAt
theorem dX10_choice_0 : decode cX10_choice 0 = .ok (.iconst (-1), 1) := by decide +kernel
theorem dX10_choice_1 : decode cX10_choice 1 = .ok (.istore_n 2, 1) := by decide +kernel
theorem dX10_choice_2 : decode cX10_choice 2 = .ok (.iconst 0, 1) := by decide +kernel
theorem dX10_choice_3 : decode cX10_choice 3 = .ok (.istore_n 3, 1) := by decide +kernel
theorem dX10_choice_4 : decode cX10_choice 4 = .ok (.iload_n 3, 1) := by decide +kernel
theorem dX10_choice_5 : decode cX10_choice 5 = .ok (.bipush 6, 2) := by decide +kernel
theorem dX10_choice_7 : decode cX10_choice 7 = .ok (.if_icmp .ge 137, 3) := by decide +kernel
theorem dX10_choice_10 : decode cX10_choice 10 = .ok (.aload_n 0, 1) := by decide +kernel
theorem dX10_choice_11 : decode cX10_choice 11 = .ok (.getfield 173, 3) := by decide +kernel
theorem dX10_choice_14 : decode cX10_choice 14 = .ok (.invokestatic 186, 3) := by decide +kernel
theorem dX10_choice_17 : decode cX10_choice 17 = .ok (.aload_n 0, 1) := by decide +kernel
theorem dX10_choice_18 : decode cX10_choice 18 = .ok (.getfield 38, 3) := by decide +kernel
theorem dX10_choice_21 : decode cX10_choice 21 = .ok (.iload_n 1, 1) := by decide +kernel
theorem dX10_choice_22 : decode cX10_choice 22 = .ok (.iaload, 1) := by decide +kernel
theorem dX10_choice_23 : decode cX10_choice 23 = .ok (.if_icmp .gt 121, 3) := by decide +kernel
theorem dX10_choice_26 : decode cX10_choice 26 = .ok (.aload_n 0, 1) := by decide +kernel
theorem dX10_choice_27 : decode cX10_choice 27 = .ok (.iload_n 3, 1) := by decide +kernel
theorem dX10_choice_28 : decode cX10_choice 28 = .ok (.aload_n 0, 1) := by decide +kernel
theorem dX10_choice_29 : decode cX10_choice 29 = .ok (.getfield 173, 3) := by decide +kernel
theorem dX10_choice_32 : decode cX10_choice 32 = .ok (.invokevirtual 157, 3) := by decide +kernel
theorem dX10_choice_35 : decode cX10_choice 35 = .ok (.aload_n 0, 1) := by decide +kernel
theorem dX10_choice_36 : decode cX10_choice 36 = .ok (.getfield 13, 3) := by decide +kernel
theorem dX10_choice_39 : decode cX10_choice 39 = .ok (.iload_n 3, 1) := by decide +kernel
theorem dX10_choice_40 : decode cX10_choice 40 = .ok (.iaload, 1) := by decide +kernel
theorem dX10_choice_41 : decode cX10_choice 41 = .ok (.iadd, 1) := by decide +kernel
theorem dX10_choice_42 : decode cX10_choice 42 = .ok (.aload_n 0, 1) := by decide +kernel
theorem dX10_choice_43 : decode cX10_choice 43 = .ok (.getfield 29, 3) := by decide +kernel
theorem dX10_choice_46 : decode cX10_choice 46 = .ok (.iload_n 1, 1) := by decide +kernel
theorem dX10_choice_47 : decode cX10_choice 47 = .ok (.iaload, 1) := by decide +kernel
theorem dX10_choice_48 : decode cX10_choice 48 = .ok (.if_icmp .lt 90, 3) := by decide +kernel
theorem dX10_choice_51 : decode cX10_choice 51 = .ok (.iload_n 2, 1) := by decide +kernel
theorem dX10_choice_52 : decode cX10_choice 52 = .ok (.ifCond .lt 68, 3) := by decide +kernel
theorem dX10_choice_55 : decode cX10_choice 55 = .ok (.aload_n 0, 1) := by decide +kernel
theorem dX10_choice_56 : decode cX10_choice 56 = .ok (.getfield 50, 3) := by decide +kernel
theorem dX10_choice_59 : decode cX10_choice 59 = .ok (.bipush 6, 2) := by decide +kernel
theorem dX10_choice_61 : decode cX10_choice 61 = .ok (.iload_n 1, 1) := by decide +kernel
theorem dX10_choice_62 : decode cX10_choice 62 = .ok (.imul, 1) := by decide +kernel
theorem dX10_choice_63 : decode cX10_choice 63 = .ok (.iload_n 3, 1) := by decide +kernel
theorem dX10_choice_64 : decode cX10_choice 64 = .ok (.iadd, 1) := by decide +kernel
theorem dX10_choice_65 : decode cX10_choice 65 = .ok (.iaload, 1) := by decide +kernel
theorem dX10_choice_66 : decode cX10_choice 66 = .ok (.aload_n 0, 1) := by decide +kernel
theorem dX10_choice_67 : decode cX10_choice 67 = .ok (.getfield 50, 3) := by decide +kernel
theorem dX10_choice_70 : decode cX10_choice 70 = .ok (.bipush 6, 2) := by decide +kernel
theorem dX10_choice_72 : decode cX10_choice 72 = .ok (.iload_n 1, 1) := by decide +kernel
theorem dX10_choice_73 : decode cX10_choice 73 = .ok (.imul, 1) := by decide +kernel
theorem dX10_choice_74 : decode cX10_choice 74 = .ok (.iload_n 2, 1) := by decide +kernel
theorem dX10_choice_75 : decode cX10_choice 75 = .ok (.iadd, 1) := by decide +kernel
theorem dX10_choice_76 : decode cX10_choice 76 = .ok (.iaload, 1) := by decide +kernel
theorem dX10_choice_77 : decode cX10_choice 77 = .ok (.if_icmp .lt 43, 3) := by decide +kernel
theorem dX10_choice_80 : decode cX10_choice 80 = .ok (.aload_n 0, 1) := by decide +kernel
theorem dX10_choice_81 : decode cX10_choice 81 = .ok (.getfield 50, 3) := by decide +kernel
theorem dX10_choice_84 : decode cX10_choice 84 = .ok (.bipush 6, 2) := by decide +kernel
theorem dX10_choice_86 : decode cX10_choice 86 = .ok (.iload_n 1, 1) := by decide +kernel
theorem dX10_choice_87 : decode cX10_choice 87 = .ok (.imul, 1) := by decide +kernel
theorem dX10_choice_88 : decode cX10_choice 88 = .ok (.iload_n 3, 1) := by decide +kernel
theorem dX10_choice_89 : decode cX10_choice 89 = .ok (.iadd, 1) := by decide +kernel
theorem dX10_choice_90 : decode cX10_choice 90 = .ok (.iaload, 1) := by decide +kernel
theorem dX10_choice_91 : decode cX10_choice 91 = .ok (.aload_n 0, 1) := by decide +kernel
theorem dX10_choice_92 : decode cX10_choice 92 = .ok (.getfield 50, 3) := by decide +kernel
theorem dX10_choice_95 : decode cX10_choice 95 = .ok (.bipush 6, 2) := by decide +kernel
theorem dX10_choice_97 : decode cX10_choice 97 = .ok (.iload_n 1, 1) := by decide +kernel
theorem dX10_choice_98 : decode cX10_choice 98 = .ok (.imul, 1) := by decide +kernel
theorem dX10_choice_99 : decode cX10_choice 99 = .ok (.iload_n 2, 1) := by decide +kernel
theorem dX10_choice_100 : decode cX10_choice 100 = .ok (.iadd, 1) := by decide +kernel
theorem dX10_choice_101 : decode cX10_choice 101 = .ok (.iaload, 1) := by decide +kernel
theorem dX10_choice_102 : decode cX10_choice 102 = .ok (.if_icmp .ne 22, 3) := by decide +kernel
theorem dX10_choice_105 : decode cX10_choice 105 = .ok (.aload_n 0, 1) := by decide +kernel
theorem dX10_choice_106 : decode cX10_choice 106 = .ok (.getfield 17, 3) := by decide +kernel
theorem dX10_choice_109 : decode cX10_choice 109 = .ok (.iload_n 3, 1) := by decide +kernel
theorem dX10_choice_110 : decode cX10_choice 110 = .ok (.iaload, 1) := by decide +kernel
theorem dX10_choice_111 : decode cX10_choice 111 = .ok (.aload_n 0, 1) := by decide +kernel
theorem dX10_choice_112 : decode cX10_choice 112 = .ok (.getfield 17, 3) := by decide +kernel
theorem dX10_choice_115 : decode cX10_choice 115 = .ok (.iload_n 2, 1) := by decide +kernel
theorem dX10_choice_116 : decode cX10_choice 116 = .ok (.iaload, 1) := by decide +kernel
theorem dX10_choice_117 : decode cX10_choice 117 = .ok (.if_icmp .le 7, 3) := by decide +kernel
theorem dX10_choice_120 : decode cX10_choice 120 = .ok (.iconst 1, 1) := by decide +kernel
theorem dX10_choice_121 : decode cX10_choice 121 = .ok (.goto 4, 3) := by decide +kernel
theorem dX10_choice_124 : decode cX10_choice 124 = .ok (.iconst 0, 1) := by decide +kernel
theorem dX10_choice_125 : decode cX10_choice 125 = .ok (.istore 4, 2) := by decide +kernel
theorem dX10_choice_127 : decode cX10_choice 127 = .ok (.iload 4, 2) := by decide +kernel
theorem dX10_choice_129 : decode cX10_choice 129 = .ok (.ifCond .eq 7, 3) := by decide +kernel
theorem dX10_choice_132 : decode cX10_choice 132 = .ok (.iload_n 3, 1) := by decide +kernel
theorem dX10_choice_133 : decode cX10_choice 133 = .ok (.goto 4, 3) := by decide +kernel
theorem dX10_choice_136 : decode cX10_choice 136 = .ok (.iload_n 2, 1) := by decide +kernel
theorem dX10_choice_137 : decode cX10_choice 137 = .ok (.istore_n 2, 1) := by decide +kernel
theorem dX10_choice_138 : decode cX10_choice 138 = .ok (.iinc 3 1, 3) := by decide +kernel
theorem dX10_choice_141 : decode cX10_choice 141 = .ok (.goto (-137), 3) := by decide +kernel
theorem dX10_choice_144 : decode cX10_choice 144 = .ok (.iload_n 2, 1) := by decide +kernel
theorem dX10_choice_145 : decode cX10_choice 145 = .ok (.ireturn, 1) := by decide +kernel
theorem dX10_partCasks_0 : decode cX10_partCasks 0 = .ok (.iconst (-1), 1) := by decide +kernel
theorem dX10_partCasks_1 : decode cX10_partCasks 1 = .ok (.istore_n 3, 1) := by decide +kernel
theorem dX10_partCasks_2 : decode cX10_partCasks 2 = .ok (.iconst 0, 1) := by decide +kernel
theorem dX10_partCasks_3 : decode cX10_partCasks 3 = .ok (.istore 4, 2) := by decide +kernel
theorem dX10_partCasks_5 : decode cX10_partCasks 5 = .ok (.iload 4, 2) := by decide +kernel
theorem dX10_partCasks_7 : decode cX10_partCasks 7 = .ok (.aload_n 0, 1) := by decide +kernel
theorem dX10_partCasks_8 : decode cX10_partCasks 8 = .ok (.getfield 176, 3) := by decide +kernel
theorem dX10_partCasks_11 : decode cX10_partCasks 11 = .ok (.if_icmp .ge 50, 3) := by decide +kernel
theorem dX10_partCasks_14 : decode cX10_partCasks 14 = .ok (.aload_n 0, 1) := by decide +kernel
theorem dX10_partCasks_15 : decode cX10_partCasks 15 = .ok (.getfield 105, 3) := by decide +kernel
theorem dX10_partCasks_18 : decode cX10_partCasks 18 = .ok (.iload 4, 2) := by decide +kernel
theorem dX10_partCasks_20 : decode cX10_partCasks 20 = .ok (.iaload, 1) := by decide +kernel
theorem dX10_partCasks_21 : decode cX10_partCasks 21 = .ok (.aload_n 0, 1) := by decide +kernel
theorem dX10_partCasks_22 : decode cX10_partCasks 22 = .ok (.getfield 173, 3) := by decide +kernel
theorem dX10_partCasks_25 : decode cX10_partCasks 25 = .ok (.if_icmp .gt 28, 3) := by decide +kernel
theorem dX10_partCasks_28 : decode cX10_partCasks 28 = .ok (.iload_n 3, 1) := by decide +kernel
theorem dX10_partCasks_29 : decode cX10_partCasks 29 = .ok (.ifCond .lt 19, 3) := by decide +kernel
theorem dX10_partCasks_32 : decode cX10_partCasks 32 = .ok (.aload_n 0, 1) := by decide +kernel
theorem dX10_partCasks_33 : decode cX10_partCasks 33 = .ok (.getfield 105, 3) := by decide +kernel
theorem dX10_partCasks_36 : decode cX10_partCasks 36 = .ok (.iload 4, 2) := by decide +kernel
theorem dX10_partCasks_38 : decode cX10_partCasks 38 = .ok (.iaload, 1) := by decide +kernel
theorem dX10_partCasks_39 : decode cX10_partCasks 39 = .ok (.aload_n 0, 1) := by decide +kernel
theorem dX10_partCasks_40 : decode cX10_partCasks 40 = .ok (.getfield 105, 3) := by decide +kernel
theorem dX10_partCasks_43 : decode cX10_partCasks 43 = .ok (.iload_n 3, 1) := by decide +kernel
theorem dX10_partCasks_44 : decode cX10_partCasks 44 = .ok (.iaload, 1) := by decide +kernel
theorem dX10_partCasks_45 : decode cX10_partCasks 45 = .ok (.if_icmp .lt 8, 3) := by decide +kernel
theorem dX10_partCasks_48 : decode cX10_partCasks 48 = .ok (.iload 4, 2) := by decide +kernel
theorem dX10_partCasks_50 : decode cX10_partCasks 50 = .ok (.goto 4, 3) := by decide +kernel
theorem dX10_partCasks_53 : decode cX10_partCasks 53 = .ok (.iload_n 3, 1) := by decide +kernel
theorem dX10_partCasks_54 : decode cX10_partCasks 54 = .ok (.istore_n 3, 1) := by decide +kernel
theorem dX10_partCasks_55 : decode cX10_partCasks 55 = .ok (.iinc 4 1, 3) := by decide +kernel
theorem dX10_partCasks_58 : decode cX10_partCasks 58 = .ok (.goto (-53), 3) := by decide +kernel
theorem dX10_partCasks_61 : decode cX10_partCasks 61 = .ok (.iload_n 1, 1) := by decide +kernel
theorem dX10_partCasks_62 : decode cX10_partCasks 62 = .ok (.aload_n 0, 1) := by decide +kernel
theorem dX10_partCasks_63 : decode cX10_partCasks 63 = .ok (.getfield 170, 3) := by decide +kernel
theorem dX10_partCasks_66 : decode cX10_partCasks 66 = .ok (.imul, 1) := by decide +kernel
theorem dX10_partCasks_67 : decode cX10_partCasks 67 = .ok (.istore 4, 2) := by decide +kernel
theorem dX10_partCasks_69 : decode cX10_partCasks 69 = .ok (.iload_n 3, 1) := by decide +kernel
theorem dX10_partCasks_70 : decode cX10_partCasks 70 = .ok (.ifCond .ge 7, 3) := by decide +kernel
theorem dX10_partCasks_73 : decode cX10_partCasks 73 = .ok (.iconst 0, 1) := by decide +kernel
theorem dX10_partCasks_74 : decode cX10_partCasks 74 = .ok (.goto 15, 3) := by decide +kernel
theorem dX10_partCasks_77 : decode cX10_partCasks 77 = .ok (.iload 4, 2) := by decide +kernel
theorem dX10_partCasks_79 : decode cX10_partCasks 79 = .ok (.aload_n 0, 1) := by decide +kernel
theorem dX10_partCasks_80 : decode cX10_partCasks 80 = .ok (.getfield 99, 3) := by decide +kernel
theorem dX10_partCasks_83 : decode cX10_partCasks 83 = .ok (.iload_n 3, 1) := by decide +kernel
theorem dX10_partCasks_84 : decode cX10_partCasks 84 = .ok (.iaload, 1) := by decide +kernel
theorem dX10_partCasks_85 : decode cX10_partCasks 85 = .ok (.imul, 1) := by decide +kernel
theorem dX10_partCasks_86 : decode cX10_partCasks 86 = .ok (.bipush 100, 2) := by decide +kernel
theorem dX10_partCasks_88 : decode cX10_partCasks 88 = .ok (.idiv, 1) := by decide +kernel
theorem dX10_partCasks_89 : decode cX10_partCasks 89 = .ok (.istore 5, 2) := by decide +kernel
theorem dX10_partCasks_91 : decode cX10_partCasks 91 = .ok (.iload_n 3, 1) := by decide +kernel
theorem dX10_partCasks_92 : decode cX10_partCasks 92 = .ok (.ifCond .lt 7, 3) := by decide +kernel
theorem dX10_partCasks_95 : decode cX10_partCasks 95 = .ok (.iload_n 2, 1) := by decide +kernel
theorem dX10_partCasks_96 : decode cX10_partCasks 96 = .ok (.ifCond .ge 7, 3) := by decide +kernel
theorem dX10_partCasks_99 : decode cX10_partCasks 99 = .ok (.iconst 0, 1) := by decide +kernel
theorem dX10_partCasks_100 : decode cX10_partCasks 100 = .ok (.goto 15, 3) := by decide +kernel
theorem dX10_partCasks_103 : decode cX10_partCasks 103 = .ok (.iload 4, 2) := by decide +kernel
theorem dX10_partCasks_105 : decode cX10_partCasks 105 = .ok (.aload_n 0, 1) := by decide +kernel
theorem dX10_partCasks_106 : decode cX10_partCasks 106 = .ok (.getfield 102, 3) := by decide +kernel
theorem dX10_partCasks_109 : decode cX10_partCasks 109 = .ok (.iload_n 3, 1) := by decide +kernel
theorem dX10_partCasks_110 : decode cX10_partCasks 110 = .ok (.iaload, 1) := by decide +kernel
theorem dX10_partCasks_111 : decode cX10_partCasks 111 = .ok (.imul, 1) := by decide +kernel
theorem dX10_partCasks_112 : decode cX10_partCasks 112 = .ok (.bipush 100, 2) := by decide +kernel
theorem dX10_partCasks_114 : decode cX10_partCasks 114 = .ok (.idiv, 1) := by decide +kernel
theorem dX10_partCasks_115 : decode cX10_partCasks 115 = .ok (.istore 6, 2) := by decide +kernel
theorem dX10_partCasks_117 : decode cX10_partCasks 117 = .ok (.aload_n 0, 1) := by decide +kernel
theorem dX10_partCasks_118 : decode cX10_partCasks 118 = .ok (.getfield 132, 3) := by decide +kernel
theorem dX10_partCasks_121 : decode cX10_partCasks 121 = .ok (.iconst 0, 1) := by decide +kernel
theorem dX10_partCasks_122 : decode cX10_partCasks 122 = .ok (.dup2, 1) := by decide +kernel
theorem dX10_partCasks_123 : decode cX10_partCasks 123 = .ok (.iaload, 1) := by decide +kernel
theorem dX10_partCasks_124 : decode cX10_partCasks 124 = .ok (.iload 5, 2) := by decide +kernel
theorem dX10_partCasks_126 : decode cX10_partCasks 126 = .ok (.iadd, 1) := by decide +kernel
theorem dX10_partCasks_127 : decode cX10_partCasks 127 = .ok (.iastore, 1) := by decide +kernel
theorem dX10_partCasks_128 : decode cX10_partCasks 128 = .ok (.aload_n 0, 1) := by decide +kernel
theorem dX10_partCasks_129 : decode cX10_partCasks 129 = .ok (.getfield 132, 3) := by decide +kernel
theorem dX10_partCasks_132 : decode cX10_partCasks 132 = .ok (.iconst 1, 1) := by decide +kernel
theorem dX10_partCasks_133 : decode cX10_partCasks 133 = .ok (.dup2, 1) := by decide +kernel
theorem dX10_partCasks_134 : decode cX10_partCasks 134 = .ok (.iaload, 1) := by decide +kernel
theorem dX10_partCasks_135 : decode cX10_partCasks 135 = .ok (.iload 4, 2) := by decide +kernel
theorem dX10_partCasks_137 : decode cX10_partCasks 137 = .ok (.iload 5, 2) := by decide +kernel
theorem dX10_partCasks_139 : decode cX10_partCasks 139 = .ok (.isub, 1) := by decide +kernel
theorem dX10_partCasks_140 : decode cX10_partCasks 140 = .ok (.iload 6, 2) := by decide +kernel
theorem dX10_partCasks_142 : decode cX10_partCasks 142 = .ok (.isub, 1) := by decide +kernel
theorem dX10_partCasks_143 : decode cX10_partCasks 143 = .ok (.iadd, 1) := by decide +kernel
theorem dX10_partCasks_144 : decode cX10_partCasks 144 = .ok (.iastore, 1) := by decide +kernel
theorem dX10_partCasks_145 : decode cX10_partCasks 145 = .ok (.iload_n 2, 1) := by decide +kernel
theorem dX10_partCasks_146 : decode cX10_partCasks 146 = .ok (.ifCond .lt 16, 3) := by decide +kernel
theorem dX10_partCasks_149 : decode cX10_partCasks 149 = .ok (.aload_n 0, 1) := by decide +kernel
theorem dX10_partCasks_150 : decode cX10_partCasks 150 = .ok (.getfield 132, 3) := by decide +kernel
theorem dX10_partCasks_153 : decode cX10_partCasks 153 = .ok (.iconst 2, 1) := by decide +kernel
theorem dX10_partCasks_154 : decode cX10_partCasks 154 = .ok (.iload_n 2, 1) := by decide +kernel
theorem dX10_partCasks_155 : decode cX10_partCasks 155 = .ok (.iadd, 1) := by decide +kernel
theorem dX10_partCasks_156 : decode cX10_partCasks 156 = .ok (.dup2, 1) := by decide +kernel
theorem dX10_partCasks_157 : decode cX10_partCasks 157 = .ok (.iaload, 1) := by decide +kernel
theorem dX10_partCasks_158 : decode cX10_partCasks 158 = .ok (.iload 6, 2) := by decide +kernel
theorem dX10_partCasks_160 : decode cX10_partCasks 160 = .ok (.iadd, 1) := by decide +kernel
theorem dX10_partCasks_161 : decode cX10_partCasks 161 = .ok (.iastore, 1) := by decide +kernel
theorem dX10_partCasks_162 : decode cX10_partCasks 162 = .ok (.return_, 1) := by decide +kernel
theorem dX10_teller_0 : decode cX10_teller 0 = .ok (.iconst 0, 1) := by decide +kernel
theorem dX10_teller_1 : decode cX10_teller 1 = .ok (.istore_n 2, 1) := by decide +kernel
theorem dX10_teller_2 : decode cX10_teller 2 = .ok (.iload_n 2, 1) := by decide +kernel
theorem dX10_teller_3 : decode cX10_teller 3 = .ok (.aload_n 0, 1) := by decide +kernel
theorem dX10_teller_4 : decode cX10_teller 4 = .ok (.getfield 179, 3) := by decide +kernel
theorem dX10_teller_7 : decode cX10_teller 7 = .ok (.if_icmp .ge 39, 3) := by decide +kernel
theorem dX10_teller_10 : decode cX10_teller 10 = .ok (.aload_n 0, 1) := by decide +kernel
theorem dX10_teller_11 : decode cX10_teller 11 = .ok (.getfield 111, 3) := by decide +kernel
theorem dX10_teller_14 : decode cX10_teller 14 = .ok (.iload_n 2, 1) := by decide +kernel
theorem dX10_teller_15 : decode cX10_teller 15 = .ok (.iaload, 1) := by decide +kernel
theorem dX10_teller_16 : decode cX10_teller 16 = .ok (.aload_n 0, 1) := by decide +kernel
theorem dX10_teller_17 : decode cX10_teller 17 = .ok (.getfield 173, 3) := by decide +kernel
theorem dX10_teller_20 : decode cX10_teller 20 = .ok (.if_icmp .ne 20, 3) := by decide +kernel
theorem dX10_teller_23 : decode cX10_teller 23 = .ok (.aload_n 0, 1) := by decide +kernel
theorem dX10_teller_24 : decode cX10_teller 24 = .ok (.getfield 114, 3) := by decide +kernel
theorem dX10_teller_27 : decode cX10_teller 27 = .ok (.iload_n 2, 1) := by decide +kernel
theorem dX10_teller_28 : decode cX10_teller 28 = .ok (.iaload, 1) := by decide +kernel
theorem dX10_teller_29 : decode cX10_teller 29 = .ok (.iload_n 1, 1) := by decide +kernel
theorem dX10_teller_30 : decode cX10_teller 30 = .ok (.if_icmp .ne 10, 3) := by decide +kernel
theorem dX10_teller_33 : decode cX10_teller 33 = .ok (.aload_n 0, 1) := by decide +kernel
theorem dX10_teller_34 : decode cX10_teller 34 = .ok (.getfield 108, 3) := by decide +kernel
theorem dX10_teller_37 : decode cX10_teller 37 = .ok (.iload_n 2, 1) := by decide +kernel
theorem dX10_teller_38 : decode cX10_teller 38 = .ok (.iaload, 1) := by decide +kernel
theorem dX10_teller_39 : decode cX10_teller 39 = .ok (.ireturn, 1) := by decide +kernel
theorem dX10_teller_40 : decode cX10_teller 40 = .ok (.iinc 2 1, 3) := by decide +kernel
theorem dX10_teller_43 : decode cX10_teller 43 = .ok (.goto (-41), 3) := by decide +kernel
theorem dX10_teller_46 : decode cX10_teller 46 = .ok (.iconst (-1), 1) := by decide +kernel
theorem dX10_teller_47 : decode cX10_teller 47 = .ok (.ireturn, 1) := by decide +kernel
theorem dX10_liesIn_0 : decode cX10_liesIn 0 = .ok (.iconst 0, 1) := by decide +kernel
theorem dX10_liesIn_1 : decode cX10_liesIn 1 = .ok (.istore_n 2, 1) := by decide +kernel
theorem dX10_liesIn_2 : decode cX10_liesIn 2 = .ok (.iconst 0, 1) := by decide +kernel
theorem dX10_liesIn_3 : decode cX10_liesIn 3 = .ok (.istore_n 3, 1) := by decide +kernel
theorem dX10_liesIn_4 : decode cX10_liesIn 4 = .ok (.iload_n 3, 1) := by decide +kernel
theorem dX10_liesIn_5 : decode cX10_liesIn 5 = .ok (.aload_n 0, 1) := by decide +kernel
theorem dX10_liesIn_6 : decode cX10_liesIn 6 = .ok (.getfield 189, 3) := by decide +kernel
theorem dX10_liesIn_9 : decode cX10_liesIn 9 = .ok (.if_icmp .ge 41, 3) := by decide +kernel
theorem dX10_liesIn_12 : decode cX10_liesIn 12 = .ok (.iload_n 2, 1) := by decide +kernel
theorem dX10_liesIn_13 : decode cX10_liesIn 13 = .ok (.aload_n 0, 1) := by decide +kernel
theorem dX10_liesIn_14 : decode cX10_liesIn 14 = .ok (.getfield 77, 3) := by decide +kernel
theorem dX10_liesIn_17 : decode cX10_liesIn 17 = .ok (.iload_n 3, 1) := by decide +kernel
theorem dX10_liesIn_18 : decode cX10_liesIn 18 = .ok (.iaload, 1) := by decide +kernel
theorem dX10_liesIn_19 : decode cX10_liesIn 19 = .ok (.ifCond .ne 22, 3) := by decide +kernel
theorem dX10_liesIn_22 : decode cX10_liesIn 22 = .ok (.aload_n 0, 1) := by decide +kernel
theorem dX10_liesIn_23 : decode cX10_liesIn 23 = .ok (.getfield 80, 3) := by decide +kernel
theorem dX10_liesIn_26 : decode cX10_liesIn 26 = .ok (.iload_n 3, 1) := by decide +kernel
theorem dX10_liesIn_27 : decode cX10_liesIn 27 = .ok (.iaload, 1) := by decide +kernel
theorem dX10_liesIn_28 : decode cX10_liesIn 28 = .ok (.iload_n 1, 1) := by decide +kernel
theorem dX10_liesIn_29 : decode cX10_liesIn 29 = .ok (.if_icmp .ne 12, 3) := by decide +kernel
theorem dX10_liesIn_32 : decode cX10_liesIn 32 = .ok (.aload_n 0, 1) := by decide +kernel
theorem dX10_liesIn_33 : decode cX10_liesIn 33 = .ok (.getfield 68, 3) := by decide +kernel
theorem dX10_liesIn_36 : decode cX10_liesIn 36 = .ok (.iload_n 3, 1) := by decide +kernel
theorem dX10_liesIn_37 : decode cX10_liesIn 37 = .ok (.iaload, 1) := by decide +kernel
theorem dX10_liesIn_38 : decode cX10_liesIn 38 = .ok (.goto 4, 3) := by decide +kernel
theorem dX10_liesIn_41 : decode cX10_liesIn 41 = .ok (.iconst 0, 1) := by decide +kernel
theorem dX10_liesIn_42 : decode cX10_liesIn 42 = .ok (.iadd, 1) := by decide +kernel
theorem dX10_liesIn_43 : decode cX10_liesIn 43 = .ok (.istore_n 2, 1) := by decide +kernel
theorem dX10_liesIn_44 : decode cX10_liesIn 44 = .ok (.iinc 3 1, 3) := by decide +kernel
theorem dX10_liesIn_47 : decode cX10_liesIn 47 = .ok (.goto (-43), 3) := by decide +kernel
theorem dX10_liesIn_50 : decode cX10_liesIn 50 = .ok (.iload_n 2, 1) := by decide +kernel
theorem dX10_liesIn_51 : decode cX10_liesIn 51 = .ok (.ireturn, 1) := by decide +kernel
set_option maxRecDepth 20000 in
theorem ggX10_hideFor_X10_liesIn : GoodIn wsX10_hideFor wsX10_liesIn := goodIn_r _ [8, 9, 10, 11, 12, 13, 14, 15, 16, 17, 18, 19, 20, 21, 22, 23, 24, 25, 26, 27, 28, 29, 30, 31, 32, 33, 34, 35, 36, 37, 38, 39, 40, 41, 42, 43, 44, 45, 46, 47, 48, 49, 50, 51, 52, 53, 54, 55, 56, 57, 58, 59, 60, 61, 62, 63, 64, 65, 66] (by decide +kernel) (by decide +kernel)
set_option maxRecDepth 20000 in
theorem gX10_hideFor_X10_liesIn : GoodIn wsX10_hideFor (wsV RX10 192 RX10 yX10_liesIn wsX10_liesIn) := goodIn_app (goodIn_of _ (by decide +kernel)) ggX10_hideFor_X10_liesIn
theorem dX10_hideFor_0 : decode cX10_hideFor 0 = .ok (.iconst 0, 1) := by decide +kernel
theorem dX10_hideFor_1 : decode cX10_hideFor 1 = .ok (.istore_n 3, 1) := by decide +kernel
theorem dX10_hideFor_2 : decode cX10_hideFor 2 = .ok (.iload_n 3, 1) := by decide +kernel
theorem dX10_hideFor_3 : decode cX10_hideFor 3 = .ok (.aload_n 0, 1) := by decide +kernel
theorem dX10_hideFor_4 : decode cX10_hideFor 4 = .ok (.getfield 164, 3) := by decide +kernel
theorem dX10_hideFor_7 : decode cX10_hideFor 7 = .ok (.if_icmp .ge 37, 3) := by decide +kernel
theorem dX10_hideFor_10 : decode cX10_hideFor 10 = .ok (.aload_n 0, 1) := by decide +kernel
theorem dX10_hideFor_11 : decode cX10_hideFor 11 = .ok (.getfield 53, 3) := by decide +kernel
theorem dX10_hideFor_14 : decode cX10_hideFor 14 = .ok (.iload_n 3, 1) := by decide +kernel
theorem dX10_hideFor_15 : decode cX10_hideFor 15 = .ok (.iaload, 1) := by decide +kernel
theorem dX10_hideFor_16 : decode cX10_hideFor 16 = .ok (.iload_n 1, 1) := by decide +kernel
theorem dX10_hideFor_17 : decode cX10_hideFor 17 = .ok (.if_icmp .ne 21, 3) := by decide +kernel
theorem dX10_hideFor_20 : decode cX10_hideFor 20 = .ok (.aload_n 0, 1) := by decide +kernel
theorem dX10_hideFor_21 : decode cX10_hideFor 21 = .ok (.iload_n 3, 1) := by decide +kernel
theorem dX10_hideFor_22 : decode cX10_hideFor 22 = .ok (.invokevirtual 192, 3) := by decide +kernel
theorem dX10_hideFor_25 : decode cX10_hideFor 25 = .ok (.iload_n 2, 1) := by decide +kernel
theorem dX10_hideFor_26 : decode cX10_hideFor 26 = .ok (.iadd, 1) := by decide +kernel
theorem dX10_hideFor_27 : decode cX10_hideFor 27 = .ok (.aload_n 0, 1) := by decide +kernel
theorem dX10_hideFor_28 : decode cX10_hideFor 28 = .ok (.getfield 56, 3) := by decide +kernel
theorem dX10_hideFor_31 : decode cX10_hideFor 31 = .ok (.iload_n 3, 1) := by decide +kernel
theorem dX10_hideFor_32 : decode cX10_hideFor 32 = .ok (.iaload, 1) := by decide +kernel
theorem dX10_hideFor_33 : decode cX10_hideFor 33 = .ok (.if_icmp .gt 5, 3) := by decide +kernel
theorem dX10_hideFor_36 : decode cX10_hideFor 36 = .ok (.iload_n 3, 1) := by decide +kernel
theorem dX10_hideFor_37 : decode cX10_hideFor 37 = .ok (.ireturn, 1) := by decide +kernel
theorem dX10_hideFor_38 : decode cX10_hideFor 38 = .ok (.iinc 3 1, 3) := by decide +kernel
theorem dX10_hideFor_41 : decode cX10_hideFor 41 = .ok (.goto (-39), 3) := by decide +kernel
theorem dX10_hideFor_44 : decode cX10_hideFor 44 = .ok (.iconst (-1), 1) := by decide +kernel
theorem dX10_hideFor_45 : decode cX10_hideFor 45 = .ok (.ireturn, 1) := by decide +kernel
theorem dX10_lot_0 : decode cX10_lot 0 = .ok (.aload_n 0, 1) := by decide +kernel
theorem dX10_lot_1 : decode cX10_lot 1 = .ok (.getfield 65, 3) := by decide +kernel
theorem dX10_lot_4 : decode cX10_lot 4 = .ok (.aload_n 0, 1) := by decide +kernel
theorem dX10_lot_5 : decode cX10_lot 5 = .ok (.getfield 189, 3) := by decide +kernel
theorem dX10_lot_8 : decode cX10_lot 8 = .ok (.iload_n 1, 1) := by decide +kernel
theorem dX10_lot_9 : decode cX10_lot 9 = .ok (.iastore, 1) := by decide +kernel
theorem dX10_lot_10 : decode cX10_lot 10 = .ok (.aload_n 0, 1) := by decide +kernel
theorem dX10_lot_11 : decode cX10_lot 11 = .ok (.getfield 68, 3) := by decide +kernel
theorem dX10_lot_14 : decode cX10_lot 14 = .ok (.aload_n 0, 1) := by decide +kernel
theorem dX10_lot_15 : decode cX10_lot 15 = .ok (.getfield 189, 3) := by decide +kernel
theorem dX10_lot_18 : decode cX10_lot 18 = .ok (.aload_n 0, 1) := by decide +kernel
theorem dX10_lot_19 : decode cX10_lot 19 = .ok (.getfield 41, 3) := by decide +kernel
theorem dX10_lot_22 : decode cX10_lot 22 = .ok (.iload_n 1, 1) := by decide +kernel
theorem dX10_lot_23 : decode cX10_lot 23 = .ok (.iaload, 1) := by decide +kernel
theorem dX10_lot_24 : decode cX10_lot 24 = .ok (.iastore, 1) := by decide +kernel
theorem dX10_lot_25 : decode cX10_lot 25 = .ok (.aload_n 0, 1) := by decide +kernel
theorem dX10_lot_26 : decode cX10_lot 26 = .ok (.getfield 71, 3) := by decide +kernel
theorem dX10_lot_29 : decode cX10_lot 29 = .ok (.aload_n 0, 1) := by decide +kernel
theorem dX10_lot_30 : decode cX10_lot 30 = .ok (.getfield 189, 3) := by decide +kernel
theorem dX10_lot_33 : decode cX10_lot 33 = .ok (.aload_n 0, 1) := by decide +kernel
theorem dX10_lot_34 : decode cX10_lot 34 = .ok (.getfield 173, 3) := by decide +kernel
theorem dX10_lot_37 : decode cX10_lot 37 = .ok (.iastore, 1) := by decide +kernel
theorem dX10_lot_38 : decode cX10_lot 38 = .ok (.aload_n 0, 1) := by decide +kernel
theorem dX10_lot_39 : decode cX10_lot 39 = .ok (.getfield 74, 3) := by decide +kernel
theorem dX10_lot_42 : decode cX10_lot 42 = .ok (.aload_n 0, 1) := by decide +kernel
theorem dX10_lot_43 : decode cX10_lot 43 = .ok (.getfield 189, 3) := by decide +kernel
theorem dX10_lot_46 : decode cX10_lot 46 = .ok (.iload_n 2, 1) := by decide +kernel
theorem dX10_lot_47 : decode cX10_lot 47 = .ok (.iastore, 1) := by decide +kernel
theorem dX10_lot_48 : decode cX10_lot 48 = .ok (.aload_n 0, 1) := by decide +kernel
theorem dX10_lot_49 : decode cX10_lot 49 = .ok (.getfield 77, 3) := by decide +kernel
theorem dX10_lot_52 : decode cX10_lot 52 = .ok (.aload_n 0, 1) := by decide +kernel
theorem dX10_lot_53 : decode cX10_lot 53 = .ok (.getfield 189, 3) := by decide +kernel
theorem dX10_lot_56 : decode cX10_lot 56 = .ok (.iload_n 3, 1) := by decide +kernel
theorem dX10_lot_57 : decode cX10_lot 57 = .ok (.iastore, 1) := by decide +kernel
theorem dX10_lot_58 : decode cX10_lot 58 = .ok (.aload_n 0, 1) := by decide +kernel
theorem dX10_lot_59 : decode cX10_lot 59 = .ok (.getfield 80, 3) := by decide +kernel
theorem dX10_lot_62 : decode cX10_lot 62 = .ok (.aload_n 0, 1) := by decide +kernel
theorem dX10_lot_63 : decode cX10_lot 63 = .ok (.getfield 189, 3) := by decide +kernel
theorem dX10_lot_66 : decode cX10_lot 66 = .ok (.iload 4, 2) := by decide +kernel
theorem dX10_lot_68 : decode cX10_lot 68 = .ok (.iastore, 1) := by decide +kernel
theorem dX10_lot_69 : decode cX10_lot 69 = .ok (.aload_n 0, 1) := by decide +kernel
theorem dX10_lot_70 : decode cX10_lot 70 = .ok (.dup, 1) := by decide +kernel
theorem dX10_lot_71 : decode cX10_lot 71 = .ok (.getfield 189, 3) := by decide +kernel
theorem dX10_lot_74 : decode cX10_lot 74 = .ok (.iconst 1, 1) := by decide +kernel
theorem dX10_lot_75 : decode cX10_lot 75 = .ok (.iadd, 1) := by decide +kernel
theorem dX10_lot_76 : decode cX10_lot 76 = .ok (.putfield 189, 3) := by decide +kernel
theorem dX10_lot_79 : decode cX10_lot 79 = .ok (.aload_n 0, 1) := by decide +kernel
theorem dX10_lot_80 : decode cX10_lot 80 = .ok (.getfield 41, 3) := by decide +kernel
theorem dX10_lot_83 : decode cX10_lot 83 = .ok (.iload_n 1, 1) := by decide +kernel
theorem dX10_lot_84 : decode cX10_lot 84 = .ok (.iconst 0, 1) := by decide +kernel
theorem dX10_lot_85 : decode cX10_lot 85 = .ok (.iastore, 1) := by decide +kernel
theorem dX10_lot_86 : decode cX10_lot 86 = .ok (.aload_n 0, 1) := by decide +kernel
theorem dX10_lot_87 : decode cX10_lot 87 = .ok (.getfield 96, 3) := by decide +kernel
theorem dX10_lot_90 : decode cX10_lot 90 = .ok (.iload_n 2, 1) := by decide +kernel
theorem dX10_lot_91 : decode cX10_lot 91 = .ok (.iconst 1, 1) := by decide +kernel
theorem dX10_lot_92 : decode cX10_lot 92 = .ok (.bastore, 1) := by decide +kernel
theorem dX10_lot_93 : decode cX10_lot 93 = .ok (.return_, 1) := by decide +kernel
theorem dX10_moreFear_0 : decode cX10_moreFear 0 = .ok (.aload_n 0, 1) := by decide +kernel
theorem dX10_moreFear_1 : decode cX10_moreFear 1 = .ok (.getfield 50, 3) := by decide +kernel
theorem dX10_moreFear_4 : decode cX10_moreFear 4 = .ok (.bipush 6, 2) := by decide +kernel
theorem dX10_moreFear_6 : decode cX10_moreFear 6 = .ok (.iload_n 1, 1) := by decide +kernel
theorem dX10_moreFear_7 : decode cX10_moreFear 7 = .ok (.imul, 1) := by decide +kernel
theorem dX10_moreFear_8 : decode cX10_moreFear 8 = .ok (.iload_n 2, 1) := by decide +kernel
theorem dX10_moreFear_9 : decode cX10_moreFear 9 = .ok (.iadd, 1) := by decide +kernel
theorem dX10_moreFear_10 : decode cX10_moreFear 10 = .ok (.iaload, 1) := by decide +kernel
theorem dX10_moreFear_11 : decode cX10_moreFear 11 = .ok (.iload_n 3, 1) := by decide +kernel
theorem dX10_moreFear_12 : decode cX10_moreFear 12 = .ok (.iadd, 1) := by decide +kernel
theorem dX10_moreFear_13 : decode cX10_moreFear 13 = .ok (.istore 4, 2) := by decide +kernel
theorem dX10_moreFear_15 : decode cX10_moreFear 15 = .ok (.aload_n 0, 1) := by decide +kernel
theorem dX10_moreFear_16 : decode cX10_moreFear 16 = .ok (.getfield 50, 3) := by decide +kernel
theorem dX10_moreFear_19 : decode cX10_moreFear 19 = .ok (.bipush 6, 2) := by decide +kernel
theorem dX10_moreFear_21 : decode cX10_moreFear 21 = .ok (.iload_n 1, 1) := by decide +kernel
theorem dX10_moreFear_22 : decode cX10_moreFear 22 = .ok (.imul, 1) := by decide +kernel
theorem dX10_moreFear_23 : decode cX10_moreFear 23 = .ok (.iload_n 2, 1) := by decide +kernel
theorem dX10_moreFear_24 : decode cX10_moreFear 24 = .ok (.iadd, 1) := by decide +kernel
theorem dX10_moreFear_25 : decode cX10_moreFear 25 = .ok (.iload 4, 2) := by decide +kernel
theorem dX10_moreFear_27 : decode cX10_moreFear 27 = .ok (.bipush 99, 2) := by decide +kernel
theorem dX10_moreFear_29 : decode cX10_moreFear 29 = .ok (.if_icmp .le 8, 3) := by decide +kernel
theorem dX10_moreFear_32 : decode cX10_moreFear 32 = .ok (.bipush 99, 2) := by decide +kernel
theorem dX10_moreFear_34 : decode cX10_moreFear 34 = .ok (.goto 5, 3) := by decide +kernel
theorem dX10_moreFear_37 : decode cX10_moreFear 37 = .ok (.iload 4, 2) := by decide +kernel
theorem dX10_moreFear_39 : decode cX10_moreFear 39 = .ok (.iastore, 1) := by decide +kernel
theorem dX10_moreFear_40 : decode cX10_moreFear 40 = .ok (.return_, 1) := by decide +kernel
set_option maxRecDepth 20000 in
theorem ggX10_goes_X10_counting : GoodIn wsX10_goes wsX10_counting := goodIn_r _ [10, 11, 5, 59, 60, 61, 62, 63, 64, 65, 66, 67, 68, 69, 70, 71, 72, 73, 74, 75, 76, 77, 78, 79, 80, 81, 82, 83, 84, 85, 86, 87, 88, 89, 90, 91, 92, 93, 94, 95, 96, 97, 98, 99, 100, 101, 102, 103, 104, 105, 106, 107, 108, 109, 110, 111, 112] (by decide +kernel) (by decide +kernel)
set_option maxRecDepth 20000 in
theorem gX10_goes_X10_counting : GoodIn wsX10_goes (wsV RX10 195 RX10 yX10_counting wsX10_counting) := goodIn_app (goodIn_of _ (by decide +kernel)) ggX10_goes_X10_counting
set_option maxRecDepth 20000 in
theorem ggX10_goes_X10_teller : GoodIn wsX10_goes wsX10_teller := goodIn_r _ [15, 16, 17, 18, 19, 20, 59, 60, 61, 62, 63, 64, 65, 66, 67, 68, 69, 70, 71, 72, 73, 74, 75, 76, 77, 78, 79, 80, 81, 82, 83, 84, 85, 86, 87, 88, 89, 90, 91, 92, 93, 94, 95, 96, 97, 98, 99, 100, 101, 102, 103, 104, 105, 106, 107, 108, 109, 110, 111, 112] (by decide +kernel) (by decide +kernel)
set_option maxRecDepth 20000 in
theorem gX10_goes_X10_teller : GoodIn wsX10_goes (wsV RX10 198 RX10 yX10_teller wsX10_teller) := goodIn_app (goodIn_of _ (by decide +kernel)) ggX10_goes_X10_teller
set_option maxRecDepth 20000 in
theorem ggX10_goes_X10_partCasks : GoodIn wsX10_goes wsX10_partCasks := goodIn_r _ [24, 25, 26, 18, 27, 28, 29, 30, 59, 60, 61, 62, 63, 64, 65, 66, 67, 68, 69, 70, 71, 72, 73, 74, 75, 76, 77, 78, 79, 80, 81, 82, 83, 84, 85, 86, 87, 88, 89, 90, 91, 92, 93, 94, 95, 96, 97, 98, 99, 100, 101, 102, 103, 104, 105, 106, 107, 108, 109, 110, 111, 112] (by decide +kernel) (by decide +kernel)
set_option maxRecDepth 20000 in
theorem gX10_goes_X10_partCasks : GoodIn wsX10_goes (wsV RX10 201 RX10 yX10_partCasks wsX10_partCasks) := goodIn_app (goodIn_of _ (by decide +kernel)) ggX10_goes_X10_partCasks
set_option maxRecDepth 20000 in
theorem ggX10_goes_X10_lot : GoodIn wsX10_goes wsX10_lot := goodIn_r _ [34, 35, 36, 37, 2, 38, 18, 39, 40, 41, 42, 59, 60, 61, 62, 63, 64, 65, 66, 67, 68, 69, 70, 71, 72, 73, 74, 75, 76, 77, 78, 79, 80, 81, 82, 83, 84, 85, 86, 87, 88, 89, 90, 91, 92, 93, 94, 95, 96, 97, 98, 99, 100, 101, 102, 103, 104, 105, 106, 107, 108, 109, 110, 111, 112] (by decide +kernel) (by decide +kernel)
set_option maxRecDepth 20000 in
theorem gX10_goes_X10_lot : GoodIn wsX10_goes (wsV RX10 205 RX10 yX10_lot wsX10_lot) := goodIn_app (goodIn_of _ (by decide +kernel)) ggX10_goes_X10_lot
set_option maxRecDepth 20000 in
theorem ggX10_goes_X10_moreFear : GoodIn wsX10_goes wsX10_moreFear := goodIn_r _ [46, 47, 59, 60, 61, 62, 63, 64, 65, 66, 67, 68, 69, 70, 71, 72, 73, 74, 75, 76, 77, 78, 79, 80, 81, 82, 83, 84, 85, 86, 87, 88, 89, 90, 91, 92, 93, 94, 95, 96, 97, 98, 99, 100, 101, 102, 103, 104, 105, 106, 107, 108, 109, 110, 111, 112] (by decide +kernel) (by decide +kernel)
set_option maxRecDepth 20000 in
theorem gX10_goes_X10_moreFear : GoodIn wsX10_goes (wsV RX10 209 RX10 yX10_moreFear wsX10_moreFear) := goodIn_app (goodIn_of _ (by decide +kernel)) ggX10_goes_X10_moreFear
set_option maxRecDepth 20000 in
theorem ggX10_goes_X10_hideFor : GoodIn wsX10_goes wsX10_hideFor := goodIn_r _ [51, 52, 53, 54, 55, 56, 57, 9, 58, 36, 40, 41, 37, 59, 60, 61, 62, 63, 64, 65, 66, 67, 68, 69, 70, 71, 72, 73, 74, 75, 76, 77, 78, 79, 80, 81, 82, 83, 84, 85, 86, 87, 88, 89, 90, 91, 92, 93, 94, 95, 96, 97, 98, 99, 100, 101, 102, 103, 104, 105, 106, 107, 108, 109, 110, 111, 112] (by decide +kernel) (by decide +kernel)
set_option maxRecDepth 20000 in
theorem gX10_goes_X10_hideFor : GoodIn wsX10_goes (wsV RX10 213 RX10 yX10_hideFor wsX10_hideFor) := goodIn_app (goodIn_of _ (by decide +kernel)) ggX10_goes_X10_hideFor
theorem dX10_goes_0 : decode cX10_goes 0 = .ok (.aload_n 0, 1) := by decide +kernel
theorem dX10_goes_1 : decode cX10_goes 1 = .ok (.iload_n 2, 1) := by decide +kernel
theorem dX10_goes_2 : decode cX10_goes 2 = .ok (.invokevirtual 195, 3) := by decide +kernel
theorem dX10_goes_5 : decode cX10_goes 5 = .ok (.istore_n 3, 1) := by decide +kernel
theorem dX10_goes_6 : decode cX10_goes 6 = .ok (.iload_n 3, 1) := by decide +kernel
theorem dX10_goes_7 : decode cX10_goes 7 = .ok (.ifCond .le 64, 3) := by decide +kernel
theorem dX10_goes_10 : decode cX10_goes 10 = .ok (.aload_n 0, 1) := by decide +kernel
theorem dX10_goes_11 : decode cX10_goes 11 = .ok (.getfield 35, 3) := by decide +kernel
theorem dX10_goes_14 : decode cX10_goes 14 = .ok (.iload_n 1, 1) := by decide +kernel
theorem dX10_goes_15 : decode cX10_goes 15 = .ok (.iaload, 1) := by decide +kernel
theorem dX10_goes_16 : decode cX10_goes 16 = .ok (.bipush 10, 2) := by decide +kernel
theorem dX10_goes_18 : decode cX10_goes 18 = .ok (.iload_n 3, 1) := by decide +kernel
theorem dX10_goes_19 : decode cX10_goes 19 = .ok (.imul, 1) := by decide +kernel
theorem dX10_goes_20 : decode cX10_goes 20 = .ok (.if_icmp .ge 30, 3) := by decide +kernel
theorem dX10_goes_23 : decode cX10_goes 23 = .ok (.aload_n 0, 1) := by decide +kernel
theorem dX10_goes_24 : decode cX10_goes 24 = .ok (.aload_n 0, 1) := by decide +kernel
theorem dX10_goes_25 : decode cX10_goes 25 = .ok (.getfield 41, 3) := by decide +kernel
theorem dX10_goes_28 : decode cX10_goes 28 = .ok (.iload_n 1, 1) := by decide +kernel
theorem dX10_goes_29 : decode cX10_goes 29 = .ok (.iaload, 1) := by decide +kernel
theorem dX10_goes_30 : decode cX10_goes 30 = .ok (.aload_n 0, 1) := by decide +kernel
theorem dX10_goes_31 : decode cX10_goes 31 = .ok (.iload_n 2, 1) := by decide +kernel
theorem dX10_goes_32 : decode cX10_goes 32 = .ok (.invokevirtual 198, 3) := by decide +kernel
theorem dX10_goes_35 : decode cX10_goes 35 = .ok (.invokevirtual 201, 3) := by decide +kernel
theorem dX10_goes_38 : decode cX10_goes 38 = .ok (.aload_n 0, 1) := by decide +kernel
theorem dX10_goes_39 : decode cX10_goes 39 = .ok (.iload_n 1, 1) := by decide +kernel
theorem dX10_goes_40 : decode cX10_goes 40 = .ok (.iload_n 2, 1) := by decide +kernel
theorem dX10_goes_41 : decode cX10_goes 41 = .ok (.iconst 1, 1) := by decide +kernel
theorem dX10_goes_42 : decode cX10_goes 42 = .ok (.bipush (-9), 2) := by decide +kernel
theorem dX10_goes_44 : decode cX10_goes 44 = .ok (.invokevirtual 205, 3) := by decide +kernel
theorem dX10_goes_47 : decode cX10_goes 47 = .ok (.goto 13, 3) := by decide +kernel
theorem dX10_goes_50 : decode cX10_goes 50 = .ok (.aload_n 0, 1) := by decide +kernel
theorem dX10_goes_51 : decode cX10_goes 51 = .ok (.getfield 44, 3) := by decide +kernel
theorem dX10_goes_54 : decode cX10_goes 54 = .ok (.iload_n 1, 1) := by decide +kernel
theorem dX10_goes_55 : decode cX10_goes 55 = .ok (.dup2, 1) := by decide +kernel
theorem dX10_goes_56 : decode cX10_goes 56 = .ok (.iaload, 1) := by decide +kernel
theorem dX10_goes_57 : decode cX10_goes 57 = .ok (.iconst 1, 1) := by decide +kernel
theorem dX10_goes_58 : decode cX10_goes 58 = .ok (.iadd, 1) := by decide +kernel
theorem dX10_goes_59 : decode cX10_goes 59 = .ok (.iastore, 1) := by decide +kernel
theorem dX10_goes_60 : decode cX10_goes 60 = .ok (.aload_n 0, 1) := by decide +kernel
theorem dX10_goes_61 : decode cX10_goes 61 = .ok (.iload_n 1, 1) := by decide +kernel
theorem dX10_goes_62 : decode cX10_goes 62 = .ok (.iload_n 2, 1) := by decide +kernel
theorem dX10_goes_63 : decode cX10_goes 63 = .ok (.bipush 25, 2) := by decide +kernel
theorem dX10_goes_65 : decode cX10_goes 65 = .ok (.invokevirtual 209, 3) := by decide +kernel
theorem dX10_goes_68 : decode cX10_goes 68 = .ok (.goto 43, 3) := by decide +kernel
theorem dX10_goes_71 : decode cX10_goes 71 = .ok (.aload_n 0, 1) := by decide +kernel
theorem dX10_goes_72 : decode cX10_goes 72 = .ok (.iload_n 2, 1) := by decide +kernel
theorem dX10_goes_73 : decode cX10_goes 73 = .ok (.aload_n 0, 1) := by decide +kernel
theorem dX10_goes_74 : decode cX10_goes 74 = .ok (.getfield 41, 3) := by decide +kernel
theorem dX10_goes_77 : decode cX10_goes 77 = .ok (.iload_n 1, 1) := by decide +kernel
theorem dX10_goes_78 : decode cX10_goes 78 = .ok (.iaload, 1) := by decide +kernel
theorem dX10_goes_79 : decode cX10_goes 79 = .ok (.invokevirtual 213, 3) := by decide +kernel
theorem dX10_goes_82 : decode cX10_goes 82 = .ok (.istore 4, 2) := by decide +kernel
theorem dX10_goes_84 : decode cX10_goes 84 = .ok (.iload 4, 2) := by decide +kernel
theorem dX10_goes_86 : decode cX10_goes 86 = .ok (.ifCond .lt 15, 3) := by decide +kernel
theorem dX10_goes_89 : decode cX10_goes 89 = .ok (.aload_n 0, 1) := by decide +kernel
theorem dX10_goes_90 : decode cX10_goes 90 = .ok (.iload_n 1, 1) := by decide +kernel
theorem dX10_goes_91 : decode cX10_goes 91 = .ok (.iload_n 2, 1) := by decide +kernel
theorem dX10_goes_92 : decode cX10_goes 92 = .ok (.iconst 0, 1) := by decide +kernel
theorem dX10_goes_93 : decode cX10_goes 93 = .ok (.iload 4, 2) := by decide +kernel
theorem dX10_goes_95 : decode cX10_goes 95 = .ok (.invokevirtual 205, 3) := by decide +kernel
theorem dX10_goes_98 : decode cX10_goes 98 = .ok (.goto 13, 3) := by decide +kernel
theorem dX10_goes_101 : decode cX10_goes 101 = .ok (.aload_n 0, 1) := by decide +kernel
theorem dX10_goes_102 : decode cX10_goes 102 = .ok (.getfield 47, 3) := by decide +kernel
theorem dX10_goes_105 : decode cX10_goes 105 = .ok (.iload_n 1, 1) := by decide +kernel
theorem dX10_goes_106 : decode cX10_goes 106 = .ok (.dup2, 1) := by decide +kernel
theorem dX10_goes_107 : decode cX10_goes 107 = .ok (.iaload, 1) := by decide +kernel
theorem dX10_goes_108 : decode cX10_goes 108 = .ok (.iconst 1, 1) := by decide +kernel
theorem dX10_goes_109 : decode cX10_goes 109 = .ok (.iadd, 1) := by decide +kernel
theorem dX10_goes_110 : decode cX10_goes 110 = .ok (.iastore, 1) := by decide +kernel
theorem dX10_goes_111 : decode cX10_goes 111 = .ok (.iload_n 2, 1) := by decide +kernel
theorem dX10_goes_112 : decode cX10_goes 112 = .ok (.ifCond .le 23, 3) := by decide +kernel
theorem dX10_goes_115 : decode cX10_goes 115 = .ok (.aload_n 0, 1) := by decide +kernel
theorem dX10_goes_116 : decode cX10_goes 116 = .ok (.getfield 93, 3) := by decide +kernel
theorem dX10_goes_119 : decode cX10_goes 119 = .ok (.iload_n 2, 1) := by decide +kernel
theorem dX10_goes_120 : decode cX10_goes 120 = .ok (.iconst 1, 1) := by decide +kernel
theorem dX10_goes_121 : decode cX10_goes 121 = .ok (.isub, 1) := by decide +kernel
theorem dX10_goes_122 : decode cX10_goes 122 = .ok (.iaload, 1) := by decide +kernel
theorem dX10_goes_123 : decode cX10_goes 123 = .ok (.ifCond .le 12, 3) := by decide +kernel
theorem dX10_goes_126 : decode cX10_goes 126 = .ok (.aload_n 0, 1) := by decide +kernel
theorem dX10_goes_127 : decode cX10_goes 127 = .ok (.iload_n 1, 1) := by decide +kernel
theorem dX10_goes_128 : decode cX10_goes 128 = .ok (.iload_n 2, 1) := by decide +kernel
theorem dX10_goes_129 : decode cX10_goes 129 = .ok (.iconst 1, 1) := by decide +kernel
theorem dX10_goes_130 : decode cX10_goes 130 = .ok (.isub, 1) := by decide +kernel
theorem dX10_goes_131 : decode cX10_goes 131 = .ok (.iconst 5, 1) := by decide +kernel
theorem dX10_goes_132 : decode cX10_goes 132 = .ok (.invokevirtual 209, 3) := by decide +kernel
theorem dX10_goes_135 : decode cX10_goes 135 = .ok (.iload_n 2, 1) := by decide +kernel
theorem dX10_goes_136 : decode cX10_goes 136 = .ok (.iconst 5, 1) := by decide +kernel
theorem dX10_goes_137 : decode cX10_goes 137 = .ok (.if_icmp .ge 23, 3) := by decide +kernel
theorem dX10_goes_140 : decode cX10_goes 140 = .ok (.aload_n 0, 1) := by decide +kernel
theorem dX10_goes_141 : decode cX10_goes 141 = .ok (.getfield 93, 3) := by decide +kernel
theorem dX10_goes_144 : decode cX10_goes 144 = .ok (.iload_n 2, 1) := by decide +kernel
theorem dX10_goes_145 : decode cX10_goes 145 = .ok (.iconst 1, 1) := by decide +kernel
theorem dX10_goes_146 : decode cX10_goes 146 = .ok (.iadd, 1) := by decide +kernel
theorem dX10_goes_147 : decode cX10_goes 147 = .ok (.iaload, 1) := by decide +kernel
theorem dX10_goes_148 : decode cX10_goes 148 = .ok (.ifCond .le 12, 3) := by decide +kernel
theorem dX10_goes_151 : decode cX10_goes 151 = .ok (.aload_n 0, 1) := by decide +kernel
theorem dX10_goes_152 : decode cX10_goes 152 = .ok (.iload_n 1, 1) := by decide +kernel
theorem dX10_goes_153 : decode cX10_goes 153 = .ok (.iload_n 2, 1) := by decide +kernel
theorem dX10_goes_154 : decode cX10_goes 154 = .ok (.iconst 1, 1) := by decide +kernel
theorem dX10_goes_155 : decode cX10_goes 155 = .ok (.iadd, 1) := by decide +kernel
theorem dX10_goes_156 : decode cX10_goes 156 = .ok (.iconst 5, 1) := by decide +kernel
theorem dX10_goes_157 : decode cX10_goes 157 = .ok (.invokevirtual 209, 3) := by decide +kernel
theorem dX10_goes_160 : decode cX10_goes 160 = .ok (.return_, 1) := by decide +kernel
theorem dX10_prove_0 : decode cX10_prove 0 = .ok (.iconst 0, 1) := by decide +kernel
theorem dX10_prove_1 : decode cX10_prove 1 = .ok (.istore_n 1, 1) := by decide +kernel
theorem dX10_prove_2 : decode cX10_prove 2 = .ok (.iload_n 1, 1) := by decide +kernel
theorem dX10_prove_3 : decode cX10_prove 3 = .ok (.aload_n 0, 1) := by decide +kernel
theorem dX10_prove_4 : decode cX10_prove 4 = .ok (.getfield 179, 3) := by decide +kernel
theorem dX10_prove_7 : decode cX10_prove 7 = .ok (.if_icmp .ge 165, 3) := by decide +kernel
theorem dX10_prove_10 : decode cX10_prove 10 = .ok (.aload_n 0, 1) := by decide +kernel
theorem dX10_prove_11 : decode cX10_prove 11 = .ok (.getfield 111, 3) := by decide +kernel
theorem dX10_prove_14 : decode cX10_prove 14 = .ok (.iload_n 1, 1) := by decide +kernel
theorem dX10_prove_15 : decode cX10_prove 15 = .ok (.iaload, 1) := by decide +kernel
theorem dX10_prove_16 : decode cX10_prove 16 = .ok (.aload_n 0, 1) := by decide +kernel
theorem dX10_prove_17 : decode cX10_prove 17 = .ok (.getfield 173, 3) := by decide +kernel
theorem dX10_prove_20 : decode cX10_prove 20 = .ok (.if_icmp .eq 6, 3) := by decide +kernel
theorem dX10_prove_23 : decode cX10_prove 23 = .ok (.goto 143, 3) := by decide +kernel
theorem dX10_prove_26 : decode cX10_prove 26 = .ok (.aload_n 0, 1) := by decide +kernel
theorem dX10_prove_27 : decode cX10_prove 27 = .ok (.getfield 114, 3) := by decide +kernel
theorem dX10_prove_30 : decode cX10_prove 30 = .ok (.iload_n 1, 1) := by decide +kernel
theorem dX10_prove_31 : decode cX10_prove 31 = .ok (.iaload, 1) := by decide +kernel
theorem dX10_prove_32 : decode cX10_prove 32 = .ok (.istore_n 2, 1) := by decide +kernel
theorem dX10_prove_33 : decode cX10_prove 33 = .ok (.aload_n 0, 1) := by decide +kernel
theorem dX10_prove_34 : decode cX10_prove 34 = .ok (.getfield 117, 3) := by decide +kernel
theorem dX10_prove_37 : decode cX10_prove 37 = .ok (.aload_n 0, 1) := by decide +kernel
theorem dX10_prove_38 : decode cX10_prove 38 = .ok (.getfield 108, 3) := by decide +kernel
theorem dX10_prove_41 : decode cX10_prove 41 = .ok (.iload_n 1, 1) := by decide +kernel
theorem dX10_prove_42 : decode cX10_prove 42 = .ok (.iaload, 1) := by decide +kernel
theorem dX10_prove_43 : decode cX10_prove 43 = .ok (.dup2, 1) := by decide +kernel
theorem dX10_prove_44 : decode cX10_prove 44 = .ok (.iaload, 1) := by decide +kernel
theorem dX10_prove_45 : decode cX10_prove 45 = .ok (.aload_n 0, 1) := by decide +kernel
theorem dX10_prove_46 : decode cX10_prove 46 = .ok (.getfield 96, 3) := by decide +kernel
theorem dX10_prove_49 : decode cX10_prove 49 = .ok (.iload_n 2, 1) := by decide +kernel
theorem dX10_prove_50 : decode cX10_prove 50 = .ok (.baload, 1) := by decide +kernel
theorem dX10_prove_51 : decode cX10_prove 51 = .ok (.ifCond .eq 7, 3) := by decide +kernel
theorem dX10_prove_54 : decode cX10_prove 54 = .ok (.iconst 1, 1) := by decide +kernel
theorem dX10_prove_55 : decode cX10_prove 55 = .ok (.goto 4, 3) := by decide +kernel
theorem dX10_prove_58 : decode cX10_prove 58 = .ok (.iconst 0, 1) := by decide +kernel
theorem dX10_prove_59 : decode cX10_prove 59 = .ok (.iadd, 1) := by decide +kernel
theorem dX10_prove_60 : decode cX10_prove 60 = .ok (.iastore, 1) := by decide +kernel
theorem dX10_prove_61 : decode cX10_prove 61 = .ok (.aload_n 0, 1) := by decide +kernel
theorem dX10_prove_62 : decode cX10_prove 62 = .ok (.getfield 120, 3) := by decide +kernel
theorem dX10_prove_65 : decode cX10_prove 65 = .ok (.aload_n 0, 1) := by decide +kernel
theorem dX10_prove_66 : decode cX10_prove 66 = .ok (.getfield 108, 3) := by decide +kernel
theorem dX10_prove_69 : decode cX10_prove 69 = .ok (.iload_n 1, 1) := by decide +kernel
theorem dX10_prove_70 : decode cX10_prove 70 = .ok (.iaload, 1) := by decide +kernel
theorem dX10_prove_71 : decode cX10_prove 71 = .ok (.dup2, 1) := by decide +kernel
theorem dX10_prove_72 : decode cX10_prove 72 = .ok (.iaload, 1) := by decide +kernel
theorem dX10_prove_73 : decode cX10_prove 73 = .ok (.aload_n 0, 1) := by decide +kernel
theorem dX10_prove_74 : decode cX10_prove 74 = .ok (.getfield 96, 3) := by decide +kernel
theorem dX10_prove_77 : decode cX10_prove 77 = .ok (.iload_n 2, 1) := by decide +kernel
theorem dX10_prove_78 : decode cX10_prove 78 = .ok (.baload, 1) := by decide +kernel
theorem dX10_prove_79 : decode cX10_prove 79 = .ok (.ifCond .eq 7, 3) := by decide +kernel
theorem dX10_prove_82 : decode cX10_prove 82 = .ok (.iconst 0, 1) := by decide +kernel
theorem dX10_prove_83 : decode cX10_prove 83 = .ok (.goto 4, 3) := by decide +kernel
theorem dX10_prove_86 : decode cX10_prove 86 = .ok (.iconst 1, 1) := by decide +kernel
theorem dX10_prove_87 : decode cX10_prove 87 = .ok (.iadd, 1) := by decide +kernel
theorem dX10_prove_88 : decode cX10_prove 88 = .ok (.iastore, 1) := by decide +kernel
theorem dX10_prove_89 : decode cX10_prove 89 = .ok (.iconst 0, 1) := by decide +kernel
theorem dX10_prove_90 : decode cX10_prove 90 = .ok (.istore_n 3, 1) := by decide +kernel
theorem dX10_prove_91 : decode cX10_prove 91 = .ok (.iload_n 3, 1) := by decide +kernel
theorem dX10_prove_92 : decode cX10_prove 92 = .ok (.aload_n 0, 1) := by decide +kernel
theorem dX10_prove_93 : decode cX10_prove 93 = .ok (.getfield 164, 3) := by decide +kernel
theorem dX10_prove_96 : decode cX10_prove 96 = .ok (.if_icmp .ge 70, 3) := by decide +kernel
theorem dX10_prove_99 : decode cX10_prove 99 = .ok (.aload_n 0, 1) := by decide +kernel
theorem dX10_prove_100 : decode cX10_prove 100 = .ok (.getfield 96, 3) := by decide +kernel
theorem dX10_prove_103 : decode cX10_prove 103 = .ok (.iload_n 2, 1) := by decide +kernel
theorem dX10_prove_104 : decode cX10_prove 104 = .ok (.baload, 1) := by decide +kernel
theorem dX10_prove_105 : decode cX10_prove 105 = .ok (.ifCond .eq 61, 3) := by decide +kernel
theorem dX10_prove_108 : decode cX10_prove 108 = .ok (.aload_n 0, 1) := by decide +kernel
theorem dX10_prove_109 : decode cX10_prove 109 = .ok (.getfield 53, 3) := by decide +kernel
theorem dX10_prove_112 : decode cX10_prove 112 = .ok (.iload_n 3, 1) := by decide +kernel
theorem dX10_prove_113 : decode cX10_prove 113 = .ok (.iaload, 1) := by decide +kernel
theorem dX10_prove_114 : decode cX10_prove 114 = .ok (.iload_n 2, 1) := by decide +kernel
theorem dX10_prove_115 : decode cX10_prove 115 = .ok (.if_icmp .ne 15, 3) := by decide +kernel
theorem dX10_prove_118 : decode cX10_prove 118 = .ok (.aload_n 0, 1) := by decide +kernel
theorem dX10_prove_119 : decode cX10_prove 119 = .ok (.getfield 62, 3) := by decide +kernel
theorem dX10_prove_122 : decode cX10_prove 122 = .ok (.iload_n 3, 1) := by decide +kernel
theorem dX10_prove_123 : decode cX10_prove 123 = .ok (.iaload, 1) := by decide +kernel
theorem dX10_prove_124 : decode cX10_prove 124 = .ok (.bipush 10, 2) := by decide +kernel
theorem dX10_prove_126 : decode cX10_prove 126 = .ok (.iadd, 1) := by decide +kernel
theorem dX10_prove_127 : decode cX10_prove 127 = .ok (.goto 9, 3) := by decide +kernel
theorem dX10_prove_130 : decode cX10_prove 130 = .ok (.aload_n 0, 1) := by decide +kernel
theorem dX10_prove_131 : decode cX10_prove 131 = .ok (.getfield 62, 3) := by decide +kernel
theorem dX10_prove_134 : decode cX10_prove 134 = .ok (.iload_n 3, 1) := by decide +kernel
theorem dX10_prove_135 : decode cX10_prove 135 = .ok (.iaload, 1) := by decide +kernel
theorem dX10_prove_136 : decode cX10_prove 136 = .ok (.istore 4, 2) := by decide +kernel
theorem dX10_prove_138 : decode cX10_prove 138 = .ok (.aload_n 0, 1) := by decide +kernel
theorem dX10_prove_139 : decode cX10_prove 139 = .ok (.getfield 62, 3) := by decide +kernel
theorem dX10_prove_142 : decode cX10_prove 142 = .ok (.iload_n 3, 1) := by decide +kernel
theorem dX10_prove_143 : decode cX10_prove 143 = .ok (.iload 4, 2) := by decide +kernel
theorem dX10_prove_145 : decode cX10_prove 145 = .ok (.sipush 999, 3) := by decide +kernel
theorem dX10_prove_148 : decode cX10_prove 148 = .ok (.if_icmp .le 9, 3) := by decide +kernel
theorem dX10_prove_151 : decode cX10_prove 151 = .ok (.sipush 999, 3) := by decide +kernel
theorem dX10_prove_154 : decode cX10_prove 154 = .ok (.goto 5, 3) := by decide +kernel
theorem dX10_prove_157 : decode cX10_prove 157 = .ok (.iload 4, 2) := by decide +kernel
theorem dX10_prove_159 : decode cX10_prove 159 = .ok (.iastore, 1) := by decide +kernel
theorem dX10_prove_160 : decode cX10_prove 160 = .ok (.iinc 3 1, 3) := by decide +kernel
theorem dX10_prove_163 : decode cX10_prove 163 = .ok (.goto (-72), 3) := by decide +kernel
theorem dX10_prove_166 : decode cX10_prove 166 = .ok (.iinc 1 1, 3) := by decide +kernel
theorem dX10_prove_169 : decode cX10_prove 169 = .ok (.goto (-167), 3) := by decide +kernel
theorem dX10_prove_172 : decode cX10_prove 172 = .ok (.return_, 1) := by decide +kernel
set_option maxRecDepth 20000 in
theorem ggX10_pass_X10_watch : GoodIn wsX10_pass wsX10_watch := goodIn_r _ [11, 12, 13, 14, 15, 16, 17, 18, 10, 19, 20, 21, 102, 103, 104, 105, 106, 107, 108, 109, 110, 111, 112, 113, 114, 115, 116, 117, 118, 119, 120, 121, 122, 123, 124, 125, 126, 127, 128, 129, 130, 131, 132, 133, 134, 135, 136, 137, 138, 139, 140, 141, 142, 143, 144, 145, 146, 147, 148, 149, 150, 151, 152, 153, 154, 155] (by decide +kernel) (by decide +kernel)
set_option maxRecDepth 20000 in
theorem gX10_pass_X10_watch : GoodIn wsX10_pass (wsV RX10 216 RX10 yX10_watch wsX10_watch) := goodIn_app (goodIn_of _ (by decide +kernel)) ggX10_pass_X10_watch
set_option maxRecDepth 20000 in
theorem ggX10_pass_X10_choice : GoodIn wsX10_pass wsX10_choice := goodIn_r _ [25, 1, 26, 27, 28, 6, 29, 30, 31, 10, 32, 33, 34, 35, 36, 37, 38, 39, 102, 103, 104, 105, 106, 107, 108, 109, 110, 111, 112, 113, 114, 115, 116, 117, 118, 119, 120, 121, 122, 123, 124, 125, 126, 127, 128, 129, 130, 131, 132, 133, 134, 135, 136, 137, 138, 139, 140, 141, 142, 143, 144, 145, 146, 147, 148, 149, 150, 151, 152, 153, 154, 155] (by decide +kernel) (by decide +kernel)
set_option maxRecDepth 20000 in
theorem gX10_pass_X10_choice : GoodIn wsX10_pass (wsV RX10 219 RX10 yX10_choice wsX10_choice) := goodIn_app (goodIn_of _ (by decide +kernel)) ggX10_pass_X10_choice
set_option maxRecDepth 20000 in
theorem ggX10_pass_X10_goes : GoodIn wsX10_pass wsX10_goes := goodIn_r _ [43, 44, 4, 45, 46, 12, 47, 48, 49, 10, 50, 51, 52, 53, 54, 55, 56, 57, 1, 58, 59, 60, 61, 62, 63, 64, 65, 66, 67, 68, 69, 70, 71, 72, 73, 74, 5, 75, 76, 77, 78, 79, 2, 80, 81, 82, 83, 6, 84, 85, 86, 87, 88, 89, 90, 91, 92, 93, 94, 102, 103, 104, 105, 106, 107, 108, 109, 110, 111, 112, 113, 114, 115, 116, 117, 118, 119, 120, 121, 122, 123, 124, 125, 126, 127, 128, 129, 130, 131, 132, 133, 134, 135, 136, 137, 138, 139, 140, 141, 142, 143, 144, 145, 146, 147, 148, 149, 150, 151, 152, 153, 154, 155] (by decide +kernel) (by decide +kernel)
set_option maxRecDepth 20000 in
theorem gX10_pass_X10_goes : GoodIn wsX10_pass (wsV RX10 222 RX10 yX10_goes wsX10_goes) := goodIn_app (goodIn_of _ (by decide +kernel)) ggX10_pass_X10_goes
set_option maxRecDepth 20000 in
theorem ggX10_pass_X10_prove : GoodIn wsX10_pass wsX10_prove := goodIn_r _ [98, 56, 57, 1, 58, 99, 59, 2, 100, 88, 89, 101, 102, 103, 104, 105, 106, 107, 108, 109, 110, 111, 112, 113, 114, 115, 116, 117, 118, 119, 120, 121, 122, 123, 124, 125, 126, 127, 128, 129, 130, 131, 132, 133, 134, 135, 136, 137, 138, 139, 140, 141, 142, 143, 144, 145, 146, 147, 148, 149, 150, 151, 152, 153, 154, 155] (by decide +kernel) (by decide +kernel)
set_option maxRecDepth 20000 in
theorem gX10_pass_X10_prove : GoodIn wsX10_pass (wsV RX10 225 RX10 yX10_prove wsX10_prove) := goodIn_app (goodIn_of _ (by decide +kernel)) ggX10_pass_X10_prove
theorem dX10_pass_0 : decode cX10_pass 0 = .ok (.aload_n 0, 1) := by decide +kernel
theorem dX10_pass_1 : decode cX10_pass 1 = .ok (.dup, 1) := by decide +kernel
theorem dX10_pass_2 : decode cX10_pass 2 = .ok (.getfield 173, 3) := by decide +kernel
theorem dX10_pass_5 : decode cX10_pass 5 = .ok (.iconst 1, 1) := by decide +kernel
theorem dX10_pass_6 : decode cX10_pass 6 = .ok (.iadd, 1) := by decide +kernel
theorem dX10_pass_7 : decode cX10_pass 7 = .ok (.putfield 173, 3) := by decide +kernel
theorem dX10_pass_10 : decode cX10_pass 10 = .ok (.aload_n 0, 1) := by decide +kernel
theorem dX10_pass_11 : decode cX10_pass 11 = .ok (.invokevirtual 216, 3) := by decide +kernel
theorem dX10_pass_14 : decode cX10_pass 14 = .ok (.iconst 0, 1) := by decide +kernel
theorem dX10_pass_15 : decode cX10_pass 15 = .ok (.istore_n 1, 1) := by decide +kernel
theorem dX10_pass_16 : decode cX10_pass 16 = .ok (.iload_n 1, 1) := by decide +kernel
theorem dX10_pass_17 : decode cX10_pass 17 = .ok (.bipush 6, 2) := by decide +kernel
theorem dX10_pass_19 : decode cX10_pass 19 = .ok (.if_icmp .ge 16, 3) := by decide +kernel
theorem dX10_pass_22 : decode cX10_pass 22 = .ok (.aload_n 0, 1) := by decide +kernel
theorem dX10_pass_23 : decode cX10_pass 23 = .ok (.getfield 96, 3) := by decide +kernel
theorem dX10_pass_26 : decode cX10_pass 26 = .ok (.iload_n 1, 1) := by decide +kernel
theorem dX10_pass_27 : decode cX10_pass 27 = .ok (.iconst 0, 1) := by decide +kernel
theorem dX10_pass_28 : decode cX10_pass 28 = .ok (.bastore, 1) := by decide +kernel
theorem dX10_pass_29 : decode cX10_pass 29 = .ok (.iinc 1 1, 3) := by decide +kernel
theorem dX10_pass_32 : decode cX10_pass 32 = .ok (.goto (-16), 3) := by decide +kernel
theorem dX10_pass_35 : decode cX10_pass 35 = .ok (.iconst 0, 1) := by decide +kernel
theorem dX10_pass_36 : decode cX10_pass 36 = .ok (.istore_n 1, 1) := by decide +kernel
theorem dX10_pass_37 : decode cX10_pass 37 = .ok (.iload_n 1, 1) := by decide +kernel
theorem dX10_pass_38 : decode cX10_pass 38 = .ok (.aload_n 0, 1) := by decide +kernel
theorem dX10_pass_39 : decode cX10_pass 39 = .ok (.getfield 161, 3) := by decide +kernel
theorem dX10_pass_42 : decode cX10_pass 42 = .ok (.if_icmp .ge 47, 3) := by decide +kernel
theorem dX10_pass_45 : decode cX10_pass 45 = .ok (.aload_n 0, 1) := by decide +kernel
theorem dX10_pass_46 : decode cX10_pass 46 = .ok (.getfield 41, 3) := by decide +kernel
theorem dX10_pass_49 : decode cX10_pass 49 = .ok (.iload_n 1, 1) := by decide +kernel
theorem dX10_pass_50 : decode cX10_pass 50 = .ok (.iaload, 1) := by decide +kernel
theorem dX10_pass_51 : decode cX10_pass 51 = .ok (.ifCond .le 20, 3) := by decide +kernel
theorem dX10_pass_54 : decode cX10_pass 54 = .ok (.aload_n 0, 1) := by decide +kernel
theorem dX10_pass_55 : decode cX10_pass 55 = .ok (.getfield 189, 3) := by decide +kernel
theorem dX10_pass_58 : decode cX10_pass 58 = .ok (.bipush 100, 2) := by decide +kernel
theorem dX10_pass_60 : decode cX10_pass 60 = .ok (.if_icmp .ge 11, 3) := by decide +kernel
theorem dX10_pass_63 : decode cX10_pass 63 = .ok (.aload_n 0, 1) := by decide +kernel
theorem dX10_pass_64 : decode cX10_pass 64 = .ok (.iload_n 1, 1) := by decide +kernel
theorem dX10_pass_65 : decode cX10_pass 65 = .ok (.invokevirtual 219, 3) := by decide +kernel
theorem dX10_pass_68 : decode cX10_pass 68 = .ok (.goto 4, 3) := by decide +kernel
theorem dX10_pass_71 : decode cX10_pass 71 = .ok (.iconst (-1), 1) := by decide +kernel
theorem dX10_pass_72 : decode cX10_pass 72 = .ok (.istore_n 2, 1) := by decide +kernel
theorem dX10_pass_73 : decode cX10_pass 73 = .ok (.iload_n 2, 1) := by decide +kernel
theorem dX10_pass_74 : decode cX10_pass 74 = .ok (.ifCond .lt 9, 3) := by decide +kernel
theorem dX10_pass_77 : decode cX10_pass 77 = .ok (.aload_n 0, 1) := by decide +kernel
theorem dX10_pass_78 : decode cX10_pass 78 = .ok (.iload_n 1, 1) := by decide +kernel
theorem dX10_pass_79 : decode cX10_pass 79 = .ok (.iload_n 2, 1) := by decide +kernel
theorem dX10_pass_80 : decode cX10_pass 80 = .ok (.invokevirtual 222, 3) := by decide +kernel
theorem dX10_pass_83 : decode cX10_pass 83 = .ok (.iinc 1 1, 3) := by decide +kernel
theorem dX10_pass_86 : decode cX10_pass 86 = .ok (.goto (-49), 3) := by decide +kernel
theorem dX10_pass_89 : decode cX10_pass 89 = .ok (.iconst 0, 1) := by decide +kernel
theorem dX10_pass_90 : decode cX10_pass 90 = .ok (.istore_n 1, 1) := by decide +kernel
theorem dX10_pass_91 : decode cX10_pass 91 = .ok (.iload_n 1, 1) := by decide +kernel
theorem dX10_pass_92 : decode cX10_pass 92 = .ok (.bipush 48, 2) := by decide +kernel
theorem dX10_pass_94 : decode cX10_pass 94 = .ok (.if_icmp .ge 32, 3) := by decide +kernel
theorem dX10_pass_97 : decode cX10_pass 97 = .ok (.aload_n 0, 1) := by decide +kernel
theorem dX10_pass_98 : decode cX10_pass 98 = .ok (.getfield 50, 3) := by decide +kernel
theorem dX10_pass_101 : decode cX10_pass 101 = .ok (.iload_n 1, 1) := by decide +kernel
theorem dX10_pass_102 : decode cX10_pass 102 = .ok (.dup2, 1) := by decide +kernel
theorem dX10_pass_103 : decode cX10_pass 103 = .ok (.iaload, 1) := by decide +kernel
theorem dX10_pass_104 : decode cX10_pass 104 = .ok (.aload_n 0, 1) := by decide +kernel
theorem dX10_pass_105 : decode cX10_pass 105 = .ok (.getfield 50, 3) := by decide +kernel
theorem dX10_pass_108 : decode cX10_pass 108 = .ok (.iload_n 1, 1) := by decide +kernel
theorem dX10_pass_109 : decode cX10_pass 109 = .ok (.iaload, 1) := by decide +kernel
theorem dX10_pass_110 : decode cX10_pass 110 = .ok (.ifCond .le 7, 3) := by decide +kernel
theorem dX10_pass_113 : decode cX10_pass 113 = .ok (.iconst 1, 1) := by decide +kernel
theorem dX10_pass_114 : decode cX10_pass 114 = .ok (.goto 4, 3) := by decide +kernel
theorem dX10_pass_117 : decode cX10_pass 117 = .ok (.iconst 0, 1) := by decide +kernel
theorem dX10_pass_118 : decode cX10_pass 118 = .ok (.isub, 1) := by decide +kernel
theorem dX10_pass_119 : decode cX10_pass 119 = .ok (.iastore, 1) := by decide +kernel
theorem dX10_pass_120 : decode cX10_pass 120 = .ok (.iinc 1 1, 3) := by decide +kernel
theorem dX10_pass_123 : decode cX10_pass 123 = .ok (.goto (-32), 3) := by decide +kernel
theorem dX10_pass_126 : decode cX10_pass 126 = .ok (.aload_n 0, 1) := by decide +kernel
theorem dX10_pass_127 : decode cX10_pass 127 = .ok (.invokevirtual 225, 3) := by decide +kernel
theorem dX10_pass_130 : decode cX10_pass 130 = .ok (.return_, 1) := by decide +kernel
set_option maxRecDepth 20000 in
theorem ggX10_nights_X10_refuse : GoodIn wsX10_nights wsX10_refuse := goodIn_r _ [7, 8, 111, 112, 113, 114, 115, 116, 117, 118, 119, 120, 121, 122, 123, 124, 125, 126, 127, 128, 129, 130, 131, 132, 133, 134, 135, 136, 137, 138, 139, 140, 141, 142, 143, 144, 145, 146, 147, 148, 149, 150, 151, 152, 153, 154, 155, 156, 157, 158, 159, 160, 161, 162, 163, 164] (by decide +kernel) (by decide +kernel)
set_option maxRecDepth 20000 in
theorem gX10_nights_X10_refuse : GoodIn wsX10_nights (wsV RX10 152 RX10 yX10_refuse wsX10_refuse) := goodIn_app (goodIn_of _ (by decide +kernel)) ggX10_nights_X10_refuse
set_option maxRecDepth 20000 in
theorem ggX10_nights_X10_pass : GoodIn wsX10_nights wsX10_pass := goodIn_r _ [12, 1, 13, 14, 15, 2, 16, 17, 18, 19, 6, 20, 21, 22, 23, 24, 25, 26, 27, 28, 29, 30, 31, 32, 33, 34, 35, 36, 37, 38, 39, 40, 41, 42, 43, 44, 45, 46, 47, 48, 49, 50, 51, 52, 53, 54, 55, 56, 57, 58, 59, 60, 61, 62, 63, 64, 65, 66, 67, 68, 69, 70, 71, 72, 73, 74, 75, 76, 77, 78, 79, 80, 81, 82, 83, 84, 85, 86, 87, 88, 89, 90, 91, 92, 93, 94, 95, 96, 97, 98, 99, 100, 101, 102, 103, 104, 105, 106, 107, 108, 109, 110, 111, 112, 113, 114, 115, 116, 117, 118, 119, 120, 121, 122, 123, 124, 125, 126, 127, 128, 129, 130, 131, 132, 133, 134, 135, 136, 137, 138, 139, 140, 141, 142, 143, 144, 145, 146, 147, 148, 149, 150, 151, 152, 153, 154, 155, 156, 157, 158, 159, 160, 161, 162, 163, 164] (by decide +kernel) (by decide +kernel)
set_option maxRecDepth 20000 in
theorem gX10_nights_X10_pass : GoodIn wsX10_nights (wsV RX10 228 RX10 yX10_pass wsX10_pass) := goodIn_app (goodIn_of _ (by decide +kernel)) ggX10_nights_X10_pass
theorem dX10_nights_0 : decode cX10_nights 0 = .ok (.iload_n 1, 1) := by decide +kernel
theorem dX10_nights_1 : decode cX10_nights 1 = .ok (.iconst 1, 1) := by decide +kernel
theorem dX10_nights_2 : decode cX10_nights 2 = .ok (.if_icmp .ge 10, 3) := by decide +kernel
theorem dX10_nights_5 : decode cX10_nights 5 = .ok (.aload_n 0, 1) := by decide +kernel
theorem dX10_nights_6 : decode cX10_nights 6 = .ok (.bipush (-4), 2) := by decide +kernel
theorem dX10_nights_8 : decode cX10_nights 8 = .ok (.invokevirtual 152, 3) := by decide +kernel
theorem dX10_nights_11 : decode cX10_nights 11 = .ok (.ireturn, 1) := by decide +kernel
theorem dX10_nights_12 : decode cX10_nights 12 = .ok (.iload_n 1, 1) := by decide +kernel
theorem dX10_nights_13 : decode cX10_nights 13 = .ok (.sipush 1000, 3) := by decide +kernel
theorem dX10_nights_16 : decode cX10_nights 16 = .ok (.aload_n 0, 1) := by decide +kernel
theorem dX10_nights_17 : decode cX10_nights 17 = .ok (.getfield 173, 3) := by decide +kernel
theorem dX10_nights_20 : decode cX10_nights 20 = .ok (.isub, 1) := by decide +kernel
theorem dX10_nights_21 : decode cX10_nights 21 = .ok (.if_icmp .le 10, 3) := by decide +kernel
theorem dX10_nights_24 : decode cX10_nights 24 = .ok (.aload_n 0, 1) := by decide +kernel
theorem dX10_nights_25 : decode cX10_nights 25 = .ok (.bipush (-6), 2) := by decide +kernel
theorem dX10_nights_27 : decode cX10_nights 27 = .ok (.invokevirtual 152, 3) := by decide +kernel
theorem dX10_nights_30 : decode cX10_nights 30 = .ok (.ireturn, 1) := by decide +kernel
theorem dX10_nights_31 : decode cX10_nights 31 = .ok (.aload_n 0, 1) := by decide +kernel
theorem dX10_nights_32 : decode cX10_nights 32 = .ok (.getfield 189, 3) := by decide +kernel
theorem dX10_nights_35 : decode cX10_nights 35 = .ok (.istore_n 2, 1) := by decide +kernel
theorem dX10_nights_36 : decode cX10_nights 36 = .ok (.iconst 0, 1) := by decide +kernel
theorem dX10_nights_37 : decode cX10_nights 37 = .ok (.istore_n 3, 1) := by decide +kernel
theorem dX10_nights_38 : decode cX10_nights 38 = .ok (.iload_n 3, 1) := by decide +kernel
theorem dX10_nights_39 : decode cX10_nights 39 = .ok (.iload_n 1, 1) := by decide +kernel
theorem dX10_nights_40 : decode cX10_nights 40 = .ok (.if_icmp .ge 13, 3) := by decide +kernel
theorem dX10_nights_43 : decode cX10_nights 43 = .ok (.aload_n 0, 1) := by decide +kernel
theorem dX10_nights_44 : decode cX10_nights 44 = .ok (.invokevirtual 228, 3) := by decide +kernel
theorem dX10_nights_47 : decode cX10_nights 47 = .ok (.iinc 3 1, 3) := by decide +kernel
theorem dX10_nights_50 : decode cX10_nights 50 = .ok (.goto (-12), 3) := by decide +kernel
theorem dX10_nights_53 : decode cX10_nights 53 = .ok (.aload_n 0, 1) := by decide +kernel
theorem dX10_nights_54 : decode cX10_nights 54 = .ok (.getfield 189, 3) := by decide +kernel
theorem dX10_nights_57 : decode cX10_nights 57 = .ok (.iload_n 2, 1) := by decide +kernel
theorem dX10_nights_58 : decode cX10_nights 58 = .ok (.isub, 1) := by decide +kernel
theorem dX10_nights_59 : decode cX10_nights 59 = .ok (.ireturn, 1) := by decide +kernel
set_option maxRecDepth 20000 in
theorem ggX10_search_X10_in : GoodIn wsX10_search wsX10_in := goodIn_r _ [10] (by decide +kernel) (by decide +kernel)
set_option maxRecDepth 20000 in
theorem gX10_search_X10_in : GoodIn wsX10_search (va_wsS RX10 144 yX10_in wsX10_in) := goodIn_app (goodIn_of _ (by decide +kernel)) ggX10_search_X10_in
set_option maxRecDepth 20000 in
theorem ggX10_search_X10_refuse : GoodIn wsX10_search wsX10_refuse := goodIn_r _ [14, 15, 27, 28, 29, 30, 31, 32, 33, 34, 35, 36, 37, 38, 39, 40, 41, 42, 43, 44, 45, 46, 47, 48, 49, 50, 51, 52, 53, 54, 55, 56, 57, 58, 59, 60, 61, 62, 63, 64, 65, 66, 67, 68, 69, 70, 71, 72, 73, 74, 75, 76, 77, 78, 79, 80] (by decide +kernel) (by decide +kernel)
set_option maxRecDepth 20000 in
theorem gX10_search_X10_refuse : GoodIn wsX10_search (wsV RX10 152 RX10 yX10_refuse wsX10_refuse) := goodIn_app (goodIn_of _ (by decide +kernel)) ggX10_search_X10_refuse
set_option maxRecDepth 20000 in
theorem ggX10_search_X10_partCasks : GoodIn wsX10_search wsX10_partCasks := goodIn_r _ [19, 20, 21, 22, 23, 24, 25, 26, 27, 28, 29, 30, 31, 32, 33, 34, 35, 36, 37, 38, 39, 40, 41, 42, 43, 44, 45, 46, 47, 48, 49, 50, 51, 52, 53, 54, 55, 56, 57, 58, 59, 60, 61, 62, 63, 64, 65, 66, 67, 68, 69, 70, 71, 72, 73, 74, 75, 76, 77, 78, 79, 80] (by decide +kernel) (by decide +kernel)
set_option maxRecDepth 20000 in
theorem gX10_search_X10_partCasks : GoodIn wsX10_search (wsV RX10 201 RX10 yX10_partCasks wsX10_partCasks) := goodIn_app (goodIn_of _ (by decide +kernel)) ggX10_search_X10_partCasks
theorem dX10_search_0 : decode cX10_search 0 = .ok (.iload_n 1, 1) := by decide +kernel
theorem dX10_search_1 : decode cX10_search 1 = .ok (.iconst 0, 1) := by decide +kernel
theorem dX10_search_2 : decode cX10_search 2 = .ok (.aload_n 0, 1) := by decide +kernel
theorem dX10_search_3 : decode cX10_search 3 = .ok (.getfield 164, 3) := by decide +kernel
theorem dX10_search_6 : decode cX10_search 6 = .ok (.iconst 1, 1) := by decide +kernel
theorem dX10_search_7 : decode cX10_search 7 = .ok (.isub, 1) := by decide +kernel
theorem dX10_search_8 : decode cX10_search 8 = .ok (.invokestatic 144, 3) := by decide +kernel
theorem dX10_search_11 : decode cX10_search 11 = .ok (.ifCond .ne 9, 3) := by decide +kernel
theorem dX10_search_14 : decode cX10_search 14 = .ok (.aload_n 0, 1) := by decide +kernel
theorem dX10_search_15 : decode cX10_search 15 = .ok (.iconst (-1), 1) := by decide +kernel
theorem dX10_search_16 : decode cX10_search 16 = .ok (.invokevirtual 152, 3) := by decide +kernel
theorem dX10_search_19 : decode cX10_search 19 = .ok (.ireturn, 1) := by decide +kernel
theorem dX10_search_20 : decode cX10_search 20 = .ok (.iconst 0, 1) := by decide +kernel
theorem dX10_search_21 : decode cX10_search 21 = .ok (.istore_n 2, 1) := by decide +kernel
theorem dX10_search_22 : decode cX10_search 22 = .ok (.iconst 0, 1) := by decide +kernel
theorem dX10_search_23 : decode cX10_search 23 = .ok (.istore_n 3, 1) := by decide +kernel
theorem dX10_search_24 : decode cX10_search 24 = .ok (.iload_n 3, 1) := by decide +kernel
theorem dX10_search_25 : decode cX10_search 25 = .ok (.aload_n 0, 1) := by decide +kernel
theorem dX10_search_26 : decode cX10_search 26 = .ok (.getfield 189, 3) := by decide +kernel
theorem dX10_search_29 : decode cX10_search 29 = .ok (.if_icmp .ge 55, 3) := by decide +kernel
theorem dX10_search_32 : decode cX10_search 32 = .ok (.aload_n 0, 1) := by decide +kernel
theorem dX10_search_33 : decode cX10_search 33 = .ok (.getfield 77, 3) := by decide +kernel
theorem dX10_search_36 : decode cX10_search 36 = .ok (.iload_n 3, 1) := by decide +kernel
theorem dX10_search_37 : decode cX10_search 37 = .ok (.iaload, 1) := by decide +kernel
theorem dX10_search_38 : decode cX10_search 38 = .ok (.ifCond .ne 40, 3) := by decide +kernel
theorem dX10_search_41 : decode cX10_search 41 = .ok (.aload_n 0, 1) := by decide +kernel
theorem dX10_search_42 : decode cX10_search 42 = .ok (.getfield 80, 3) := by decide +kernel
theorem dX10_search_45 : decode cX10_search 45 = .ok (.iload_n 3, 1) := by decide +kernel
theorem dX10_search_46 : decode cX10_search 46 = .ok (.iaload, 1) := by decide +kernel
theorem dX10_search_47 : decode cX10_search 47 = .ok (.iload_n 1, 1) := by decide +kernel
theorem dX10_search_48 : decode cX10_search 48 = .ok (.if_icmp .ne 30, 3) := by decide +kernel
theorem dX10_search_51 : decode cX10_search 51 = .ok (.aload_n 0, 1) := by decide +kernel
theorem dX10_search_52 : decode cX10_search 52 = .ok (.aload_n 0, 1) := by decide +kernel
theorem dX10_search_53 : decode cX10_search 53 = .ok (.getfield 68, 3) := by decide +kernel
theorem dX10_search_56 : decode cX10_search 56 = .ok (.iload_n 3, 1) := by decide +kernel
theorem dX10_search_57 : decode cX10_search 57 = .ok (.iaload, 1) := by decide +kernel
theorem dX10_search_58 : decode cX10_search 58 = .ok (.iconst (-1), 1) := by decide +kernel
theorem dX10_search_59 : decode cX10_search 59 = .ok (.invokevirtual 201, 3) := by decide +kernel
theorem dX10_search_62 : decode cX10_search 62 = .ok (.aload_n 0, 1) := by decide +kernel
theorem dX10_search_63 : decode cX10_search 63 = .ok (.getfield 77, 3) := by decide +kernel
theorem dX10_search_66 : decode cX10_search 66 = .ok (.iload_n 3, 1) := by decide +kernel
theorem dX10_search_67 : decode cX10_search 67 = .ok (.iconst 2, 1) := by decide +kernel
theorem dX10_search_68 : decode cX10_search 68 = .ok (.iastore, 1) := by decide +kernel
theorem dX10_search_69 : decode cX10_search 69 = .ok (.iload_n 2, 1) := by decide +kernel
theorem dX10_search_70 : decode cX10_search 70 = .ok (.aload_n 0, 1) := by decide +kernel
theorem dX10_search_71 : decode cX10_search 71 = .ok (.getfield 68, 3) := by decide +kernel
theorem dX10_search_74 : decode cX10_search 74 = .ok (.iload_n 3, 1) := by decide +kernel
theorem dX10_search_75 : decode cX10_search 75 = .ok (.iaload, 1) := by decide +kernel
theorem dX10_search_76 : decode cX10_search 76 = .ok (.iadd, 1) := by decide +kernel
theorem dX10_search_77 : decode cX10_search 77 = .ok (.istore_n 2, 1) := by decide +kernel
theorem dX10_search_78 : decode cX10_search 78 = .ok (.iinc 3 1, 3) := by decide +kernel
theorem dX10_search_81 : decode cX10_search 81 = .ok (.goto (-57), 3) := by decide +kernel
theorem dX10_search_84 : decode cX10_search 84 = .ok (.aload_n 0, 1) := by decide +kernel
theorem dX10_search_85 : decode cX10_search 85 = .ok (.getfield 62, 3) := by decide +kernel
theorem dX10_search_88 : decode cX10_search 88 = .ok (.iload_n 1, 1) := by decide +kernel
theorem dX10_search_89 : decode cX10_search 89 = .ok (.dup2, 1) := by decide +kernel
theorem dX10_search_90 : decode cX10_search 90 = .ok (.iaload, 1) := by decide +kernel
theorem dX10_search_91 : decode cX10_search 91 = .ok (.iconst 2, 1) := by decide +kernel
theorem dX10_search_92 : decode cX10_search 92 = .ok (.idiv, 1) := by decide +kernel
theorem dX10_search_93 : decode cX10_search 93 = .ok (.iastore, 1) := by decide +kernel
theorem dX10_search_94 : decode cX10_search 94 = .ok (.iload_n 2, 1) := by decide +kernel
theorem dX10_search_95 : decode cX10_search 95 = .ok (.ireturn, 1) := by decide +kernel
theorem dX10_ones_0 : decode cX10_ones 0 = .ok (.iconst 0, 1) := by decide +kernel
theorem dX10_ones_1 : decode cX10_ones 1 = .ok (.istore_n 1, 1) := by decide +kernel
theorem dX10_ones_2 : decode cX10_ones 2 = .ok (.iload_n 0, 1) := by decide +kernel
theorem dX10_ones_3 : decode cX10_ones 3 = .ok (.istore_n 2, 1) := by decide +kernel
theorem dX10_ones_4 : decode cX10_ones 4 = .ok (.iload_n 2, 1) := by decide +kernel
theorem dX10_ones_5 : decode cX10_ones 5 = .ok (.ifCond .le 16, 3) := by decide +kernel
theorem dX10_ones_8 : decode cX10_ones 8 = .ok (.iload_n 1, 1) := by decide +kernel
theorem dX10_ones_9 : decode cX10_ones 9 = .ok (.iload_n 2, 1) := by decide +kernel
theorem dX10_ones_10 : decode cX10_ones 10 = .ok (.iconst 2, 1) := by decide +kernel
theorem dX10_ones_11 : decode cX10_ones 11 = .ok (.irem, 1) := by decide +kernel
theorem dX10_ones_12 : decode cX10_ones 12 = .ok (.iadd, 1) := by decide +kernel
theorem dX10_ones_13 : decode cX10_ones 13 = .ok (.istore_n 1, 1) := by decide +kernel
theorem dX10_ones_14 : decode cX10_ones 14 = .ok (.iload_n 2, 1) := by decide +kernel
theorem dX10_ones_15 : decode cX10_ones 15 = .ok (.iconst 2, 1) := by decide +kernel
theorem dX10_ones_16 : decode cX10_ones 16 = .ok (.idiv, 1) := by decide +kernel
theorem dX10_ones_17 : decode cX10_ones 17 = .ok (.istore_n 2, 1) := by decide +kernel
theorem dX10_ones_18 : decode cX10_ones 18 = .ok (.goto (-14), 3) := by decide +kernel
theorem dX10_ones_21 : decode cX10_ones 21 = .ok (.iload_n 1, 1) := by decide +kernel
theorem dX10_ones_22 : decode cX10_ones 22 = .ok (.ireturn, 1) := by decide +kernel
set_option maxRecDepth 20000 in
theorem ggX10_best_X10_refuse : GoodIn wsX10_best wsX10_refuse := goodIn_r _ [8, 9, 13, 14, 15, 16, 17, 18, 19, 20, 21, 22, 23, 24, 25, 26, 27, 28, 29, 30, 31, 32, 33, 34, 35, 36, 37, 38, 39, 40, 41, 42, 43, 44, 45, 46, 47, 48, 49, 50, 51, 52, 53, 54, 55, 56, 57, 58, 59, 60, 61, 62, 63, 64, 65, 66] (by decide +kernel) (by decide +kernel)
set_option maxRecDepth 20000 in
theorem gX10_best_X10_refuse : GoodIn wsX10_best (wsV RX10 152 RX10 yX10_refuse wsX10_refuse) := goodIn_app (goodIn_of _ (by decide +kernel)) ggX10_best_X10_refuse
set_option maxRecDepth 20000 in
theorem ggX10_best_X10_ones : GoodIn wsX10_best wsX10_ones := goodIn_r _ [12] (by decide +kernel) (by decide +kernel)
set_option maxRecDepth 20000 in
theorem gX10_best_X10_ones : GoodIn wsX10_best (va_wsS RX10 231 yX10_ones wsX10_ones) := goodIn_app (goodIn_of _ (by decide +kernel)) ggX10_best_X10_ones
theorem dX10_best_0 : decode cX10_best 0 = .ok (.iload_n 1, 1) := by decide +kernel
theorem dX10_best_1 : decode cX10_best 1 = .ok (.ifCond .ge 10, 3) := by decide +kernel
theorem dX10_best_4 : decode cX10_best 4 = .ok (.aload_n 0, 1) := by decide +kernel
theorem dX10_best_5 : decode cX10_best 5 = .ok (.bipush (-4), 2) := by decide +kernel
theorem dX10_best_7 : decode cX10_best 7 = .ok (.invokevirtual 152, 3) := by decide +kernel
theorem dX10_best_10 : decode cX10_best 10 = .ok (.ireturn, 1) := by decide +kernel
theorem dX10_best_11 : decode cX10_best 11 = .ok (.iload_n 1, 1) := by decide +kernel
theorem dX10_best_12 : decode cX10_best 12 = .ok (.bipush 100, 2) := by decide +kernel
theorem dX10_best_14 : decode cX10_best 14 = .ok (.if_icmp .le 10, 3) := by decide +kernel
theorem dX10_best_17 : decode cX10_best 17 = .ok (.aload_n 0, 1) := by decide +kernel
theorem dX10_best_18 : decode cX10_best 18 = .ok (.bipush (-6), 2) := by decide +kernel
theorem dX10_best_20 : decode cX10_best 20 = .ok (.invokevirtual 152, 3) := by decide +kernel
theorem dX10_best_23 : decode cX10_best 23 = .ok (.ireturn, 1) := by decide +kernel
theorem dX10_best_24 : decode cX10_best 24 = .ok (.iconst 0, 1) := by decide +kernel
theorem dX10_best_25 : decode cX10_best 25 = .ok (.istore_n 2, 1) := by decide +kernel
theorem dX10_best_26 : decode cX10_best 26 = .ok (.iconst 0, 1) := by decide +kernel
theorem dX10_best_27 : decode cX10_best 27 = .ok (.istore_n 3, 1) := by decide +kernel
theorem dX10_best_28 : decode cX10_best 28 = .ok (.iconst 1, 1) := by decide +kernel
theorem dX10_best_29 : decode cX10_best 29 = .ok (.istore 4, 2) := by decide +kernel
theorem dX10_best_31 : decode cX10_best 31 = .ok (.iload 4, 2) := by decide +kernel
theorem dX10_best_33 : decode cX10_best 33 = .ok (.iconst 1, 1) := by decide +kernel
theorem dX10_best_34 : decode cX10_best 34 = .ok (.aload_n 0, 1) := by decide +kernel
theorem dX10_best_35 : decode cX10_best 35 = .ok (.getfield 164, 3) := by decide +kernel
theorem dX10_best_38 : decode cX10_best 38 = .ok (.ishl, 1) := by decide +kernel
theorem dX10_best_39 : decode cX10_best 39 = .ok (.if_icmp .ge 123, 3) := by decide +kernel
theorem dX10_best_42 : decode cX10_best 42 = .ok (.iconst 0, 1) := by decide +kernel
theorem dX10_best_43 : decode cX10_best 43 = .ok (.istore 5, 2) := by decide +kernel
theorem dX10_best_45 : decode cX10_best 45 = .ok (.iconst 0, 1) := by decide +kernel
theorem dX10_best_46 : decode cX10_best 46 = .ok (.istore 6, 2) := by decide +kernel
theorem dX10_best_48 : decode cX10_best 48 = .ok (.iconst 0, 1) := by decide +kernel
theorem dX10_best_49 : decode cX10_best 49 = .ok (.istore 7, 2) := by decide +kernel
theorem dX10_best_51 : decode cX10_best 51 = .ok (.iload 7, 2) := by decide +kernel
theorem dX10_best_53 : decode cX10_best 53 = .ok (.aload_n 0, 1) := by decide +kernel
theorem dX10_best_54 : decode cX10_best 54 = .ok (.getfield 164, 3) := by decide +kernel
theorem dX10_best_57 : decode cX10_best 57 = .ok (.if_icmp .ge 63, 3) := by decide +kernel
theorem dX10_best_60 : decode cX10_best 60 = .ok (.iload 5, 2) := by decide +kernel
theorem dX10_best_62 : decode cX10_best 62 = .ok (.iload 4, 2) := by decide +kernel
theorem dX10_best_64 : decode cX10_best 64 = .ok (.iload 7, 2) := by decide +kernel
theorem dX10_best_66 : decode cX10_best 66 = .ok (.ishr, 1) := by decide +kernel
theorem dX10_best_67 : decode cX10_best 67 = .ok (.iconst 1, 1) := by decide +kernel
theorem dX10_best_68 : decode cX10_best 68 = .ok (.iand, 1) := by decide +kernel
theorem dX10_best_69 : decode cX10_best 69 = .ok (.iconst 1, 1) := by decide +kernel
theorem dX10_best_70 : decode cX10_best 70 = .ok (.if_icmp .ne 13, 3) := by decide +kernel
theorem dX10_best_73 : decode cX10_best 73 = .ok (.aload_n 0, 1) := by decide +kernel
theorem dX10_best_74 : decode cX10_best 74 = .ok (.getfield 59, 3) := by decide +kernel
theorem dX10_best_77 : decode cX10_best 77 = .ok (.iload 7, 2) := by decide +kernel
theorem dX10_best_79 : decode cX10_best 79 = .ok (.iaload, 1) := by decide +kernel
theorem dX10_best_80 : decode cX10_best 80 = .ok (.goto 4, 3) := by decide +kernel
theorem dX10_best_83 : decode cX10_best 83 = .ok (.iconst 0, 1) := by decide +kernel
theorem dX10_best_84 : decode cX10_best 84 = .ok (.iadd, 1) := by decide +kernel
theorem dX10_best_85 : decode cX10_best 85 = .ok (.istore 5, 2) := by decide +kernel
theorem dX10_best_87 : decode cX10_best 87 = .ok (.iload 6, 2) := by decide +kernel
theorem dX10_best_89 : decode cX10_best 89 = .ok (.iload 4, 2) := by decide +kernel
theorem dX10_best_91 : decode cX10_best 91 = .ok (.iload 7, 2) := by decide +kernel
theorem dX10_best_93 : decode cX10_best 93 = .ok (.ishr, 1) := by decide +kernel
theorem dX10_best_94 : decode cX10_best 94 = .ok (.iconst 1, 1) := by decide +kernel
theorem dX10_best_95 : decode cX10_best 95 = .ok (.iand, 1) := by decide +kernel
theorem dX10_best_96 : decode cX10_best 96 = .ok (.iconst 1, 1) := by decide +kernel
theorem dX10_best_97 : decode cX10_best 97 = .ok (.if_icmp .ne 13, 3) := by decide +kernel
theorem dX10_best_100 : decode cX10_best 100 = .ok (.aload_n 0, 1) := by decide +kernel
theorem dX10_best_101 : decode cX10_best 101 = .ok (.getfield 62, 3) := by decide +kernel
theorem dX10_best_104 : decode cX10_best 104 = .ok (.iload 7, 2) := by decide +kernel
theorem dX10_best_106 : decode cX10_best 106 = .ok (.iaload, 1) := by decide +kernel
theorem dX10_best_107 : decode cX10_best 107 = .ok (.goto 4, 3) := by decide +kernel
theorem dX10_best_110 : decode cX10_best 110 = .ok (.iconst 0, 1) := by decide +kernel
theorem dX10_best_111 : decode cX10_best 111 = .ok (.iadd, 1) := by decide +kernel
theorem dX10_best_112 : decode cX10_best 112 = .ok (.istore 6, 2) := by decide +kernel
theorem dX10_best_114 : decode cX10_best 114 = .ok (.iinc 7 1, 3) := by decide +kernel
theorem dX10_best_117 : decode cX10_best 117 = .ok (.goto (-66), 3) := by decide +kernel
theorem dX10_best_120 : decode cX10_best 120 = .ok (.iload 5, 2) := by decide +kernel
theorem dX10_best_122 : decode cX10_best 122 = .ok (.iload_n 1, 1) := by decide +kernel
theorem dX10_best_123 : decode cX10_best 123 = .ok (.if_icmp .gt 33, 3) := by decide +kernel
theorem dX10_best_126 : decode cX10_best 126 = .ok (.iload 6, 2) := by decide +kernel
theorem dX10_best_128 : decode cX10_best 128 = .ok (.iload_n 3, 1) := by decide +kernel
theorem dX10_best_129 : decode cX10_best 129 = .ok (.if_icmp .gt 21, 3) := by decide +kernel
theorem dX10_best_132 : decode cX10_best 132 = .ok (.iload 6, 2) := by decide +kernel
theorem dX10_best_134 : decode cX10_best 134 = .ok (.iload_n 3, 1) := by decide +kernel
theorem dX10_best_135 : decode cX10_best 135 = .ok (.if_icmp .ne 21, 3) := by decide +kernel
theorem dX10_best_138 : decode cX10_best 138 = .ok (.iload 4, 2) := by decide +kernel
theorem dX10_best_140 : decode cX10_best 140 = .ok (.invokestatic 231, 3) := by decide +kernel
theorem dX10_best_143 : decode cX10_best 143 = .ok (.iload_n 2, 1) := by decide +kernel
theorem dX10_best_144 : decode cX10_best 144 = .ok (.invokestatic 231, 3) := by decide +kernel
theorem dX10_best_147 : decode cX10_best 147 = .ok (.if_icmp .ge 9, 3) := by decide +kernel
theorem dX10_best_150 : decode cX10_best 150 = .ok (.iload 4, 2) := by decide +kernel
theorem dX10_best_152 : decode cX10_best 152 = .ok (.istore_n 2, 1) := by decide +kernel
theorem dX10_best_153 : decode cX10_best 153 = .ok (.iload 6, 2) := by decide +kernel
theorem dX10_best_155 : decode cX10_best 155 = .ok (.istore_n 3, 1) := by decide +kernel
theorem dX10_best_156 : decode cX10_best 156 = .ok (.iinc 4 1, 3) := by decide +kernel
theorem dX10_best_159 : decode cX10_best 159 = .ok (.goto (-128), 3) := by decide +kernel
theorem dX10_best_162 : decode cX10_best 162 = .ok (.iload_n 2, 1) := by decide +kernel
theorem dX10_best_163 : decode cX10_best 163 = .ok (.ireturn, 1) := by decide +kernel
theorem dX10_divisor_0 : decode cX10_divisor 0 = .ok (.lload_n 0, 1) := by decide +kernel
theorem dX10_divisor_1 : decode cX10_divisor 1 = .ok (.lconst 0, 1) := by decide +kernel
theorem dX10_divisor_2 : decode cX10_divisor 2 = .ok (.lcmp, 1) := by decide +kernel
theorem dX10_divisor_3 : decode cX10_divisor 3 = .ok (.ifCond .ge 8, 3) := by decide +kernel
theorem dX10_divisor_6 : decode cX10_divisor 6 = .ok (.lload_n 0, 1) := by decide +kernel
theorem dX10_divisor_7 : decode cX10_divisor 7 = .ok (.lneg, 1) := by decide +kernel
theorem dX10_divisor_8 : decode cX10_divisor 8 = .ok (.goto 4, 3) := by decide +kernel
theorem dX10_divisor_11 : decode cX10_divisor 11 = .ok (.lload_n 0, 1) := by decide +kernel
theorem dX10_divisor_12 : decode cX10_divisor 12 = .ok (.lstore 4, 2) := by decide +kernel
theorem dX10_divisor_14 : decode cX10_divisor 14 = .ok (.lload_n 2, 1) := by decide +kernel
theorem dX10_divisor_15 : decode cX10_divisor 15 = .ok (.lstore 6, 2) := by decide +kernel
theorem dX10_divisor_17 : decode cX10_divisor 17 = .ok (.lload 6, 2) := by decide +kernel
theorem dX10_divisor_19 : decode cX10_divisor 19 = .ok (.lconst 0, 1) := by decide +kernel
theorem dX10_divisor_20 : decode cX10_divisor 20 = .ok (.lcmp, 1) := by decide +kernel
theorem dX10_divisor_21 : decode cX10_divisor 21 = .ok (.ifCond .eq 21, 3) := by decide +kernel
theorem dX10_divisor_24 : decode cX10_divisor 24 = .ok (.lload 4, 2) := by decide +kernel
theorem dX10_divisor_26 : decode cX10_divisor 26 = .ok (.lload 6, 2) := by decide +kernel
theorem dX10_divisor_28 : decode cX10_divisor 28 = .ok (.lrem, 1) := by decide +kernel
theorem dX10_divisor_29 : decode cX10_divisor 29 = .ok (.lstore 8, 2) := by decide +kernel
theorem dX10_divisor_31 : decode cX10_divisor 31 = .ok (.lload 6, 2) := by decide +kernel
theorem dX10_divisor_33 : decode cX10_divisor 33 = .ok (.lstore 4, 2) := by decide +kernel
theorem dX10_divisor_35 : decode cX10_divisor 35 = .ok (.lload 8, 2) := by decide +kernel
theorem dX10_divisor_37 : decode cX10_divisor 37 = .ok (.lstore 6, 2) := by decide +kernel
theorem dX10_divisor_39 : decode cX10_divisor 39 = .ok (.goto (-22), 3) := by decide +kernel
theorem dX10_divisor_42 : decode cX10_divisor 42 = .ok (.lload 4, 2) := by decide +kernel
theorem dX10_divisor_44 : decode cX10_divisor 44 = .ok (.lreturn, 1) := by decide +kernel
set_option maxRecDepth 20000 in
theorem ggX10_side_X10_divisor : GoodIn wsX10_side wsX10_divisor := goodIn_r _ [4] (by decide +kernel) (by decide +kernel)
set_option maxRecDepth 20000 in
theorem gX10_side_X10_divisor : GoodIn wsX10_side (va_wsS RX10 234 yX10_divisor wsX10_divisor) := goodIn_app (goodIn_of _ (by decide +kernel)) ggX10_side_X10_divisor
theorem dX10_side_0 : decode cX10_side 0 = .ok (.lload_n 0, 1) := by decide +kernel
theorem dX10_side_1 : decode cX10_side 1 = .ok (.lload_n 2, 1) := by decide +kernel
theorem dX10_side_2 : decode cX10_side 2 = .ok (.invokestatic 234, 3) := by decide +kernel
theorem dX10_side_5 : decode cX10_side 5 = .ok (.lstore 5, 2) := by decide +kernel
theorem dX10_side_7 : decode cX10_side 7 = .ok (.iload 4, 2) := by decide +kernel
theorem dX10_side_9 : decode cX10_side 9 = .ok (.ifCond .ne 10, 3) := by decide +kernel
theorem dX10_side_12 : decode cX10_side 12 = .ok (.lload_n 0, 1) := by decide +kernel
theorem dX10_side_13 : decode cX10_side 13 = .ok (.lload 5, 2) := by decide +kernel
theorem dX10_side_15 : decode cX10_side 15 = .ok (.ldiv, 1) := by decide +kernel
theorem dX10_side_16 : decode cX10_side 16 = .ok (.goto 7, 3) := by decide +kernel
theorem dX10_side_19 : decode cX10_side 19 = .ok (.lload_n 2, 1) := by decide +kernel
theorem dX10_side_20 : decode cX10_side 20 = .ok (.lload 5, 2) := by decide +kernel
theorem dX10_side_22 : decode cX10_side 22 = .ok (.ldiv, 1) := by decide +kernel
theorem dX10_side_23 : decode cX10_side 23 = .ok (.lreturn, 1) := by decide +kernel
set_option maxRecDepth 20000 in
theorem ggX10_belief_X10_isCove : GoodIn wsX10_belief wsX10_isCove := goodIn_r _ [10, 11, 12, 9, 13] (by decide +kernel) (by decide +kernel)
set_option maxRecDepth 20000 in
theorem gX10_belief_X10_isCove : GoodIn wsX10_belief (va_wsS RX10 148 yX10_isCove wsX10_isCove) := goodIn_app (goodIn_of _ (by decide +kernel)) ggX10_belief_X10_isCove
set_option maxRecDepth 20000 in
theorem ggX10_belief_X10_refuse : GoodIn wsX10_belief wsX10_refuse := goodIn_r _ [17, 18, 25, 26, 27, 28, 29, 30, 31, 32, 33, 34, 35, 36, 37, 38, 39, 40, 41, 42, 43, 44, 45, 46, 47, 48, 49, 50, 51, 52, 53, 54, 55, 56, 57, 58, 59, 60, 61, 62, 63, 64, 65, 66, 67, 68, 69, 70, 71, 72, 73, 74, 75, 76, 77, 78] (by decide +kernel) (by decide +kernel)
set_option maxRecDepth 20000 in
theorem gX10_belief_X10_refuse : GoodIn wsX10_belief (wsV RX10 152 RX10 yX10_refuse wsX10_refuse) := goodIn_app (goodIn_of _ (by decide +kernel)) ggX10_belief_X10_refuse
set_option maxRecDepth 20000 in
theorem ggX10_belief_X10_in : GoodIn wsX10_belief wsX10_in := goodIn_r _ [13] (by decide +kernel) (by decide +kernel)
set_option maxRecDepth 20000 in
theorem gX10_belief_X10_in : GoodIn wsX10_belief (va_wsS RX10 144 yX10_in wsX10_in) := goodIn_app (goodIn_of _ (by decide +kernel)) ggX10_belief_X10_in
set_option maxRecDepth 20000 in
theorem ggX10_belief_X10_side : GoodIn wsX10_belief wsX10_side := goodIn_r _ [21, 22, 23, 9, 24] (by decide +kernel) (by decide +kernel)
set_option maxRecDepth 20000 in
theorem gX10_belief_X10_side : GoodIn wsX10_belief (va_wsS RX10 238 yX10_side wsX10_side) := goodIn_app (goodIn_of _ (by decide +kernel)) ggX10_belief_X10_side
theorem dX10_belief_0 : decode cX10_belief 0 = .ok (.iload_n 1, 1) := by decide +kernel
theorem dX10_belief_1 : decode cX10_belief 1 = .ok (.invokestatic 148, 3) := by decide +kernel
theorem dX10_belief_4 : decode cX10_belief 4 = .ok (.ifCond .ne 10, 3) := by decide +kernel
theorem dX10_belief_7 : decode cX10_belief 7 = .ok (.aload_n 0, 1) := by decide +kernel
theorem dX10_belief_8 : decode cX10_belief 8 = .ok (.iconst (-1), 1) := by decide +kernel
theorem dX10_belief_9 : decode cX10_belief 9 = .ok (.invokevirtual 152, 3) := by decide +kernel
theorem dX10_belief_12 : decode cX10_belief 12 = .ok (.i2l, 1) := by decide +kernel
theorem dX10_belief_13 : decode cX10_belief 13 = .ok (.lreturn, 1) := by decide +kernel
theorem dX10_belief_14 : decode cX10_belief 14 = .ok (.iload_n 2, 1) := by decide +kernel
theorem dX10_belief_15 : decode cX10_belief 15 = .ok (.ifCond .ge 11, 3) := by decide +kernel
theorem dX10_belief_18 : decode cX10_belief 18 = .ok (.aload_n 0, 1) := by decide +kernel
theorem dX10_belief_19 : decode cX10_belief 19 = .ok (.bipush (-4), 2) := by decide +kernel
theorem dX10_belief_21 : decode cX10_belief 21 = .ok (.invokevirtual 152, 3) := by decide +kernel
theorem dX10_belief_24 : decode cX10_belief 24 = .ok (.i2l, 1) := by decide +kernel
theorem dX10_belief_25 : decode cX10_belief 25 = .ok (.lreturn, 1) := by decide +kernel
theorem dX10_belief_26 : decode cX10_belief 26 = .ok (.iload_n 2, 1) := by decide +kernel
theorem dX10_belief_27 : decode cX10_belief 27 = .ok (.sipush 1000, 3) := by decide +kernel
theorem dX10_belief_30 : decode cX10_belief 30 = .ok (.if_icmp .le 11, 3) := by decide +kernel
theorem dX10_belief_33 : decode cX10_belief 33 = .ok (.aload_n 0, 1) := by decide +kernel
theorem dX10_belief_34 : decode cX10_belief 34 = .ok (.bipush (-6), 2) := by decide +kernel
theorem dX10_belief_36 : decode cX10_belief 36 = .ok (.invokevirtual 152, 3) := by decide +kernel
theorem dX10_belief_39 : decode cX10_belief 39 = .ok (.i2l, 1) := by decide +kernel
theorem dX10_belief_40 : decode cX10_belief 40 = .ok (.lreturn, 1) := by decide +kernel
theorem dX10_belief_41 : decode cX10_belief 41 = .ok (.iload_n 3, 1) := by decide +kernel
theorem dX10_belief_42 : decode cX10_belief 42 = .ok (.iconst 0, 1) := by decide +kernel
theorem dX10_belief_43 : decode cX10_belief 43 = .ok (.iconst 1, 1) := by decide +kernel
theorem dX10_belief_44 : decode cX10_belief 44 = .ok (.invokestatic 144, 3) := by decide +kernel
theorem dX10_belief_47 : decode cX10_belief 47 = .ok (.ifCond .ne 11, 3) := by decide +kernel
theorem dX10_belief_50 : decode cX10_belief 50 = .ok (.aload_n 0, 1) := by decide +kernel
theorem dX10_belief_51 : decode cX10_belief 51 = .ok (.bipush (-2), 2) := by decide +kernel
theorem dX10_belief_53 : decode cX10_belief 53 = .ok (.invokevirtual 152, 3) := by decide +kernel
theorem dX10_belief_56 : decode cX10_belief 56 = .ok (.i2l, 1) := by decide +kernel
theorem dX10_belief_57 : decode cX10_belief 57 = .ok (.lreturn, 1) := by decide +kernel
theorem dX10_belief_58 : decode cX10_belief 58 = .ok (.lconst 1, 1) := by decide +kernel
theorem dX10_belief_59 : decode cX10_belief 59 = .ok (.lstore 4, 2) := by decide +kernel
theorem dX10_belief_61 : decode cX10_belief 61 = .ok (.lconst 1, 1) := by decide +kernel
theorem dX10_belief_62 : decode cX10_belief 62 = .ok (.lstore 6, 2) := by decide +kernel
theorem dX10_belief_64 : decode cX10_belief 64 = .ok (.iconst 0, 1) := by decide +kernel
theorem dX10_belief_65 : decode cX10_belief 65 = .ok (.istore 8, 2) := by decide +kernel
theorem dX10_belief_67 : decode cX10_belief 67 = .ok (.iload 8, 2) := by decide +kernel
theorem dX10_belief_69 : decode cX10_belief 69 = .ok (.bipush 6, 2) := by decide +kernel
theorem dX10_belief_71 : decode cX10_belief 71 = .ok (.if_icmp .ge 132, 3) := by decide +kernel
theorem dX10_belief_74 : decode cX10_belief 74 = .ok (.iconst 0, 1) := by decide +kernel
theorem dX10_belief_75 : decode cX10_belief 75 = .ok (.istore 9, 2) := by decide +kernel
theorem dX10_belief_77 : decode cX10_belief 77 = .ok (.iconst 0, 1) := by decide +kernel
theorem dX10_belief_78 : decode cX10_belief 78 = .ok (.istore 10, 2) := by decide +kernel
theorem dX10_belief_80 : decode cX10_belief 80 = .ok (.iload 10, 2) := by decide +kernel
theorem dX10_belief_82 : decode cX10_belief 82 = .ok (.aload_n 0, 1) := by decide +kernel
theorem dX10_belief_83 : decode cX10_belief 83 = .ok (.getfield 179, 3) := by decide +kernel
theorem dX10_belief_86 : decode cX10_belief 86 = .ok (.if_icmp .ge 55, 3) := by decide +kernel
theorem dX10_belief_89 : decode cX10_belief 89 = .ok (.iload 9, 2) := by decide +kernel
theorem dX10_belief_91 : decode cX10_belief 91 = .ok (.ifCond .ne 37, 3) := by decide +kernel
theorem dX10_belief_94 : decode cX10_belief 94 = .ok (.aload_n 0, 1) := by decide +kernel
theorem dX10_belief_95 : decode cX10_belief 95 = .ok (.getfield 108, 3) := by decide +kernel
theorem dX10_belief_98 : decode cX10_belief 98 = .ok (.iload 10, 2) := by decide +kernel
theorem dX10_belief_100 : decode cX10_belief 100 = .ok (.iaload, 1) := by decide +kernel
theorem dX10_belief_101 : decode cX10_belief 101 = .ok (.iload 8, 2) := by decide +kernel
theorem dX10_belief_103 : decode cX10_belief 103 = .ok (.if_icmp .ne 29, 3) := by decide +kernel
theorem dX10_belief_106 : decode cX10_belief 106 = .ok (.aload_n 0, 1) := by decide +kernel
theorem dX10_belief_107 : decode cX10_belief 107 = .ok (.getfield 111, 3) := by decide +kernel
theorem dX10_belief_110 : decode cX10_belief 110 = .ok (.iload 10, 2) := by decide +kernel
theorem dX10_belief_112 : decode cX10_belief 112 = .ok (.iaload, 1) := by decide +kernel
theorem dX10_belief_113 : decode cX10_belief 113 = .ok (.iload_n 2, 1) := by decide +kernel
theorem dX10_belief_114 : decode cX10_belief 114 = .ok (.if_icmp .ne 18, 3) := by decide +kernel
theorem dX10_belief_117 : decode cX10_belief 117 = .ok (.aload_n 0, 1) := by decide +kernel
theorem dX10_belief_118 : decode cX10_belief 118 = .ok (.getfield 114, 3) := by decide +kernel
theorem dX10_belief_121 : decode cX10_belief 121 = .ok (.iload 10, 2) := by decide +kernel
theorem dX10_belief_123 : decode cX10_belief 123 = .ok (.iaload, 1) := by decide +kernel
theorem dX10_belief_124 : decode cX10_belief 124 = .ok (.iload_n 1, 1) := by decide +kernel
theorem dX10_belief_125 : decode cX10_belief 125 = .ok (.if_icmp .ne 7, 3) := by decide +kernel
theorem dX10_belief_128 : decode cX10_belief 128 = .ok (.iconst 1, 1) := by decide +kernel
theorem dX10_belief_129 : decode cX10_belief 129 = .ok (.goto 4, 3) := by decide +kernel
theorem dX10_belief_132 : decode cX10_belief 132 = .ok (.iconst 0, 1) := by decide +kernel
theorem dX10_belief_133 : decode cX10_belief 133 = .ok (.istore 9, 2) := by decide +kernel
theorem dX10_belief_135 : decode cX10_belief 135 = .ok (.iinc 10 1, 3) := by decide +kernel
theorem dX10_belief_138 : decode cX10_belief 138 = .ok (.goto (-58), 3) := by decide +kernel
theorem dX10_belief_141 : decode cX10_belief 141 = .ok (.lload 4, 2) := by decide +kernel
theorem dX10_belief_143 : decode cX10_belief 143 = .ok (.iload 9, 2) := by decide +kernel
theorem dX10_belief_145 : decode cX10_belief 145 = .ok (.ifCond .eq 16, 3) := by decide +kernel
theorem dX10_belief_148 : decode cX10_belief 148 = .ok (.aload_n 0, 1) := by decide +kernel
theorem dX10_belief_149 : decode cX10_belief 149 = .ok (.getfield 120, 3) := by decide +kernel
theorem dX10_belief_152 : decode cX10_belief 152 = .ok (.iload 8, 2) := by decide +kernel
theorem dX10_belief_154 : decode cX10_belief 154 = .ok (.iaload, 1) := by decide +kernel
theorem dX10_belief_155 : decode cX10_belief 155 = .ok (.iconst 1, 1) := by decide +kernel
theorem dX10_belief_156 : decode cX10_belief 156 = .ok (.iadd, 1) := by decide +kernel
theorem dX10_belief_157 : decode cX10_belief 157 = .ok (.i2l, 1) := by decide +kernel
theorem dX10_belief_158 : decode cX10_belief 158 = .ok (.goto 4, 3) := by decide +kernel
theorem dX10_belief_161 : decode cX10_belief 161 = .ok (.lconst 1, 1) := by decide +kernel
theorem dX10_belief_162 : decode cX10_belief 162 = .ok (.lmul, 1) := by decide +kernel
theorem dX10_belief_163 : decode cX10_belief 163 = .ok (.lstore 4, 2) := by decide +kernel
theorem dX10_belief_165 : decode cX10_belief 165 = .ok (.lload 6, 2) := by decide +kernel
theorem dX10_belief_167 : decode cX10_belief 167 = .ok (.iload 9, 2) := by decide +kernel
theorem dX10_belief_169 : decode cX10_belief 169 = .ok (.ifCond .eq 24, 3) := by decide +kernel
theorem dX10_belief_172 : decode cX10_belief 172 = .ok (.aload_n 0, 1) := by decide +kernel
theorem dX10_belief_173 : decode cX10_belief 173 = .ok (.getfield 117, 3) := by decide +kernel
theorem dX10_belief_176 : decode cX10_belief 176 = .ok (.iload 8, 2) := by decide +kernel
theorem dX10_belief_178 : decode cX10_belief 178 = .ok (.iaload, 1) := by decide +kernel
theorem dX10_belief_179 : decode cX10_belief 179 = .ok (.aload_n 0, 1) := by decide +kernel
theorem dX10_belief_180 : decode cX10_belief 180 = .ok (.getfield 120, 3) := by decide +kernel
theorem dX10_belief_183 : decode cX10_belief 183 = .ok (.iload 8, 2) := by decide +kernel
theorem dX10_belief_185 : decode cX10_belief 185 = .ok (.iaload, 1) := by decide +kernel
theorem dX10_belief_186 : decode cX10_belief 186 = .ok (.iadd, 1) := by decide +kernel
theorem dX10_belief_187 : decode cX10_belief 187 = .ok (.iconst 2, 1) := by decide +kernel
theorem dX10_belief_188 : decode cX10_belief 188 = .ok (.iadd, 1) := by decide +kernel
theorem dX10_belief_189 : decode cX10_belief 189 = .ok (.i2l, 1) := by decide +kernel
theorem dX10_belief_190 : decode cX10_belief 190 = .ok (.goto 4, 3) := by decide +kernel
theorem dX10_belief_193 : decode cX10_belief 193 = .ok (.lconst 1, 1) := by decide +kernel
theorem dX10_belief_194 : decode cX10_belief 194 = .ok (.lmul, 1) := by decide +kernel
theorem dX10_belief_195 : decode cX10_belief 195 = .ok (.lstore 6, 2) := by decide +kernel
theorem dX10_belief_197 : decode cX10_belief 197 = .ok (.iinc 8 1, 3) := by decide +kernel
theorem dX10_belief_200 : decode cX10_belief 200 = .ok (.goto (-133), 3) := by decide +kernel
theorem dX10_belief_203 : decode cX10_belief 203 = .ok (.lload 6, 2) := by decide +kernel
theorem dX10_belief_205 : decode cX10_belief 205 = .ok (.lload 4, 2) := by decide +kernel
theorem dX10_belief_207 : decode cX10_belief 207 = .ok (.lsub, 1) := by decide +kernel
theorem dX10_belief_208 : decode cX10_belief 208 = .ok (.lload 6, 2) := by decide +kernel
theorem dX10_belief_210 : decode cX10_belief 210 = .ok (.iload_n 3, 1) := by decide +kernel
theorem dX10_belief_211 : decode cX10_belief 211 = .ok (.invokestatic 238, 3) := by decide +kernel
theorem dX10_belief_214 : decode cX10_belief 214 = .ok (.lreturn, 1) := by decide +kernel
set_option maxRecDepth 20000 in
theorem ggX10_weight_X10_in : GoodIn wsX10_weight wsX10_in := goodIn_r _ [6] (by decide +kernel) (by decide +kernel)
set_option maxRecDepth 20000 in
theorem gX10_weight_X10_in : GoodIn wsX10_weight (va_wsS RX10 144 yX10_in wsX10_in) := goodIn_app (goodIn_of _ (by decide +kernel)) ggX10_weight_X10_in
set_option maxRecDepth 20000 in
theorem ggX10_weight_X10_refuse : GoodIn wsX10_weight wsX10_refuse := goodIn_r _ [10, 11, 18, 19, 20, 21, 22, 23, 24, 25, 26, 27, 28, 29, 30, 31, 32, 33, 34, 35, 36, 37, 38, 39, 40, 41, 42, 43, 44, 45, 46, 47, 48, 49, 50, 51, 52, 53, 54, 55, 56, 57, 58, 59, 60, 61, 62, 63, 64, 65, 66, 67, 68, 69, 70, 71] (by decide +kernel) (by decide +kernel)
set_option maxRecDepth 20000 in
theorem gX10_weight_X10_refuse : GoodIn wsX10_weight (wsV RX10 152 RX10 yX10_refuse wsX10_refuse) := goodIn_app (goodIn_of _ (by decide +kernel)) ggX10_weight_X10_refuse
set_option maxRecDepth 20000 in
theorem ggX10_weight_X10_side : GoodIn wsX10_weight wsX10_side := goodIn_r _ [14, 15, 16, 5, 17] (by decide +kernel) (by decide +kernel)
set_option maxRecDepth 20000 in
theorem gX10_weight_X10_side : GoodIn wsX10_weight (va_wsS RX10 238 yX10_side wsX10_side) := goodIn_app (goodIn_of _ (by decide +kernel)) ggX10_weight_X10_side
theorem dX10_weight_0 : decode cX10_weight 0 = .ok (.iload_n 1, 1) := by decide +kernel
theorem dX10_weight_1 : decode cX10_weight 1 = .ok (.iconst 0, 1) := by decide +kernel
theorem dX10_weight_2 : decode cX10_weight 2 = .ok (.iconst 5, 1) := by decide +kernel
theorem dX10_weight_3 : decode cX10_weight 3 = .ok (.invokestatic 144, 3) := by decide +kernel
theorem dX10_weight_6 : decode cX10_weight 6 = .ok (.ifCond .ne 9, 3) := by decide +kernel
theorem dX10_weight_9 : decode cX10_weight 9 = .ok (.aload_n 0, 1) := by decide +kernel
theorem dX10_weight_10 : decode cX10_weight 10 = .ok (.iconst (-1), 1) := by decide +kernel
theorem dX10_weight_11 : decode cX10_weight 11 = .ok (.invokevirtual 152, 3) := by decide +kernel
theorem dX10_weight_14 : decode cX10_weight 14 = .ok (.ireturn, 1) := by decide +kernel
theorem dX10_weight_15 : decode cX10_weight 15 = .ok (.iload_n 2, 1) := by decide +kernel
theorem dX10_weight_16 : decode cX10_weight 16 = .ok (.iconst 0, 1) := by decide +kernel
theorem dX10_weight_17 : decode cX10_weight 17 = .ok (.iconst 1, 1) := by decide +kernel
theorem dX10_weight_18 : decode cX10_weight 18 = .ok (.invokestatic 144, 3) := by decide +kernel
theorem dX10_weight_21 : decode cX10_weight 21 = .ok (.ifCond .ne 10, 3) := by decide +kernel
theorem dX10_weight_24 : decode cX10_weight 24 = .ok (.aload_n 0, 1) := by decide +kernel
theorem dX10_weight_25 : decode cX10_weight 25 = .ok (.bipush (-2), 2) := by decide +kernel
theorem dX10_weight_27 : decode cX10_weight 27 = .ok (.invokevirtual 152, 3) := by decide +kernel
theorem dX10_weight_30 : decode cX10_weight 30 = .ok (.ireturn, 1) := by decide +kernel
theorem dX10_weight_31 : decode cX10_weight 31 = .ok (.aload_n 0, 1) := by decide +kernel
theorem dX10_weight_32 : decode cX10_weight 32 = .ok (.getfield 117, 3) := by decide +kernel
theorem dX10_weight_35 : decode cX10_weight 35 = .ok (.iload_n 1, 1) := by decide +kernel
theorem dX10_weight_36 : decode cX10_weight 36 = .ok (.iaload, 1) := by decide +kernel
theorem dX10_weight_37 : decode cX10_weight 37 = .ok (.iconst 1, 1) := by decide +kernel
theorem dX10_weight_38 : decode cX10_weight 38 = .ok (.iadd, 1) := by decide +kernel
theorem dX10_weight_39 : decode cX10_weight 39 = .ok (.i2l, 1) := by decide +kernel
theorem dX10_weight_40 : decode cX10_weight 40 = .ok (.aload_n 0, 1) := by decide +kernel
theorem dX10_weight_41 : decode cX10_weight 41 = .ok (.getfield 117, 3) := by decide +kernel
theorem dX10_weight_44 : decode cX10_weight 44 = .ok (.iload_n 1, 1) := by decide +kernel
theorem dX10_weight_45 : decode cX10_weight 45 = .ok (.iaload, 1) := by decide +kernel
theorem dX10_weight_46 : decode cX10_weight 46 = .ok (.aload_n 0, 1) := by decide +kernel
theorem dX10_weight_47 : decode cX10_weight 47 = .ok (.getfield 120, 3) := by decide +kernel
theorem dX10_weight_50 : decode cX10_weight 50 = .ok (.iload_n 1, 1) := by decide +kernel
theorem dX10_weight_51 : decode cX10_weight 51 = .ok (.iaload, 1) := by decide +kernel
theorem dX10_weight_52 : decode cX10_weight 52 = .ok (.iadd, 1) := by decide +kernel
theorem dX10_weight_53 : decode cX10_weight 53 = .ok (.iconst 2, 1) := by decide +kernel
theorem dX10_weight_54 : decode cX10_weight 54 = .ok (.iadd, 1) := by decide +kernel
theorem dX10_weight_55 : decode cX10_weight 55 = .ok (.i2l, 1) := by decide +kernel
theorem dX10_weight_56 : decode cX10_weight 56 = .ok (.iload_n 2, 1) := by decide +kernel
theorem dX10_weight_57 : decode cX10_weight 57 = .ok (.invokestatic 238, 3) := by decide +kernel
theorem dX10_weight_60 : decode cX10_weight 60 = .ok (.l2i, 1) := by decide +kernel
theorem dX10_weight_61 : decode cX10_weight 61 = .ok (.ireturn, 1) := by decide +kernel
theorem dX10_play_0 : decode cX10_play 0 = .ok (.iconst 0, 1) := by decide +kernel
theorem dX10_play_1 : decode cX10_play 1 = .ok (.istore_n 3, 1) := by decide +kernel
theorem dX10_play_2 : decode cX10_play 2 = .ok (.iload_n 3, 1) := by decide +kernel
theorem dX10_play_3 : decode cX10_play 3 = .ok (.bipush 6, 2) := by decide +kernel
theorem dX10_play_5 : decode cX10_play 5 = .ok (.if_icmp .ge 70, 3) := by decide +kernel
theorem dX10_play_8 : decode cX10_play 8 = .ok (.iload_n 3, 1) := by decide +kernel
theorem dX10_play_9 : decode cX10_play 9 = .ok (.istore 4, 2) := by decide +kernel
theorem dX10_play_11 : decode cX10_play 11 = .ok (.iload 4, 2) := by decide +kernel
theorem dX10_play_13 : decode cX10_play 13 = .ok (.ifCond .le 43, 3) := by decide +kernel
theorem dX10_play_16 : decode cX10_play 16 = .ok (.aload_n 0, 1) := by decide +kernel
theorem dX10_play_17 : decode cX10_play 17 = .ok (.getfield 141, 3) := by decide +kernel
theorem dX10_play_20 : decode cX10_play 20 = .ok (.iload 4, 2) := by decide +kernel
theorem dX10_play_22 : decode cX10_play 22 = .ok (.iconst 1, 1) := by decide +kernel
theorem dX10_play_23 : decode cX10_play 23 = .ok (.isub, 1) := by decide +kernel
theorem dX10_play_24 : decode cX10_play 24 = .ok (.iaload, 1) := by decide +kernel
theorem dX10_play_25 : decode cX10_play 25 = .ok (.aload_n 0, 1) := by decide +kernel
theorem dX10_play_26 : decode cX10_play 26 = .ok (.getfield 17, 3) := by decide +kernel
theorem dX10_play_29 : decode cX10_play 29 = .ok (.iload_n 3, 1) := by decide +kernel
theorem dX10_play_30 : decode cX10_play 30 = .ok (.iaload, 1) := by decide +kernel
theorem dX10_play_31 : decode cX10_play 31 = .ok (.if_icmp .ge 25, 3) := by decide +kernel
theorem dX10_play_34 : decode cX10_play 34 = .ok (.aload_n 0, 1) := by decide +kernel
theorem dX10_play_35 : decode cX10_play 35 = .ok (.getfield 141, 3) := by decide +kernel
theorem dX10_play_38 : decode cX10_play 38 = .ok (.iload 4, 2) := by decide +kernel
theorem dX10_play_40 : decode cX10_play 40 = .ok (.aload_n 0, 1) := by decide +kernel
theorem dX10_play_41 : decode cX10_play 41 = .ok (.getfield 141, 3) := by decide +kernel
theorem dX10_play_44 : decode cX10_play 44 = .ok (.iload 4, 2) := by decide +kernel
theorem dX10_play_46 : decode cX10_play 46 = .ok (.iconst 1, 1) := by decide +kernel
theorem dX10_play_47 : decode cX10_play 47 = .ok (.isub, 1) := by decide +kernel
theorem dX10_play_48 : decode cX10_play 48 = .ok (.iaload, 1) := by decide +kernel
theorem dX10_play_49 : decode cX10_play 49 = .ok (.iastore, 1) := by decide +kernel
theorem dX10_play_50 : decode cX10_play 50 = .ok (.iinc 4 (-1), 3) := by decide +kernel
theorem dX10_play_53 : decode cX10_play 53 = .ok (.goto (-42), 3) := by decide +kernel
theorem dX10_play_56 : decode cX10_play 56 = .ok (.aload_n 0, 1) := by decide +kernel
theorem dX10_play_57 : decode cX10_play 57 = .ok (.getfield 141, 3) := by decide +kernel
theorem dX10_play_60 : decode cX10_play 60 = .ok (.iload 4, 2) := by decide +kernel
theorem dX10_play_62 : decode cX10_play 62 = .ok (.aload_n 0, 1) := by decide +kernel
theorem dX10_play_63 : decode cX10_play 63 = .ok (.getfield 17, 3) := by decide +kernel
theorem dX10_play_66 : decode cX10_play 66 = .ok (.iload_n 3, 1) := by decide +kernel
theorem dX10_play_67 : decode cX10_play 67 = .ok (.iaload, 1) := by decide +kernel
theorem dX10_play_68 : decode cX10_play 68 = .ok (.iastore, 1) := by decide +kernel
theorem dX10_play_69 : decode cX10_play 69 = .ok (.iinc 3 1, 3) := by decide +kernel
theorem dX10_play_72 : decode cX10_play 72 = .ok (.goto (-70), 3) := by decide +kernel
theorem dX10_play_75 : decode cX10_play 75 = .ok (.aload_n 0, 1) := by decide +kernel
theorem dX10_play_76 : decode cX10_play 76 = .ok (.aload_n 0, 1) := by decide +kernel
theorem dX10_play_77 : decode cX10_play 77 = .ok (.getfield 141, 3) := by decide +kernel
theorem dX10_play_80 : decode cX10_play 80 = .ok (.iconst 0, 1) := by decide +kernel
theorem dX10_play_81 : decode cX10_play 81 = .ok (.iaload, 1) := by decide +kernel
theorem dX10_play_82 : decode cX10_play 82 = .ok (.i2l, 1) := by decide +kernel
theorem dX10_play_83 : decode cX10_play 83 = .ok (.putfield 242, 3) := by decide +kernel
theorem dX10_play_86 : decode cX10_play 86 = .ok (.aload_n 0, 1) := by decide +kernel
theorem dX10_play_87 : decode cX10_play 87 = .ok (.lconst 1, 1) := by decide +kernel
theorem dX10_play_88 : decode cX10_play 88 = .ok (.putfield 246, 3) := by decide +kernel
theorem dX10_play_91 : decode cX10_play 91 = .ok (.iconst 1, 1) := by decide +kernel
theorem dX10_play_92 : decode cX10_play 92 = .ok (.istore_n 3, 1) := by decide +kernel
theorem dX10_play_93 : decode cX10_play 93 = .ok (.iload_n 3, 1) := by decide +kernel
theorem dX10_play_94 : decode cX10_play 94 = .ok (.bipush 6, 2) := by decide +kernel
theorem dX10_play_96 : decode cX10_play 96 = .ok (.if_icmp .gt 186, 3) := by decide +kernel
theorem dX10_play_99 : decode cX10_play 99 = .ok (.iload_n 1, 1) := by decide +kernel
theorem dX10_play_100 : decode cX10_play 100 = .ok (.ifCond .le 182, 3) := by decide +kernel
theorem dX10_play_103 : decode cX10_play 103 = .ok (.lconst 1, 1) := by decide +kernel
theorem dX10_play_104 : decode cX10_play 104 = .ok (.lstore 4, 2) := by decide +kernel
theorem dX10_play_106 : decode cX10_play 106 = .ok (.iconst 0, 1) := by decide +kernel
theorem dX10_play_107 : decode cX10_play 107 = .ok (.istore 6, 2) := by decide +kernel
theorem dX10_play_109 : decode cX10_play 109 = .ok (.iload 6, 2) := by decide +kernel
theorem dX10_play_111 : decode cX10_play 111 = .ok (.iload_n 3, 1) := by decide +kernel
theorem dX10_play_112 : decode cX10_play 112 = .ok (.if_icmp .ge 24, 3) := by decide +kernel
theorem dX10_play_115 : decode cX10_play 115 = .ok (.lload 4, 2) := by decide +kernel
theorem dX10_play_117 : decode cX10_play 117 = .ok (.aload_n 0, 1) := by decide +kernel
theorem dX10_play_118 : decode cX10_play 118 = .ok (.getfield 141, 3) := by decide +kernel
theorem dX10_play_121 : decode cX10_play 121 = .ok (.iload 6, 2) := by decide +kernel
theorem dX10_play_123 : decode cX10_play 123 = .ok (.iaload, 1) := by decide +kernel
theorem dX10_play_124 : decode cX10_play 124 = .ok (.iload_n 2, 1) := by decide +kernel
theorem dX10_play_125 : decode cX10_play 125 = .ok (.iadd, 1) := by decide +kernel
theorem dX10_play_126 : decode cX10_play 126 = .ok (.i2l, 1) := by decide +kernel
theorem dX10_play_127 : decode cX10_play 127 = .ok (.lmul, 1) := by decide +kernel
theorem dX10_play_128 : decode cX10_play 128 = .ok (.lstore 4, 2) := by decide +kernel
theorem dX10_play_130 : decode cX10_play 130 = .ok (.iinc 6 1, 3) := by decide +kernel
theorem dX10_play_133 : decode cX10_play 133 = .ok (.goto (-24), 3) := by decide +kernel
theorem dX10_play_136 : decode cX10_play 136 = .ok (.iload_n 1, 1) := by decide +kernel
theorem dX10_play_137 : decode cX10_play 137 = .ok (.ineg, 1) := by decide +kernel
theorem dX10_play_138 : decode cX10_play 138 = .ok (.i2l, 1) := by decide +kernel
theorem dX10_play_139 : decode cX10_play 139 = .ok (.lload 4, 2) := by decide +kernel
theorem dX10_play_141 : decode cX10_play 141 = .ok (.lmul, 1) := by decide +kernel
theorem dX10_play_142 : decode cX10_play 142 = .ok (.lstore 6, 2) := by decide +kernel
theorem dX10_play_144 : decode cX10_play 144 = .ok (.lconst 0, 1) := by decide +kernel
theorem dX10_play_145 : decode cX10_play 145 = .ok (.lstore 8, 2) := by decide +kernel
theorem dX10_play_147 : decode cX10_play 147 = .ok (.iconst 0, 1) := by decide +kernel
theorem dX10_play_148 : decode cX10_play 148 = .ok (.istore 10, 2) := by decide +kernel
theorem dX10_play_150 : decode cX10_play 150 = .ok (.iload 10, 2) := by decide +kernel
theorem dX10_play_152 : decode cX10_play 152 = .ok (.iload_n 3, 1) := by decide +kernel
theorem dX10_play_153 : decode cX10_play 153 = .ok (.if_icmp .ge 47, 3) := by decide +kernel
theorem dX10_play_156 : decode cX10_play 156 = .ok (.lload 4, 2) := by decide +kernel
theorem dX10_play_158 : decode cX10_play 158 = .ok (.aload_n 0, 1) := by decide +kernel
theorem dX10_play_159 : decode cX10_play 159 = .ok (.getfield 141, 3) := by decide +kernel
theorem dX10_play_162 : decode cX10_play 162 = .ok (.iload 10, 2) := by decide +kernel
theorem dX10_play_164 : decode cX10_play 164 = .ok (.iaload, 1) := by decide +kernel
theorem dX10_play_165 : decode cX10_play 165 = .ok (.iload_n 2, 1) := by decide +kernel
theorem dX10_play_166 : decode cX10_play 166 = .ok (.iadd, 1) := by decide +kernel
theorem dX10_play_167 : decode cX10_play 167 = .ok (.i2l, 1) := by decide +kernel
theorem dX10_play_168 : decode cX10_play 168 = .ok (.ldiv, 1) := by decide +kernel
theorem dX10_play_169 : decode cX10_play 169 = .ok (.lstore 11, 2) := by decide +kernel
theorem dX10_play_171 : decode cX10_play 171 = .ok (.lload 6, 2) := by decide +kernel
theorem dX10_play_173 : decode cX10_play 173 = .ok (.aload_n 0, 1) := by decide +kernel
theorem dX10_play_174 : decode cX10_play 174 = .ok (.getfield 141, 3) := by decide +kernel
theorem dX10_play_177 : decode cX10_play 177 = .ok (.iload 10, 2) := by decide +kernel
theorem dX10_play_179 : decode cX10_play 179 = .ok (.iaload, 1) := by decide +kernel
theorem dX10_play_180 : decode cX10_play 180 = .ok (.i2l, 1) := by decide +kernel
theorem dX10_play_181 : decode cX10_play 181 = .ok (.lload 11, 2) := by decide +kernel
theorem dX10_play_183 : decode cX10_play 183 = .ok (.lmul, 1) := by decide +kernel
theorem dX10_play_184 : decode cX10_play 184 = .ok (.ladd, 1) := by decide +kernel
theorem dX10_play_185 : decode cX10_play 185 = .ok (.lstore 6, 2) := by decide +kernel
theorem dX10_play_187 : decode cX10_play 187 = .ok (.lload 8, 2) := by decide +kernel
theorem dX10_play_189 : decode cX10_play 189 = .ok (.lload 11, 2) := by decide +kernel
theorem dX10_play_191 : decode cX10_play 191 = .ok (.ladd, 1) := by decide +kernel
theorem dX10_play_192 : decode cX10_play 192 = .ok (.lstore 8, 2) := by decide +kernel
theorem dX10_play_194 : decode cX10_play 194 = .ok (.iinc 10 1, 3) := by decide +kernel
theorem dX10_play_197 : decode cX10_play 197 = .ok (.goto (-47), 3) := by decide +kernel
theorem dX10_play_200 : decode cX10_play 200 = .ok (.aload_n 0, 1) := by decide +kernel
theorem dX10_play_201 : decode cX10_play 201 = .ok (.getfield 141, 3) := by decide +kernel
theorem dX10_play_204 : decode cX10_play 204 = .ok (.iload_n 3, 1) := by decide +kernel
theorem dX10_play_205 : decode cX10_play 205 = .ok (.iconst 1, 1) := by decide +kernel
theorem dX10_play_206 : decode cX10_play 206 = .ok (.isub, 1) := by decide +kernel
theorem dX10_play_207 : decode cX10_play 207 = .ok (.iaload, 1) := by decide +kernel
theorem dX10_play_208 : decode cX10_play 208 = .ok (.i2l, 1) := by decide +kernel
theorem dX10_play_209 : decode cX10_play 209 = .ok (.lload 8, 2) := by decide +kernel
theorem dX10_play_211 : decode cX10_play 211 = .ok (.lmul, 1) := by decide +kernel
theorem dX10_play_212 : decode cX10_play 212 = .ok (.lload 6, 2) := by decide +kernel
theorem dX10_play_214 : decode cX10_play 214 = .ok (.lcmp, 1) := by decide +kernel
theorem dX10_play_215 : decode cX10_play 215 = .ok (.ifCond .le 7, 3) := by decide +kernel
theorem dX10_play_218 : decode cX10_play 218 = .ok (.iconst 1, 1) := by decide +kernel
theorem dX10_play_219 : decode cX10_play 219 = .ok (.goto 4, 3) := by decide +kernel
theorem dX10_play_222 : decode cX10_play 222 = .ok (.iconst 0, 1) := by decide +kernel
theorem dX10_play_223 : decode cX10_play 223 = .ok (.istore 10, 2) := by decide +kernel
theorem dX10_play_225 : decode cX10_play 225 = .ok (.iload_n 3, 1) := by decide +kernel
theorem dX10_play_226 : decode cX10_play 226 = .ok (.bipush 6, 2) := by decide +kernel
theorem dX10_play_228 : decode cX10_play 228 = .ok (.if_icmp .eq 19, 3) := by decide +kernel
theorem dX10_play_231 : decode cX10_play 231 = .ok (.aload_n 0, 1) := by decide +kernel
theorem dX10_play_232 : decode cX10_play 232 = .ok (.getfield 141, 3) := by decide +kernel
theorem dX10_play_235 : decode cX10_play 235 = .ok (.iload_n 3, 1) := by decide +kernel
theorem dX10_play_236 : decode cX10_play 236 = .ok (.iaload, 1) := by decide +kernel
theorem dX10_play_237 : decode cX10_play 237 = .ok (.i2l, 1) := by decide +kernel
theorem dX10_play_238 : decode cX10_play 238 = .ok (.lload 8, 2) := by decide +kernel
theorem dX10_play_240 : decode cX10_play 240 = .ok (.lmul, 1) := by decide +kernel
theorem dX10_play_241 : decode cX10_play 241 = .ok (.lload 6, 2) := by decide +kernel
theorem dX10_play_243 : decode cX10_play 243 = .ok (.lcmp, 1) := by decide +kernel
theorem dX10_play_244 : decode cX10_play 244 = .ok (.ifCond .gt 7, 3) := by decide +kernel
theorem dX10_play_247 : decode cX10_play 247 = .ok (.iconst 1, 1) := by decide +kernel
theorem dX10_play_248 : decode cX10_play 248 = .ok (.goto 4, 3) := by decide +kernel
theorem dX10_play_251 : decode cX10_play 251 = .ok (.iconst 0, 1) := by decide +kernel
theorem dX10_play_252 : decode cX10_play 252 = .ok (.istore 11, 2) := by decide +kernel
theorem dX10_play_254 : decode cX10_play 254 = .ok (.iload 10, 2) := by decide +kernel
theorem dX10_play_256 : decode cX10_play 256 = .ok (.ifCond .eq 20, 3) := by decide +kernel
theorem dX10_play_259 : decode cX10_play 259 = .ok (.iload 11, 2) := by decide +kernel
theorem dX10_play_261 : decode cX10_play 261 = .ok (.ifCond .eq 15, 3) := by decide +kernel
theorem dX10_play_264 : decode cX10_play 264 = .ok (.aload_n 0, 1) := by decide +kernel
theorem dX10_play_265 : decode cX10_play 265 = .ok (.lload 6, 2) := by decide +kernel
theorem dX10_play_267 : decode cX10_play 267 = .ok (.putfield 242, 3) := by decide +kernel
theorem dX10_play_270 : decode cX10_play 270 = .ok (.aload_n 0, 1) := by decide +kernel
theorem dX10_play_271 : decode cX10_play 271 = .ok (.lload 8, 2) := by decide +kernel
theorem dX10_play_273 : decode cX10_play 273 = .ok (.putfield 246, 3) := by decide +kernel
theorem dX10_play_276 : decode cX10_play 276 = .ok (.iinc 3 1, 3) := by decide +kernel
theorem dX10_play_279 : decode cX10_play 279 = .ok (.goto (-186), 3) := by decide +kernel
theorem dX10_play_282 : decode cX10_play 282 = .ok (.return_, 1) := by decide +kernel
theorem dX10_refuseBig_0 : decode cX10_refuseBig 0 = .ok (.aload_n 0, 1) := by decide +kernel
theorem dX10_refuseBig_1 : decode cX10_refuseBig 1 = .ok (.getfield 135, 3) := by decide +kernel
theorem dX10_refuseBig_4 : decode cX10_refuseBig 4 = .ok (.iload_n 1, 1) := by decide +kernel
theorem dX10_refuseBig_5 : decode cX10_refuseBig 5 = .ok (.ineg, 1) := by decide +kernel
theorem dX10_refuseBig_6 : decode cX10_refuseBig 6 = .ok (.dup2, 1) := by decide +kernel
theorem dX10_refuseBig_7 : decode cX10_refuseBig 7 = .ok (.iaload, 1) := by decide +kernel
theorem dX10_refuseBig_8 : decode cX10_refuseBig 8 = .ok (.iconst 1, 1) := by decide +kernel
theorem dX10_refuseBig_9 : decode cX10_refuseBig 9 = .ok (.iadd, 1) := by decide +kernel
theorem dX10_refuseBig_10 : decode cX10_refuseBig 10 = .ok (.iastore, 1) := by decide +kernel
theorem dX10_refuseBig_11 : decode cX10_refuseBig 11 = .ok (.ldc2_w 249, 3) := by decide +kernel
theorem dX10_refuseBig_14 : decode cX10_refuseBig 14 = .ok (.iload_n 1, 1) := by decide +kernel
theorem dX10_refuseBig_15 : decode cX10_refuseBig 15 = .ok (.i2l, 1) := by decide +kernel
theorem dX10_refuseBig_16 : decode cX10_refuseBig 16 = .ok (.lsub, 1) := by decide +kernel
theorem dX10_refuseBig_17 : decode cX10_refuseBig 17 = .ok (.lreturn, 1) := by decide +kernel
set_option maxRecDepth 20000 in
theorem ggX10_value_X10_refuseBig : GoodIn wsX10_value wsX10_refuseBig := goodIn_r _ [7, 8, 9, 25, 26, 27, 28, 29, 30, 31, 32, 33, 34, 35, 36, 37, 38, 39, 40, 41, 42, 43, 44, 45, 46, 47, 48, 49, 50, 51, 52, 53, 54, 55, 56, 57, 58, 59, 60, 61, 62, 63, 64, 65, 66, 67, 68, 69, 70, 71, 72, 73, 74, 75, 76, 77, 78] (by decide +kernel) (by decide +kernel)
set_option maxRecDepth 20000 in
theorem gX10_value_X10_refuseBig : GoodIn wsX10_value (wsV RX10 251 RX10 yX10_refuseBig wsX10_refuseBig) := goodIn_app (goodIn_of _ (by decide +kernel)) ggX10_value_X10_refuseBig
set_option maxRecDepth 20000 in
theorem ggX10_value_X10_in : GoodIn wsX10_value wsX10_in := goodIn_r _ [12] (by decide +kernel) (by decide +kernel)
set_option maxRecDepth 20000 in
theorem gX10_value_X10_in : GoodIn wsX10_value (va_wsS RX10 144 yX10_in wsX10_in) := goodIn_app (goodIn_of _ (by decide +kernel)) ggX10_value_X10_in
set_option maxRecDepth 20000 in
theorem ggX10_value_X10_play : GoodIn wsX10_value wsX10_play := goodIn_r _ [16, 17, 18, 1, 2, 25, 26, 27, 28, 29, 30, 31, 32, 33, 34, 35, 36, 37, 38, 39, 40, 41, 42, 43, 44, 45, 46, 47, 48, 49, 50, 51, 52, 53, 54, 55, 56, 57, 58, 59, 60, 61, 62, 63, 64, 65, 66, 67, 68, 69, 70, 71, 72, 73, 74, 75, 76, 77, 78] (by decide +kernel) (by decide +kernel)
set_option maxRecDepth 20000 in
theorem gX10_value_X10_play : GoodIn wsX10_value (wsV RX10 255 RX10 yX10_play wsX10_play) := goodIn_app (goodIn_of _ (by decide +kernel)) ggX10_value_X10_play
set_option maxRecDepth 20000 in
theorem ggX10_value_X10_side : GoodIn wsX10_value wsX10_side := goodIn_r _ [21, 22, 23, 6, 24] (by decide +kernel) (by decide +kernel)
set_option maxRecDepth 20000 in
theorem gX10_value_X10_side : GoodIn wsX10_value (va_wsS RX10 238 yX10_side wsX10_side) := goodIn_app (goodIn_of _ (by decide +kernel)) ggX10_value_X10_side
theorem dX10_value_0 : decode cX10_value 0 = .ok (.iload_n 1, 1) := by decide +kernel
theorem dX10_value_1 : decode cX10_value 1 = .ok (.ifCond .lt 8, 3) := by decide +kernel
theorem dX10_value_4 : decode cX10_value 4 = .ok (.iload_n 2, 1) := by decide +kernel
theorem dX10_value_5 : decode cX10_value 5 = .ok (.iconst 1, 1) := by decide +kernel
theorem dX10_value_6 : decode cX10_value 6 = .ok (.if_icmp .ge 10, 3) := by decide +kernel
theorem dX10_value_9 : decode cX10_value 9 = .ok (.aload_n 0, 1) := by decide +kernel
theorem dX10_value_10 : decode cX10_value 10 = .ok (.bipush (-4), 2) := by decide +kernel
theorem dX10_value_12 : decode cX10_value 12 = .ok (.invokevirtual 251, 3) := by decide +kernel
theorem dX10_value_15 : decode cX10_value 15 = .ok (.lreturn, 1) := by decide +kernel
theorem dX10_value_16 : decode cX10_value 16 = .ok (.iload_n 1, 1) := by decide +kernel
theorem dX10_value_17 : decode cX10_value 17 = .ok (.bipush 6, 2) := by decide +kernel
theorem dX10_value_19 : decode cX10_value 19 = .ok (.if_icmp .gt 9, 3) := by decide +kernel
theorem dX10_value_22 : decode cX10_value 22 = .ok (.iload_n 2, 1) := by decide +kernel
theorem dX10_value_23 : decode cX10_value 23 = .ok (.bipush 99, 2) := by decide +kernel
theorem dX10_value_25 : decode cX10_value 25 = .ok (.if_icmp .le 10, 3) := by decide +kernel
theorem dX10_value_28 : decode cX10_value 28 = .ok (.aload_n 0, 1) := by decide +kernel
theorem dX10_value_29 : decode cX10_value 29 = .ok (.bipush (-6), 2) := by decide +kernel
theorem dX10_value_31 : decode cX10_value 31 = .ok (.invokevirtual 251, 3) := by decide +kernel
theorem dX10_value_34 : decode cX10_value 34 = .ok (.lreturn, 1) := by decide +kernel
theorem dX10_value_35 : decode cX10_value 35 = .ok (.iload_n 3, 1) := by decide +kernel
theorem dX10_value_36 : decode cX10_value 36 = .ok (.iconst 0, 1) := by decide +kernel
theorem dX10_value_37 : decode cX10_value 37 = .ok (.iconst 1, 1) := by decide +kernel
theorem dX10_value_38 : decode cX10_value 38 = .ok (.invokestatic 144, 3) := by decide +kernel
theorem dX10_value_41 : decode cX10_value 41 = .ok (.ifCond .ne 10, 3) := by decide +kernel
theorem dX10_value_44 : decode cX10_value 44 = .ok (.aload_n 0, 1) := by decide +kernel
theorem dX10_value_45 : decode cX10_value 45 = .ok (.bipush (-2), 2) := by decide +kernel
theorem dX10_value_47 : decode cX10_value 47 = .ok (.invokevirtual 251, 3) := by decide +kernel
theorem dX10_value_50 : decode cX10_value 50 = .ok (.lreturn, 1) := by decide +kernel
theorem dX10_value_51 : decode cX10_value 51 = .ok (.aload_n 0, 1) := by decide +kernel
theorem dX10_value_52 : decode cX10_value 52 = .ok (.iload_n 1, 1) := by decide +kernel
theorem dX10_value_53 : decode cX10_value 53 = .ok (.iload_n 2, 1) := by decide +kernel
theorem dX10_value_54 : decode cX10_value 54 = .ok (.invokevirtual 255, 3) := by decide +kernel
theorem dX10_value_57 : decode cX10_value 57 = .ok (.aload_n 0, 1) := by decide +kernel
theorem dX10_value_58 : decode cX10_value 58 = .ok (.getfield 242, 3) := by decide +kernel
theorem dX10_value_61 : decode cX10_value 61 = .ok (.aload_n 0, 1) := by decide +kernel
theorem dX10_value_62 : decode cX10_value 62 = .ok (.getfield 246, 3) := by decide +kernel
theorem dX10_value_65 : decode cX10_value 65 = .ok (.iload_n 3, 1) := by decide +kernel
theorem dX10_value_66 : decode cX10_value 66 = .ok (.invokestatic 238, 3) := by decide +kernel
theorem dX10_value_69 : decode cX10_value 69 = .ok (.lreturn, 1) := by decide +kernel
set_option maxRecDepth 20000 in
theorem ggX10_chance_X10_isCove : GoodIn wsX10_chance wsX10_isCove := goodIn_r _ [7, 8, 9, 6, 10] (by decide +kernel) (by decide +kernel)
set_option maxRecDepth 20000 in
theorem gX10_chance_X10_isCove : GoodIn wsX10_chance (va_wsS RX10 148 yX10_isCove wsX10_isCove) := goodIn_app (goodIn_of _ (by decide +kernel)) ggX10_chance_X10_isCove
set_option maxRecDepth 20000 in
theorem ggX10_chance_X10_refuseBig : GoodIn wsX10_chance wsX10_refuseBig := goodIn_r _ [14, 15, 16, 28, 29, 30, 31, 32, 33, 34, 35, 36, 37, 38, 39, 40, 41, 42, 43, 44, 45, 46, 47, 48, 49, 50, 51, 52, 53, 54, 55, 56, 57, 58, 59, 60, 61, 62, 63, 64, 65, 66, 67, 68, 69, 70, 71, 72, 73, 74, 75, 76, 77, 78, 79, 80, 81] (by decide +kernel) (by decide +kernel)
set_option maxRecDepth 20000 in
theorem gX10_chance_X10_refuseBig : GoodIn wsX10_chance (wsV RX10 251 RX10 yX10_refuseBig wsX10_refuseBig) := goodIn_app (goodIn_of _ (by decide +kernel)) ggX10_chance_X10_refuseBig
set_option maxRecDepth 20000 in
theorem ggX10_chance_X10_in : GoodIn wsX10_chance wsX10_in := goodIn_r _ [10] (by decide +kernel) (by decide +kernel)
set_option maxRecDepth 20000 in
theorem gX10_chance_X10_in : GoodIn wsX10_chance (va_wsS RX10 144 yX10_in wsX10_in) := goodIn_app (goodIn_of _ (by decide +kernel)) ggX10_chance_X10_in
set_option maxRecDepth 20000 in
theorem ggX10_chance_X10_play : GoodIn wsX10_chance wsX10_play := goodIn_r _ [20, 21, 1, 3, 2, 28, 29, 30, 31, 32, 33, 34, 35, 36, 37, 38, 39, 40, 41, 42, 43, 44, 45, 46, 47, 48, 49, 50, 51, 52, 53, 54, 55, 56, 57, 58, 59, 60, 61, 62, 63, 64, 65, 66, 67, 68, 69, 70, 71, 72, 73, 74, 75, 76, 77, 78, 79, 80, 81] (by decide +kernel) (by decide +kernel)
set_option maxRecDepth 20000 in
theorem gX10_chance_X10_play : GoodIn wsX10_chance (wsV RX10 255 RX10 yX10_play wsX10_play) := goodIn_app (goodIn_of _ (by decide +kernel)) ggX10_chance_X10_play
set_option maxRecDepth 20000 in
theorem ggX10_chance_X10_side : GoodIn wsX10_chance wsX10_side := goodIn_r _ [24, 25, 26, 6, 27] (by decide +kernel) (by decide +kernel)
set_option maxRecDepth 20000 in
theorem gX10_chance_X10_side : GoodIn wsX10_chance (va_wsS RX10 238 yX10_side wsX10_side) := goodIn_app (goodIn_of _ (by decide +kernel)) ggX10_chance_X10_side
theorem dX10_chance_0 : decode cX10_chance 0 = .ok (.iload_n 1, 1) := by decide +kernel
theorem dX10_chance_1 : decode cX10_chance 1 = .ok (.invokestatic 148, 3) := by decide +kernel
theorem dX10_chance_4 : decode cX10_chance 4 = .ok (.ifCond .ne 9, 3) := by decide +kernel
theorem dX10_chance_7 : decode cX10_chance 7 = .ok (.aload_n 0, 1) := by decide +kernel
theorem dX10_chance_8 : decode cX10_chance 8 = .ok (.iconst (-1), 1) := by decide +kernel
theorem dX10_chance_9 : decode cX10_chance 9 = .ok (.invokevirtual 251, 3) := by decide +kernel
theorem dX10_chance_12 : decode cX10_chance 12 = .ok (.lreturn, 1) := by decide +kernel
theorem dX10_chance_13 : decode cX10_chance 13 = .ok (.iload_n 2, 1) := by decide +kernel
theorem dX10_chance_14 : decode cX10_chance 14 = .ok (.ifCond .lt 8, 3) := by decide +kernel
theorem dX10_chance_17 : decode cX10_chance 17 = .ok (.iload_n 3, 1) := by decide +kernel
theorem dX10_chance_18 : decode cX10_chance 18 = .ok (.iconst 1, 1) := by decide +kernel
theorem dX10_chance_19 : decode cX10_chance 19 = .ok (.if_icmp .ge 10, 3) := by decide +kernel
theorem dX10_chance_22 : decode cX10_chance 22 = .ok (.aload_n 0, 1) := by decide +kernel
theorem dX10_chance_23 : decode cX10_chance 23 = .ok (.bipush (-4), 2) := by decide +kernel
theorem dX10_chance_25 : decode cX10_chance 25 = .ok (.invokevirtual 251, 3) := by decide +kernel
theorem dX10_chance_28 : decode cX10_chance 28 = .ok (.lreturn, 1) := by decide +kernel
theorem dX10_chance_29 : decode cX10_chance 29 = .ok (.iload_n 2, 1) := by decide +kernel
theorem dX10_chance_30 : decode cX10_chance 30 = .ok (.bipush 6, 2) := by decide +kernel
theorem dX10_chance_32 : decode cX10_chance 32 = .ok (.if_icmp .gt 9, 3) := by decide +kernel
theorem dX10_chance_35 : decode cX10_chance 35 = .ok (.iload_n 3, 1) := by decide +kernel
theorem dX10_chance_36 : decode cX10_chance 36 = .ok (.bipush 99, 2) := by decide +kernel
theorem dX10_chance_38 : decode cX10_chance 38 = .ok (.if_icmp .le 10, 3) := by decide +kernel
theorem dX10_chance_41 : decode cX10_chance 41 = .ok (.aload_n 0, 1) := by decide +kernel
theorem dX10_chance_42 : decode cX10_chance 42 = .ok (.bipush (-6), 2) := by decide +kernel
theorem dX10_chance_44 : decode cX10_chance 44 = .ok (.invokevirtual 251, 3) := by decide +kernel
theorem dX10_chance_47 : decode cX10_chance 47 = .ok (.lreturn, 1) := by decide +kernel
theorem dX10_chance_48 : decode cX10_chance 48 = .ok (.iload 4, 2) := by decide +kernel
theorem dX10_chance_50 : decode cX10_chance 50 = .ok (.iconst 0, 1) := by decide +kernel
theorem dX10_chance_51 : decode cX10_chance 51 = .ok (.iconst 1, 1) := by decide +kernel
theorem dX10_chance_52 : decode cX10_chance 52 = .ok (.invokestatic 144, 3) := by decide +kernel
theorem dX10_chance_55 : decode cX10_chance 55 = .ok (.ifCond .ne 10, 3) := by decide +kernel
theorem dX10_chance_58 : decode cX10_chance 58 = .ok (.aload_n 0, 1) := by decide +kernel
theorem dX10_chance_59 : decode cX10_chance 59 = .ok (.bipush (-2), 2) := by decide +kernel
theorem dX10_chance_61 : decode cX10_chance 61 = .ok (.invokevirtual 251, 3) := by decide +kernel
theorem dX10_chance_64 : decode cX10_chance 64 = .ok (.lreturn, 1) := by decide +kernel
theorem dX10_chance_65 : decode cX10_chance 65 = .ok (.aload_n 0, 1) := by decide +kernel
theorem dX10_chance_66 : decode cX10_chance 66 = .ok (.iload_n 2, 1) := by decide +kernel
theorem dX10_chance_67 : decode cX10_chance 67 = .ok (.iload_n 3, 1) := by decide +kernel
theorem dX10_chance_68 : decode cX10_chance 68 = .ok (.invokevirtual 255, 3) := by decide +kernel
theorem dX10_chance_71 : decode cX10_chance 71 = .ok (.aload_n 0, 1) := by decide +kernel
theorem dX10_chance_72 : decode cX10_chance 72 = .ok (.getfield 17, 3) := by decide +kernel
theorem dX10_chance_75 : decode cX10_chance 75 = .ok (.iload_n 1, 1) := by decide +kernel
theorem dX10_chance_76 : decode cX10_chance 76 = .ok (.iaload, 1) := by decide +kernel
theorem dX10_chance_77 : decode cX10_chance 77 = .ok (.i2l, 1) := by decide +kernel
theorem dX10_chance_78 : decode cX10_chance 78 = .ok (.aload_n 0, 1) := by decide +kernel
theorem dX10_chance_79 : decode cX10_chance 79 = .ok (.getfield 246, 3) := by decide +kernel
theorem dX10_chance_82 : decode cX10_chance 82 = .ok (.lmul, 1) := by decide +kernel
theorem dX10_chance_83 : decode cX10_chance 83 = .ok (.aload_n 0, 1) := by decide +kernel
theorem dX10_chance_84 : decode cX10_chance 84 = .ok (.getfield 242, 3) := by decide +kernel
theorem dX10_chance_87 : decode cX10_chance 87 = .ok (.lsub, 1) := by decide +kernel
theorem dX10_chance_88 : decode cX10_chance 88 = .ok (.lstore 5, 2) := by decide +kernel
theorem dX10_chance_90 : decode cX10_chance 90 = .ok (.lload 5, 2) := by decide +kernel
theorem dX10_chance_92 : decode cX10_chance 92 = .ok (.lconst 0, 1) := by decide +kernel
theorem dX10_chance_93 : decode cX10_chance 93 = .ok (.lcmp, 1) := by decide +kernel
theorem dX10_chance_94 : decode cX10_chance 94 = .ok (.ifCond .le 8, 3) := by decide +kernel
theorem dX10_chance_97 : decode cX10_chance 97 = .ok (.lload 5, 2) := by decide +kernel
theorem dX10_chance_99 : decode cX10_chance 99 = .ok (.goto 4, 3) := by decide +kernel
theorem dX10_chance_102 : decode cX10_chance 102 = .ok (.lconst 0, 1) := by decide +kernel
theorem dX10_chance_103 : decode cX10_chance 103 = .ok (.aload_n 0, 1) := by decide +kernel
theorem dX10_chance_104 : decode cX10_chance 104 = .ok (.getfield 246, 3) := by decide +kernel
theorem dX10_chance_107 : decode cX10_chance 107 = .ok (.aload_n 0, 1) := by decide +kernel
theorem dX10_chance_108 : decode cX10_chance 108 = .ok (.getfield 17, 3) := by decide +kernel
theorem dX10_chance_111 : decode cX10_chance 111 = .ok (.iload_n 1, 1) := by decide +kernel
theorem dX10_chance_112 : decode cX10_chance 112 = .ok (.iaload, 1) := by decide +kernel
theorem dX10_chance_113 : decode cX10_chance 113 = .ok (.iload_n 3, 1) := by decide +kernel
theorem dX10_chance_114 : decode cX10_chance 114 = .ok (.iadd, 1) := by decide +kernel
theorem dX10_chance_115 : decode cX10_chance 115 = .ok (.i2l, 1) := by decide +kernel
theorem dX10_chance_116 : decode cX10_chance 116 = .ok (.lmul, 1) := by decide +kernel
theorem dX10_chance_117 : decode cX10_chance 117 = .ok (.iload 4, 2) := by decide +kernel
theorem dX10_chance_119 : decode cX10_chance 119 = .ok (.invokestatic 238, 3) := by decide +kernel
theorem dX10_chance_122 : decode cX10_chance 122 = .ok (.lreturn, 1) := by decide +kernel
set_option maxRecDepth 20000 in
theorem ggX10_used_X10_in : GoodIn wsX10_used wsX10_in := goodIn_r _ [8] (by decide +kernel) (by decide +kernel)
set_option maxRecDepth 20000 in
theorem gX10_used_X10_in : GoodIn wsX10_used (va_wsS RX10 144 yX10_in wsX10_in) := goodIn_app (goodIn_of _ (by decide +kernel)) ggX10_used_X10_in
set_option maxRecDepth 20000 in
theorem ggX10_used_X10_refuse : GoodIn wsX10_used wsX10_refuse := goodIn_r _ [12, 13, 14, 15, 16, 17, 18, 19, 20, 21, 22, 23, 24, 25, 26, 27, 28, 29, 30, 31, 32, 33, 34, 35, 36, 37, 38, 39, 40, 41, 42, 43, 44, 45, 46, 47, 48, 49, 50, 51, 52, 53, 54, 55, 56, 57, 58, 59, 60, 61, 62, 63, 64, 65, 66, 67] (by decide +kernel) (by decide +kernel)
set_option maxRecDepth 20000 in
theorem gX10_used_X10_refuse : GoodIn wsX10_used (wsV RX10 152 RX10 yX10_refuse wsX10_refuse) := goodIn_app (goodIn_of _ (by decide +kernel)) ggX10_used_X10_refuse
theorem dX10_used_0 : decode cX10_used 0 = .ok (.iload_n 1, 1) := by decide +kernel
theorem dX10_used_1 : decode cX10_used 1 = .ok (.iconst 0, 1) := by decide +kernel
theorem dX10_used_2 : decode cX10_used 2 = .ok (.bipush 33, 2) := by decide +kernel
theorem dX10_used_4 : decode cX10_used 4 = .ok (.invokestatic 144, 3) := by decide +kernel
theorem dX10_used_7 : decode cX10_used 7 = .ok (.ifCond .ne 9, 3) := by decide +kernel
theorem dX10_used_10 : decode cX10_used 10 = .ok (.aload_n 0, 1) := by decide +kernel
theorem dX10_used_11 : decode cX10_used 11 = .ok (.iconst (-1), 1) := by decide +kernel
theorem dX10_used_12 : decode cX10_used 12 = .ok (.invokevirtual 152, 3) := by decide +kernel
theorem dX10_used_15 : decode cX10_used 15 = .ok (.ireturn, 1) := by decide +kernel
theorem dX10_used_16 : decode cX10_used 16 = .ok (.iload_n 2, 1) := by decide +kernel
theorem dX10_used_17 : decode cX10_used 17 = .ok (.ifCond .lt 12, 3) := by decide +kernel
theorem dX10_used_20 : decode cX10_used 20 = .ok (.iload_n 3, 1) := by decide +kernel
theorem dX10_used_21 : decode cX10_used 21 = .ok (.ifCond .lt 8, 3) := by decide +kernel
theorem dX10_used_24 : decode cX10_used 24 = .ok (.iload 4, 2) := by decide +kernel
theorem dX10_used_26 : decode cX10_used 26 = .ok (.ifCond .ge 10, 3) := by decide +kernel
theorem dX10_used_29 : decode cX10_used 29 = .ok (.aload_n 0, 1) := by decide +kernel
theorem dX10_used_30 : decode cX10_used 30 = .ok (.bipush (-4), 2) := by decide +kernel
theorem dX10_used_32 : decode cX10_used 32 = .ok (.invokevirtual 152, 3) := by decide +kernel
theorem dX10_used_35 : decode cX10_used 35 = .ok (.ireturn, 1) := by decide +kernel
theorem dX10_used_36 : decode cX10_used 36 = .ok (.iload_n 2, 1) := by decide +kernel
theorem dX10_used_37 : decode cX10_used 37 = .ok (.ldc_w 258, 3) := by decide +kernel
theorem dX10_used_40 : decode cX10_used 40 = .ok (.if_icmp .gt 18, 3) := by decide +kernel
theorem dX10_used_43 : decode cX10_used 43 = .ok (.iload_n 3, 1) := by decide +kernel
theorem dX10_used_44 : decode cX10_used 44 = .ok (.ldc_w 258, 3) := by decide +kernel
theorem dX10_used_47 : decode cX10_used 47 = .ok (.if_icmp .gt 11, 3) := by decide +kernel
theorem dX10_used_50 : decode cX10_used 50 = .ok (.iload 4, 2) := by decide +kernel
theorem dX10_used_52 : decode cX10_used 52 = .ok (.ldc_w 258, 3) := by decide +kernel
theorem dX10_used_55 : decode cX10_used 55 = .ok (.if_icmp .le 10, 3) := by decide +kernel
theorem dX10_used_58 : decode cX10_used 58 = .ok (.aload_n 0, 1) := by decide +kernel
theorem dX10_used_59 : decode cX10_used 59 = .ok (.bipush (-6), 2) := by decide +kernel
theorem dX10_used_61 : decode cX10_used 61 = .ok (.invokevirtual 152, 3) := by decide +kernel
theorem dX10_used_64 : decode cX10_used 64 = .ok (.ireturn, 1) := by decide +kernel
theorem dX10_used_65 : decode cX10_used 65 = .ok (.iload_n 2, 1) := by decide +kernel
theorem dX10_used_66 : decode cX10_used 66 = .ok (.iload_n 3, 1) := by decide +kernel
theorem dX10_used_67 : decode cX10_used 67 = .ok (.if_icmp .le 10, 3) := by decide +kernel
theorem dX10_used_70 : decode cX10_used 70 = .ok (.aload_n 0, 1) := by decide +kernel
theorem dX10_used_71 : decode cX10_used 71 = .ok (.bipush (-3), 2) := by decide +kernel
theorem dX10_used_73 : decode cX10_used 73 = .ok (.invokevirtual 152, 3) := by decide +kernel
theorem dX10_used_76 : decode cX10_used 76 = .ok (.ireturn, 1) := by decide +kernel
theorem dX10_used_77 : decode cX10_used 77 = .ok (.aload_n 0, 1) := by decide +kernel
theorem dX10_used_78 : decode cX10_used 78 = .ok (.getfield 123, 3) := by decide +kernel
theorem dX10_used_81 : decode cX10_used 81 = .ok (.iload_n 1, 1) := by decide +kernel
theorem dX10_used_82 : decode cX10_used 82 = .ok (.iload_n 2, 1) := by decide +kernel
theorem dX10_used_83 : decode cX10_used 83 = .ok (.iastore, 1) := by decide +kernel
theorem dX10_used_84 : decode cX10_used 84 = .ok (.aload_n 0, 1) := by decide +kernel
theorem dX10_used_85 : decode cX10_used 85 = .ok (.getfield 126, 3) := by decide +kernel
theorem dX10_used_88 : decode cX10_used 88 = .ok (.iload_n 1, 1) := by decide +kernel
theorem dX10_used_89 : decode cX10_used 89 = .ok (.iload_n 3, 1) := by decide +kernel
theorem dX10_used_90 : decode cX10_used 90 = .ok (.iastore, 1) := by decide +kernel
theorem dX10_used_91 : decode cX10_used 91 = .ok (.aload_n 0, 1) := by decide +kernel
theorem dX10_used_92 : decode cX10_used 92 = .ok (.getfield 129, 3) := by decide +kernel
theorem dX10_used_95 : decode cX10_used 95 = .ok (.iload_n 1, 1) := by decide +kernel
theorem dX10_used_96 : decode cX10_used 96 = .ok (.iload 4, 2) := by decide +kernel
theorem dX10_used_98 : decode cX10_used 98 = .ok (.iastore, 1) := by decide +kernel
theorem dX10_used_99 : decode cX10_used 99 = .ok (.iconst 1, 1) := by decide +kernel
theorem dX10_used_100 : decode cX10_used 100 = .ok (.ireturn, 1) := by decide +kernel
theorem dX10_casksOf_0 : decode cX10_casksOf 0 = .ok (.iconst 0, 1) := by decide +kernel
theorem dX10_casksOf_1 : decode cX10_casksOf 1 = .ok (.istore_n 3, 1) := by decide +kernel
theorem dX10_casksOf_2 : decode cX10_casksOf 2 = .ok (.iconst 0, 1) := by decide +kernel
theorem dX10_casksOf_3 : decode cX10_casksOf 3 = .ok (.istore 4, 2) := by decide +kernel
theorem dX10_casksOf_5 : decode cX10_casksOf 5 = .ok (.iload 4, 2) := by decide +kernel
theorem dX10_casksOf_7 : decode cX10_casksOf 7 = .ok (.aload_n 0, 1) := by decide +kernel
theorem dX10_casksOf_8 : decode cX10_casksOf 8 = .ok (.getfield 189, 3) := by decide +kernel
theorem dX10_casksOf_11 : decode cX10_casksOf 11 = .ok (.if_icmp .ge 56, 3) := by decide +kernel
theorem dX10_casksOf_14 : decode cX10_casksOf 14 = .ok (.iload_n 3, 1) := by decide +kernel
theorem dX10_casksOf_15 : decode cX10_casksOf 15 = .ok (.aload_n 0, 1) := by decide +kernel
theorem dX10_casksOf_16 : decode cX10_casksOf 16 = .ok (.getfield 71, 3) := by decide +kernel
theorem dX10_casksOf_19 : decode cX10_casksOf 19 = .ok (.iload 4, 2) := by decide +kernel
theorem dX10_casksOf_21 : decode cX10_casksOf 21 = .ok (.iaload, 1) := by decide +kernel
theorem dX10_casksOf_22 : decode cX10_casksOf 22 = .ok (.bipush 30, 2) := by decide +kernel
theorem dX10_casksOf_24 : decode cX10_casksOf 24 = .ok (.idiv, 1) := by decide +kernel
theorem dX10_casksOf_25 : decode cX10_casksOf 25 = .ok (.iload_n 1, 1) := by decide +kernel
theorem dX10_casksOf_26 : decode cX10_casksOf 26 = .ok (.if_icmp .ne 32, 3) := by decide +kernel
theorem dX10_casksOf_29 : decode cX10_casksOf 29 = .ok (.aload_n 0, 1) := by decide +kernel
theorem dX10_casksOf_30 : decode cX10_casksOf 30 = .ok (.getfield 77, 3) := by decide +kernel
theorem dX10_casksOf_33 : decode cX10_casksOf 33 = .ok (.iload 4, 2) := by decide +kernel
theorem dX10_casksOf_35 : decode cX10_casksOf 35 = .ok (.iaload, 1) := by decide +kernel
theorem dX10_casksOf_36 : decode cX10_casksOf 36 = .ok (.ifCond .le 7, 3) := by decide +kernel
theorem dX10_casksOf_39 : decode cX10_casksOf 39 = .ok (.iconst 1, 1) := by decide +kernel
theorem dX10_casksOf_40 : decode cX10_casksOf 40 = .ok (.goto 4, 3) := by decide +kernel
theorem dX10_casksOf_43 : decode cX10_casksOf 43 = .ok (.iconst 0, 1) := by decide +kernel
theorem dX10_casksOf_44 : decode cX10_casksOf 44 = .ok (.iload_n 2, 1) := by decide +kernel
theorem dX10_casksOf_45 : decode cX10_casksOf 45 = .ok (.if_icmp .ne 13, 3) := by decide +kernel
theorem dX10_casksOf_48 : decode cX10_casksOf 48 = .ok (.aload_n 0, 1) := by decide +kernel
theorem dX10_casksOf_49 : decode cX10_casksOf 49 = .ok (.getfield 68, 3) := by decide +kernel
theorem dX10_casksOf_52 : decode cX10_casksOf 52 = .ok (.iload 4, 2) := by decide +kernel
theorem dX10_casksOf_54 : decode cX10_casksOf 54 = .ok (.iaload, 1) := by decide +kernel
theorem dX10_casksOf_55 : decode cX10_casksOf 55 = .ok (.goto 4, 3) := by decide +kernel
theorem dX10_casksOf_58 : decode cX10_casksOf 58 = .ok (.iconst 0, 1) := by decide +kernel
theorem dX10_casksOf_59 : decode cX10_casksOf 59 = .ok (.iadd, 1) := by decide +kernel
theorem dX10_casksOf_60 : decode cX10_casksOf 60 = .ok (.istore_n 3, 1) := by decide +kernel
theorem dX10_casksOf_61 : decode cX10_casksOf 61 = .ok (.iinc 4 1, 3) := by decide +kernel
theorem dX10_casksOf_64 : decode cX10_casksOf 64 = .ok (.goto (-59), 3) := by decide +kernel
theorem dX10_casksOf_67 : decode cX10_casksOf 67 = .ok (.iload_n 3, 1) := by decide +kernel
theorem dX10_casksOf_68 : decode cX10_casksOf 68 = .ok (.ireturn, 1) := by decide +kernel
set_option maxRecDepth 20000 in
theorem ggX10_landed_X10_in : GoodIn wsX10_landed wsX10_in := goodIn_r _ [7] (by decide +kernel) (by decide +kernel)
set_option maxRecDepth 20000 in
theorem gX10_landed_X10_in : GoodIn wsX10_landed (va_wsS RX10 144 yX10_in wsX10_in) := goodIn_app (goodIn_of _ (by decide +kernel)) ggX10_landed_X10_in
set_option maxRecDepth 20000 in
theorem ggX10_landed_X10_refuse : GoodIn wsX10_landed wsX10_refuse := goodIn_r _ [11, 12, 21, 22, 23, 24, 25, 26, 27, 28, 29, 30, 31, 32, 33, 34, 35, 36, 37, 38, 39, 40, 41, 42, 43, 44, 45, 46, 47, 48, 49, 50, 51, 52, 53, 54, 55, 56, 57, 58, 59, 60, 61, 62, 63, 64, 65, 66, 67, 68, 69, 70, 71, 72, 73, 74] (by decide +kernel) (by decide +kernel)
set_option maxRecDepth 20000 in
theorem gX10_landed_X10_refuse : GoodIn wsX10_landed (wsV RX10 152 RX10 yX10_refuse wsX10_refuse) := goodIn_app (goodIn_of _ (by decide +kernel)) ggX10_landed_X10_refuse
set_option maxRecDepth 20000 in
theorem ggX10_landed_X10_casksOf : GoodIn wsX10_landed wsX10_casksOf := goodIn_r _ [16, 17, 18, 19, 20, 21, 22, 23, 24, 25, 26, 27, 28, 29, 30, 31, 32, 33, 34, 35, 36, 37, 38, 39, 40, 41, 42, 43, 44, 45, 46, 47, 48, 49, 50, 51, 52, 53, 54, 55, 56, 57, 58, 59, 60, 61, 62, 63, 64, 65, 66, 67, 68, 69, 70, 71, 72, 73, 74] (by decide +kernel) (by decide +kernel)
set_option maxRecDepth 20000 in
theorem gX10_landed_X10_casksOf : GoodIn wsX10_landed (wsV RX10 259 RX10 yX10_casksOf wsX10_casksOf) := goodIn_app (goodIn_of _ (by decide +kernel)) ggX10_landed_X10_casksOf
theorem dX10_landed_0 : decode cX10_landed 0 = .ok (.iload_n 1, 1) := by decide +kernel
theorem dX10_landed_1 : decode cX10_landed 1 = .ok (.iconst 0, 1) := by decide +kernel
theorem dX10_landed_2 : decode cX10_landed 2 = .ok (.bipush 33, 2) := by decide +kernel
theorem dX10_landed_4 : decode cX10_landed 4 = .ok (.invokestatic 144, 3) := by decide +kernel
theorem dX10_landed_7 : decode cX10_landed 7 = .ok (.ifCond .ne 9, 3) := by decide +kernel
theorem dX10_landed_10 : decode cX10_landed 10 = .ok (.aload_n 0, 1) := by decide +kernel
theorem dX10_landed_11 : decode cX10_landed 11 = .ok (.iconst (-1), 1) := by decide +kernel
theorem dX10_landed_12 : decode cX10_landed 12 = .ok (.invokevirtual 152, 3) := by decide +kernel
theorem dX10_landed_15 : decode cX10_landed 15 = .ok (.ireturn, 1) := by decide +kernel
theorem dX10_landed_16 : decode cX10_landed 16 = .ok (.iload_n 2, 1) := by decide +kernel
theorem dX10_landed_17 : decode cX10_landed 17 = .ok (.iconst 0, 1) := by decide +kernel
theorem dX10_landed_18 : decode cX10_landed 18 = .ok (.iconst 3, 1) := by decide +kernel
theorem dX10_landed_19 : decode cX10_landed 19 = .ok (.invokestatic 144, 3) := by decide +kernel
theorem dX10_landed_22 : decode cX10_landed 22 = .ok (.ifCond .ne 10, 3) := by decide +kernel
theorem dX10_landed_25 : decode cX10_landed 25 = .ok (.aload_n 0, 1) := by decide +kernel
theorem dX10_landed_26 : decode cX10_landed 26 = .ok (.bipush (-2), 2) := by decide +kernel
theorem dX10_landed_28 : decode cX10_landed 28 = .ok (.invokevirtual 152, 3) := by decide +kernel
theorem dX10_landed_31 : decode cX10_landed 31 = .ok (.ireturn, 1) := by decide +kernel
theorem dX10_landed_32 : decode cX10_landed 32 = .ok (.iload_n 2, 1) := by decide +kernel
theorem dX10_landed_33 : decode cX10_landed 33 = .ok (.iconst 1, 1) := by decide +kernel
theorem dX10_landed_34 : decode cX10_landed 34 = .ok (.if_icmp .le 19, 3) := by decide +kernel
theorem dX10_landed_37 : decode cX10_landed 37 = .ok (.aload_n 0, 1) := by decide +kernel
theorem dX10_landed_38 : decode cX10_landed 38 = .ok (.iload_n 1, 1) := by decide +kernel
theorem dX10_landed_39 : decode cX10_landed 39 = .ok (.iload_n 2, 1) := by decide +kernel
theorem dX10_landed_40 : decode cX10_landed 40 = .ok (.iconst 3, 1) := by decide +kernel
theorem dX10_landed_41 : decode cX10_landed 41 = .ok (.if_icmp .ne 7, 3) := by decide +kernel
theorem dX10_landed_44 : decode cX10_landed 44 = .ok (.iconst 1, 1) := by decide +kernel
theorem dX10_landed_45 : decode cX10_landed 45 = .ok (.goto 4, 3) := by decide +kernel
theorem dX10_landed_48 : decode cX10_landed 48 = .ok (.iconst 0, 1) := by decide +kernel
theorem dX10_landed_49 : decode cX10_landed 49 = .ok (.invokevirtual 259, 3) := by decide +kernel
theorem dX10_landed_52 : decode cX10_landed 52 = .ok (.ireturn, 1) := by decide +kernel
theorem dX10_landed_53 : decode cX10_landed 53 = .ok (.iload_n 2, 1) := by decide +kernel
theorem dX10_landed_54 : decode cX10_landed 54 = .ok (.ifCond .ne 12, 3) := by decide +kernel
theorem dX10_landed_57 : decode cX10_landed 57 = .ok (.aload_n 0, 1) := by decide +kernel
theorem dX10_landed_58 : decode cX10_landed 58 = .ok (.getfield 123, 3) := by decide +kernel
theorem dX10_landed_61 : decode cX10_landed 61 = .ok (.iload_n 1, 1) := by decide +kernel
theorem dX10_landed_62 : decode cX10_landed 62 = .ok (.iaload, 1) := by decide +kernel
theorem dX10_landed_63 : decode cX10_landed 63 = .ok (.goto 9, 3) := by decide +kernel
theorem dX10_landed_66 : decode cX10_landed 66 = .ok (.aload_n 0, 1) := by decide +kernel
theorem dX10_landed_67 : decode cX10_landed 67 = .ok (.getfield 126, 3) := by decide +kernel
theorem dX10_landed_70 : decode cX10_landed 70 = .ok (.iload_n 1, 1) := by decide +kernel
theorem dX10_landed_71 : decode cX10_landed 71 = .ok (.iaload, 1) := by decide +kernel
theorem dX10_landed_72 : decode cX10_landed 72 = .ok (.aload_n 0, 1) := by decide +kernel
theorem dX10_landed_73 : decode cX10_landed 73 = .ok (.getfield 129, 3) := by decide +kernel
theorem dX10_landed_76 : decode cX10_landed 76 = .ok (.iload_n 1, 1) := by decide +kernel
theorem dX10_landed_77 : decode cX10_landed 77 = .ok (.iaload, 1) := by decide +kernel
theorem dX10_landed_78 : decode cX10_landed 78 = .ok (.isub, 1) := by decide +kernel
theorem dX10_landed_79 : decode cX10_landed 79 = .ok (.aload_n 0, 1) := by decide +kernel
theorem dX10_landed_80 : decode cX10_landed 80 = .ok (.iload_n 1, 1) := by decide +kernel
theorem dX10_landed_81 : decode cX10_landed 81 = .ok (.iconst 1, 1) := by decide +kernel
theorem dX10_landed_82 : decode cX10_landed 82 = .ok (.invokevirtual 259, 3) := by decide +kernel
theorem dX10_landed_85 : decode cX10_landed 85 = .ok (.isub, 1) := by decide +kernel
theorem dX10_landed_86 : decode cX10_landed 86 = .ok (.istore_n 3, 1) := by decide +kernel
theorem dX10_landed_87 : decode cX10_landed 87 = .ok (.iload_n 3, 1) := by decide +kernel
theorem dX10_landed_88 : decode cX10_landed 88 = .ok (.ifCond .le 7, 3) := by decide +kernel
theorem dX10_landed_91 : decode cX10_landed 91 = .ok (.iload_n 3, 1) := by decide +kernel
theorem dX10_landed_92 : decode cX10_landed 92 = .ok (.goto 4, 3) := by decide +kernel
theorem dX10_landed_95 : decode cX10_landed 95 = .ok (.iconst 0, 1) := by decide +kernel
theorem dX10_landed_96 : decode cX10_landed 96 = .ok (.ireturn, 1) := by decide +kernel
set_option maxRecDepth 20000 in
theorem ggX10_lotOf_X10_in : GoodIn wsX10_lotOf wsX10_in := goodIn_r _ [11] (by decide +kernel) (by decide +kernel)
set_option maxRecDepth 20000 in
theorem gX10_lotOf_X10_in : GoodIn wsX10_lotOf (va_wsS RX10 144 yX10_in wsX10_in) := goodIn_app (goodIn_of _ (by decide +kernel)) ggX10_lotOf_X10_in
set_option maxRecDepth 20000 in
theorem ggX10_lotOf_X10_refuse : GoodIn wsX10_lotOf wsX10_refuse := goodIn_r _ [15, 16, 17, 18, 19, 20, 21, 22, 23, 24, 25, 26, 27, 28, 29, 30, 31, 32, 33, 34, 35, 36, 37, 38, 39, 40, 41, 42, 43, 44, 45, 46, 47, 48, 49, 50, 51, 52, 53, 54, 55, 56, 57, 58, 59, 60, 61, 62, 63, 64, 65, 66, 67, 68, 69, 70] (by decide +kernel) (by decide +kernel)
set_option maxRecDepth 20000 in
theorem gX10_lotOf_X10_refuse : GoodIn wsX10_lotOf (wsV RX10 152 RX10 yX10_refuse wsX10_refuse) := goodIn_app (goodIn_of _ (by decide +kernel)) ggX10_lotOf_X10_refuse
theorem dX10_lotOf_0 : decode cX10_lotOf 0 = .ok (.iload_n 1, 1) := by decide +kernel
theorem dX10_lotOf_1 : decode cX10_lotOf 1 = .ok (.iconst 0, 1) := by decide +kernel
theorem dX10_lotOf_2 : decode cX10_lotOf 2 = .ok (.aload_n 0, 1) := by decide +kernel
theorem dX10_lotOf_3 : decode cX10_lotOf 3 = .ok (.getfield 189, 3) := by decide +kernel
theorem dX10_lotOf_6 : decode cX10_lotOf 6 = .ok (.iconst 1, 1) := by decide +kernel
theorem dX10_lotOf_7 : decode cX10_lotOf 7 = .ok (.isub, 1) := by decide +kernel
theorem dX10_lotOf_8 : decode cX10_lotOf 8 = .ok (.invokestatic 144, 3) := by decide +kernel
theorem dX10_lotOf_11 : decode cX10_lotOf 11 = .ok (.ifCond .ne 9, 3) := by decide +kernel
theorem dX10_lotOf_14 : decode cX10_lotOf 14 = .ok (.aload_n 0, 1) := by decide +kernel
theorem dX10_lotOf_15 : decode cX10_lotOf 15 = .ok (.iconst (-1), 1) := by decide +kernel
theorem dX10_lotOf_16 : decode cX10_lotOf 16 = .ok (.invokevirtual 152, 3) := by decide +kernel
theorem dX10_lotOf_19 : decode cX10_lotOf 19 = .ok (.ireturn, 1) := by decide +kernel
theorem dX10_lotOf_20 : decode cX10_lotOf 20 = .ok (.iload_n 2, 1) := by decide +kernel
theorem dX10_lotOf_21 : decode cX10_lotOf 21 = .ok (.tableswitch 81 0 5 #[39, 46, 53, 60, 67, 74], 39) := by decide +kernel
theorem dX10_lotOf_60 : decode cX10_lotOf 60 = .ok (.aload_n 0, 1) := by decide +kernel
theorem dX10_lotOf_61 : decode cX10_lotOf 61 = .ok (.getfield 65, 3) := by decide +kernel
theorem dX10_lotOf_64 : decode cX10_lotOf 64 = .ok (.iload_n 1, 1) := by decide +kernel
theorem dX10_lotOf_65 : decode cX10_lotOf 65 = .ok (.iaload, 1) := by decide +kernel
theorem dX10_lotOf_66 : decode cX10_lotOf 66 = .ok (.ireturn, 1) := by decide +kernel
theorem dX10_lotOf_67 : decode cX10_lotOf 67 = .ok (.aload_n 0, 1) := by decide +kernel
theorem dX10_lotOf_68 : decode cX10_lotOf 68 = .ok (.getfield 68, 3) := by decide +kernel
theorem dX10_lotOf_71 : decode cX10_lotOf 71 = .ok (.iload_n 1, 1) := by decide +kernel
theorem dX10_lotOf_72 : decode cX10_lotOf 72 = .ok (.iaload, 1) := by decide +kernel
theorem dX10_lotOf_73 : decode cX10_lotOf 73 = .ok (.ireturn, 1) := by decide +kernel
theorem dX10_lotOf_74 : decode cX10_lotOf 74 = .ok (.aload_n 0, 1) := by decide +kernel
theorem dX10_lotOf_75 : decode cX10_lotOf 75 = .ok (.getfield 71, 3) := by decide +kernel
theorem dX10_lotOf_78 : decode cX10_lotOf 78 = .ok (.iload_n 1, 1) := by decide +kernel
theorem dX10_lotOf_79 : decode cX10_lotOf 79 = .ok (.iaload, 1) := by decide +kernel
theorem dX10_lotOf_80 : decode cX10_lotOf 80 = .ok (.ireturn, 1) := by decide +kernel
theorem dX10_lotOf_81 : decode cX10_lotOf 81 = .ok (.aload_n 0, 1) := by decide +kernel
theorem dX10_lotOf_82 : decode cX10_lotOf 82 = .ok (.getfield 74, 3) := by decide +kernel
theorem dX10_lotOf_85 : decode cX10_lotOf 85 = .ok (.iload_n 1, 1) := by decide +kernel
theorem dX10_lotOf_86 : decode cX10_lotOf 86 = .ok (.iaload, 1) := by decide +kernel
theorem dX10_lotOf_87 : decode cX10_lotOf 87 = .ok (.ireturn, 1) := by decide +kernel
theorem dX10_lotOf_88 : decode cX10_lotOf 88 = .ok (.aload_n 0, 1) := by decide +kernel
theorem dX10_lotOf_89 : decode cX10_lotOf 89 = .ok (.getfield 77, 3) := by decide +kernel
theorem dX10_lotOf_92 : decode cX10_lotOf 92 = .ok (.iload_n 1, 1) := by decide +kernel
theorem dX10_lotOf_93 : decode cX10_lotOf 93 = .ok (.iaload, 1) := by decide +kernel
theorem dX10_lotOf_94 : decode cX10_lotOf 94 = .ok (.ireturn, 1) := by decide +kernel
theorem dX10_lotOf_95 : decode cX10_lotOf 95 = .ok (.aload_n 0, 1) := by decide +kernel
theorem dX10_lotOf_96 : decode cX10_lotOf 96 = .ok (.getfield 80, 3) := by decide +kernel
theorem dX10_lotOf_99 : decode cX10_lotOf 99 = .ok (.iload_n 1, 1) := by decide +kernel
theorem dX10_lotOf_100 : decode cX10_lotOf 100 = .ok (.iaload, 1) := by decide +kernel
theorem dX10_lotOf_101 : decode cX10_lotOf 101 = .ok (.ireturn, 1) := by decide +kernel
theorem dX10_lotOf_102 : decode cX10_lotOf 102 = .ok (.aload_n 0, 1) := by decide +kernel
theorem dX10_lotOf_103 : decode cX10_lotOf 103 = .ok (.bipush (-2), 2) := by decide +kernel
theorem dX10_lotOf_105 : decode cX10_lotOf 105 = .ok (.invokevirtual 152, 3) := by decide +kernel
theorem dX10_lotOf_108 : decode cX10_lotOf 108 = .ok (.ireturn, 1) := by decide +kernel
set_option maxRecDepth 20000 in
theorem ggX10_boatOf_X10_in : GoodIn wsX10_boatOf wsX10_in := goodIn_r _ [9] (by decide +kernel) (by decide +kernel)
set_option maxRecDepth 20000 in
theorem gX10_boatOf_X10_in : GoodIn wsX10_boatOf (va_wsS RX10 144 yX10_in wsX10_in) := goodIn_app (goodIn_of _ (by decide +kernel)) ggX10_boatOf_X10_in
set_option maxRecDepth 20000 in
theorem ggX10_boatOf_X10_refuse : GoodIn wsX10_boatOf wsX10_refuse := goodIn_r _ [13, 14, 15, 16, 17, 18, 19, 20, 21, 22, 23, 24, 25, 26, 27, 28, 29, 30, 31, 32, 33, 34, 35, 36, 37, 38, 39, 40, 41, 42, 43, 44, 45, 46, 47, 48, 49, 50, 51, 52, 53, 54, 55, 56, 57, 58, 59, 60, 61, 62, 63, 64, 65, 66, 67, 68] (by decide +kernel) (by decide +kernel)
set_option maxRecDepth 20000 in
theorem gX10_boatOf_X10_refuse : GoodIn wsX10_boatOf (wsV RX10 152 RX10 yX10_refuse wsX10_refuse) := goodIn_app (goodIn_of _ (by decide +kernel)) ggX10_boatOf_X10_refuse
theorem dX10_boatOf_0 : decode cX10_boatOf 0 = .ok (.iload_n 1, 1) := by decide +kernel
theorem dX10_boatOf_1 : decode cX10_boatOf 1 = .ok (.iconst 0, 1) := by decide +kernel
theorem dX10_boatOf_2 : decode cX10_boatOf 2 = .ok (.aload_n 0, 1) := by decide +kernel
theorem dX10_boatOf_3 : decode cX10_boatOf 3 = .ok (.getfield 161, 3) := by decide +kernel
theorem dX10_boatOf_6 : decode cX10_boatOf 6 = .ok (.iconst 1, 1) := by decide +kernel
theorem dX10_boatOf_7 : decode cX10_boatOf 7 = .ok (.isub, 1) := by decide +kernel
theorem dX10_boatOf_8 : decode cX10_boatOf 8 = .ok (.invokestatic 144, 3) := by decide +kernel
theorem dX10_boatOf_11 : decode cX10_boatOf 11 = .ok (.ifCond .ne 9, 3) := by decide +kernel
theorem dX10_boatOf_14 : decode cX10_boatOf 14 = .ok (.aload_n 0, 1) := by decide +kernel
theorem dX10_boatOf_15 : decode cX10_boatOf 15 = .ok (.iconst (-1), 1) := by decide +kernel
theorem dX10_boatOf_16 : decode cX10_boatOf 16 = .ok (.invokevirtual 152, 3) := by decide +kernel
theorem dX10_boatOf_19 : decode cX10_boatOf 19 = .ok (.ireturn, 1) := by decide +kernel
theorem dX10_boatOf_20 : decode cX10_boatOf 20 = .ok (.iload_n 2, 1) := by decide +kernel
theorem dX10_boatOf_21 : decode cX10_boatOf 21 = .ok (.iconst 0, 1) := by decide +kernel
theorem dX10_boatOf_22 : decode cX10_boatOf 22 = .ok (.bipush 8, 2) := by decide +kernel
theorem dX10_boatOf_24 : decode cX10_boatOf 24 = .ok (.invokestatic 144, 3) := by decide +kernel
theorem dX10_boatOf_27 : decode cX10_boatOf 27 = .ok (.ifCond .ne 10, 3) := by decide +kernel
theorem dX10_boatOf_30 : decode cX10_boatOf 30 = .ok (.aload_n 0, 1) := by decide +kernel
theorem dX10_boatOf_31 : decode cX10_boatOf 31 = .ok (.bipush (-2), 2) := by decide +kernel
theorem dX10_boatOf_33 : decode cX10_boatOf 33 = .ok (.invokevirtual 152, 3) := by decide +kernel
theorem dX10_boatOf_36 : decode cX10_boatOf 36 = .ok (.ireturn, 1) := by decide +kernel
theorem dX10_boatOf_37 : decode cX10_boatOf 37 = .ok (.iload_n 2, 1) := by decide +kernel
theorem dX10_boatOf_38 : decode cX10_boatOf 38 = .ok (.ifCond .ne 12, 3) := by decide +kernel
theorem dX10_boatOf_41 : decode cX10_boatOf 41 = .ok (.aload_n 0, 1) := by decide +kernel
theorem dX10_boatOf_42 : decode cX10_boatOf 42 = .ok (.getfield 41, 3) := by decide +kernel
theorem dX10_boatOf_45 : decode cX10_boatOf 45 = .ok (.iload_n 1, 1) := by decide +kernel
theorem dX10_boatOf_46 : decode cX10_boatOf 46 = .ok (.iaload, 1) := by decide +kernel
theorem dX10_boatOf_47 : decode cX10_boatOf 47 = .ok (.goto 44, 3) := by decide +kernel
theorem dX10_boatOf_50 : decode cX10_boatOf 50 = .ok (.iload_n 2, 1) := by decide +kernel
theorem dX10_boatOf_51 : decode cX10_boatOf 51 = .ok (.iconst 1, 1) := by decide +kernel
theorem dX10_boatOf_52 : decode cX10_boatOf 52 = .ok (.if_icmp .ne 12, 3) := by decide +kernel
theorem dX10_boatOf_55 : decode cX10_boatOf 55 = .ok (.aload_n 0, 1) := by decide +kernel
theorem dX10_boatOf_56 : decode cX10_boatOf 56 = .ok (.getfield 44, 3) := by decide +kernel
theorem dX10_boatOf_59 : decode cX10_boatOf 59 = .ok (.iload_n 1, 1) := by decide +kernel
theorem dX10_boatOf_60 : decode cX10_boatOf 60 = .ok (.iaload, 1) := by decide +kernel
theorem dX10_boatOf_61 : decode cX10_boatOf 61 = .ok (.goto 30, 3) := by decide +kernel
theorem dX10_boatOf_64 : decode cX10_boatOf 64 = .ok (.iload_n 2, 1) := by decide +kernel
theorem dX10_boatOf_65 : decode cX10_boatOf 65 = .ok (.iconst 2, 1) := by decide +kernel
theorem dX10_boatOf_66 : decode cX10_boatOf 66 = .ok (.if_icmp .ne 12, 3) := by decide +kernel
theorem dX10_boatOf_69 : decode cX10_boatOf 69 = .ok (.aload_n 0, 1) := by decide +kernel
theorem dX10_boatOf_70 : decode cX10_boatOf 70 = .ok (.getfield 47, 3) := by decide +kernel
theorem dX10_boatOf_73 : decode cX10_boatOf 73 = .ok (.iload_n 1, 1) := by decide +kernel
theorem dX10_boatOf_74 : decode cX10_boatOf 74 = .ok (.iaload, 1) := by decide +kernel
theorem dX10_boatOf_75 : decode cX10_boatOf 75 = .ok (.goto 16, 3) := by decide +kernel
theorem dX10_boatOf_78 : decode cX10_boatOf 78 = .ok (.aload_n 0, 1) := by decide +kernel
theorem dX10_boatOf_79 : decode cX10_boatOf 79 = .ok (.getfield 50, 3) := by decide +kernel
theorem dX10_boatOf_82 : decode cX10_boatOf 82 = .ok (.bipush 6, 2) := by decide +kernel
theorem dX10_boatOf_84 : decode cX10_boatOf 84 = .ok (.iload_n 1, 1) := by decide +kernel
theorem dX10_boatOf_85 : decode cX10_boatOf 85 = .ok (.imul, 1) := by decide +kernel
theorem dX10_boatOf_86 : decode cX10_boatOf 86 = .ok (.iload_n 2, 1) := by decide +kernel
theorem dX10_boatOf_87 : decode cX10_boatOf 87 = .ok (.iadd, 1) := by decide +kernel
theorem dX10_boatOf_88 : decode cX10_boatOf 88 = .ok (.iconst 3, 1) := by decide +kernel
theorem dX10_boatOf_89 : decode cX10_boatOf 89 = .ok (.isub, 1) := by decide +kernel
theorem dX10_boatOf_90 : decode cX10_boatOf 90 = .ok (.iaload, 1) := by decide +kernel
theorem dX10_boatOf_91 : decode cX10_boatOf 91 = .ok (.ireturn, 1) := by decide +kernel
set_option maxRecDepth 20000 in
theorem ggX10_hideOf_X10_in : GoodIn wsX10_hideOf wsX10_in := goodIn_r _ [7] (by decide +kernel) (by decide +kernel)
set_option maxRecDepth 20000 in
theorem gX10_hideOf_X10_in : GoodIn wsX10_hideOf (va_wsS RX10 144 yX10_in wsX10_in) := goodIn_app (goodIn_of _ (by decide +kernel)) ggX10_hideOf_X10_in
set_option maxRecDepth 20000 in
theorem ggX10_hideOf_X10_refuse : GoodIn wsX10_hideOf wsX10_refuse := goodIn_r _ [11, 12, 21, 22, 23, 24, 25, 26, 27, 28, 29, 30, 31, 32, 33, 34, 35, 36, 37, 38, 39, 40, 41, 42, 43, 44, 45, 46, 47, 48, 49, 50, 51, 52, 53, 54, 55, 56, 57, 58, 59, 60, 61, 62, 63, 64, 65, 66, 67, 68, 69, 70, 71, 72, 73, 74] (by decide +kernel) (by decide +kernel)
set_option maxRecDepth 20000 in
theorem gX10_hideOf_X10_refuse : GoodIn wsX10_hideOf (wsV RX10 152 RX10 yX10_refuse wsX10_refuse) := goodIn_app (goodIn_of _ (by decide +kernel)) ggX10_hideOf_X10_refuse
set_option maxRecDepth 20000 in
theorem ggX10_hideOf_X10_liesIn : GoodIn wsX10_hideOf wsX10_liesIn := goodIn_r _ [16, 17, 18, 19, 20, 21, 22, 23, 24, 25, 26, 27, 28, 29, 30, 31, 32, 33, 34, 35, 36, 37, 38, 39, 40, 41, 42, 43, 44, 45, 46, 47, 48, 49, 50, 51, 52, 53, 54, 55, 56, 57, 58, 59, 60, 61, 62, 63, 64, 65, 66, 67, 68, 69, 70, 71, 72, 73, 74] (by decide +kernel) (by decide +kernel)
set_option maxRecDepth 20000 in
theorem gX10_hideOf_X10_liesIn : GoodIn wsX10_hideOf (wsV RX10 192 RX10 yX10_liesIn wsX10_liesIn) := goodIn_app (goodIn_of _ (by decide +kernel)) ggX10_hideOf_X10_liesIn
theorem dX10_hideOf_0 : decode cX10_hideOf 0 = .ok (.iload_n 1, 1) := by decide +kernel
theorem dX10_hideOf_1 : decode cX10_hideOf 1 = .ok (.iconst 0, 1) := by decide +kernel
theorem dX10_hideOf_2 : decode cX10_hideOf 2 = .ok (.aload_n 0, 1) := by decide +kernel
theorem dX10_hideOf_3 : decode cX10_hideOf 3 = .ok (.getfield 164, 3) := by decide +kernel
theorem dX10_hideOf_6 : decode cX10_hideOf 6 = .ok (.iconst 1, 1) := by decide +kernel
theorem dX10_hideOf_7 : decode cX10_hideOf 7 = .ok (.isub, 1) := by decide +kernel
theorem dX10_hideOf_8 : decode cX10_hideOf 8 = .ok (.invokestatic 144, 3) := by decide +kernel
theorem dX10_hideOf_11 : decode cX10_hideOf 11 = .ok (.ifCond .ne 9, 3) := by decide +kernel
theorem dX10_hideOf_14 : decode cX10_hideOf 14 = .ok (.aload_n 0, 1) := by decide +kernel
theorem dX10_hideOf_15 : decode cX10_hideOf 15 = .ok (.iconst (-1), 1) := by decide +kernel
theorem dX10_hideOf_16 : decode cX10_hideOf 16 = .ok (.invokevirtual 152, 3) := by decide +kernel
theorem dX10_hideOf_19 : decode cX10_hideOf 19 = .ok (.ireturn, 1) := by decide +kernel
theorem dX10_hideOf_20 : decode cX10_hideOf 20 = .ok (.iload_n 2, 1) := by decide +kernel
theorem dX10_hideOf_21 : decode cX10_hideOf 21 = .ok (.iconst 0, 1) := by decide +kernel
theorem dX10_hideOf_22 : decode cX10_hideOf 22 = .ok (.iconst 2, 1) := by decide +kernel
theorem dX10_hideOf_23 : decode cX10_hideOf 23 = .ok (.invokestatic 144, 3) := by decide +kernel
theorem dX10_hideOf_26 : decode cX10_hideOf 26 = .ok (.ifCond .ne 10, 3) := by decide +kernel
theorem dX10_hideOf_29 : decode cX10_hideOf 29 = .ok (.aload_n 0, 1) := by decide +kernel
theorem dX10_hideOf_30 : decode cX10_hideOf 30 = .ok (.bipush (-2), 2) := by decide +kernel
theorem dX10_hideOf_32 : decode cX10_hideOf 32 = .ok (.invokevirtual 152, 3) := by decide +kernel
theorem dX10_hideOf_35 : decode cX10_hideOf 35 = .ok (.ireturn, 1) := by decide +kernel
theorem dX10_hideOf_36 : decode cX10_hideOf 36 = .ok (.iload_n 2, 1) := by decide +kernel
theorem dX10_hideOf_37 : decode cX10_hideOf 37 = .ok (.ifCond .ne 11, 3) := by decide +kernel
theorem dX10_hideOf_40 : decode cX10_hideOf 40 = .ok (.aload_n 0, 1) := by decide +kernel
theorem dX10_hideOf_41 : decode cX10_hideOf 41 = .ok (.iload_n 1, 1) := by decide +kernel
theorem dX10_hideOf_42 : decode cX10_hideOf 42 = .ok (.invokevirtual 192, 3) := by decide +kernel
theorem dX10_hideOf_45 : decode cX10_hideOf 45 = .ok (.goto 23, 3) := by decide +kernel
theorem dX10_hideOf_48 : decode cX10_hideOf 48 = .ok (.iload_n 2, 1) := by decide +kernel
theorem dX10_hideOf_49 : decode cX10_hideOf 49 = .ok (.iconst 1, 1) := by decide +kernel
theorem dX10_hideOf_50 : decode cX10_hideOf 50 = .ok (.if_icmp .ne 12, 3) := by decide +kernel
theorem dX10_hideOf_53 : decode cX10_hideOf 53 = .ok (.aload_n 0, 1) := by decide +kernel
theorem dX10_hideOf_54 : decode cX10_hideOf 54 = .ok (.getfield 62, 3) := by decide +kernel
theorem dX10_hideOf_57 : decode cX10_hideOf 57 = .ok (.iload_n 1, 1) := by decide +kernel
theorem dX10_hideOf_58 : decode cX10_hideOf 58 = .ok (.iaload, 1) := by decide +kernel
theorem dX10_hideOf_59 : decode cX10_hideOf 59 = .ok (.goto 9, 3) := by decide +kernel
theorem dX10_hideOf_62 : decode cX10_hideOf 62 = .ok (.aload_n 0, 1) := by decide +kernel
theorem dX10_hideOf_63 : decode cX10_hideOf 63 = .ok (.getfield 53, 3) := by decide +kernel
theorem dX10_hideOf_66 : decode cX10_hideOf 66 = .ok (.iload_n 1, 1) := by decide +kernel
theorem dX10_hideOf_67 : decode cX10_hideOf 67 = .ok (.iaload, 1) := by decide +kernel
theorem dX10_hideOf_68 : decode cX10_hideOf 68 = .ok (.ireturn, 1) := by decide +kernel
set_option maxRecDepth 20000 in
theorem ggX10_watched_X10_isCove : GoodIn wsX10_watched wsX10_isCove := goodIn_r _ [5, 6, 7, 4, 8] (by decide +kernel) (by decide +kernel)
set_option maxRecDepth 20000 in
theorem gX10_watched_X10_isCove : GoodIn wsX10_watched (va_wsS RX10 148 yX10_isCove wsX10_isCove) := goodIn_app (goodIn_of _ (by decide +kernel)) ggX10_watched_X10_isCove
set_option maxRecDepth 20000 in
theorem ggX10_watched_X10_refuse : GoodIn wsX10_watched wsX10_refuse := goodIn_r _ [12, 13, 14, 15, 16, 17, 18, 19, 20, 21, 22, 23, 24, 25, 26, 27, 28, 29, 30, 31, 32, 33, 34, 35, 36, 37, 38, 39, 40, 41, 42, 43, 44, 45, 46, 47, 48, 49, 50, 51, 52, 53, 54, 55, 56, 57, 58, 59, 60, 61, 62, 63, 64, 65, 66, 67] (by decide +kernel) (by decide +kernel)
set_option maxRecDepth 20000 in
theorem gX10_watched_X10_refuse : GoodIn wsX10_watched (wsV RX10 152 RX10 yX10_refuse wsX10_refuse) := goodIn_app (goodIn_of _ (by decide +kernel)) ggX10_watched_X10_refuse
theorem dX10_watched_0 : decode cX10_watched 0 = .ok (.iload_n 1, 1) := by decide +kernel
theorem dX10_watched_1 : decode cX10_watched 1 = .ok (.invokestatic 148, 3) := by decide +kernel
theorem dX10_watched_4 : decode cX10_watched 4 = .ok (.ifCond .eq 12, 3) := by decide +kernel
theorem dX10_watched_7 : decode cX10_watched 7 = .ok (.aload_n 0, 1) := by decide +kernel
theorem dX10_watched_8 : decode cX10_watched 8 = .ok (.getfield 93, 3) := by decide +kernel
theorem dX10_watched_11 : decode cX10_watched 11 = .ok (.iload_n 1, 1) := by decide +kernel
theorem dX10_watched_12 : decode cX10_watched 12 = .ok (.iaload, 1) := by decide +kernel
theorem dX10_watched_13 : decode cX10_watched 13 = .ok (.goto 8, 3) := by decide +kernel
theorem dX10_watched_16 : decode cX10_watched 16 = .ok (.aload_n 0, 1) := by decide +kernel
theorem dX10_watched_17 : decode cX10_watched 17 = .ok (.iconst (-1), 1) := by decide +kernel
theorem dX10_watched_18 : decode cX10_watched 18 = .ok (.invokevirtual 152, 3) := by decide +kernel
theorem dX10_watched_21 : decode cX10_watched 21 = .ok (.ireturn, 1) := by decide +kernel
set_option maxRecDepth 20000 in
theorem ggX10_coins_X10_in : GoodIn wsX10_coins wsX10_in := goodIn_r _ [5] (by decide +kernel) (by decide +kernel)
set_option maxRecDepth 20000 in
theorem gX10_coins_X10_in : GoodIn wsX10_coins (va_wsS RX10 144 yX10_in wsX10_in) := goodIn_app (goodIn_of _ (by decide +kernel)) ggX10_coins_X10_in
set_option maxRecDepth 20000 in
theorem ggX10_coins_X10_refuse : GoodIn wsX10_coins wsX10_refuse := goodIn_r _ [9, 10, 11, 12, 13, 14, 15, 16, 17, 18, 19, 20, 21, 22, 23, 24, 25, 26, 27, 28, 29, 30, 31, 32, 33, 34, 35, 36, 37, 38, 39, 40, 41, 42, 43, 44, 45, 46, 47, 48, 49, 50, 51, 52, 53, 54, 55, 56, 57, 58, 59, 60, 61, 62, 63, 64] (by decide +kernel) (by decide +kernel)
set_option maxRecDepth 20000 in
theorem gX10_coins_X10_refuse : GoodIn wsX10_coins (wsV RX10 152 RX10 yX10_refuse wsX10_refuse) := goodIn_app (goodIn_of _ (by decide +kernel)) ggX10_coins_X10_refuse
theorem dX10_coins_0 : decode cX10_coins 0 = .ok (.iload_n 1, 1) := by decide +kernel
theorem dX10_coins_1 : decode cX10_coins 1 = .ok (.iconst 0, 1) := by decide +kernel
theorem dX10_coins_2 : decode cX10_coins 2 = .ok (.bipush 7, 2) := by decide +kernel
theorem dX10_coins_4 : decode cX10_coins 4 = .ok (.invokestatic 144, 3) := by decide +kernel
theorem dX10_coins_7 : decode cX10_coins 7 = .ok (.ifCond .eq 12, 3) := by decide +kernel
theorem dX10_coins_10 : decode cX10_coins 10 = .ok (.aload_n 0, 1) := by decide +kernel
theorem dX10_coins_11 : decode cX10_coins 11 = .ok (.getfield 132, 3) := by decide +kernel
theorem dX10_coins_14 : decode cX10_coins 14 = .ok (.iload_n 1, 1) := by decide +kernel
theorem dX10_coins_15 : decode cX10_coins 15 = .ok (.iaload, 1) := by decide +kernel
theorem dX10_coins_16 : decode cX10_coins 16 = .ok (.goto 9, 3) := by decide +kernel
theorem dX10_coins_19 : decode cX10_coins 19 = .ok (.aload_n 0, 1) := by decide +kernel
theorem dX10_coins_20 : decode cX10_coins 20 = .ok (.bipush (-2), 2) := by decide +kernel
theorem dX10_coins_22 : decode cX10_coins 22 = .ok (.invokevirtual 152, 3) := by decide +kernel
theorem dX10_coins_25 : decode cX10_coins 25 = .ok (.ireturn, 1) := by decide +kernel
set_option maxRecDepth 20000 in
theorem ggX10_count_X10_lightAt : GoodIn wsX10_count wsX10_lightAt := goodIn_r _ [15] (by decide +kernel) (by decide +kernel)
set_option maxRecDepth 20000 in
theorem gX10_count_X10_lightAt : GoodIn wsX10_count (va_wsS RX10 186 yX10_lightAt wsX10_lightAt) := goodIn_app (goodIn_of _ (by decide +kernel)) ggX10_count_X10_lightAt
set_option maxRecDepth 20000 in
theorem ggX10_count_X10_in : GoodIn wsX10_count wsX10_in := goodIn_r _ [18] (by decide +kernel) (by decide +kernel)
set_option maxRecDepth 20000 in
theorem gX10_count_X10_in : GoodIn wsX10_count (va_wsS RX10 144 yX10_in wsX10_in) := goodIn_app (goodIn_of _ (by decide +kernel)) ggX10_count_X10_in
theorem dX10_count_0 : decode cX10_count 0 = .ok (.iconst 0, 1) := by decide +kernel
theorem dX10_count_1 : decode cX10_count 1 = .ok (.istore_n 2, 1) := by decide +kernel
theorem dX10_count_2 : decode cX10_count 2 = .ok (.iload_n 1, 1) := by decide +kernel
theorem dX10_count_3 : decode cX10_count 3 = .ok (.tableswitch 139 0 9 #[53, 58, 63, 68, 73, 78, 78, 117, 122, 130], 53) := by decide +kernel
theorem dX10_count_56 : decode cX10_count 56 = .ok (.aload_n 0, 1) := by decide +kernel
theorem dX10_count_57 : decode cX10_count 57 = .ok (.getfield 173, 3) := by decide +kernel
theorem dX10_count_60 : decode cX10_count 60 = .ok (.ireturn, 1) := by decide +kernel
theorem dX10_count_61 : decode cX10_count 61 = .ok (.aload_n 0, 1) := by decide +kernel
theorem dX10_count_62 : decode cX10_count 62 = .ok (.getfield 161, 3) := by decide +kernel
theorem dX10_count_65 : decode cX10_count 65 = .ok (.ireturn, 1) := by decide +kernel
theorem dX10_count_66 : decode cX10_count 66 = .ok (.aload_n 0, 1) := by decide +kernel
theorem dX10_count_67 : decode cX10_count 67 = .ok (.getfield 164, 3) := by decide +kernel
theorem dX10_count_70 : decode cX10_count 70 = .ok (.ireturn, 1) := by decide +kernel
theorem dX10_count_71 : decode cX10_count 71 = .ok (.aload_n 0, 1) := by decide +kernel
theorem dX10_count_72 : decode cX10_count 72 = .ok (.getfield 189, 3) := by decide +kernel
theorem dX10_count_75 : decode cX10_count 75 = .ok (.ireturn, 1) := by decide +kernel
theorem dX10_count_76 : decode cX10_count 76 = .ok (.aload_n 0, 1) := by decide +kernel
theorem dX10_count_77 : decode cX10_count 77 = .ok (.getfield 179, 3) := by decide +kernel
theorem dX10_count_80 : decode cX10_count 80 = .ok (.ireturn, 1) := by decide +kernel
theorem dX10_count_81 : decode cX10_count 81 = .ok (.iconst 0, 1) := by decide +kernel
theorem dX10_count_82 : decode cX10_count 82 = .ok (.istore_n 3, 1) := by decide +kernel
theorem dX10_count_83 : decode cX10_count 83 = .ok (.iload_n 3, 1) := by decide +kernel
theorem dX10_count_84 : decode cX10_count 84 = .ok (.bipush 6, 2) := by decide +kernel
theorem dX10_count_86 : decode cX10_count 86 = .ok (.if_icmp .ge 32, 3) := by decide +kernel
theorem dX10_count_89 : decode cX10_count 89 = .ok (.iload_n 2, 1) := by decide +kernel
theorem dX10_count_90 : decode cX10_count 90 = .ok (.iload_n 1, 1) := by decide +kernel
theorem dX10_count_91 : decode cX10_count 91 = .ok (.iconst 5, 1) := by decide +kernel
theorem dX10_count_92 : decode cX10_count 92 = .ok (.if_icmp .ne 12, 3) := by decide +kernel
theorem dX10_count_95 : decode cX10_count 95 = .ok (.aload_n 0, 1) := by decide +kernel
theorem dX10_count_96 : decode cX10_count 96 = .ok (.getfield 117, 3) := by decide +kernel
theorem dX10_count_99 : decode cX10_count 99 = .ok (.iload_n 3, 1) := by decide +kernel
theorem dX10_count_100 : decode cX10_count 100 = .ok (.iaload, 1) := by decide +kernel
theorem dX10_count_101 : decode cX10_count 101 = .ok (.goto 9, 3) := by decide +kernel
theorem dX10_count_104 : decode cX10_count 104 = .ok (.aload_n 0, 1) := by decide +kernel
theorem dX10_count_105 : decode cX10_count 105 = .ok (.getfield 120, 3) := by decide +kernel
theorem dX10_count_108 : decode cX10_count 108 = .ok (.iload_n 3, 1) := by decide +kernel
theorem dX10_count_109 : decode cX10_count 109 = .ok (.iaload, 1) := by decide +kernel
theorem dX10_count_110 : decode cX10_count 110 = .ok (.iadd, 1) := by decide +kernel
theorem dX10_count_111 : decode cX10_count 111 = .ok (.istore_n 2, 1) := by decide +kernel
theorem dX10_count_112 : decode cX10_count 112 = .ok (.iinc 3 1, 3) := by decide +kernel
theorem dX10_count_115 : decode cX10_count 115 = .ok (.goto (-32), 3) := by decide +kernel
theorem dX10_count_118 : decode cX10_count 118 = .ok (.iload_n 2, 1) := by decide +kernel
theorem dX10_count_119 : decode cX10_count 119 = .ok (.ireturn, 1) := by decide +kernel
theorem dX10_count_120 : decode cX10_count 120 = .ok (.aload_n 0, 1) := by decide +kernel
theorem dX10_count_121 : decode cX10_count 121 = .ok (.getfield 176, 3) := by decide +kernel
theorem dX10_count_124 : decode cX10_count 124 = .ok (.ireturn, 1) := by decide +kernel
theorem dX10_count_125 : decode cX10_count 125 = .ok (.aload_n 0, 1) := by decide +kernel
theorem dX10_count_126 : decode cX10_count 126 = .ok (.getfield 173, 3) := by decide +kernel
theorem dX10_count_129 : decode cX10_count 129 = .ok (.invokestatic 186, 3) := by decide +kernel
theorem dX10_count_132 : decode cX10_count 132 = .ok (.ireturn, 1) := by decide +kernel
theorem dX10_count_133 : decode cX10_count 133 = .ok (.aload_n 0, 1) := by decide +kernel
theorem dX10_count_134 : decode cX10_count 134 = .ok (.getfield 7, 3) := by decide +kernel
theorem dX10_count_137 : decode cX10_count 137 = .ok (.ldc_w 263, 3) := by decide +kernel
theorem dX10_count_140 : decode cX10_count 140 = .ok (.iand, 1) := by decide +kernel
theorem dX10_count_141 : decode cX10_count 141 = .ok (.ireturn, 1) := by decide +kernel
theorem dX10_count_142 : decode cX10_count 142 = .ok (.iload_n 1, 1) := by decide +kernel
theorem dX10_count_143 : decode cX10_count 143 = .ok (.bipush 11, 2) := by decide +kernel
theorem dX10_count_145 : decode cX10_count 145 = .ok (.bipush 17, 2) := by decide +kernel
theorem dX10_count_147 : decode cX10_count 147 = .ok (.invokestatic 144, 3) := by decide +kernel
theorem dX10_count_150 : decode cX10_count 150 = .ok (.ifCond .eq 15, 3) := by decide +kernel
theorem dX10_count_153 : decode cX10_count 153 = .ok (.aload_n 0, 1) := by decide +kernel
theorem dX10_count_154 : decode cX10_count 154 = .ok (.getfield 135, 3) := by decide +kernel
theorem dX10_count_157 : decode cX10_count 157 = .ok (.iload_n 1, 1) := by decide +kernel
theorem dX10_count_158 : decode cX10_count 158 = .ok (.bipush 10, 2) := by decide +kernel
theorem dX10_count_160 : decode cX10_count 160 = .ok (.isub, 1) := by decide +kernel
theorem dX10_count_161 : decode cX10_count 161 = .ok (.iaload, 1) := by decide +kernel
theorem dX10_count_162 : decode cX10_count 162 = .ok (.goto 5, 3) := by decide +kernel
theorem dX10_count_165 : decode cX10_count 165 = .ok (.bipush (-9), 2) := by decide +kernel
theorem dX10_count_167 : decode cX10_count 167 = .ok (.ireturn, 1) := by decide +kernel
theorem dJ9_max_7cf53_0 : decode cJ9_max_7cf53 0 = .ok (.iload_n 0, 1) := by decide +kernel
theorem dJ9_max_7cf53_1 : decode cJ9_max_7cf53 1 = .ok (.iload_n 1, 1) := by decide +kernel
theorem dJ9_max_7cf53_2 : decode cJ9_max_7cf53 2 = .ok (.if_icmp .lt 7, 3) := by decide +kernel
theorem dJ9_max_7cf53_5 : decode cJ9_max_7cf53 5 = .ok (.iload_n 0, 1) := by decide +kernel
theorem dJ9_max_7cf53_6 : decode cJ9_max_7cf53 6 = .ok (.goto 4, 3) := by decide +kernel
theorem dJ9_max_7cf53_9 : decode cJ9_max_7cf53 9 = .ok (.iload_n 1, 1) := by decide +kernel
theorem dJ9_max_7cf53_10 : decode cJ9_max_7cf53 10 = .ok (.ireturn, 1) := by decide +kernel
theorem dJ9_max_f86c9_0 : decode cJ9_max_f86c9 0 = .ok (.lload_n 0, 1) := by decide +kernel
theorem dJ9_max_f86c9_1 : decode cJ9_max_f86c9 1 = .ok (.lload_n 2, 1) := by decide +kernel
theorem dJ9_max_f86c9_2 : decode cJ9_max_f86c9 2 = .ok (.lcmp, 1) := by decide +kernel
theorem dJ9_max_f86c9_3 : decode cJ9_max_f86c9 3 = .ok (.ifCond .lt 7, 3) := by decide +kernel
theorem dJ9_max_f86c9_6 : decode cJ9_max_f86c9 6 = .ok (.lload_n 0, 1) := by decide +kernel
theorem dJ9_max_f86c9_7 : decode cJ9_max_f86c9 7 = .ok (.goto 4, 3) := by decide +kernel
theorem dJ9_max_f86c9_10 : decode cJ9_max_f86c9 10 = .ok (.lload_n 2, 1) := by decide +kernel
theorem dJ9_max_f86c9_11 : decode cJ9_max_f86c9 11 = .ok (.lreturn, 1) := by decide +kernel
theorem dJ9_min_7cf53_0 : decode cJ9_min_7cf53 0 = .ok (.iload_n 0, 1) := by decide +kernel
theorem dJ9_min_7cf53_1 : decode cJ9_min_7cf53 1 = .ok (.iload_n 1, 1) := by decide +kernel
theorem dJ9_min_7cf53_2 : decode cJ9_min_7cf53 2 = .ok (.if_icmp .gt 7, 3) := by decide +kernel
theorem dJ9_min_7cf53_5 : decode cJ9_min_7cf53 5 = .ok (.iload_n 0, 1) := by decide +kernel
theorem dJ9_min_7cf53_6 : decode cJ9_min_7cf53 6 = .ok (.goto 4, 3) := by decide +kernel
theorem dJ9_min_7cf53_9 : decode cJ9_min_7cf53 9 = .ok (.iload_n 1, 1) := by decide +kernel
