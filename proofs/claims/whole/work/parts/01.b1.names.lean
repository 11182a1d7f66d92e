theorem dX6_init_0 : decode cX6_init 0 = .ok (.aload_n 0, 1) := by decide +kernel
theorem dX6_init_1 : decode cX6_init 1 = .ok (.invokespecial 1, 3) := by decide +kernel
theorem dX6_init_4 : decode cX6_init 4 = .ok (.aload_n 0, 1) := by decide +kernel
theorem dX6_init_5 : decode cX6_init 5 = .ok (.bipush 98, 2) := by decide +kernel
theorem dX6_init_7 : decode cX6_init 7 = .ok (.newarray .long, 2) := by decide +kernel
theorem dX6_init_9 : decode cX6_init 9 = .ok (.dup, 1) := by decide +kernel
theorem dX6_init_10 : decode cX6_init 10 = .ok (.iconst 0, 1) := by decide +kernel
theorem dX6_init_11 : decode cX6_init 11 = .ok (.ldc2_w 7, 3) := by decide +kernel
theorem dX6_init_14 : decode cX6_init 14 = .ok (.lastore, 1) := by decide +kernel
theorem dX6_init_15 : decode cX6_init 15 = .ok (.dup, 1) := by decide +kernel
theorem dX6_init_16 : decode cX6_init 16 = .ok (.iconst 1, 1) := by decide +kernel
theorem dX6_init_17 : decode cX6_init 17 = .ok (.lconst 0, 1) := by decide +kernel
theorem dX6_init_18 : decode cX6_init 18 = .ok (.lastore, 1) := by decide +kernel
theorem dX6_init_19 : decode cX6_init 19 = .ok (.dup, 1) := by decide +kernel
theorem dX6_init_20 : decode cX6_init 20 = .ok (.iconst 2, 1) := by decide +kernel
theorem dX6_init_21 : decode cX6_init 21 = .ok (.ldc2_w 9, 3) := by decide +kernel
theorem dX6_init_24 : decode cX6_init 24 = .ok (.lastore, 1) := by decide +kernel
theorem dX6_init_25 : decode cX6_init 25 = .ok (.dup, 1) := by decide +kernel
theorem dX6_init_26 : decode cX6_init 26 = .ok (.iconst 3, 1) := by decide +kernel
theorem dX6_init_27 : decode cX6_init 27 = .ok (.lconst 0, 1) := by decide +kernel
theorem dX6_init_28 : decode cX6_init 28 = .ok (.lastore, 1) := by decide +kernel
theorem dX6_init_29 : decode cX6_init 29 = .ok (.dup, 1) := by decide +kernel
theorem dX6_init_30 : decode cX6_init 30 = .ok (.iconst 4, 1) := by decide +kernel
theorem dX6_init_31 : decode cX6_init 31 = .ok (.ldc2_w 11, 3) := by decide +kernel
theorem dX6_init_34 : decode cX6_init 34 = .ok (.lastore, 1) := by decide +kernel
theorem dX6_init_35 : decode cX6_init 35 = .ok (.dup, 1) := by decide +kernel
theorem dX6_init_36 : decode cX6_init 36 = .ok (.iconst 5, 1) := by decide +kernel
theorem dX6_init_37 : decode cX6_init 37 = .ok (.lconst 0, 1) := by decide +kernel
theorem dX6_init_38 : decode cX6_init 38 = .ok (.lastore, 1) := by decide +kernel
theorem dX6_init_39 : decode cX6_init 39 = .ok (.dup, 1) := by decide +kernel
theorem dX6_init_40 : decode cX6_init 40 = .ok (.bipush 6, 2) := by decide +kernel
theorem dX6_init_42 : decode cX6_init 42 = .ok (.ldc2_w 13, 3) := by decide +kernel
theorem dX6_init_45 : decode cX6_init 45 = .ok (.lastore, 1) := by decide +kernel
theorem dX6_init_46 : decode cX6_init 46 = .ok (.dup, 1) := by decide +kernel
theorem dX6_init_47 : decode cX6_init 47 = .ok (.bipush 7, 2) := by decide +kernel
theorem dX6_init_49 : decode cX6_init 49 = .ok (.lconst 0, 1) := by decide +kernel
theorem dX6_init_50 : decode cX6_init 50 = .ok (.lastore, 1) := by decide +kernel
theorem dX6_init_51 : decode cX6_init 51 = .ok (.dup, 1) := by decide +kernel
theorem dX6_init_52 : decode cX6_init 52 = .ok (.bipush 8, 2) := by decide +kernel
theorem dX6_init_54 : decode cX6_init 54 = .ok (.ldc2_w 15, 3) := by decide +kernel
theorem dX6_init_57 : decode cX6_init 57 = .ok (.lastore, 1) := by decide +kernel
theorem dX6_init_58 : decode cX6_init 58 = .ok (.dup, 1) := by decide +kernel
theorem dX6_init_59 : decode cX6_init 59 = .ok (.bipush 9, 2) := by decide +kernel
theorem dX6_init_61 : decode cX6_init 61 = .ok (.ldc2_w 17, 3) := by decide +kernel
theorem dX6_init_64 : decode cX6_init 64 = .ok (.lastore, 1) := by decide +kernel
theorem dX6_init_65 : decode cX6_init 65 = .ok (.dup, 1) := by decide +kernel
theorem dX6_init_66 : decode cX6_init 66 = .ok (.bipush 10, 2) := by decide +kernel
theorem dX6_init_68 : decode cX6_init 68 = .ok (.lconst 0, 1) := by decide +kernel
theorem dX6_init_69 : decode cX6_init 69 = .ok (.lastore, 1) := by decide +kernel
theorem dX6_init_70 : decode cX6_init 70 = .ok (.dup, 1) := by decide +kernel
theorem dX6_init_71 : decode cX6_init 71 = .ok (.bipush 11, 2) := by decide +kernel
theorem dX6_init_73 : decode cX6_init 73 = .ok (.ldc2_w 19, 3) := by decide +kernel
theorem dX6_init_76 : decode cX6_init 76 = .ok (.lastore, 1) := by decide +kernel
theorem dX6_init_77 : decode cX6_init 77 = .ok (.dup, 1) := by decide +kernel
theorem dX6_init_78 : decode cX6_init 78 = .ok (.bipush 12, 2) := by decide +kernel
theorem dX6_init_80 : decode cX6_init 80 = .ok (.lconst 0, 1) := by decide +kernel
theorem dX6_init_81 : decode cX6_init 81 = .ok (.lastore, 1) := by decide +kernel
theorem dX6_init_82 : decode cX6_init 82 = .ok (.dup, 1) := by decide +kernel
theorem dX6_init_83 : decode cX6_init 83 = .ok (.bipush 13, 2) := by decide +kernel
theorem dX6_init_85 : decode cX6_init 85 = .ok (.ldc2_w 21, 3) := by decide +kernel
theorem dX6_init_88 : decode cX6_init 88 = .ok (.lastore, 1) := by decide +kernel
theorem dX6_init_89 : decode cX6_init 89 = .ok (.dup, 1) := by decide +kernel
theorem dX6_init_90 : decode cX6_init 90 = .ok (.bipush 14, 2) := by decide +kernel
theorem dX6_init_92 : decode cX6_init 92 = .ok (.lconst 0, 1) := by decide +kernel
theorem dX6_init_93 : decode cX6_init 93 = .ok (.lastore, 1) := by decide +kernel
theorem dX6_init_94 : decode cX6_init 94 = .ok (.dup, 1) := by decide +kernel
theorem dX6_init_95 : decode cX6_init 95 = .ok (.bipush 15, 2) := by decide +kernel
theorem dX6_init_97 : decode cX6_init 97 = .ok (.ldc2_w 23, 3) := by decide +kernel
theorem dX6_init_100 : decode cX6_init 100 = .ok (.lastore, 1) := by decide +kernel
theorem dX6_init_101 : decode cX6_init 101 = .ok (.dup, 1) := by decide +kernel
theorem dX6_init_102 : decode cX6_init 102 = .ok (.bipush 16, 2) := by decide +kernel
theorem dX6_init_104 : decode cX6_init 104 = .ok (.lconst 0, 1) := by decide +kernel
theorem dX6_init_105 : decode cX6_init 105 = .ok (.lastore, 1) := by decide +kernel
theorem dX6_init_106 : decode cX6_init 106 = .ok (.dup, 1) := by decide +kernel
theorem dX6_init_107 : decode cX6_init 107 = .ok (.bipush 17, 2) := by decide +kernel
theorem dX6_init_109 : decode cX6_init 109 = .ok (.ldc2_w 25, 3) := by decide +kernel
theorem dX6_init_112 : decode cX6_init 112 = .ok (.lastore, 1) := by decide +kernel
theorem dX6_init_113 : decode cX6_init 113 = .ok (.dup, 1) := by decide +kernel
theorem dX6_init_114 : decode cX6_init 114 = .ok (.bipush 18, 2) := by decide +kernel
theorem dX6_init_116 : decode cX6_init 116 = .ok (.lconst 0, 1) := by decide +kernel
theorem dX6_init_117 : decode cX6_init 117 = .ok (.lastore, 1) := by decide +kernel
theorem dX6_init_118 : decode cX6_init 118 = .ok (.dup, 1) := by decide +kernel
theorem dX6_init_119 : decode cX6_init 119 = .ok (.bipush 19, 2) := by decide +kernel
theorem dX6_init_121 : decode cX6_init 121 = .ok (.ldc2_w 27, 3) := by decide +kernel
theorem dX6_init_124 : decode cX6_init 124 = .ok (.lastore, 1) := by decide +kernel
theorem dX6_init_125 : decode cX6_init 125 = .ok (.dup, 1) := by decide +kernel
theorem dX6_init_126 : decode cX6_init 126 = .ok (.bipush 20, 2) := by decide +kernel
theorem dX6_init_128 : decode cX6_init 128 = .ok (.lconst 0, 1) := by decide +kernel
theorem dX6_init_129 : decode cX6_init 129 = .ok (.lastore, 1) := by decide +kernel
theorem dX6_init_130 : decode cX6_init 130 = .ok (.dup, 1) := by decide +kernel
theorem dX6_init_131 : decode cX6_init 131 = .ok (.bipush 21, 2) := by decide +kernel
theorem dX6_init_133 : decode cX6_init 133 = .ok (.ldc2_w 29, 3) := by decide +kernel
theorem dX6_init_136 : decode cX6_init 136 = .ok (.lastore, 1) := by decide +kernel
theorem dX6_init_137 : decode cX6_init 137 = .ok (.dup, 1) := by decide +kernel
theorem dX6_init_138 : decode cX6_init 138 = .ok (.bipush 22, 2) := by decide +kernel
theorem dX6_init_140 : decode cX6_init 140 = .ok (.lconst 0, 1) := by decide +kernel
theorem dX6_init_141 : decode cX6_init 141 = .ok (.lastore, 1) := by decide +kernel
theorem dX6_init_142 : decode cX6_init 142 = .ok (.dup, 1) := by decide +kernel
theorem dX6_init_143 : decode cX6_init 143 = .ok (.bipush 23, 2) := by decide +kernel
theorem dX6_init_145 : decode cX6_init 145 = .ok (.ldc2_w 31, 3) := by decide +kernel
theorem dX6_init_148 : decode cX6_init 148 = .ok (.lastore, 1) := by decide +kernel
theorem dX6_init_149 : decode cX6_init 149 = .ok (.dup, 1) := by decide +kernel
theorem dX6_init_150 : decode cX6_init 150 = .ok (.bipush 24, 2) := by decide +kernel
theorem dX6_init_152 : decode cX6_init 152 = .ok (.lconst 0, 1) := by decide +kernel
theorem dX6_init_153 : decode cX6_init 153 = .ok (.lastore, 1) := by decide +kernel
theorem dX6_init_154 : decode cX6_init 154 = .ok (.dup, 1) := by decide +kernel
theorem dX6_init_155 : decode cX6_init 155 = .ok (.bipush 25, 2) := by decide +kernel
theorem dX6_init_157 : decode cX6_init 157 = .ok (.ldc2_w 33, 3) := by decide +kernel
theorem dX6_init_160 : decode cX6_init 160 = .ok (.lastore, 1) := by decide +kernel
theorem dX6_init_161 : decode cX6_init 161 = .ok (.dup, 1) := by decide +kernel
theorem dX6_init_162 : decode cX6_init 162 = .ok (.bipush 26, 2) := by decide +kernel
theorem dX6_init_164 : decode cX6_init 164 = .ok (.lconst 0, 1) := by decide +kernel
theorem dX6_init_165 : decode cX6_init 165 = .ok (.lastore, 1) := by decide +kernel
theorem dX6_init_166 : decode cX6_init 166 = .ok (.dup, 1) := by decide +kernel
theorem dX6_init_167 : decode cX6_init 167 = .ok (.bipush 27, 2) := by decide +kernel
theorem dX6_init_169 : decode cX6_init 169 = .ok (.ldc2_w 35, 3) := by decide +kernel
theorem dX6_init_172 : decode cX6_init 172 = .ok (.lastore, 1) := by decide +kernel
theorem dX6_init_173 : decode cX6_init 173 = .ok (.dup, 1) := by decide +kernel
theorem dX6_init_174 : decode cX6_init 174 = .ok (.bipush 28, 2) := by decide +kernel
theorem dX6_init_176 : decode cX6_init 176 = .ok (.lconst 0, 1) := by decide +kernel
theorem dX6_init_177 : decode cX6_init 177 = .ok (.lastore, 1) := by decide +kernel
theorem dX6_init_178 : decode cX6_init 178 = .ok (.dup, 1) := by decide +kernel
theorem dX6_init_179 : decode cX6_init 179 = .ok (.bipush 29, 2) := by decide +kernel
theorem dX6_init_181 : decode cX6_init 181 = .ok (.ldc2_w 37, 3) := by decide +kernel
theorem dX6_init_184 : decode cX6_init 184 = .ok (.lastore, 1) := by decide +kernel
theorem dX6_init_185 : decode cX6_init 185 = .ok (.dup, 1) := by decide +kernel
theorem dX6_init_186 : decode cX6_init 186 = .ok (.bipush 30, 2) := by decide +kernel
theorem dX6_init_188 : decode cX6_init 188 = .ok (.lconst 0, 1) := by decide +kernel
theorem dX6_init_189 : decode cX6_init 189 = .ok (.lastore, 1) := by decide +kernel
theorem dX6_init_190 : decode cX6_init 190 = .ok (.dup, 1) := by decide +kernel
theorem dX6_init_191 : decode cX6_init 191 = .ok (.bipush 31, 2) := by decide +kernel
theorem dX6_init_193 : decode cX6_init 193 = .ok (.ldc2_w 39, 3) := by decide +kernel
theorem dX6_init_196 : decode cX6_init 196 = .ok (.lastore, 1) := by decide +kernel
theorem dX6_init_197 : decode cX6_init 197 = .ok (.dup, 1) := by decide +kernel
theorem dX6_init_198 : decode cX6_init 198 = .ok (.bipush 32, 2) := by decide +kernel
theorem dX6_init_200 : decode cX6_init 200 = .ok (.lconst 0, 1) := by decide +kernel
theorem dX6_init_201 : decode cX6_init 201 = .ok (.lastore, 1) := by decide +kernel
theorem dX6_init_202 : decode cX6_init 202 = .ok (.dup, 1) := by decide +kernel
theorem dX6_init_203 : decode cX6_init 203 = .ok (.bipush 33, 2) := by decide +kernel
theorem dX6_init_205 : decode cX6_init 205 = .ok (.ldc2_w 41, 3) := by decide +kernel
theorem dX6_init_208 : decode cX6_init 208 = .ok (.lastore, 1) := by decide +kernel
theorem dX6_init_209 : decode cX6_init 209 = .ok (.dup, 1) := by decide +kernel
theorem dX6_init_210 : decode cX6_init 210 = .ok (.bipush 34, 2) := by decide +kernel
theorem dX6_init_212 : decode cX6_init 212 = .ok (.lconst 0, 1) := by decide +kernel
theorem dX6_init_213 : decode cX6_init 213 = .ok (.lastore, 1) := by decide +kernel
theorem dX6_init_214 : decode cX6_init 214 = .ok (.dup, 1) := by decide +kernel
theorem dX6_init_215 : decode cX6_init 215 = .ok (.bipush 35, 2) := by decide +kernel
theorem dX6_init_217 : decode cX6_init 217 = .ok (.ldc2_w 43, 3) := by decide +kernel
theorem dX6_init_220 : decode cX6_init 220 = .ok (.lastore, 1) := by decide +kernel
theorem dX6_init_221 : decode cX6_init 221 = .ok (.dup, 1) := by decide +kernel
theorem dX6_init_222 : decode cX6_init 222 = .ok (.bipush 36, 2) := by decide +kernel
theorem dX6_init_224 : decode cX6_init 224 = .ok (.lconst 0, 1) := by decide +kernel
theorem dX6_init_225 : decode cX6_init 225 = .ok (.lastore, 1) := by decide +kernel
theorem dX6_init_226 : decode cX6_init 226 = .ok (.dup, 1) := by decide +kernel
theorem dX6_init_227 : decode cX6_init 227 = .ok (.bipush 37, 2) := by decide +kernel
theorem dX6_init_229 : decode cX6_init 229 = .ok (.ldc2_w 45, 3) := by decide +kernel
theorem dX6_init_232 : decode cX6_init 232 = .ok (.lastore, 1) := by decide +kernel
theorem dX6_init_233 : decode cX6_init 233 = .ok (.dup, 1) := by decide +kernel
theorem dX6_init_234 : decode cX6_init 234 = .ok (.bipush 38, 2) := by decide +kernel
theorem dX6_init_236 : decode cX6_init 236 = .ok (.lconst 0, 1) := by decide +kernel
theorem dX6_init_237 : decode cX6_init 237 = .ok (.lastore, 1) := by decide +kernel
theorem dX6_init_238 : decode cX6_init 238 = .ok (.dup, 1) := by decide +kernel
theorem dX6_init_239 : decode cX6_init 239 = .ok (.bipush 39, 2) := by decide +kernel
theorem dX6_init_241 : decode cX6_init 241 = .ok (.ldc2_w 47, 3) := by decide +kernel
theorem dX6_init_244 : decode cX6_init 244 = .ok (.lastore, 1) := by decide +kernel
theorem dX6_init_245 : decode cX6_init 245 = .ok (.dup, 1) := by decide +kernel
theorem dX6_init_246 : decode cX6_init 246 = .ok (.bipush 40, 2) := by decide +kernel
theorem dX6_init_248 : decode cX6_init 248 = .ok (.ldc2_w 49, 3) := by decide +kernel
theorem dX6_init_251 : decode cX6_init 251 = .ok (.lastore, 1) := by decide +kernel
theorem dX6_init_252 : decode cX6_init 252 = .ok (.dup, 1) := by decide +kernel
theorem dX6_init_253 : decode cX6_init 253 = .ok (.bipush 41, 2) := by decide +kernel
theorem dX6_init_255 : decode cX6_init 255 = .ok (.lconst 0, 1) := by decide +kernel
theorem dX6_init_256 : decode cX6_init 256 = .ok (.lastore, 1) := by decide +kernel
theorem dX6_init_257 : decode cX6_init 257 = .ok (.dup, 1) := by decide +kernel
theorem dX6_init_258 : decode cX6_init 258 = .ok (.bipush 42, 2) := by decide +kernel
theorem dX6_init_260 : decode cX6_init 260 = .ok (.ldc2_w 51, 3) := by decide +kernel
theorem dX6_init_263 : decode cX6_init 263 = .ok (.lastore, 1) := by decide +kernel
theorem dX6_init_264 : decode cX6_init 264 = .ok (.dup, 1) := by decide +kernel
theorem dX6_init_265 : decode cX6_init 265 = .ok (.bipush 43, 2) := by decide +kernel
theorem dX6_init_267 : decode cX6_init 267 = .ok (.lconst 0, 1) := by decide +kernel
theorem dX6_init_268 : decode cX6_init 268 = .ok (.lastore, 1) := by decide +kernel
theorem dX6_init_269 : decode cX6_init 269 = .ok (.dup, 1) := by decide +kernel
theorem dX6_init_270 : decode cX6_init 270 = .ok (.bipush 44, 2) := by decide +kernel
theorem dX6_init_272 : decode cX6_init 272 = .ok (.ldc2_w 53, 3) := by decide +kernel
theorem dX6_init_275 : decode cX6_init 275 = .ok (.lastore, 1) := by decide +kernel
theorem dX6_init_276 : decode cX6_init 276 = .ok (.dup, 1) := by decide +kernel
theorem dX6_init_277 : decode cX6_init 277 = .ok (.bipush 45, 2) := by decide +kernel
theorem dX6_init_279 : decode cX6_init 279 = .ok (.lconst 0, 1) := by decide +kernel
theorem dX6_init_280 : decode cX6_init 280 = .ok (.lastore, 1) := by decide +kernel
theorem dX6_init_281 : decode cX6_init 281 = .ok (.dup, 1) := by decide +kernel
theorem dX6_init_282 : decode cX6_init 282 = .ok (.bipush 46, 2) := by decide +kernel
theorem dX6_init_284 : decode cX6_init 284 = .ok (.ldc2_w 55, 3) := by decide +kernel
theorem dX6_init_287 : decode cX6_init 287 = .ok (.lastore, 1) := by decide +kernel
theorem dX6_init_288 : decode cX6_init 288 = .ok (.dup, 1) := by decide +kernel
theorem dX6_init_289 : decode cX6_init 289 = .ok (.bipush 47, 2) := by decide +kernel
theorem dX6_init_291 : decode cX6_init 291 = .ok (.ldc2_w 57, 3) := by decide +kernel
theorem dX6_init_294 : decode cX6_init 294 = .ok (.lastore, 1) := by decide +kernel
theorem dX6_init_295 : decode cX6_init 295 = .ok (.dup, 1) := by decide +kernel
theorem dX6_init_296 : decode cX6_init 296 = .ok (.bipush 48, 2) := by decide +kernel
theorem dX6_init_298 : decode cX6_init 298 = .ok (.lconst 0, 1) := by decide +kernel
theorem dX6_init_299 : decode cX6_init 299 = .ok (.lastore, 1) := by decide +kernel
theorem dX6_init_300 : decode cX6_init 300 = .ok (.dup, 1) := by decide +kernel
theorem dX6_init_301 : decode cX6_init 301 = .ok (.bipush 49, 2) := by decide +kernel
theorem dX6_init_303 : decode cX6_init 303 = .ok (.ldc2_w 55, 3) := by decide +kernel
theorem dX6_init_306 : decode cX6_init 306 = .ok (.lastore, 1) := by decide +kernel
theorem dX6_init_307 : decode cX6_init 307 = .ok (.dup, 1) := by decide +kernel
theorem dX6_init_308 : decode cX6_init 308 = .ok (.bipush 50, 2) := by decide +kernel
theorem dX6_init_310 : decode cX6_init 310 = .ok (.ldc2_w 59, 3) := by decide +kernel
theorem dX6_init_313 : decode cX6_init 313 = .ok (.lastore, 1) := by decide +kernel
theorem dX6_init_314 : decode cX6_init 314 = .ok (.dup, 1) := by decide +kernel
theorem dX6_init_315 : decode cX6_init 315 = .ok (.bipush 51, 2) := by decide +kernel
theorem dX6_init_317 : decode cX6_init 317 = .ok (.lconst 0, 1) := by decide +kernel
theorem dX6_init_318 : decode cX6_init 318 = .ok (.lastore, 1) := by decide +kernel
theorem dX6_init_319 : decode cX6_init 319 = .ok (.dup, 1) := by decide +kernel
theorem dX6_init_320 : decode cX6_init 320 = .ok (.bipush 52, 2) := by decide +kernel
theorem dX6_init_322 : decode cX6_init 322 = .ok (.ldc2_w 61, 3) := by decide +kernel
theorem dX6_init_325 : decode cX6_init 325 = .ok (.lastore, 1) := by decide +kernel
theorem dX6_init_326 : decode cX6_init 326 = .ok (.dup, 1) := by decide +kernel
theorem dX6_init_327 : decode cX6_init 327 = .ok (.bipush 53, 2) := by decide +kernel
theorem dX6_init_329 : decode cX6_init 329 = .ok (.ldc2_w 63, 3) := by decide +kernel
theorem dX6_init_332 : decode cX6_init 332 = .ok (.lastore, 1) := by decide +kernel
theorem dX6_init_333 : decode cX6_init 333 = .ok (.dup, 1) := by decide +kernel
theorem dX6_init_334 : decode cX6_init 334 = .ok (.bipush 54, 2) := by decide +kernel
theorem dX6_init_336 : decode cX6_init 336 = .ok (.ldc2_w 65, 3) := by decide +kernel
theorem dX6_init_339 : decode cX6_init 339 = .ok (.lastore, 1) := by decide +kernel
theorem dX6_init_340 : decode cX6_init 340 = .ok (.dup, 1) := by decide +kernel
theorem dX6_init_341 : decode cX6_init 341 = .ok (.bipush 55, 2) := by decide +kernel
theorem dX6_init_343 : decode cX6_init 343 = .ok (.lconst 0, 1) := by decide +kernel
theorem dX6_init_344 : decode cX6_init 344 = .ok (.lastore, 1) := by decide +kernel
theorem dX6_init_345 : decode cX6_init 345 = .ok (.dup, 1) := by decide +kernel
theorem dX6_init_346 : decode cX6_init 346 = .ok (.bipush 56, 2) := by decide +kernel
theorem dX6_init_348 : decode cX6_init 348 = .ok (.ldc2_w 67, 3) := by decide +kernel
theorem dX6_init_351 : decode cX6_init 351 = .ok (.lastore, 1) := by decide +kernel
theorem dX6_init_352 : decode cX6_init 352 = .ok (.dup, 1) := by decide +kernel
theorem dX6_init_353 : decode cX6_init 353 = .ok (.bipush 57, 2) := by decide +kernel
theorem dX6_init_355 : decode cX6_init 355 = .ok (.ldc2_w 69, 3) := by decide +kernel
theorem dX6_init_358 : decode cX6_init 358 = .ok (.lastore, 1) := by decide +kernel
theorem dX6_init_359 : decode cX6_init 359 = .ok (.dup, 1) := by decide +kernel
theorem dX6_init_360 : decode cX6_init 360 = .ok (.bipush 58, 2) := by decide +kernel
theorem dX6_init_362 : decode cX6_init 362 = .ok (.ldc2_w 71, 3) := by decide +kernel
theorem dX6_init_365 : decode cX6_init 365 = .ok (.lastore, 1) := by decide +kernel
theorem dX6_init_366 : decode cX6_init 366 = .ok (.dup, 1) := by decide +kernel
theorem dX6_init_367 : decode cX6_init 367 = .ok (.bipush 59, 2) := by decide +kernel
theorem dX6_init_369 : decode cX6_init 369 = .ok (.lconst 0, 1) := by decide +kernel
theorem dX6_init_370 : decode cX6_init 370 = .ok (.lastore, 1) := by decide +kernel
theorem dX6_init_371 : decode cX6_init 371 = .ok (.dup, 1) := by decide +kernel
theorem dX6_init_372 : decode cX6_init 372 = .ok (.bipush 60, 2) := by decide +kernel
theorem dX6_init_374 : decode cX6_init 374 = .ok (.ldc2_w 73, 3) := by decide +kernel
theorem dX6_init_377 : decode cX6_init 377 = .ok (.lastore, 1) := by decide +kernel
theorem dX6_init_378 : decode cX6_init 378 = .ok (.dup, 1) := by decide +kernel
theorem dX6_init_379 : decode cX6_init 379 = .ok (.bipush 61, 2) := by decide +kernel
theorem dX6_init_381 : decode cX6_init 381 = .ok (.ldc2_w 71, 3) := by decide +kernel
theorem dX6_init_384 : decode cX6_init 384 = .ok (.lastore, 1) := by decide +kernel
theorem dX6_init_385 : decode cX6_init 385 = .ok (.dup, 1) := by decide +kernel
theorem dX6_init_386 : decode cX6_init 386 = .ok (.bipush 62, 2) := by decide +kernel
theorem dX6_init_388 : decode cX6_init 388 = .ok (.lconst 0, 1) := by decide +kernel
theorem dX6_init_389 : decode cX6_init 389 = .ok (.lastore, 1) := by decide +kernel
theorem dX6_init_390 : decode cX6_init 390 = .ok (.dup, 1) := by decide +kernel
theorem dX6_init_391 : decode cX6_init 391 = .ok (.bipush 63, 2) := by decide +kernel
theorem dX6_init_393 : decode cX6_init 393 = .ok (.ldc2_w 75, 3) := by decide +kernel
theorem dX6_init_396 : decode cX6_init 396 = .ok (.lastore, 1) := by decide +kernel
theorem dX6_init_397 : decode cX6_init 397 = .ok (.dup, 1) := by decide +kernel
theorem dX6_init_398 : decode cX6_init 398 = .ok (.bipush 64, 2) := by decide +kernel
theorem dX6_init_400 : decode cX6_init 400 = .ok (.ldc2_w 77, 3) := by decide +kernel
theorem dX6_init_403 : decode cX6_init 403 = .ok (.lastore, 1) := by decide +kernel
theorem dX6_init_404 : decode cX6_init 404 = .ok (.dup, 1) := by decide +kernel
theorem dX6_init_405 : decode cX6_init 405 = .ok (.bipush 65, 2) := by decide +kernel
theorem dX6_init_407 : decode cX6_init 407 = .ok (.lconst 0, 1) := by decide +kernel
theorem dX6_init_408 : decode cX6_init 408 = .ok (.lastore, 1) := by decide +kernel
theorem dX6_init_409 : decode cX6_init 409 = .ok (.dup, 1) := by decide +kernel
theorem dX6_init_410 : decode cX6_init 410 = .ok (.bipush 66, 2) := by decide +kernel
theorem dX6_init_412 : decode cX6_init 412 = .ok (.ldc2_w 79, 3) := by decide +kernel
theorem dX6_init_415 : decode cX6_init 415 = .ok (.lastore, 1) := by decide +kernel
theorem dX6_init_416 : decode cX6_init 416 = .ok (.dup, 1) := by decide +kernel
theorem dX6_init_417 : decode cX6_init 417 = .ok (.bipush 67, 2) := by decide +kernel
theorem dX6_init_419 : decode cX6_init 419 = .ok (.ldc2_w 81, 3) := by decide +kernel
theorem dX6_init_422 : decode cX6_init 422 = .ok (.lastore, 1) := by decide +kernel
theorem dX6_init_423 : decode cX6_init 423 = .ok (.dup, 1) := by decide +kernel
theorem dX6_init_424 : decode cX6_init 424 = .ok (.bipush 68, 2) := by decide +kernel
theorem dX6_init_426 : decode cX6_init 426 = .ok (.lconst 0, 1) := by decide +kernel
theorem dX6_init_427 : decode cX6_init 427 = .ok (.lastore, 1) := by decide +kernel
theorem dX6_init_428 : decode cX6_init 428 = .ok (.dup, 1) := by decide +kernel
theorem dX6_init_429 : decode cX6_init 429 = .ok (.bipush 69, 2) := by decide +kernel
theorem dX6_init_431 : decode cX6_init 431 = .ok (.ldc2_w 83, 3) := by decide +kernel
theorem dX6_init_434 : decode cX6_init 434 = .ok (.lastore, 1) := by decide +kernel
theorem dX6_init_435 : decode cX6_init 435 = .ok (.dup, 1) := by decide +kernel
theorem dX6_init_436 : decode cX6_init 436 = .ok (.bipush 70, 2) := by decide +kernel
theorem dX6_init_438 : decode cX6_init 438 = .ok (.lconst 0, 1) := by decide +kernel
theorem dX6_init_439 : decode cX6_init 439 = .ok (.lastore, 1) := by decide +kernel
theorem dX6_init_440 : decode cX6_init 440 = .ok (.dup, 1) := by decide +kernel
theorem dX6_init_441 : decode cX6_init 441 = .ok (.bipush 71, 2) := by decide +kernel
theorem dX6_init_443 : decode cX6_init 443 = .ok (.ldc2_w 67, 3) := by decide +kernel
theorem dX6_init_446 : decode cX6_init 446 = .ok (.lastore, 1) := by decide +kernel
theorem dX6_init_447 : decode cX6_init 447 = .ok (.dup, 1) := by decide +kernel
theorem dX6_init_448 : decode cX6_init 448 = .ok (.bipush 72, 2) := by decide +kernel
theorem dX6_init_450 : decode cX6_init 450 = .ok (.ldc2_w 85, 3) := by decide +kernel
theorem dX6_init_453 : decode cX6_init 453 = .ok (.lastore, 1) := by decide +kernel
theorem dX6_init_454 : decode cX6_init 454 = .ok (.dup, 1) := by decide +kernel
theorem dX6_init_455 : decode cX6_init 455 = .ok (.bipush 73, 2) := by decide +kernel
theorem dX6_init_457 : decode cX6_init 457 = .ok (.lconst 0, 1) := by decide +kernel
theorem dX6_init_458 : decode cX6_init 458 = .ok (.lastore, 1) := by decide +kernel
theorem dX6_init_459 : decode cX6_init 459 = .ok (.dup, 1) := by decide +kernel
theorem dX6_init_460 : decode cX6_init 460 = .ok (.bipush 74, 2) := by decide +kernel
theorem dX6_init_462 : decode cX6_init 462 = .ok (.ldc2_w 87, 3) := by decide +kernel
theorem dX6_init_465 : decode cX6_init 465 = .ok (.lastore, 1) := by decide +kernel
theorem dX6_init_466 : decode cX6_init 466 = .ok (.dup, 1) := by decide +kernel
theorem dX6_init_467 : decode cX6_init 467 = .ok (.bipush 75, 2) := by decide +kernel
theorem dX6_init_469 : decode cX6_init 469 = .ok (.lconst 0, 1) := by decide +kernel
theorem dX6_init_470 : decode cX6_init 470 = .ok (.lastore, 1) := by decide +kernel
theorem dX6_init_471 : decode cX6_init 471 = .ok (.dup, 1) := by decide +kernel
theorem dX6_init_472 : decode cX6_init 472 = .ok (.bipush 76, 2) := by decide +kernel
theorem dX6_init_474 : decode cX6_init 474 = .ok (.ldc2_w 89, 3) := by decide +kernel
theorem dX6_init_477 : decode cX6_init 477 = .ok (.lastore, 1) := by decide +kernel
theorem dX6_init_478 : decode cX6_init 478 = .ok (.dup, 1) := by decide +kernel
theorem dX6_init_479 : decode cX6_init 479 = .ok (.bipush 77, 2) := by decide +kernel
theorem dX6_init_481 : decode cX6_init 481 = .ok (.ldc2_w 91, 3) := by decide +kernel
theorem dX6_init_484 : decode cX6_init 484 = .ok (.lastore, 1) := by decide +kernel
theorem dX6_init_485 : decode cX6_init 485 = .ok (.dup, 1) := by decide +kernel
theorem dX6_init_486 : decode cX6_init 486 = .ok (.bipush 78, 2) := by decide +kernel
theorem dX6_init_488 : decode cX6_init 488 = .ok (.lconst 0, 1) := by decide +kernel
theorem dX6_init_489 : decode cX6_init 489 = .ok (.lastore, 1) := by decide +kernel
theorem dX6_init_490 : decode cX6_init 490 = .ok (.dup, 1) := by decide +kernel
theorem dX6_init_491 : decode cX6_init 491 = .ok (.bipush 79, 2) := by decide +kernel
theorem dX6_init_493 : decode cX6_init 493 = .ok (.ldc2_w 93, 3) := by decide +kernel
theorem dX6_init_496 : decode cX6_init 496 = .ok (.lastore, 1) := by decide +kernel
theorem dX6_init_497 : decode cX6_init 497 = .ok (.dup, 1) := by decide +kernel
theorem dX6_init_498 : decode cX6_init 498 = .ok (.bipush 80, 2) := by decide +kernel
theorem dX6_init_500 : decode cX6_init 500 = .ok (.lconst 0, 1) := by decide +kernel
theorem dX6_init_501 : decode cX6_init 501 = .ok (.lastore, 1) := by decide +kernel
theorem dX6_init_502 : decode cX6_init 502 = .ok (.dup, 1) := by decide +kernel
theorem dX6_init_503 : decode cX6_init 503 = .ok (.bipush 81, 2) := by decide +kernel
theorem dX6_init_505 : decode cX6_init 505 = .ok (.ldc2_w 95, 3) := by decide +kernel
theorem dX6_init_508 : decode cX6_init 508 = .ok (.lastore, 1) := by decide +kernel
theorem dX6_init_509 : decode cX6_init 509 = .ok (.dup, 1) := by decide +kernel
theorem dX6_init_510 : decode cX6_init 510 = .ok (.bipush 82, 2) := by decide +kernel
theorem dX6_init_512 : decode cX6_init 512 = .ok (.ldc2_w 97, 3) := by decide +kernel
theorem dX6_init_515 : decode cX6_init 515 = .ok (.lastore, 1) := by decide +kernel
theorem dX6_init_516 : decode cX6_init 516 = .ok (.dup, 1) := by decide +kernel
theorem dX6_init_517 : decode cX6_init 517 = .ok (.bipush 83, 2) := by decide +kernel
theorem dX6_init_519 : decode cX6_init 519 = .ok (.ldc2_w 99, 3) := by decide +kernel
theorem dX6_init_522 : decode cX6_init 522 = .ok (.lastore, 1) := by decide +kernel
theorem dX6_init_523 : decode cX6_init 523 = .ok (.dup, 1) := by decide +kernel
theorem dX6_init_524 : decode cX6_init 524 = .ok (.bipush 84, 2) := by decide +kernel
theorem dX6_init_526 : decode cX6_init 526 = .ok (.lconst 0, 1) := by decide +kernel
theorem dX6_init_527 : decode cX6_init 527 = .ok (.lastore, 1) := by decide +kernel
theorem dX6_init_528 : decode cX6_init 528 = .ok (.dup, 1) := by decide +kernel
theorem dX6_init_529 : decode cX6_init 529 = .ok (.bipush 85, 2) := by decide +kernel
theorem dX6_init_531 : decode cX6_init 531 = .ok (.ldc2_w 101, 3) := by decide +kernel
theorem dX6_init_534 : decode cX6_init 534 = .ok (.lastore, 1) := by decide +kernel
theorem dX6_init_535 : decode cX6_init 535 = .ok (.dup, 1) := by decide +kernel
theorem dX6_init_536 : decode cX6_init 536 = .ok (.bipush 86, 2) := by decide +kernel
theorem dX6_init_538 : decode cX6_init 538 = .ok (.ldc2_w 103, 3) := by decide +kernel
theorem dX6_init_541 : decode cX6_init 541 = .ok (.lastore, 1) := by decide +kernel
theorem dX6_init_542 : decode cX6_init 542 = .ok (.dup, 1) := by decide +kernel
theorem dX6_init_543 : decode cX6_init 543 = .ok (.bipush 87, 2) := by decide +kernel
theorem dX6_init_545 : decode cX6_init 545 = .ok (.lconst 0, 1) := by decide +kernel
theorem dX6_init_546 : decode cX6_init 546 = .ok (.lastore, 1) := by decide +kernel
theorem dX6_init_547 : decode cX6_init 547 = .ok (.dup, 1) := by decide +kernel
theorem dX6_init_548 : decode cX6_init 548 = .ok (.bipush 88, 2) := by decide +kernel
theorem dX6_init_550 : decode cX6_init 550 = .ok (.ldc2_w 105, 3) := by decide +kernel
theorem dX6_init_553 : decode cX6_init 553 = .ok (.lastore, 1) := by decide +kernel
theorem dX6_init_554 : decode cX6_init 554 = .ok (.dup, 1) := by decide +kernel
theorem dX6_init_555 : decode cX6_init 555 = .ok (.bipush 89, 2) := by decide +kernel
theorem dX6_init_557 : decode cX6_init 557 = .ok (.lconst 0, 1) := by decide +kernel
theorem dX6_init_558 : decode cX6_init 558 = .ok (.lastore, 1) := by decide +kernel
theorem dX6_init_559 : decode cX6_init 559 = .ok (.dup, 1) := by decide +kernel
theorem dX6_init_560 : decode cX6_init 560 = .ok (.bipush 90, 2) := by decide +kernel
theorem dX6_init_562 : decode cX6_init 562 = .ok (.ldc2_w 107, 3) := by decide +kernel
theorem dX6_init_565 : decode cX6_init 565 = .ok (.lastore, 1) := by decide +kernel
theorem dX6_init_566 : decode cX6_init 566 = .ok (.dup, 1) := by decide +kernel
theorem dX6_init_567 : decode cX6_init 567 = .ok (.bipush 91, 2) := by decide +kernel
theorem dX6_init_569 : decode cX6_init 569 = .ok (.lconst 0, 1) := by decide +kernel
theorem dX6_init_570 : decode cX6_init 570 = .ok (.lastore, 1) := by decide +kernel
theorem dX6_init_571 : decode cX6_init 571 = .ok (.dup, 1) := by decide +kernel
theorem dX6_init_572 : decode cX6_init 572 = .ok (.bipush 92, 2) := by decide +kernel
theorem dX6_init_574 : decode cX6_init 574 = .ok (.ldc2_w 109, 3) := by decide +kernel
theorem dX6_init_577 : decode cX6_init 577 = .ok (.lastore, 1) := by decide +kernel
theorem dX6_init_578 : decode cX6_init 578 = .ok (.dup, 1) := by decide +kernel
theorem dX6_init_579 : decode cX6_init 579 = .ok (.bipush 93, 2) := by decide +kernel
theorem dX6_init_581 : decode cX6_init 581 = .ok (.lconst 0, 1) := by decide +kernel
theorem dX6_init_582 : decode cX6_init 582 = .ok (.lastore, 1) := by decide +kernel
theorem dX6_init_583 : decode cX6_init 583 = .ok (.dup, 1) := by decide +kernel
theorem dX6_init_584 : decode cX6_init 584 = .ok (.bipush 94, 2) := by decide +kernel
theorem dX6_init_586 : decode cX6_init 586 = .ok (.ldc2_w 111, 3) := by decide +kernel
theorem dX6_init_589 : decode cX6_init 589 = .ok (.lastore, 1) := by decide +kernel
theorem dX6_init_590 : decode cX6_init 590 = .ok (.dup, 1) := by decide +kernel
theorem dX6_init_591 : decode cX6_init 591 = .ok (.bipush 95, 2) := by decide +kernel
theorem dX6_init_593 : decode cX6_init 593 = .ok (.lconst 0, 1) := by decide +kernel
theorem dX6_init_594 : decode cX6_init 594 = .ok (.lastore, 1) := by decide +kernel
theorem dX6_init_595 : decode cX6_init 595 = .ok (.dup, 1) := by decide +kernel
theorem dX6_init_596 : decode cX6_init 596 = .ok (.bipush 96, 2) := by decide +kernel
theorem dX6_init_598 : decode cX6_init 598 = .ok (.ldc2_w 113, 3) := by decide +kernel
theorem dX6_init_601 : decode cX6_init 601 = .ok (.lastore, 1) := by decide +kernel
theorem dX6_init_602 : decode cX6_init 602 = .ok (.dup, 1) := by decide +kernel
theorem dX6_init_603 : decode cX6_init 603 = .ok (.bipush 97, 2) := by decide +kernel
theorem dX6_init_605 : decode cX6_init 605 = .ok (.lconst 0, 1) := by decide +kernel
theorem dX6_init_606 : decode cX6_init 606 = .ok (.lastore, 1) := by decide +kernel
theorem dX6_init_607 : decode cX6_init 607 = .ok (.putfield 115, 3) := by decide +kernel
theorem dX6_init_610 : decode cX6_init 610 = .ok (.aload_n 0, 1) := by decide +kernel
theorem dX6_init_611 : decode cX6_init 611 = .ok (.sipush 404, 3) := by decide +kernel
theorem dX6_init_614 : decode cX6_init 614 = .ok (.newarray .int, 2) := by decide +kernel
theorem dX6_init_616 : decode cX6_init 616 = .ok (.putfield 121, 3) := by decide +kernel
theorem dX6_init_619 : decode cX6_init 619 = .ok (.aload_n 0, 1) := by decide +kernel
theorem dX6_init_620 : decode cX6_init 620 = .ok (.sipush 404, 3) := by decide +kernel
theorem dX6_init_623 : decode cX6_init 623 = .ok (.newarray .int, 2) := by decide +kernel
theorem dX6_init_625 : decode cX6_init 625 = .ok (.putfield 125, 3) := by decide +kernel
theorem dX6_init_628 : decode cX6_init 628 = .ok (.aload_n 0, 1) := by decide +kernel
theorem dX6_init_629 : decode cX6_init 629 = .ok (.sipush 301, 3) := by decide +kernel
theorem dX6_init_632 : decode cX6_init 632 = .ok (.newarray .int, 2) := by decide +kernel
theorem dX6_init_634 : decode cX6_init 634 = .ok (.putfield 128, 3) := by decide +kernel
theorem dX6_init_637 : decode cX6_init 637 = .ok (.aload_n 0, 1) := by decide +kernel
theorem dX6_init_638 : decode cX6_init 638 = .ok (.sipush 301, 3) := by decide +kernel
theorem dX6_init_641 : decode cX6_init 641 = .ok (.newarray .int, 2) := by decide +kernel
theorem dX6_init_643 : decode cX6_init 643 = .ok (.putfield 131, 3) := by decide +kernel
theorem dX6_init_646 : decode cX6_init 646 = .ok (.aload_n 0, 1) := by decide +kernel
theorem dX6_init_647 : decode cX6_init 647 = .ok (.sipush 301, 3) := by decide +kernel
theorem dX6_init_650 : decode cX6_init 650 = .ok (.newarray .int, 2) := by decide +kernel
theorem dX6_init_652 : decode cX6_init 652 = .ok (.putfield 134, 3) := by decide +kernel
theorem dX6_init_655 : decode cX6_init 655 = .ok (.aload_n 0, 1) := by decide +kernel
theorem dX6_init_656 : decode cX6_init 656 = .ok (.sipush 903, 3) := by decide +kernel
theorem dX6_init_659 : decode cX6_init 659 = .ok (.newarray .int, 2) := by decide +kernel
theorem dX6_init_661 : decode cX6_init 661 = .ok (.putfield 137, 3) := by decide +kernel
theorem dX6_init_664 : decode cX6_init 664 = .ok (.aload_n 0, 1) := by decide +kernel
theorem dX6_init_665 : decode cX6_init 665 = .ok (.sipush 1204, 3) := by decide +kernel
theorem dX6_init_668 : decode cX6_init 668 = .ok (.newarray .int, 2) := by decide +kernel
theorem dX6_init_670 : decode cX6_init 670 = .ok (.putfield 140, 3) := by decide +kernel
theorem dX6_init_673 : decode cX6_init 673 = .ok (.aload_n 0, 1) := by decide +kernel
theorem dX6_init_674 : decode cX6_init 674 = .ok (.sipush 301, 3) := by decide +kernel
theorem dX6_init_677 : decode cX6_init 677 = .ok (.newarray .boolean, 2) := by decide +kernel
theorem dX6_init_679 : decode cX6_init 679 = .ok (.putfield 143, 3) := by decide +kernel
theorem dX6_init_682 : decode cX6_init 682 = .ok (.aload_n 0, 1) := by decide +kernel
theorem dX6_init_683 : decode cX6_init 683 = .ok (.sipush 400, 3) := by decide +kernel
theorem dX6_init_686 : decode cX6_init 686 = .ok (.newarray .int, 2) := by decide +kernel
theorem dX6_init_688 : decode cX6_init 688 = .ok (.putfield 147, 3) := by decide +kernel
theorem dX6_init_691 : decode cX6_init 691 = .ok (.aload_n 0, 1) := by decide +kernel
theorem dX6_init_692 : decode cX6_init 692 = .ok (.sipush 301, 3) := by decide +kernel
theorem dX6_init_695 : decode cX6_init 695 = .ok (.newarray .int, 2) := by decide +kernel
theorem dX6_init_697 : decode cX6_init 697 = .ok (.putfield 150, 3) := by decide +kernel
theorem dX6_init_700 : decode cX6_init 700 = .ok (.aload_n 0, 1) := by decide +kernel
theorem dX6_init_701 : decode cX6_init 701 = .ok (.sipush 301, 3) := by decide +kernel
theorem dX6_init_704 : decode cX6_init 704 = .ok (.newarray .int, 2) := by decide +kernel
theorem dX6_init_706 : decode cX6_init 706 = .ok (.putfield 153, 3) := by decide +kernel
theorem dX6_init_709 : decode cX6_init 709 = .ok (.return_, 1) := by decide +kernel
theorem dX6_isTerm_0 : decode cX6_isTerm 0 = .ok (.iload_n 0, 1) := by decide +kernel
theorem dX6_isTerm_1 : decode cX6_isTerm 1 = .ok (.ifCond .lt 14, 3) := by decide +kernel
theorem dX6_isTerm_4 : decode cX6_isTerm 4 = .ok (.iload_n 0, 1) := by decide +kernel
theorem dX6_isTerm_5 : decode cX6_isTerm 5 = .ok (.sipush 1000, 3) := by decide +kernel
theorem dX6_isTerm_8 : decode cX6_isTerm 8 = .ok (.if_icmp .ge 7, 3) := by decide +kernel
theorem dX6_isTerm_11 : decode cX6_isTerm 11 = .ok (.iconst 1, 1) := by decide +kernel
theorem dX6_isTerm_12 : decode cX6_isTerm 12 = .ok (.goto 4, 3) := by decide +kernel
theorem dX6_isTerm_15 : decode cX6_isTerm 15 = .ok (.iconst 0, 1) := by decide +kernel
theorem dX6_isTerm_16 : decode cX6_isTerm 16 = .ok (.ireturn, 1) := by decide +kernel
set_option maxRecDepth 20000 in
theorem ggX6_axiom_X6_isTerm : GoodIn wsX6_axiom wsX6_isTerm := goodIn_r _ [6] rfl (by decide +kernel)
set_option maxRecDepth 20000 in
theorem gX6_axiom_X6_isTerm : GoodIn wsX6_axiom (va_wsS RX6 156 yX6_isTerm wsX6_isTerm) := goodIn_app (goodIn_of _ (by decide +kernel)) ggX6_axiom_X6_isTerm
theorem dX6_axiom_0 : decode cX6_axiom 0 = .ok (.iload_n 1, 1) := by decide +kernel
theorem dX6_axiom_1 : decode cX6_axiom 1 = .ok (.bipush 6, 2) := by decide +kernel
theorem dX6_axiom_3 : decode cX6_axiom 3 = .ok (.if_icmp .eq 15, 3) := by decide +kernel
theorem dX6_axiom_6 : decode cX6_axiom 6 = .ok (.iload_n 1, 1) := by decide +kernel
theorem dX6_axiom_7 : decode cX6_axiom 7 = .ok (.bipush 7, 2) := by decide +kernel
theorem dX6_axiom_9 : decode cX6_axiom 9 = .ok (.if_icmp .eq 9, 3) := by decide +kernel
theorem dX6_axiom_12 : decode cX6_axiom 12 = .ok (.iload_n 1, 1) := by decide +kernel
theorem dX6_axiom_13 : decode cX6_axiom 13 = .ok (.bipush 9, 2) := by decide +kernel
theorem dX6_axiom_15 : decode cX6_axiom 15 = .ok (.if_icmp .ne 7, 3) := by decide +kernel
theorem dX6_axiom_18 : decode cX6_axiom 18 = .ok (.iconst 1, 1) := by decide +kernel
theorem dX6_axiom_19 : decode cX6_axiom 19 = .ok (.goto 4, 3) := by decide +kernel
theorem dX6_axiom_22 : decode cX6_axiom 22 = .ok (.iconst 0, 1) := by decide +kernel
theorem dX6_axiom_23 : decode cX6_axiom 23 = .ok (.istore 4, 2) := by decide +kernel
theorem dX6_axiom_25 : decode cX6_axiom 25 = .ok (.iload_n 1, 1) := by decide +kernel
theorem dX6_axiom_26 : decode cX6_axiom 26 = .ok (.iconst 1, 1) := by decide +kernel
theorem dX6_axiom_27 : decode cX6_axiom 27 = .ok (.if_icmp .lt 28, 3) := by decide +kernel
theorem dX6_axiom_30 : decode cX6_axiom 30 = .ok (.iload_n 1, 1) := by decide +kernel
theorem dX6_axiom_31 : decode cX6_axiom 31 = .ok (.bipush 10, 2) := by decide +kernel
theorem dX6_axiom_33 : decode cX6_axiom 33 = .ok (.if_icmp .gt 22, 3) := by decide +kernel
theorem dX6_axiom_36 : decode cX6_axiom 36 = .ok (.iload_n 2, 1) := by decide +kernel
theorem dX6_axiom_37 : decode cX6_axiom 37 = .ok (.invokestatic 156, 3) := by decide +kernel
theorem dX6_axiom_40 : decode cX6_axiom 40 = .ok (.ifCond .eq 15, 3) := by decide +kernel
theorem dX6_axiom_43 : decode cX6_axiom 43 = .ok (.iload 4, 2) := by decide +kernel
theorem dX6_axiom_45 : decode cX6_axiom 45 = .ok (.ifCond .ne 13, 3) := by decide +kernel
theorem dX6_axiom_48 : decode cX6_axiom 48 = .ok (.iload_n 3, 1) := by decide +kernel
theorem dX6_axiom_49 : decode cX6_axiom 49 = .ok (.invokestatic 156, 3) := by decide +kernel
theorem dX6_axiom_52 : decode cX6_axiom 52 = .ok (.ifCond .ne 6, 3) := by decide +kernel
theorem dX6_axiom_55 : decode cX6_axiom 55 = .ok (.bipush (-2), 2) := by decide +kernel
theorem dX6_axiom_57 : decode cX6_axiom 57 = .ok (.ireturn, 1) := by decide +kernel
theorem dX6_axiom_58 : decode cX6_axiom 58 = .ok (.aload_n 0, 1) := by decide +kernel
theorem dX6_axiom_59 : decode cX6_axiom 59 = .ok (.getfield 160, 3) := by decide +kernel
theorem dX6_axiom_62 : decode cX6_axiom 62 = .ok (.bipush 100, 2) := by decide +kernel
theorem dX6_axiom_64 : decode cX6_axiom 64 = .ok (.if_icmp .ne 6, 3) := by decide +kernel
theorem dX6_axiom_67 : decode cX6_axiom 67 = .ok (.bipush (-4), 2) := by decide +kernel
theorem dX6_axiom_69 : decode cX6_axiom 69 = .ok (.ireturn, 1) := by decide +kernel
theorem dX6_axiom_70 : decode cX6_axiom 70 = .ok (.aload_n 0, 1) := by decide +kernel
theorem dX6_axiom_71 : decode cX6_axiom 71 = .ok (.dup, 1) := by decide +kernel
theorem dX6_axiom_72 : decode cX6_axiom 72 = .ok (.getfield 160, 3) := by decide +kernel
theorem dX6_axiom_75 : decode cX6_axiom 75 = .ok (.iconst 1, 1) := by decide +kernel
theorem dX6_axiom_76 : decode cX6_axiom 76 = .ok (.iadd, 1) := by decide +kernel
theorem dX6_axiom_77 : decode cX6_axiom 77 = .ok (.putfield 160, 3) := by decide +kernel
theorem dX6_axiom_80 : decode cX6_axiom 80 = .ok (.aload_n 0, 1) := by decide +kernel
theorem dX6_axiom_81 : decode cX6_axiom 81 = .ok (.getfield 121, 3) := by decide +kernel
theorem dX6_axiom_84 : decode cX6_axiom 84 = .ok (.iconst 4, 1) := by decide +kernel
theorem dX6_axiom_85 : decode cX6_axiom 85 = .ok (.aload_n 0, 1) := by decide +kernel
theorem dX6_axiom_86 : decode cX6_axiom 86 = .ok (.getfield 160, 3) := by decide +kernel
theorem dX6_axiom_89 : decode cX6_axiom 89 = .ok (.imul, 1) := by decide +kernel
theorem dX6_axiom_90 : decode cX6_axiom 90 = .ok (.iload_n 1, 1) := by decide +kernel
theorem dX6_axiom_91 : decode cX6_axiom 91 = .ok (.iastore, 1) := by decide +kernel
theorem dX6_axiom_92 : decode cX6_axiom 92 = .ok (.aload_n 0, 1) := by decide +kernel
theorem dX6_axiom_93 : decode cX6_axiom 93 = .ok (.getfield 121, 3) := by decide +kernel
theorem dX6_axiom_96 : decode cX6_axiom 96 = .ok (.iconst 4, 1) := by decide +kernel
theorem dX6_axiom_97 : decode cX6_axiom 97 = .ok (.aload_n 0, 1) := by decide +kernel
theorem dX6_axiom_98 : decode cX6_axiom 98 = .ok (.getfield 160, 3) := by decide +kernel
theorem dX6_axiom_101 : decode cX6_axiom 101 = .ok (.imul, 1) := by decide +kernel
theorem dX6_axiom_102 : decode cX6_axiom 102 = .ok (.iconst 1, 1) := by decide +kernel
theorem dX6_axiom_103 : decode cX6_axiom 103 = .ok (.iadd, 1) := by decide +kernel
theorem dX6_axiom_104 : decode cX6_axiom 104 = .ok (.iload_n 2, 1) := by decide +kernel
theorem dX6_axiom_105 : decode cX6_axiom 105 = .ok (.iastore, 1) := by decide +kernel
theorem dX6_axiom_106 : decode cX6_axiom 106 = .ok (.aload_n 0, 1) := by decide +kernel
theorem dX6_axiom_107 : decode cX6_axiom 107 = .ok (.getfield 121, 3) := by decide +kernel
theorem dX6_axiom_110 : decode cX6_axiom 110 = .ok (.iconst 4, 1) := by decide +kernel
theorem dX6_axiom_111 : decode cX6_axiom 111 = .ok (.aload_n 0, 1) := by decide +kernel
theorem dX6_axiom_112 : decode cX6_axiom 112 = .ok (.getfield 160, 3) := by decide +kernel
theorem dX6_axiom_115 : decode cX6_axiom 115 = .ok (.imul, 1) := by decide +kernel
theorem dX6_axiom_116 : decode cX6_axiom 116 = .ok (.iconst 2, 1) := by decide +kernel
theorem dX6_axiom_117 : decode cX6_axiom 117 = .ok (.iadd, 1) := by decide +kernel
theorem dX6_axiom_118 : decode cX6_axiom 118 = .ok (.iload 4, 2) := by decide +kernel
theorem dX6_axiom_120 : decode cX6_axiom 120 = .ok (.ifCond .eq 7, 3) := by decide +kernel
theorem dX6_axiom_123 : decode cX6_axiom 123 = .ok (.iconst 0, 1) := by decide +kernel
theorem dX6_axiom_124 : decode cX6_axiom 124 = .ok (.goto 4, 3) := by decide +kernel
theorem dX6_axiom_127 : decode cX6_axiom 127 = .ok (.iload_n 3, 1) := by decide +kernel
theorem dX6_axiom_128 : decode cX6_axiom 128 = .ok (.iastore, 1) := by decide +kernel
theorem dX6_axiom_129 : decode cX6_axiom 129 = .ok (.aload_n 0, 1) := by decide +kernel
theorem dX6_axiom_130 : decode cX6_axiom 130 = .ok (.getfield 121, 3) := by decide +kernel
theorem dX6_axiom_133 : decode cX6_axiom 133 = .ok (.iconst 4, 1) := by decide +kernel
theorem dX6_axiom_134 : decode cX6_axiom 134 = .ok (.aload_n 0, 1) := by decide +kernel
theorem dX6_axiom_135 : decode cX6_axiom 135 = .ok (.getfield 160, 3) := by decide +kernel
theorem dX6_axiom_138 : decode cX6_axiom 138 = .ok (.imul, 1) := by decide +kernel
theorem dX6_axiom_139 : decode cX6_axiom 139 = .ok (.iconst 3, 1) := by decide +kernel
theorem dX6_axiom_140 : decode cX6_axiom 140 = .ok (.iadd, 1) := by decide +kernel
theorem dX6_axiom_141 : decode cX6_axiom 141 = .ok (.iconst 0, 1) := by decide +kernel
theorem dX6_axiom_142 : decode cX6_axiom 142 = .ok (.iastore, 1) := by decide +kernel
theorem dX6_axiom_143 : decode cX6_axiom 143 = .ok (.aload_n 0, 1) := by decide +kernel
theorem dX6_axiom_144 : decode cX6_axiom 144 = .ok (.getfield 160, 3) := by decide +kernel
theorem dX6_axiom_147 : decode cX6_axiom 147 = .ok (.ireturn, 1) := by decide +kernel
set_option maxRecDepth 20000 in
theorem ggX6_triple_X6_isTerm : GoodIn wsX6_triple wsX6_isTerm := goodIn_r _ [6] rfl (by decide +kernel)
set_option maxRecDepth 20000 in
theorem gX6_triple_X6_isTerm : GoodIn wsX6_triple (va_wsS RX6 156 yX6_isTerm wsX6_isTerm) := goodIn_app (goodIn_of _ (by decide +kernel)) ggX6_triple_X6_isTerm
theorem dX6_triple_0 : decode cX6_triple 0 = .ok (.iload_n 1, 1) := by decide +kernel
theorem dX6_triple_1 : decode cX6_triple 1 = .ok (.invokestatic 156, 3) := by decide +kernel
theorem dX6_triple_4 : decode cX6_triple 4 = .ok (.ifCond .eq 17, 3) := by decide +kernel
theorem dX6_triple_7 : decode cX6_triple 7 = .ok (.iload_n 2, 1) := by decide +kernel
theorem dX6_triple_8 : decode cX6_triple 8 = .ok (.invokestatic 156, 3) := by decide +kernel
theorem dX6_triple_11 : decode cX6_triple 11 = .ok (.ifCond .eq 10, 3) := by decide +kernel
theorem dX6_triple_14 : decode cX6_triple 14 = .ok (.iload_n 3, 1) := by decide +kernel
theorem dX6_triple_15 : decode cX6_triple 15 = .ok (.invokestatic 156, 3) := by decide +kernel
theorem dX6_triple_18 : decode cX6_triple 18 = .ok (.ifCond .ne 6, 3) := by decide +kernel
theorem dX6_triple_21 : decode cX6_triple 21 = .ok (.bipush (-2), 2) := by decide +kernel
theorem dX6_triple_23 : decode cX6_triple 23 = .ok (.ireturn, 1) := by decide +kernel
theorem dX6_triple_24 : decode cX6_triple 24 = .ok (.iconst 1, 1) := by decide +kernel
theorem dX6_triple_25 : decode cX6_triple 25 = .ok (.istore 4, 2) := by decide +kernel
theorem dX6_triple_27 : decode cX6_triple 27 = .ok (.iload 4, 2) := by decide +kernel
theorem dX6_triple_29 : decode cX6_triple 29 = .ok (.aload_n 0, 1) := by decide +kernel
theorem dX6_triple_30 : decode cX6_triple 30 = .ok (.getfield 164, 3) := by decide +kernel
theorem dX6_triple_33 : decode cX6_triple 33 = .ok (.if_icmp .gt 57, 3) := by decide +kernel
theorem dX6_triple_36 : decode cX6_triple 36 = .ok (.aload_n 0, 1) := by decide +kernel
theorem dX6_triple_37 : decode cX6_triple 37 = .ok (.getfield 125, 3) := by decide +kernel
theorem dX6_triple_40 : decode cX6_triple 40 = .ok (.iconst 4, 1) := by decide +kernel
theorem dX6_triple_41 : decode cX6_triple 41 = .ok (.iload 4, 2) := by decide +kernel
theorem dX6_triple_43 : decode cX6_triple 43 = .ok (.imul, 1) := by decide +kernel
theorem dX6_triple_44 : decode cX6_triple 44 = .ok (.iconst 1, 1) := by decide +kernel
theorem dX6_triple_45 : decode cX6_triple 45 = .ok (.iadd, 1) := by decide +kernel
theorem dX6_triple_46 : decode cX6_triple 46 = .ok (.iaload, 1) := by decide +kernel
theorem dX6_triple_47 : decode cX6_triple 47 = .ok (.iload_n 1, 1) := by decide +kernel
theorem dX6_triple_48 : decode cX6_triple 48 = .ok (.if_icmp .ne 36, 3) := by decide +kernel
theorem dX6_triple_51 : decode cX6_triple 51 = .ok (.aload_n 0, 1) := by decide +kernel
theorem dX6_triple_52 : decode cX6_triple 52 = .ok (.getfield 125, 3) := by decide +kernel
theorem dX6_triple_55 : decode cX6_triple 55 = .ok (.iconst 4, 1) := by decide +kernel
theorem dX6_triple_56 : decode cX6_triple 56 = .ok (.iload 4, 2) := by decide +kernel
theorem dX6_triple_58 : decode cX6_triple 58 = .ok (.imul, 1) := by decide +kernel
theorem dX6_triple_59 : decode cX6_triple 59 = .ok (.iconst 2, 1) := by decide +kernel
theorem dX6_triple_60 : decode cX6_triple 60 = .ok (.iadd, 1) := by decide +kernel
theorem dX6_triple_61 : decode cX6_triple 61 = .ok (.iaload, 1) := by decide +kernel
theorem dX6_triple_62 : decode cX6_triple 62 = .ok (.iload_n 2, 1) := by decide +kernel
theorem dX6_triple_63 : decode cX6_triple 63 = .ok (.if_icmp .ne 21, 3) := by decide +kernel
theorem dX6_triple_66 : decode cX6_triple 66 = .ok (.aload_n 0, 1) := by decide +kernel
theorem dX6_triple_67 : decode cX6_triple 67 = .ok (.getfield 125, 3) := by decide +kernel
theorem dX6_triple_70 : decode cX6_triple 70 = .ok (.iconst 4, 1) := by decide +kernel
theorem dX6_triple_71 : decode cX6_triple 71 = .ok (.iload 4, 2) := by decide +kernel
theorem dX6_triple_73 : decode cX6_triple 73 = .ok (.imul, 1) := by decide +kernel
theorem dX6_triple_74 : decode cX6_triple 74 = .ok (.iconst 3, 1) := by decide +kernel
theorem dX6_triple_75 : decode cX6_triple 75 = .ok (.iadd, 1) := by decide +kernel
theorem dX6_triple_76 : decode cX6_triple 76 = .ok (.iaload, 1) := by decide +kernel
theorem dX6_triple_77 : decode cX6_triple 77 = .ok (.iload_n 3, 1) := by decide +kernel
theorem dX6_triple_78 : decode cX6_triple 78 = .ok (.if_icmp .ne 6, 3) := by decide +kernel
theorem dX6_triple_81 : decode cX6_triple 81 = .ok (.iload 4, 2) := by decide +kernel
theorem dX6_triple_83 : decode cX6_triple 83 = .ok (.ireturn, 1) := by decide +kernel
theorem dX6_triple_84 : decode cX6_triple 84 = .ok (.iinc 4 1, 3) := by decide +kernel
theorem dX6_triple_87 : decode cX6_triple 87 = .ok (.goto (-60), 3) := by decide +kernel
theorem dX6_triple_90 : decode cX6_triple 90 = .ok (.aload_n 0, 1) := by decide +kernel
theorem dX6_triple_91 : decode cX6_triple 91 = .ok (.getfield 164, 3) := by decide +kernel
theorem dX6_triple_94 : decode cX6_triple 94 = .ok (.bipush 100, 2) := by decide +kernel
theorem dX6_triple_96 : decode cX6_triple 96 = .ok (.if_icmp .ne 6, 3) := by decide +kernel
theorem dX6_triple_99 : decode cX6_triple 99 = .ok (.bipush (-4), 2) := by decide +kernel
theorem dX6_triple_101 : decode cX6_triple 101 = .ok (.ireturn, 1) := by decide +kernel
theorem dX6_triple_102 : decode cX6_triple 102 = .ok (.aload_n 0, 1) := by decide +kernel
theorem dX6_triple_103 : decode cX6_triple 103 = .ok (.dup, 1) := by decide +kernel
theorem dX6_triple_104 : decode cX6_triple 104 = .ok (.getfield 164, 3) := by decide +kernel
theorem dX6_triple_107 : decode cX6_triple 107 = .ok (.iconst 1, 1) := by decide +kernel
theorem dX6_triple_108 : decode cX6_triple 108 = .ok (.iadd, 1) := by decide +kernel
theorem dX6_triple_109 : decode cX6_triple 109 = .ok (.putfield 164, 3) := by decide +kernel
theorem dX6_triple_112 : decode cX6_triple 112 = .ok (.aload_n 0, 1) := by decide +kernel
theorem dX6_triple_113 : decode cX6_triple 113 = .ok (.getfield 125, 3) := by decide +kernel
theorem dX6_triple_116 : decode cX6_triple 116 = .ok (.iconst 4, 1) := by decide +kernel
theorem dX6_triple_117 : decode cX6_triple 117 = .ok (.aload_n 0, 1) := by decide +kernel
theorem dX6_triple_118 : decode cX6_triple 118 = .ok (.getfield 164, 3) := by decide +kernel
theorem dX6_triple_121 : decode cX6_triple 121 = .ok (.imul, 1) := by decide +kernel
theorem dX6_triple_122 : decode cX6_triple 122 = .ok (.bipush 11, 2) := by decide +kernel
theorem dX6_triple_124 : decode cX6_triple 124 = .ok (.iastore, 1) := by decide +kernel
theorem dX6_triple_125 : decode cX6_triple 125 = .ok (.aload_n 0, 1) := by decide +kernel
theorem dX6_triple_126 : decode cX6_triple 126 = .ok (.getfield 125, 3) := by decide +kernel
theorem dX6_triple_129 : decode cX6_triple 129 = .ok (.iconst 4, 1) := by decide +kernel
theorem dX6_triple_130 : decode cX6_triple 130 = .ok (.aload_n 0, 1) := by decide +kernel
theorem dX6_triple_131 : decode cX6_triple 131 = .ok (.getfield 164, 3) := by decide +kernel
theorem dX6_triple_134 : decode cX6_triple 134 = .ok (.imul, 1) := by decide +kernel
theorem dX6_triple_135 : decode cX6_triple 135 = .ok (.iconst 1, 1) := by decide +kernel
theorem dX6_triple_136 : decode cX6_triple 136 = .ok (.iadd, 1) := by decide +kernel
theorem dX6_triple_137 : decode cX6_triple 137 = .ok (.iload_n 1, 1) := by decide +kernel
theorem dX6_triple_138 : decode cX6_triple 138 = .ok (.iastore, 1) := by decide +kernel
theorem dX6_triple_139 : decode cX6_triple 139 = .ok (.aload_n 0, 1) := by decide +kernel
theorem dX6_triple_140 : decode cX6_triple 140 = .ok (.getfield 125, 3) := by decide +kernel
theorem dX6_triple_143 : decode cX6_triple 143 = .ok (.iconst 4, 1) := by decide +kernel
theorem dX6_triple_144 : decode cX6_triple 144 = .ok (.aload_n 0, 1) := by decide +kernel
theorem dX6_triple_145 : decode cX6_triple 145 = .ok (.getfield 164, 3) := by decide +kernel
theorem dX6_triple_148 : decode cX6_triple 148 = .ok (.imul, 1) := by decide +kernel
theorem dX6_triple_149 : decode cX6_triple 149 = .ok (.iconst 2, 1) := by decide +kernel
theorem dX6_triple_150 : decode cX6_triple 150 = .ok (.iadd, 1) := by decide +kernel
theorem dX6_triple_151 : decode cX6_triple 151 = .ok (.iload_n 2, 1) := by decide +kernel
theorem dX6_triple_152 : decode cX6_triple 152 = .ok (.iastore, 1) := by decide +kernel
theorem dX6_triple_153 : decode cX6_triple 153 = .ok (.aload_n 0, 1) := by decide +kernel
theorem dX6_triple_154 : decode cX6_triple 154 = .ok (.getfield 125, 3) := by decide +kernel
theorem dX6_triple_157 : decode cX6_triple 157 = .ok (.iconst 4, 1) := by decide +kernel
theorem dX6_triple_158 : decode cX6_triple 158 = .ok (.aload_n 0, 1) := by decide +kernel
theorem dX6_triple_159 : decode cX6_triple 159 = .ok (.getfield 164, 3) := by decide +kernel
theorem dX6_triple_162 : decode cX6_triple 162 = .ok (.imul, 1) := by decide +kernel
theorem dX6_triple_163 : decode cX6_triple 163 = .ok (.iconst 3, 1) := by decide +kernel
theorem dX6_triple_164 : decode cX6_triple 164 = .ok (.iadd, 1) := by decide +kernel
theorem dX6_triple_165 : decode cX6_triple 165 = .ok (.iload_n 3, 1) := by decide +kernel
theorem dX6_triple_166 : decode cX6_triple 166 = .ok (.iastore, 1) := by decide +kernel
theorem dX6_triple_167 : decode cX6_triple 167 = .ok (.aload_n 0, 1) := by decide +kernel
theorem dX6_triple_168 : decode cX6_triple 168 = .ok (.getfield 164, 3) := by decide +kernel
theorem dX6_triple_171 : decode cX6_triple 171 = .ok (.ireturn, 1) := by decide +kernel
theorem dX6_takes_0 : decode cX6_takes 0 = .ok (.iload_n 0, 1) := by decide +kernel
theorem dX6_takes_1 : decode cX6_takes 1 = .ok (.iconst 3, 1) := by decide +kernel
theorem dX6_takes_2 : decode cX6_takes 2 = .ok (.if_icmp .ge 5, 3) := by decide +kernel
theorem dX6_takes_5 : decode cX6_takes 5 = .ok (.iconst 0, 1) := by decide +kernel
theorem dX6_takes_6 : decode cX6_takes 6 = .ok (.ireturn, 1) := by decide +kernel
theorem dX6_takes_7 : decode cX6_takes 7 = .ok (.iload_n 0, 1) := by decide +kernel
theorem dX6_takes_8 : decode cX6_takes 8 = .ok (.bipush 12, 2) := by decide +kernel
theorem dX6_takes_10 : decode cX6_takes 10 = .ok (.if_icmp .eq 9, 3) := by decide +kernel
theorem dX6_takes_13 : decode cX6_takes 13 = .ok (.iload_n 0, 1) := by decide +kernel
theorem dX6_takes_14 : decode cX6_takes 14 = .ok (.bipush 17, 2) := by decide +kernel
theorem dX6_takes_16 : decode cX6_takes 16 = .ok (.if_icmp .ne 5, 3) := by decide +kernel
theorem dX6_takes_19 : decode cX6_takes 19 = .ok (.iconst 1, 1) := by decide +kernel
theorem dX6_takes_20 : decode cX6_takes 20 = .ok (.ireturn, 1) := by decide +kernel
theorem dX6_takes_21 : decode cX6_takes 21 = .ok (.iload_n 0, 1) := by decide +kernel
theorem dX6_takes_22 : decode cX6_takes 22 = .ok (.bipush 10, 2) := by decide +kernel
theorem dX6_takes_24 : decode cX6_takes 24 = .ok (.if_icmp .eq 15, 3) := by decide +kernel
theorem dX6_takes_27 : decode cX6_takes 27 = .ok (.iload_n 0, 1) := by decide +kernel
theorem dX6_takes_28 : decode cX6_takes 28 = .ok (.bipush 14, 2) := by decide +kernel
theorem dX6_takes_30 : decode cX6_takes 30 = .ok (.if_icmp .eq 9, 3) := by decide +kernel
theorem dX6_takes_33 : decode cX6_takes 33 = .ok (.iload_n 0, 1) := by decide +kernel
theorem dX6_takes_34 : decode cX6_takes 34 = .ok (.bipush 15, 2) := by decide +kernel
theorem dX6_takes_36 : decode cX6_takes 36 = .ok (.if_icmp .ne 7, 3) := by decide +kernel
theorem dX6_takes_39 : decode cX6_takes 39 = .ok (.iconst 3, 1) := by decide +kernel
theorem dX6_takes_40 : decode cX6_takes 40 = .ok (.goto 4, 3) := by decide +kernel
theorem dX6_takes_43 : decode cX6_takes 43 = .ok (.iconst 2, 1) := by decide +kernel
theorem dX6_takes_44 : decode cX6_takes 44 = .ok (.ireturn, 1) := by decide +kernel
theorem dX6_isRow_0 : decode cX6_isRow 0 = .ok (.iload_n 1, 1) := by decide +kernel
theorem dX6_isRow_1 : decode cX6_isRow 1 = .ok (.ifCond .le 15, 3) := by decide +kernel
theorem dX6_isRow_4 : decode cX6_isRow 4 = .ok (.iload_n 1, 1) := by decide +kernel
theorem dX6_isRow_5 : decode cX6_isRow 5 = .ok (.aload_n 0, 1) := by decide +kernel
theorem dX6_isRow_6 : decode cX6_isRow 6 = .ok (.getfield 167, 3) := by decide +kernel
theorem dX6_isRow_9 : decode cX6_isRow 9 = .ok (.if_icmp .gt 7, 3) := by decide +kernel
theorem dX6_isRow_12 : decode cX6_isRow 12 = .ok (.iconst 1, 1) := by decide +kernel
theorem dX6_isRow_13 : decode cX6_isRow 13 = .ok (.goto 4, 3) := by decide +kernel
theorem dX6_isRow_16 : decode cX6_isRow 16 = .ok (.iconst 0, 1) := by decide +kernel
theorem dX6_isRow_17 : decode cX6_isRow 17 = .ok (.ireturn, 1) := by decide +kernel
set_option maxRecDepth 20000 in
theorem ggX6_isInstance_X6_isTerm : GoodIn wsX6_isInstance wsX6_isTerm := goodIn_r _ [6] rfl (by decide +kernel)
set_option maxRecDepth 20000 in
theorem gX6_isInstance_X6_isTerm : GoodIn wsX6_isInstance (va_wsS RX6 156 yX6_isTerm wsX6_isTerm) := goodIn_app (goodIn_of _ (by decide +kernel)) ggX6_isInstance_X6_isTerm
theorem dX6_isInstance_0 : decode cX6_isInstance 0 = .ok (.iload_n 1, 1) := by decide +kernel
theorem dX6_isInstance_1 : decode cX6_isInstance 1 = .ok (.ifCond .ne 21, 3) := by decide +kernel
theorem dX6_isInstance_4 : decode cX6_isInstance 4 = .ok (.iload_n 2, 1) := by decide +kernel
theorem dX6_isInstance_5 : decode cX6_isInstance 5 = .ok (.ifCond .le 15, 3) := by decide +kernel
theorem dX6_isInstance_8 : decode cX6_isInstance 8 = .ok (.iload_n 2, 1) := by decide +kernel
theorem dX6_isInstance_9 : decode cX6_isInstance 9 = .ok (.aload_n 0, 1) := by decide +kernel
theorem dX6_isInstance_10 : decode cX6_isInstance 10 = .ok (.getfield 160, 3) := by decide +kernel
theorem dX6_isInstance_13 : decode cX6_isInstance 13 = .ok (.if_icmp .gt 7, 3) := by decide +kernel
theorem dX6_isInstance_16 : decode cX6_isInstance 16 = .ok (.iconst 1, 1) := by decide +kernel
theorem dX6_isInstance_17 : decode cX6_isInstance 17 = .ok (.goto 4, 3) := by decide +kernel
theorem dX6_isInstance_20 : decode cX6_isInstance 20 = .ok (.iconst 0, 1) := by decide +kernel
theorem dX6_isInstance_21 : decode cX6_isInstance 21 = .ok (.ireturn, 1) := by decide +kernel
theorem dX6_isInstance_22 : decode cX6_isInstance 22 = .ok (.iload_n 1, 1) := by decide +kernel
theorem dX6_isInstance_23 : decode cX6_isInstance 23 = .ok (.iconst 1, 1) := by decide +kernel
theorem dX6_isInstance_24 : decode cX6_isInstance 24 = .ok (.if_icmp .eq 9, 3) := by decide +kernel
theorem dX6_isInstance_27 : decode cX6_isInstance 27 = .ok (.iload_n 1, 1) := by decide +kernel
theorem dX6_isInstance_28 : decode cX6_isInstance 28 = .ok (.bipush 17, 2) := by decide +kernel
theorem dX6_isInstance_30 : decode cX6_isInstance 30 = .ok (.if_icmp .ne 21, 3) := by decide +kernel
theorem dX6_isInstance_33 : decode cX6_isInstance 33 = .ok (.iload_n 2, 1) := by decide +kernel
theorem dX6_isInstance_34 : decode cX6_isInstance 34 = .ok (.ifCond .le 15, 3) := by decide +kernel
theorem dX6_isInstance_37 : decode cX6_isInstance 37 = .ok (.iload_n 2, 1) := by decide +kernel
theorem dX6_isInstance_38 : decode cX6_isInstance 38 = .ok (.aload_n 0, 1) := by decide +kernel
theorem dX6_isInstance_39 : decode cX6_isInstance 39 = .ok (.getfield 164, 3) := by decide +kernel
theorem dX6_isInstance_42 : decode cX6_isInstance 42 = .ok (.if_icmp .gt 7, 3) := by decide +kernel
theorem dX6_isInstance_45 : decode cX6_isInstance 45 = .ok (.iconst 1, 1) := by decide +kernel
theorem dX6_isInstance_46 : decode cX6_isInstance 46 = .ok (.goto 4, 3) := by decide +kernel
theorem dX6_isInstance_49 : decode cX6_isInstance 49 = .ok (.iconst 0, 1) := by decide +kernel
theorem dX6_isInstance_50 : decode cX6_isInstance 50 = .ok (.ireturn, 1) := by decide +kernel
theorem dX6_isInstance_51 : decode cX6_isInstance 51 = .ok (.iload_n 1, 1) := by decide +kernel
theorem dX6_isInstance_52 : decode cX6_isInstance 52 = .ok (.iconst 2, 1) := by decide +kernel
theorem dX6_isInstance_53 : decode cX6_isInstance 53 = .ok (.if_icmp .ne 10, 3) := by decide +kernel
theorem dX6_isInstance_56 : decode cX6_isInstance 56 = .ok (.iload_n 2, 1) := by decide +kernel
theorem dX6_isInstance_57 : decode cX6_isInstance 57 = .ok (.invokestatic 156, 3) := by decide +kernel
theorem dX6_isInstance_60 : decode cX6_isInstance 60 = .ok (.ifCond .eq 7, 3) := by decide +kernel
theorem dX6_isInstance_63 : decode cX6_isInstance 63 = .ok (.iconst 1, 1) := by decide +kernel
theorem dX6_isInstance_64 : decode cX6_isInstance 64 = .ok (.goto 4, 3) := by decide +kernel
theorem dX6_isInstance_67 : decode cX6_isInstance 67 = .ok (.iconst 0, 1) := by decide +kernel
theorem dX6_isInstance_68 : decode cX6_isInstance 68 = .ok (.ireturn, 1) := by decide +kernel
set_option maxRecDepth 20000 in
theorem ggX6_row_X6_isInstance : GoodIn wsX6_row wsX6_isInstance := goodIn_r _ [9, 10, 11, 12, 13, 8, 14, 27, 28, 29, 30, 31, 32, 33, 34, 35, 36, 37, 38, 39, 40, 41, 42, 43] rfl (by decide +kernel)
set_option maxRecDepth 20000 in
theorem gX6_row_X6_isInstance : GoodIn wsX6_row (wsV RX6 170 RX6 yX6_isInstance wsX6_isInstance) := goodIn_app (goodIn_of _ (by decide +kernel)) ggX6_row_X6_isInstance
set_option maxRecDepth 20000 in
theorem ggX6_row_X6_isRow : GoodIn wsX6_row wsX6_isRow := goodIn_r _ [18, 1, 27, 28, 29, 30, 31, 32, 33, 34, 35, 36, 37, 38, 39, 40, 41, 42, 43] rfl (by decide +kernel)
set_option maxRecDepth 20000 in
theorem gX6_row_X6_isRow : GoodIn wsX6_row (wsV RX6 174 RX6 yX6_isRow wsX6_isRow) := goodIn_app (goodIn_of _ (by decide +kernel)) ggX6_row_X6_isRow
set_option maxRecDepth 20000 in
theorem ggX6_row_X6_takes : GoodIn wsX6_row wsX6_takes := goodIn_r _ [21] rfl (by decide +kernel)
set_option maxRecDepth 20000 in
theorem gX6_row_X6_takes : GoodIn wsX6_row (va_wsS RX6 177 yX6_takes wsX6_takes) := goodIn_app (goodIn_of _ (by decide +kernel)) ggX6_row_X6_takes
set_option maxRecDepth 20000 in
theorem ggX6_row_X6_lay : GoodIn wsX6_row wsX6_lay := goodIn_r _ [25, 26, 4, 27, 28, 29, 30, 31, 32, 33, 34, 35, 36, 37, 38, 39, 40, 41, 42, 43] rfl (by decide +kernel)
set_option maxRecDepth 20000 in
theorem gX6_row_X6_lay : GoodIn wsX6_row (wsV RX6 181 RX6 yX6_lay wsX6_lay) := goodIn_app (goodIn_of _ (by decide +kernel)) ggX6_row_X6_lay
theorem dX6_row_0 : decode cX6_row 0 = .ok (.iload_n 1, 1) := by decide +kernel
theorem dX6_row_1 : decode cX6_row 1 = .ok (.ifCond .lt 47, 3) := by decide +kernel
theorem dX6_row_4 : decode cX6_row 4 = .ok (.iload_n 1, 1) := by decide +kernel
theorem dX6_row_5 : decode cX6_row 5 = .ok (.bipush 17, 2) := by decide +kernel
theorem dX6_row_7 : decode cX6_row 7 = .ok (.if_icmp .gt 41, 3) := by decide +kernel
theorem dX6_row_10 : decode cX6_row 10 = .ok (.aload_n 0, 1) := by decide +kernel
theorem dX6_row_11 : decode cX6_row 11 = .ok (.iload_n 1, 1) := by decide +kernel
theorem dX6_row_12 : decode cX6_row 12 = .ok (.iload_n 2, 1) := by decide +kernel
theorem dX6_row_13 : decode cX6_row 13 = .ok (.invokevirtual 170, 3) := by decide +kernel
theorem dX6_row_16 : decode cX6_row 16 = .ok (.ifCond .eq 32, 3) := by decide +kernel
theorem dX6_row_19 : decode cX6_row 19 = .ok (.iload_n 3, 1) := by decide +kernel
theorem dX6_row_20 : decode cX6_row 20 = .ok (.ifCond .eq 18, 3) := by decide +kernel
theorem dX6_row_23 : decode cX6_row 23 = .ok (.aload_n 0, 1) := by decide +kernel
theorem dX6_row_24 : decode cX6_row 24 = .ok (.iload_n 3, 1) := by decide +kernel
theorem dX6_row_25 : decode cX6_row 25 = .ok (.invokevirtual 174, 3) := by decide +kernel
theorem dX6_row_28 : decode cX6_row 28 = .ok (.ifCond .eq 20, 3) := by decide +kernel
theorem dX6_row_31 : decode cX6_row 31 = .ok (.iload_n 1, 1) := by decide +kernel
theorem dX6_row_32 : decode cX6_row 32 = .ok (.invokestatic 177, 3) := by decide +kernel
theorem dX6_row_35 : decode cX6_row 35 = .ok (.ifCond .eq 13, 3) := by decide +kernel
theorem dX6_row_38 : decode cX6_row 38 = .ok (.aload_n 0, 1) := by decide +kernel
theorem dX6_row_39 : decode cX6_row 39 = .ok (.getfield 167, 3) := by decide +kernel
theorem dX6_row_42 : decode cX6_row 42 = .ok (.sipush 300, 3) := by decide +kernel
theorem dX6_row_45 : decode cX6_row 45 = .ok (.if_icmp .ne 5, 3) := by decide +kernel
theorem dX6_row_48 : decode cX6_row 48 = .ok (.iconst 0, 1) := by decide +kernel
theorem dX6_row_49 : decode cX6_row 49 = .ok (.ireturn, 1) := by decide +kernel
theorem dX6_row_50 : decode cX6_row 50 = .ok (.aload_n 0, 1) := by decide +kernel
theorem dX6_row_51 : decode cX6_row 51 = .ok (.dup, 1) := by decide +kernel
theorem dX6_row_52 : decode cX6_row 52 = .ok (.getfield 167, 3) := by decide +kernel
theorem dX6_row_55 : decode cX6_row 55 = .ok (.iconst 1, 1) := by decide +kernel
theorem dX6_row_56 : decode cX6_row 56 = .ok (.iadd, 1) := by decide +kernel
theorem dX6_row_57 : decode cX6_row 57 = .ok (.putfield 167, 3) := by decide +kernel
theorem dX6_row_60 : decode cX6_row 60 = .ok (.aload_n 0, 1) := by decide +kernel
theorem dX6_row_61 : decode cX6_row 61 = .ok (.getfield 128, 3) := by decide +kernel
theorem dX6_row_64 : decode cX6_row 64 = .ok (.aload_n 0, 1) := by decide +kernel
theorem dX6_row_65 : decode cX6_row 65 = .ok (.getfield 167, 3) := by decide +kernel
theorem dX6_row_68 : decode cX6_row 68 = .ok (.iload_n 1, 1) := by decide +kernel
theorem dX6_row_69 : decode cX6_row 69 = .ok (.iastore, 1) := by decide +kernel
theorem dX6_row_70 : decode cX6_row 70 = .ok (.aload_n 0, 1) := by decide +kernel
theorem dX6_row_71 : decode cX6_row 71 = .ok (.getfield 131, 3) := by decide +kernel
theorem dX6_row_74 : decode cX6_row 74 = .ok (.aload_n 0, 1) := by decide +kernel
theorem dX6_row_75 : decode cX6_row 75 = .ok (.getfield 167, 3) := by decide +kernel
theorem dX6_row_78 : decode cX6_row 78 = .ok (.iload_n 2, 1) := by decide +kernel
theorem dX6_row_79 : decode cX6_row 79 = .ok (.iastore, 1) := by decide +kernel
theorem dX6_row_80 : decode cX6_row 80 = .ok (.aload_n 0, 1) := by decide +kernel
theorem dX6_row_81 : decode cX6_row 81 = .ok (.getfield 134, 3) := by decide +kernel
theorem dX6_row_84 : decode cX6_row 84 = .ok (.aload_n 0, 1) := by decide +kernel
theorem dX6_row_85 : decode cX6_row 85 = .ok (.getfield 167, 3) := by decide +kernel
theorem dX6_row_88 : decode cX6_row 88 = .ok (.iconst 0, 1) := by decide +kernel
theorem dX6_row_89 : decode cX6_row 89 = .ok (.iastore, 1) := by decide +kernel
theorem dX6_row_90 : decode cX6_row 90 = .ok (.iload_n 3, 1) := by decide +kernel
theorem dX6_row_91 : decode cX6_row 91 = .ok (.ifCond .eq 12, 3) := by decide +kernel
theorem dX6_row_94 : decode cX6_row 94 = .ok (.aload_n 0, 1) := by decide +kernel
theorem dX6_row_95 : decode cX6_row 95 = .ok (.aload_n 0, 1) := by decide +kernel
theorem dX6_row_96 : decode cX6_row 96 = .ok (.getfield 167, 3) := by decide +kernel
theorem dX6_row_99 : decode cX6_row 99 = .ok (.iload_n 3, 1) := by decide +kernel
theorem dX6_row_100 : decode cX6_row 100 = .ok (.invokevirtual 181, 3) := by decide +kernel
theorem dX6_row_103 : decode cX6_row 103 = .ok (.aload_n 0, 1) := by decide +kernel
theorem dX6_row_104 : decode cX6_row 104 = .ok (.getfield 167, 3) := by decide +kernel
theorem dX6_row_107 : decode cX6_row 107 = .ok (.ireturn, 1) := by decide +kernel
theorem dX6_lay_0 : decode cX6_lay 0 = .ok (.aload_n 0, 1) := by decide +kernel
theorem dX6_lay_1 : decode cX6_lay 1 = .ok (.getfield 137, 3) := by decide +kernel
theorem dX6_lay_4 : decode cX6_lay 4 = .ok (.iconst 3, 1) := by decide +kernel
theorem dX6_lay_5 : decode cX6_lay 5 = .ok (.iload_n 1, 1) := by decide +kernel
theorem dX6_lay_6 : decode cX6_lay 6 = .ok (.imul, 1) := by decide +kernel
theorem dX6_lay_7 : decode cX6_lay 7 = .ok (.aload_n 0, 1) := by decide +kernel
theorem dX6_lay_8 : decode cX6_lay 8 = .ok (.getfield 134, 3) := by decide +kernel
theorem dX6_lay_11 : decode cX6_lay 11 = .ok (.iload_n 1, 1) := by decide +kernel
theorem dX6_lay_12 : decode cX6_lay 12 = .ok (.iaload, 1) := by decide +kernel
theorem dX6_lay_13 : decode cX6_lay 13 = .ok (.iadd, 1) := by decide +kernel
theorem dX6_lay_14 : decode cX6_lay 14 = .ok (.iload_n 2, 1) := by decide +kernel
theorem dX6_lay_15 : decode cX6_lay 15 = .ok (.iastore, 1) := by decide +kernel
theorem dX6_lay_16 : decode cX6_lay 16 = .ok (.aload_n 0, 1) := by decide +kernel
theorem dX6_lay_17 : decode cX6_lay 17 = .ok (.getfield 134, 3) := by decide +kernel
theorem dX6_lay_20 : decode cX6_lay 20 = .ok (.iload_n 1, 1) := by decide +kernel
theorem dX6_lay_21 : decode cX6_lay 21 = .ok (.dup2, 1) := by decide +kernel
theorem dX6_lay_22 : decode cX6_lay 22 = .ok (.iaload, 1) := by decide +kernel
theorem dX6_lay_23 : decode cX6_lay 23 = .ok (.iconst 1, 1) := by decide +kernel
theorem dX6_lay_24 : decode cX6_lay 24 = .ok (.iadd, 1) := by decide +kernel
theorem dX6_lay_25 : decode cX6_lay 25 = .ok (.iastore, 1) := by decide +kernel
theorem dX6_lay_26 : decode cX6_lay 26 = .ok (.return_, 1) := by decide +kernel
set_option maxRecDepth 20000 in
theorem ggX6_premise_X6_isRow : GoodIn wsX6_premise wsX6_isRow := goodIn_r _ [7, 8, 17, 18, 19, 20, 21, 22, 23, 24, 25, 26, 27, 28, 29, 30, 31, 32, 33] rfl (by decide +kernel)
set_option maxRecDepth 20000 in
theorem gX6_premise_X6_isRow : GoodIn wsX6_premise (wsV RX6 174 RX6 yX6_isRow wsX6_isRow) := goodIn_app (goodIn_of _ (by decide +kernel)) ggX6_premise_X6_isRow
set_option maxRecDepth 20000 in
theorem ggX6_premise_X6_takes : GoodIn wsX6_premise wsX6_takes := goodIn_r _ [11] rfl (by decide +kernel)
set_option maxRecDepth 20000 in
theorem gX6_premise_X6_takes : GoodIn wsX6_premise (va_wsS RX6 177 yX6_takes wsX6_takes) := goodIn_app (goodIn_of _ (by decide +kernel)) ggX6_premise_X6_takes
set_option maxRecDepth 20000 in
theorem ggX6_premise_X6_lay : GoodIn wsX6_premise wsX6_lay := goodIn_r _ [15, 16, 1, 17, 18, 19, 20, 21, 22, 23, 24, 25, 26, 27, 28, 29, 30, 31, 32, 33] rfl (by decide +kernel)
set_option maxRecDepth 20000 in
theorem gX6_premise_X6_lay : GoodIn wsX6_premise (wsV RX6 181 RX6 yX6_lay wsX6_lay) := goodIn_app (goodIn_of _ (by decide +kernel)) ggX6_premise_X6_lay
theorem dX6_premise_0 : decode cX6_premise 0 = .ok (.aload_n 0, 1) := by decide +kernel
theorem dX6_premise_1 : decode cX6_premise 1 = .ok (.iload_n 1, 1) := by decide +kernel
theorem dX6_premise_2 : decode cX6_premise 2 = .ok (.invokevirtual 174, 3) := by decide +kernel
theorem dX6_premise_5 : decode cX6_premise 5 = .ok (.ifCond .eq 11, 3) := by decide +kernel
theorem dX6_premise_8 : decode cX6_premise 8 = .ok (.aload_n 0, 1) := by decide +kernel
theorem dX6_premise_9 : decode cX6_premise 9 = .ok (.iload_n 2, 1) := by decide +kernel
theorem dX6_premise_10 : decode cX6_premise 10 = .ok (.invokevirtual 174, 3) := by decide +kernel
theorem dX6_premise_13 : decode cX6_premise 13 = .ok (.ifCond .ne 5, 3) := by decide +kernel
theorem dX6_premise_16 : decode cX6_premise 16 = .ok (.iconst (-1), 1) := by decide +kernel
theorem dX6_premise_17 : decode cX6_premise 17 = .ok (.ireturn, 1) := by decide +kernel
theorem dX6_premise_18 : decode cX6_premise 18 = .ok (.iload_n 2, 1) := by decide +kernel
theorem dX6_premise_19 : decode cX6_premise 19 = .ok (.iload_n 1, 1) := by decide +kernel
theorem dX6_premise_20 : decode cX6_premise 20 = .ok (.if_icmp .ge 21, 3) := by decide +kernel
theorem dX6_premise_23 : decode cX6_premise 23 = .ok (.aload_n 0, 1) := by decide +kernel
theorem dX6_premise_24 : decode cX6_premise 24 = .ok (.getfield 134, 3) := by decide +kernel
theorem dX6_premise_27 : decode cX6_premise 27 = .ok (.iload_n 1, 1) := by decide +kernel
theorem dX6_premise_28 : decode cX6_premise 28 = .ok (.iaload, 1) := by decide +kernel
theorem dX6_premise_29 : decode cX6_premise 29 = .ok (.aload_n 0, 1) := by decide +kernel
theorem dX6_premise_30 : decode cX6_premise 30 = .ok (.getfield 128, 3) := by decide +kernel
theorem dX6_premise_33 : decode cX6_premise 33 = .ok (.iload_n 1, 1) := by decide +kernel
theorem dX6_premise_34 : decode cX6_premise 34 = .ok (.iaload, 1) := by decide +kernel
theorem dX6_premise_35 : decode cX6_premise 35 = .ok (.invokestatic 177, 3) := by decide +kernel
theorem dX6_premise_38 : decode cX6_premise 38 = .ok (.if_icmp .lt 6, 3) := by decide +kernel
theorem dX6_premise_41 : decode cX6_premise 41 = .ok (.bipush (-3), 2) := by decide +kernel
theorem dX6_premise_43 : decode cX6_premise 43 = .ok (.ireturn, 1) := by decide +kernel
theorem dX6_premise_44 : decode cX6_premise 44 = .ok (.aload_n 0, 1) := by decide +kernel
theorem dX6_premise_45 : decode cX6_premise 45 = .ok (.iload_n 1, 1) := by decide +kernel
theorem dX6_premise_46 : decode cX6_premise 46 = .ok (.iload_n 2, 1) := by decide +kernel
theorem dX6_premise_47 : decode cX6_premise 47 = .ok (.invokevirtual 181, 3) := by decide +kernel
theorem dX6_premise_50 : decode cX6_premise 50 = .ok (.aload_n 0, 1) := by decide +kernel
theorem dX6_premise_51 : decode cX6_premise 51 = .ok (.getfield 134, 3) := by decide +kernel
theorem dX6_premise_54 : decode cX6_premise 54 = .ok (.iload_n 1, 1) := by decide +kernel
theorem dX6_premise_55 : decode cX6_premise 55 = .ok (.iaload, 1) := by decide +kernel
theorem dX6_premise_56 : decode cX6_premise 56 = .ok (.ireturn, 1) := by decide +kernel
theorem dX6_kindOf_0 : decode cX6_kindOf 0 = .ok (.aload_n 0, 1) := by decide +kernel
theorem dX6_kindOf_1 : decode cX6_kindOf 1 = .ok (.getfield 140, 3) := by decide +kernel
theorem dX6_kindOf_4 : decode cX6_kindOf 4 = .ok (.iconst 4, 1) := by decide +kernel
theorem dX6_kindOf_5 : decode cX6_kindOf 5 = .ok (.iload_n 1, 1) := by decide +kernel
theorem dX6_kindOf_6 : decode cX6_kindOf 6 = .ok (.imul, 1) := by decide +kernel
theorem dX6_kindOf_7 : decode cX6_kindOf 7 = .ok (.iaload, 1) := by decide +kernel
theorem dX6_kindOf_8 : decode cX6_kindOf 8 = .ok (.ireturn, 1) := by decide +kernel
theorem dX6_of_0 : decode cX6_of 0 = .ok (.aload_n 0, 1) := by decide +kernel
theorem dX6_of_1 : decode cX6_of 1 = .ok (.getfield 140, 3) := by decide +kernel
theorem dX6_of_4 : decode cX6_of 4 = .ok (.iconst 4, 1) := by decide +kernel
theorem dX6_of_5 : decode cX6_of 5 = .ok (.aload_n 0, 1) := by decide +kernel
theorem dX6_of_6 : decode cX6_of 6 = .ok (.getfield 137, 3) := by decide +kernel
theorem dX6_of_9 : decode cX6_of 9 = .ok (.iconst 3, 1) := by decide +kernel
theorem dX6_of_10 : decode cX6_of 10 = .ok (.iload_n 1, 1) := by decide +kernel
theorem dX6_of_11 : decode cX6_of 11 = .ok (.imul, 1) := by decide +kernel
theorem dX6_of_12 : decode cX6_of 12 = .ok (.iload_n 2, 1) := by decide +kernel
theorem dX6_of_13 : decode cX6_of 13 = .ok (.iadd, 1) := by decide +kernel
theorem dX6_of_14 : decode cX6_of 14 = .ok (.iaload, 1) := by decide +kernel
theorem dX6_of_15 : decode cX6_of 15 = .ok (.imul, 1) := by decide +kernel
theorem dX6_of_16 : decode cX6_of 16 = .ok (.iload_n 3, 1) := by decide +kernel
theorem dX6_of_17 : decode cX6_of 17 = .ok (.iadd, 1) := by decide +kernel
theorem dX6_of_18 : decode cX6_of 18 = .ok (.iaload, 1) := by decide +kernel
theorem dX6_of_19 : decode cX6_of 19 = .ok (.ireturn, 1) := by decide +kernel
set_option maxRecDepth 20000 in
theorem ggX6_is_X6_of : GoodIn wsX6_is wsX6_of := goodIn_r _ [5, 6, 7, 8, 9, 10, 11, 12, 13, 14, 15, 16, 17, 18, 19, 20, 21, 22, 23, 24] rfl (by decide +kernel)
set_option maxRecDepth 20000 in
theorem gX6_is_X6_of : GoodIn wsX6_is (wsV RX6 185 RX6 yX6_of wsX6_of) := goodIn_app (goodIn_of _ (by decide +kernel)) ggX6_is_X6_of
theorem dX6_is_0 : decode cX6_is 0 = .ok (.aload_n 0, 1) := by decide +kernel
theorem dX6_is_1 : decode cX6_is 1 = .ok (.iload_n 1, 1) := by decide +kernel
theorem dX6_is_2 : decode cX6_is 2 = .ok (.iload_n 2, 1) := by decide +kernel
theorem dX6_is_3 : decode cX6_is 3 = .ok (.iconst 0, 1) := by decide +kernel
theorem dX6_is_4 : decode cX6_is 4 = .ok (.invokevirtual 185, 3) := by decide +kernel
theorem dX6_is_7 : decode cX6_is 7 = .ok (.iload_n 3, 1) := by decide +kernel
theorem dX6_is_8 : decode cX6_is 8 = .ok (.if_icmp .ne 7, 3) := by decide +kernel
theorem dX6_is_11 : decode cX6_is 11 = .ok (.iconst 1, 1) := by decide +kernel
theorem dX6_is_12 : decode cX6_is 12 = .ok (.goto 4, 3) := by decide +kernel
theorem dX6_is_15 : decode cX6_is 15 = .ok (.iconst 0, 1) := by decide +kernel
theorem dX6_is_16 : decode cX6_is 16 = .ok (.ireturn, 1) := by decide +kernel
theorem dX6_state_0 : decode cX6_state 0 = .ok (.aload_n 0, 1) := by decide +kernel
theorem dX6_state_1 : decode cX6_state 1 = .ok (.getfield 140, 3) := by decide +kernel
theorem dX6_state_4 : decode cX6_state 4 = .ok (.iconst 4, 1) := by decide +kernel
theorem dX6_state_5 : decode cX6_state 5 = .ok (.iload_n 1, 1) := by decide +kernel
theorem dX6_state_6 : decode cX6_state 6 = .ok (.imul, 1) := by decide +kernel
theorem dX6_state_7 : decode cX6_state 7 = .ok (.iload_n 2, 1) := by decide +kernel
theorem dX6_state_8 : decode cX6_state 8 = .ok (.iastore, 1) := by decide +kernel
theorem dX6_state_9 : decode cX6_state 9 = .ok (.aload_n 0, 1) := by decide +kernel
theorem dX6_state_10 : decode cX6_state 10 = .ok (.getfield 140, 3) := by decide +kernel
theorem dX6_state_13 : decode cX6_state 13 = .ok (.iconst 4, 1) := by decide +kernel
theorem dX6_state_14 : decode cX6_state 14 = .ok (.iload_n 1, 1) := by decide +kernel
theorem dX6_state_15 : decode cX6_state 15 = .ok (.imul, 1) := by decide +kernel
theorem dX6_state_16 : decode cX6_state 16 = .ok (.iconst 1, 1) := by decide +kernel
theorem dX6_state_17 : decode cX6_state 17 = .ok (.iadd, 1) := by decide +kernel
theorem dX6_state_18 : decode cX6_state 18 = .ok (.iload_n 3, 1) := by decide +kernel
theorem dX6_state_19 : decode cX6_state 19 = .ok (.iastore, 1) := by decide +kernel
theorem dX6_state_20 : decode cX6_state 20 = .ok (.aload_n 0, 1) := by decide +kernel
theorem dX6_state_21 : decode cX6_state 21 = .ok (.getfield 140, 3) := by decide +kernel
theorem dX6_state_24 : decode cX6_state 24 = .ok (.iconst 4, 1) := by decide +kernel
theorem dX6_state_25 : decode cX6_state 25 = .ok (.iload_n 1, 1) := by decide +kernel
theorem dX6_state_26 : decode cX6_state 26 = .ok (.imul, 1) := by decide +kernel
theorem dX6_state_27 : decode cX6_state 27 = .ok (.iconst 2, 1) := by decide +kernel
theorem dX6_state_28 : decode cX6_state 28 = .ok (.iadd, 1) := by decide +kernel
theorem dX6_state_29 : decode cX6_state 29 = .ok (.iload 4, 2) := by decide +kernel
theorem dX6_state_31 : decode cX6_state 31 = .ok (.iastore, 1) := by decide +kernel
theorem dX6_state_32 : decode cX6_state 32 = .ok (.aload_n 0, 1) := by decide +kernel
theorem dX6_state_33 : decode cX6_state 33 = .ok (.getfield 140, 3) := by decide +kernel
theorem dX6_state_36 : decode cX6_state 36 = .ok (.iconst 4, 1) := by decide +kernel
theorem dX6_state_37 : decode cX6_state 37 = .ok (.iload_n 1, 1) := by decide +kernel
theorem dX6_state_38 : decode cX6_state 38 = .ok (.imul, 1) := by decide +kernel
theorem dX6_state_39 : decode cX6_state 39 = .ok (.iconst 3, 1) := by decide +kernel
theorem dX6_state_40 : decode cX6_state 40 = .ok (.iadd, 1) := by decide +kernel
theorem dX6_state_41 : decode cX6_state 41 = .ok (.iload 5, 2) := by decide +kernel
theorem dX6_state_43 : decode cX6_state 43 = .ok (.iastore, 1) := by decide +kernel
theorem dX6_state_44 : decode cX6_state 44 = .ok (.return_, 1) := by decide +kernel
set_option maxRecDepth 20000 in
theorem ggX6_copy_X6_state : GoodIn wsX6_copy wsX6_state := goodIn_r _ [5, 6, 7, 8, 9, 10, 11, 12, 13, 14, 15, 16, 17, 18, 19, 20, 21, 22, 23] rfl (by decide +kernel)
set_option maxRecDepth 20000 in
theorem gX6_copy_X6_state : GoodIn wsX6_copy (wsV RX6 189 RX6 yX6_state wsX6_state) := goodIn_app (goodIn_of _ (by decide +kernel)) ggX6_copy_X6_state
theorem dX6_copy_0 : decode cX6_copy 0 = .ok (.aload_n 0, 1) := by decide +kernel
theorem dX6_copy_1 : decode cX6_copy 1 = .ok (.iload_n 3, 1) := by decide +kernel
theorem dX6_copy_2 : decode cX6_copy 2 = .ok (.aload_n 1, 1) := by decide +kernel
theorem dX6_copy_3 : decode cX6_copy 3 = .ok (.iconst 4, 1) := by decide +kernel
theorem dX6_copy_4 : decode cX6_copy 4 = .ok (.iload_n 2, 1) := by decide +kernel
theorem dX6_copy_5 : decode cX6_copy 5 = .ok (.imul, 1) := by decide +kernel
theorem dX6_copy_6 : decode cX6_copy 6 = .ok (.iaload, 1) := by decide +kernel
theorem dX6_copy_7 : decode cX6_copy 7 = .ok (.aload_n 1, 1) := by decide +kernel
theorem dX6_copy_8 : decode cX6_copy 8 = .ok (.iconst 4, 1) := by decide +kernel
theorem dX6_copy_9 : decode cX6_copy 9 = .ok (.iload_n 2, 1) := by decide +kernel
theorem dX6_copy_10 : decode cX6_copy 10 = .ok (.imul, 1) := by decide +kernel
theorem dX6_copy_11 : decode cX6_copy 11 = .ok (.iconst 1, 1) := by decide +kernel
theorem dX6_copy_12 : decode cX6_copy 12 = .ok (.iadd, 1) := by decide +kernel
theorem dX6_copy_13 : decode cX6_copy 13 = .ok (.iaload, 1) := by decide +kernel
theorem dX6_copy_14 : decode cX6_copy 14 = .ok (.aload_n 1, 1) := by decide +kernel
theorem dX6_copy_15 : decode cX6_copy 15 = .ok (.iconst 4, 1) := by decide +kernel
theorem dX6_copy_16 : decode cX6_copy 16 = .ok (.iload_n 2, 1) := by decide +kernel
theorem dX6_copy_17 : decode cX6_copy 17 = .ok (.imul, 1) := by decide +kernel
theorem dX6_copy_18 : decode cX6_copy 18 = .ok (.iconst 2, 1) := by decide +kernel
theorem dX6_copy_19 : decode cX6_copy 19 = .ok (.iadd, 1) := by decide +kernel
theorem dX6_copy_20 : decode cX6_copy 20 = .ok (.iaload, 1) := by decide +kernel
theorem dX6_copy_21 : decode cX6_copy 21 = .ok (.aload_n 1, 1) := by decide +kernel
theorem dX6_copy_22 : decode cX6_copy 22 = .ok (.iconst 4, 1) := by decide +kernel
theorem dX6_copy_23 : decode cX6_copy 23 = .ok (.iload_n 2, 1) := by decide +kernel
theorem dX6_copy_24 : decode cX6_copy 24 = .ok (.imul, 1) := by decide +kernel
theorem dX6_copy_25 : decode cX6_copy 25 = .ok (.iconst 3, 1) := by decide +kernel
theorem dX6_copy_26 : decode cX6_copy 26 = .ok (.iadd, 1) := by decide +kernel
theorem dX6_copy_27 : decode cX6_copy 27 = .ok (.iaload, 1) := by decide +kernel
theorem dX6_copy_28 : decode cX6_copy 28 = .ok (.invokevirtual 189, 3) := by decide +kernel
theorem dX6_copy_31 : decode cX6_copy 31 = .ok (.return_, 1) := by decide +kernel
set_option maxRecDepth 20000 in
theorem ggX6_work_X6_state : GoodIn wsX6_work wsX6_state := goodIn_r _ [7, 8, 40, 41, 42, 43, 44, 45, 46, 47, 48, 49, 50, 51, 52, 53, 54, 55, 56] rfl (by decide +kernel)
set_option maxRecDepth 20000 in
theorem gX6_work_X6_state : GoodIn wsX6_work (wsV RX6 189 RX6 yX6_state wsX6_state) := goodIn_app (goodIn_of _ (by decide +kernel)) ggX6_work_X6_state
set_option maxRecDepth 20000 in
theorem ggX6_work_X6_takes : GoodIn wsX6_work wsX6_takes := goodIn_r _ [11] rfl (by decide +kernel)
set_option maxRecDepth 20000 in
theorem gX6_work_X6_takes : GoodIn wsX6_work (va_wsS RX6 177 yX6_takes wsX6_takes) := goodIn_app (goodIn_of _ (by decide +kernel)) ggX6_work_X6_takes
set_option maxRecDepth 20000 in
theorem ggX6_work_X6_of : GoodIn wsX6_work wsX6_of := goodIn_r _ [15, 8, 16, 40, 41, 42, 43, 44, 45, 46, 47, 48, 49, 50, 51, 52, 53, 54, 55, 56] rfl (by decide +kernel)
set_option maxRecDepth 20000 in
theorem gX6_work_X6_of : GoodIn wsX6_work (wsV RX6 185 RX6 yX6_of wsX6_of) := goodIn_app (goodIn_of _ (by decide +kernel)) ggX6_work_X6_of
set_option maxRecDepth 20000 in
theorem ggX6_work_X6_single : GoodIn wsX6_work wsX6_single := goodIn_r _ [20, 21, 2, 22, 23, 24, 25, 26, 6, 27, 3, 4, 5, 7, 8, 28, 29, 30, 31, 1, 32, 33, 34, 35, 12, 13, 14, 15, 16, 36, 37, 38, 39, 40, 41, 42, 43, 44, 45, 46, 47, 48, 49, 50, 51, 52, 53, 54, 55, 56] rfl (by decide +kernel)
set_option maxRecDepth 20000 in
theorem gX6_work_X6_single : GoodIn wsX6_work (wsV RX6 193 RX6 yX6_single wsX6_single) := goodIn_app (goodIn_of _ (by decide +kernel)) ggX6_work_X6_single
theorem dX6_work_0 : decode cX6_work 0 = .ok (.iconst 1, 1) := by decide +kernel
theorem dX6_work_1 : decode cX6_work 1 = .ok (.istore_n 2, 1) := by decide +kernel
theorem dX6_work_2 : decode cX6_work 2 = .ok (.iload_n 2, 1) := by decide +kernel
theorem dX6_work_3 : decode cX6_work 3 = .ok (.iload_n 1, 1) := by decide +kernel
theorem dX6_work_4 : decode cX6_work 4 = .ok (.if_icmp .gt 92, 3) := by decide +kernel
theorem dX6_work_7 : decode cX6_work 7 = .ok (.aload_n 0, 1) := by decide +kernel
theorem dX6_work_8 : decode cX6_work 8 = .ok (.iload_n 2, 1) := by decide +kernel
theorem dX6_work_9 : decode cX6_work 9 = .ok (.iconst 0, 1) := by decide +kernel
theorem dX6_work_10 : decode cX6_work 10 = .ok (.iconst 0, 1) := by decide +kernel
theorem dX6_work_11 : decode cX6_work 11 = .ok (.iconst 0, 1) := by decide +kernel
theorem dX6_work_12 : decode cX6_work 12 = .ok (.iconst 0, 1) := by decide +kernel
theorem dX6_work_13 : decode cX6_work 13 = .ok (.invokevirtual 189, 3) := by decide +kernel
theorem dX6_work_16 : decode cX6_work 16 = .ok (.aload_n 0, 1) := by decide +kernel
theorem dX6_work_17 : decode cX6_work 17 = .ok (.getfield 134, 3) := by decide +kernel
theorem dX6_work_20 : decode cX6_work 20 = .ok (.iload_n 2, 1) := by decide +kernel
theorem dX6_work_21 : decode cX6_work 21 = .ok (.iaload, 1) := by decide +kernel
theorem dX6_work_22 : decode cX6_work 22 = .ok (.aload_n 0, 1) := by decide +kernel
theorem dX6_work_23 : decode cX6_work 23 = .ok (.getfield 128, 3) := by decide +kernel
theorem dX6_work_26 : decode cX6_work 26 = .ok (.iload_n 2, 1) := by decide +kernel
theorem dX6_work_27 : decode cX6_work 27 = .ok (.iaload, 1) := by decide +kernel
theorem dX6_work_28 : decode cX6_work 28 = .ok (.invokestatic 177, 3) := by decide +kernel
theorem dX6_work_31 : decode cX6_work 31 = .ok (.if_icmp .ne 7, 3) := by decide +kernel
theorem dX6_work_34 : decode cX6_work 34 = .ok (.iconst 1, 1) := by decide +kernel
theorem dX6_work_35 : decode cX6_work 35 = .ok (.goto 4, 3) := by decide +kernel
theorem dX6_work_38 : decode cX6_work 38 = .ok (.iconst 0, 1) := by decide +kernel
theorem dX6_work_39 : decode cX6_work 39 = .ok (.istore_n 3, 1) := by decide +kernel
theorem dX6_work_40 : decode cX6_work 40 = .ok (.iconst 0, 1) := by decide +kernel
theorem dX6_work_41 : decode cX6_work 41 = .ok (.istore 4, 2) := by decide +kernel
theorem dX6_work_43 : decode cX6_work 43 = .ok (.iload 4, 2) := by decide +kernel
theorem dX6_work_45 : decode cX6_work 45 = .ok (.aload_n 0, 1) := by decide +kernel
theorem dX6_work_46 : decode cX6_work 46 = .ok (.getfield 134, 3) := by decide +kernel
theorem dX6_work_49 : decode cX6_work 49 = .ok (.iload_n 2, 1) := by decide +kernel
theorem dX6_work_50 : decode cX6_work 50 = .ok (.iaload, 1) := by decide +kernel
theorem dX6_work_51 : decode cX6_work 51 = .ok (.if_icmp .ge 30, 3) := by decide +kernel
theorem dX6_work_54 : decode cX6_work 54 = .ok (.iload_n 3, 1) := by decide +kernel
theorem dX6_work_55 : decode cX6_work 55 = .ok (.ifCond .eq 18, 3) := by decide +kernel
theorem dX6_work_58 : decode cX6_work 58 = .ok (.aload_n 0, 1) := by decide +kernel
theorem dX6_work_59 : decode cX6_work 59 = .ok (.iload_n 2, 1) := by decide +kernel
theorem dX6_work_60 : decode cX6_work 60 = .ok (.iload 4, 2) := by decide +kernel
theorem dX6_work_62 : decode cX6_work 62 = .ok (.iconst 0, 1) := by decide +kernel
theorem dX6_work_63 : decode cX6_work 63 = .ok (.invokevirtual 185, 3) := by decide +kernel
theorem dX6_work_66 : decode cX6_work 66 = .ok (.ifCond .eq 7, 3) := by decide +kernel
theorem dX6_work_69 : decode cX6_work 69 = .ok (.iconst 1, 1) := by decide +kernel
theorem dX6_work_70 : decode cX6_work 70 = .ok (.goto 4, 3) := by decide +kernel
theorem dX6_work_73 : decode cX6_work 73 = .ok (.iconst 0, 1) := by decide +kernel
theorem dX6_work_74 : decode cX6_work 74 = .ok (.istore_n 3, 1) := by decide +kernel
theorem dX6_work_75 : decode cX6_work 75 = .ok (.iinc 4 1, 3) := by decide +kernel
theorem dX6_work_78 : decode cX6_work 78 = .ok (.goto (-35), 3) := by decide +kernel
theorem dX6_work_81 : decode cX6_work 81 = .ok (.iload_n 3, 1) := by decide +kernel
theorem dX6_work_82 : decode cX6_work 82 = .ok (.ifCond .eq 8, 3) := by decide +kernel
theorem dX6_work_85 : decode cX6_work 85 = .ok (.aload_n 0, 1) := by decide +kernel
theorem dX6_work_86 : decode cX6_work 86 = .ok (.iload_n 2, 1) := by decide +kernel
theorem dX6_work_87 : decode cX6_work 87 = .ok (.invokevirtual 193, 3) := by decide +kernel
theorem dX6_work_90 : decode cX6_work 90 = .ok (.iinc 2 1, 3) := by decide +kernel
theorem dX6_work_93 : decode cX6_work 93 = .ok (.goto (-91), 3) := by decide +kernel
theorem dX6_work_96 : decode cX6_work 96 = .ok (.return_, 1) := by decide +kernel
set_option maxRecDepth 20000 in
theorem ggX6_single_X6_copy : GoodIn wsX6_single wsX6_copy := goodIn_r _ [9, 10, 11, 12, 8, 13, 14, 33, 34, 35, 36, 37, 38, 39, 40, 41, 42, 43, 44, 45, 46, 47, 48, 49] rfl (by decide +kernel)
set_option maxRecDepth 20000 in
theorem gX6_single_X6_copy : GoodIn wsX6_single (wsV RX6 197 RX6 yX6_copy wsX6_copy) := goodIn_app (goodIn_of _ (by decide +kernel)) ggX6_single_X6_copy
set_option maxRecDepth 20000 in
theorem ggX6_single_X6_state : GoodIn wsX6_single wsX6_state := goodIn_r _ [13, 14, 33, 34, 35, 36, 37, 38, 39, 40, 41, 42, 43, 44, 45, 46, 47, 48, 49] rfl (by decide +kernel)
set_option maxRecDepth 20000 in
theorem gX6_single_X6_state : GoodIn wsX6_single (wsV RX6 189 RX6 yX6_state wsX6_state) := goodIn_app (goodIn_of _ (by decide +kernel)) ggX6_single_X6_state
set_option maxRecDepth 20000 in
theorem ggX6_single_X6_chain : GoodIn wsX6_single wsX6_chain := goodIn_r _ [18, 19, 2, 4, 1, 20, 21, 22, 8, 23, 24, 25, 26, 27, 14, 28, 10, 11, 12, 13, 5, 6, 7, 9, 29, 30, 31, 32, 33, 34, 35, 36, 37, 38, 39, 40, 41, 42, 43, 44, 45, 46, 47, 48, 49] rfl (by decide +kernel)
set_option maxRecDepth 20000 in
theorem gX6_single_X6_chain : GoodIn wsX6_single (wsV RX6 201 RX6 yX6_chain wsX6_chain) := goodIn_app (goodIn_of _ (by decide +kernel)) ggX6_single_X6_chain
theorem dX6_single_0 : decode cX6_single 0 = .ok (.aload_n 0, 1) := by decide +kernel
theorem dX6_single_1 : decode cX6_single 1 = .ok (.getfield 131, 3) := by decide +kernel
theorem dX6_single_4 : decode cX6_single 4 = .ok (.iload_n 1, 1) := by decide +kernel
theorem dX6_single_5 : decode cX6_single 5 = .ok (.iaload, 1) := by decide +kernel
theorem dX6_single_6 : decode cX6_single 6 = .ok (.istore_n 2, 1) := by decide +kernel
theorem dX6_single_7 : decode cX6_single 7 = .ok (.aload_n 0, 1) := by decide +kernel
theorem dX6_single_8 : decode cX6_single 8 = .ok (.getfield 128, 3) := by decide +kernel
theorem dX6_single_11 : decode cX6_single 11 = .ok (.iload_n 1, 1) := by decide +kernel
theorem dX6_single_12 : decode cX6_single 12 = .ok (.iaload, 1) := by decide +kernel
theorem dX6_single_13 : decode cX6_single 13 = .ok (.tableswitch 59 0 2 #[27, 38, 49], 27) := by decide +kernel
theorem dX6_single_40 : decode cX6_single 40 = .ok (.aload_n 0, 1) := by decide +kernel
theorem dX6_single_41 : decode cX6_single 41 = .ok (.aload_n 0, 1) := by decide +kernel
theorem dX6_single_42 : decode cX6_single 42 = .ok (.getfield 121, 3) := by decide +kernel
theorem dX6_single_45 : decode cX6_single 45 = .ok (.iload_n 2, 1) := by decide +kernel
theorem dX6_single_46 : decode cX6_single 46 = .ok (.iload_n 1, 1) := by decide +kernel
theorem dX6_single_47 : decode cX6_single 47 = .ok (.invokevirtual 197, 3) := by decide +kernel
theorem dX6_single_50 : decode cX6_single 50 = .ok (.return_, 1) := by decide +kernel
theorem dX6_single_51 : decode cX6_single 51 = .ok (.aload_n 0, 1) := by decide +kernel
theorem dX6_single_52 : decode cX6_single 52 = .ok (.aload_n 0, 1) := by decide +kernel
theorem dX6_single_53 : decode cX6_single 53 = .ok (.getfield 125, 3) := by decide +kernel
theorem dX6_single_56 : decode cX6_single 56 = .ok (.iload_n 2, 1) := by decide +kernel
theorem dX6_single_57 : decode cX6_single 57 = .ok (.iload_n 1, 1) := by decide +kernel
theorem dX6_single_58 : decode cX6_single 58 = .ok (.invokevirtual 197, 3) := by decide +kernel
theorem dX6_single_61 : decode cX6_single 61 = .ok (.return_, 1) := by decide +kernel
theorem dX6_single_62 : decode cX6_single 62 = .ok (.aload_n 0, 1) := by decide +kernel
theorem dX6_single_63 : decode cX6_single 63 = .ok (.iload_n 1, 1) := by decide +kernel
theorem dX6_single_64 : decode cX6_single 64 = .ok (.iconst 1, 1) := by decide +kernel
theorem dX6_single_65 : decode cX6_single 65 = .ok (.iload_n 2, 1) := by decide +kernel
theorem dX6_single_66 : decode cX6_single 66 = .ok (.iload_n 2, 1) := by decide +kernel
theorem dX6_single_67 : decode cX6_single 67 = .ok (.iconst 0, 1) := by decide +kernel
theorem dX6_single_68 : decode cX6_single 68 = .ok (.invokevirtual 189, 3) := by decide +kernel
theorem dX6_single_71 : decode cX6_single 71 = .ok (.return_, 1) := by decide +kernel
theorem dX6_single_72 : decode cX6_single 72 = .ok (.aload_n 0, 1) := by decide +kernel
theorem dX6_single_73 : decode cX6_single 73 = .ok (.iload_n 1, 1) := by decide +kernel
theorem dX6_single_74 : decode cX6_single 74 = .ok (.invokevirtual 201, 3) := by decide +kernel
theorem dX6_single_77 : decode cX6_single 77 = .ok (.return_, 1) := by decide +kernel
set_option maxRecDepth 20000 in
theorem ggX6_chain_X6_is : GoodIn wsX6_chain wsX6_is := goodIn_r _ [9, 10, 11, 12, 8, 13, 14, 15, 28, 29, 30, 31, 32, 33, 34, 35, 36, 37, 38, 39, 40, 41, 42, 43, 44] rfl (by decide +kernel)
set_option maxRecDepth 20000 in
theorem gX6_chain_X6_is : GoodIn wsX6_chain (wsV RX6 204 RX6 yX6_is wsX6_is) := goodIn_app (goodIn_of _ (by decide +kernel)) ggX6_chain_X6_is
set_option maxRecDepth 20000 in
theorem ggX6_chain_X6_of : GoodIn wsX6_chain wsX6_of := goodIn_r _ [13, 14, 15, 28, 29, 30, 31, 32, 33, 34, 35, 36, 37, 38, 39, 40, 41, 42, 43, 44] rfl (by decide +kernel)
set_option maxRecDepth 20000 in
theorem gX6_chain_X6_of : GoodIn wsX6_chain (wsV RX6 185 RX6 yX6_of wsX6_of) := goodIn_app (goodIn_of _ (by decide +kernel)) ggX6_chain_X6_of
set_option maxRecDepth 20000 in
theorem ggX6_chain_X6_state : GoodIn wsX6_chain wsX6_state := goodIn_r _ [19, 14, 28, 29, 30, 31, 32, 33, 34, 35, 36, 37, 38, 39, 40, 41, 42, 43, 44] rfl (by decide +kernel)
set_option maxRecDepth 20000 in
theorem gX6_chain_X6_state : GoodIn wsX6_chain (wsV RX6 189 RX6 yX6_state wsX6_state) := goodIn_app (goodIn_of _ (by decide +kernel)) ggX6_chain_X6_state
set_option maxRecDepth 20000 in
theorem ggX6_chain_X6_copy : GoodIn wsX6_chain wsX6_copy := goodIn_r _ [23, 16, 17, 18, 8, 19, 14, 28, 29, 30, 31, 32, 33, 34, 35, 36, 37, 38, 39, 40, 41, 42, 43, 44] rfl (by decide +kernel)
set_option maxRecDepth 20000 in
theorem gX6_chain_X6_copy : GoodIn wsX6_chain (wsV RX6 197 RX6 yX6_copy wsX6_copy) := goodIn_app (goodIn_of _ (by decide +kernel)) ggX6_chain_X6_copy
set_option maxRecDepth 20000 in
theorem ggX6_chain_X6_three : GoodIn wsX6_chain wsX6_three := goodIn_r _ [27, 2, 10, 11, 12, 8, 13, 14, 15, 5, 6, 7, 9, 16, 17, 18, 19, 28, 29, 30, 31, 32, 33, 34, 35, 36, 37, 38, 39, 40, 41, 42, 43, 44] rfl (by decide +kernel)
set_option maxRecDepth 20000 in
theorem gX6_chain_X6_three : GoodIn wsX6_chain (wsV RX6 208 RX6 yX6_three wsX6_three) := goodIn_app (goodIn_of _ (by decide +kernel)) ggX6_chain_X6_three
theorem dX6_chain_0 : decode cX6_chain 0 = .ok (.aload_n 0, 1) := by decide +kernel
theorem dX6_chain_1 : decode cX6_chain 1 = .ok (.getfield 134, 3) := by decide +kernel
theorem dX6_chain_4 : decode cX6_chain 4 = .ok (.iload_n 1, 1) := by decide +kernel
theorem dX6_chain_5 : decode cX6_chain 5 = .ok (.iaload, 1) := by decide +kernel
theorem dX6_chain_6 : decode cX6_chain 6 = .ok (.iconst 1, 1) := by decide +kernel
theorem dX6_chain_7 : decode cX6_chain 7 = .ok (.if_icmp .le 18, 3) := by decide +kernel
theorem dX6_chain_10 : decode cX6_chain 10 = .ok (.aload_n 0, 1) := by decide +kernel
theorem dX6_chain_11 : decode cX6_chain 11 = .ok (.iload_n 1, 1) := by decide +kernel
theorem dX6_chain_12 : decode cX6_chain 12 = .ok (.iconst 1, 1) := by decide +kernel
theorem dX6_chain_13 : decode cX6_chain 13 = .ok (.bipush 11, 2) := by decide +kernel
theorem dX6_chain_15 : decode cX6_chain 15 = .ok (.invokevirtual 204, 3) := by decide +kernel
theorem dX6_chain_18 : decode cX6_chain 18 = .ok (.ifCond .eq 7, 3) := by decide +kernel
theorem dX6_chain_21 : decode cX6_chain 21 = .ok (.iconst 1, 1) := by decide +kernel
theorem dX6_chain_22 : decode cX6_chain 22 = .ok (.goto 4, 3) := by decide +kernel
theorem dX6_chain_25 : decode cX6_chain 25 = .ok (.iconst 0, 1) := by decide +kernel
theorem dX6_chain_26 : decode cX6_chain 26 = .ok (.istore_n 2, 1) := by decide +kernel
theorem dX6_chain_27 : decode cX6_chain 27 = .ok (.aload_n 0, 1) := by decide +kernel
theorem dX6_chain_28 : decode cX6_chain 28 = .ok (.getfield 134, 3) := by decide +kernel
theorem dX6_chain_31 : decode cX6_chain 31 = .ok (.iload_n 1, 1) := by decide +kernel
theorem dX6_chain_32 : decode cX6_chain 32 = .ok (.iaload, 1) := by decide +kernel
theorem dX6_chain_33 : decode cX6_chain 33 = .ok (.iconst 1, 1) := by decide +kernel
theorem dX6_chain_34 : decode cX6_chain 34 = .ok (.if_icmp .le 13, 3) := by decide +kernel
theorem dX6_chain_37 : decode cX6_chain 37 = .ok (.aload_n 0, 1) := by decide +kernel
theorem dX6_chain_38 : decode cX6_chain 38 = .ok (.iload_n 1, 1) := by decide +kernel
theorem dX6_chain_39 : decode cX6_chain 39 = .ok (.iconst 1, 1) := by decide +kernel
theorem dX6_chain_40 : decode cX6_chain 40 = .ok (.iconst 1, 1) := by decide +kernel
theorem dX6_chain_41 : decode cX6_chain 41 = .ok (.invokevirtual 185, 3) := by decide +kernel
theorem dX6_chain_44 : decode cX6_chain 44 = .ok (.goto 4, 3) := by decide +kernel
theorem dX6_chain_47 : decode cX6_chain 47 = .ok (.iconst 0, 1) := by decide +kernel
theorem dX6_chain_48 : decode cX6_chain 48 = .ok (.istore_n 3, 1) := by decide +kernel
theorem dX6_chain_49 : decode cX6_chain 49 = .ok (.aload_n 0, 1) := by decide +kernel
theorem dX6_chain_50 : decode cX6_chain 50 = .ok (.getfield 134, 3) := by decide +kernel
theorem dX6_chain_53 : decode cX6_chain 53 = .ok (.iload_n 1, 1) := by decide +kernel
theorem dX6_chain_54 : decode cX6_chain 54 = .ok (.iaload, 1) := by decide +kernel
theorem dX6_chain_55 : decode cX6_chain 55 = .ok (.iconst 1, 1) := by decide +kernel
theorem dX6_chain_56 : decode cX6_chain 56 = .ok (.if_icmp .le 13, 3) := by decide +kernel
theorem dX6_chain_59 : decode cX6_chain 59 = .ok (.aload_n 0, 1) := by decide +kernel
theorem dX6_chain_60 : decode cX6_chain 60 = .ok (.iload_n 1, 1) := by decide +kernel
theorem dX6_chain_61 : decode cX6_chain 61 = .ok (.iconst 1, 1) := by decide +kernel
theorem dX6_chain_62 : decode cX6_chain 62 = .ok (.iconst 2, 1) := by decide +kernel
theorem dX6_chain_63 : decode cX6_chain 63 = .ok (.invokevirtual 185, 3) := by decide +kernel
theorem dX6_chain_66 : decode cX6_chain 66 = .ok (.goto 4, 3) := by decide +kernel
theorem dX6_chain_69 : decode cX6_chain 69 = .ok (.iconst 0, 1) := by decide +kernel
theorem dX6_chain_70 : decode cX6_chain 70 = .ok (.istore 4, 2) := by decide +kernel
theorem dX6_chain_72 : decode cX6_chain 72 = .ok (.aload_n 0, 1) := by decide +kernel
theorem dX6_chain_73 : decode cX6_chain 73 = .ok (.getfield 134, 3) := by decide +kernel
theorem dX6_chain_76 : decode cX6_chain 76 = .ok (.iload_n 1, 1) := by decide +kernel
theorem dX6_chain_77 : decode cX6_chain 77 = .ok (.iaload, 1) := by decide +kernel
theorem dX6_chain_78 : decode cX6_chain 78 = .ok (.iconst 1, 1) := by decide +kernel
theorem dX6_chain_79 : decode cX6_chain 79 = .ok (.if_icmp .le 13, 3) := by decide +kernel
theorem dX6_chain_82 : decode cX6_chain 82 = .ok (.aload_n 0, 1) := by decide +kernel
theorem dX6_chain_83 : decode cX6_chain 83 = .ok (.iload_n 1, 1) := by decide +kernel
theorem dX6_chain_84 : decode cX6_chain 84 = .ok (.iconst 1, 1) := by decide +kernel
theorem dX6_chain_85 : decode cX6_chain 85 = .ok (.iconst 3, 1) := by decide +kernel
theorem dX6_chain_86 : decode cX6_chain 86 = .ok (.invokevirtual 185, 3) := by decide +kernel
theorem dX6_chain_89 : decode cX6_chain 89 = .ok (.goto 4, 3) := by decide +kernel
theorem dX6_chain_92 : decode cX6_chain 92 = .ok (.iconst 0, 1) := by decide +kernel
theorem dX6_chain_93 : decode cX6_chain 93 = .ok (.istore 5, 2) := by decide +kernel
theorem dX6_chain_95 : decode cX6_chain 95 = .ok (.aload_n 0, 1) := by decide +kernel
theorem dX6_chain_96 : decode cX6_chain 96 = .ok (.iload_n 1, 1) := by decide +kernel
theorem dX6_chain_97 : decode cX6_chain 97 = .ok (.iconst 0, 1) := by decide +kernel
theorem dX6_chain_98 : decode cX6_chain 98 = .ok (.iconst 1, 1) := by decide +kernel
theorem dX6_chain_99 : decode cX6_chain 99 = .ok (.invokevirtual 185, 3) := by decide +kernel
theorem dX6_chain_102 : decode cX6_chain 102 = .ok (.istore 6, 2) := by decide +kernel
theorem dX6_chain_104 : decode cX6_chain 104 = .ok (.aload_n 0, 1) := by decide +kernel
theorem dX6_chain_105 : decode cX6_chain 105 = .ok (.iload_n 1, 1) := by decide +kernel
theorem dX6_chain_106 : decode cX6_chain 106 = .ok (.iconst 0, 1) := by decide +kernel
theorem dX6_chain_107 : decode cX6_chain 107 = .ok (.iconst 2, 1) := by decide +kernel
theorem dX6_chain_108 : decode cX6_chain 108 = .ok (.invokevirtual 185, 3) := by decide +kernel
theorem dX6_chain_111 : decode cX6_chain 111 = .ok (.istore 7, 2) := by decide +kernel
theorem dX6_chain_113 : decode cX6_chain 113 = .ok (.aload_n 0, 1) := by decide +kernel
theorem dX6_chain_114 : decode cX6_chain 114 = .ok (.getfield 128, 3) := by decide +kernel
theorem dX6_chain_117 : decode cX6_chain 117 = .ok (.iload_n 1, 1) := by decide +kernel
theorem dX6_chain_118 : decode cX6_chain 118 = .ok (.iaload, 1) := by decide +kernel
theorem dX6_chain_119 : decode cX6_chain 119 = .ok (.tableswitch 508 3 17 #[73, 73, 126, 166, 202, 237, 273, 508, 310, 442, 347, 508, 508, 395, 479], 73) := by decide +kernel
theorem dX6_chain_192 : decode cX6_chain 192 = .ok (.aload_n 0, 1) := by decide +kernel
theorem dX6_chain_193 : decode cX6_chain 193 = .ok (.getfield 128, 3) := by decide +kernel
theorem dX6_chain_196 : decode cX6_chain 196 = .ok (.iload_n 1, 1) := by decide +kernel
theorem dX6_chain_197 : decode cX6_chain 197 = .ok (.iaload, 1) := by decide +kernel
theorem dX6_chain_198 : decode cX6_chain 198 = .ok (.iconst 2, 1) := by decide +kernel
theorem dX6_chain_199 : decode cX6_chain 199 = .ok (.isub, 1) := by decide +kernel
theorem dX6_chain_200 : decode cX6_chain 200 = .ok (.istore 8, 2) := by decide +kernel
theorem dX6_chain_202 : decode cX6_chain 202 = .ok (.aload_n 0, 1) := by decide +kernel
theorem dX6_chain_203 : decode cX6_chain 203 = .ok (.iload_n 1, 1) := by decide +kernel
theorem dX6_chain_204 : decode cX6_chain 204 = .ok (.iconst 0, 1) := by decide +kernel
theorem dX6_chain_205 : decode cX6_chain 205 = .ok (.iload 8, 2) := by decide +kernel
theorem dX6_chain_207 : decode cX6_chain 207 = .ok (.invokevirtual 204, 3) := by decide +kernel
theorem dX6_chain_210 : decode cX6_chain 210 = .ok (.ifCond .eq 442, 3) := by decide +kernel
theorem dX6_chain_213 : decode cX6_chain 213 = .ok (.aload_n 0, 1) := by decide +kernel
theorem dX6_chain_214 : decode cX6_chain 214 = .ok (.iload_n 1, 1) := by decide +kernel
theorem dX6_chain_215 : decode cX6_chain 215 = .ok (.iconst 1, 1) := by decide +kernel
theorem dX6_chain_216 : decode cX6_chain 216 = .ok (.iload 8, 2) := by decide +kernel
theorem dX6_chain_218 : decode cX6_chain 218 = .ok (.invokevirtual 204, 3) := by decide +kernel
theorem dX6_chain_221 : decode cX6_chain 221 = .ok (.ifCond .eq 431, 3) := by decide +kernel
theorem dX6_chain_224 : decode cX6_chain 224 = .ok (.iload 7, 2) := by decide +kernel
theorem dX6_chain_226 : decode cX6_chain 226 = .ok (.iload_n 3, 1) := by decide +kernel
theorem dX6_chain_227 : decode cX6_chain 227 = .ok (.if_icmp .ne 425, 3) := by decide +kernel
theorem dX6_chain_230 : decode cX6_chain 230 = .ok (.aload_n 0, 1) := by decide +kernel
theorem dX6_chain_231 : decode cX6_chain 231 = .ok (.iload_n 1, 1) := by decide +kernel
theorem dX6_chain_232 : decode cX6_chain 232 = .ok (.iload 8, 2) := by decide +kernel
theorem dX6_chain_234 : decode cX6_chain 234 = .ok (.iload 6, 2) := by decide +kernel
theorem dX6_chain_236 : decode cX6_chain 236 = .ok (.iload 4, 2) := by decide +kernel
theorem dX6_chain_238 : decode cX6_chain 238 = .ok (.iconst 0, 1) := by decide +kernel
theorem dX6_chain_239 : decode cX6_chain 239 = .ok (.invokevirtual 189, 3) := by decide +kernel
theorem dX6_chain_242 : decode cX6_chain 242 = .ok (.goto 410, 3) := by decide +kernel
theorem dX6_chain_245 : decode cX6_chain 245 = .ok (.aload_n 0, 1) := by decide +kernel
theorem dX6_chain_246 : decode cX6_chain 246 = .ok (.iload_n 1, 1) := by decide +kernel
theorem dX6_chain_247 : decode cX6_chain 247 = .ok (.iconst 0, 1) := by decide +kernel
theorem dX6_chain_248 : decode cX6_chain 248 = .ok (.iconst 1, 1) := by decide +kernel
theorem dX6_chain_249 : decode cX6_chain 249 = .ok (.invokevirtual 204, 3) := by decide +kernel
theorem dX6_chain_252 : decode cX6_chain 252 = .ok (.ifCond .eq 400, 3) := by decide +kernel
theorem dX6_chain_255 : decode cX6_chain 255 = .ok (.iload_n 2, 1) := by decide +kernel
theorem dX6_chain_256 : decode cX6_chain 256 = .ok (.ifCond .eq 396, 3) := by decide +kernel
theorem dX6_chain_259 : decode cX6_chain 259 = .ok (.iload 4, 2) := by decide +kernel
theorem dX6_chain_261 : decode cX6_chain 261 = .ok (.ifCond .ne 391, 3) := by decide +kernel
theorem dX6_chain_264 : decode cX6_chain 264 = .ok (.iload 5, 2) := by decide +kernel
theorem dX6_chain_266 : decode cX6_chain 266 = .ok (.iload 6, 2) := by decide +kernel
theorem dX6_chain_268 : decode cX6_chain 268 = .ok (.if_icmp .ne 384, 3) := by decide +kernel
theorem dX6_chain_271 : decode cX6_chain 271 = .ok (.aload_n 0, 1) := by decide +kernel
theorem dX6_chain_272 : decode cX6_chain 272 = .ok (.iload_n 1, 1) := by decide +kernel
theorem dX6_chain_273 : decode cX6_chain 273 = .ok (.bipush 11, 2) := by decide +kernel
theorem dX6_chain_275 : decode cX6_chain 275 = .ok (.iload_n 3, 1) := by decide +kernel
theorem dX6_chain_276 : decode cX6_chain 276 = .ok (.iconst 0, 1) := by decide +kernel
theorem dX6_chain_277 : decode cX6_chain 277 = .ok (.iload 7, 2) := by decide +kernel
theorem dX6_chain_279 : decode cX6_chain 279 = .ok (.invokevirtual 189, 3) := by decide +kernel
theorem dX6_chain_282 : decode cX6_chain 282 = .ok (.goto 370, 3) := by decide +kernel
theorem dX6_chain_285 : decode cX6_chain 285 = .ok (.aload_n 0, 1) := by decide +kernel
theorem dX6_chain_286 : decode cX6_chain 286 = .ok (.iload_n 1, 1) := by decide +kernel
theorem dX6_chain_287 : decode cX6_chain 287 = .ok (.iconst 0, 1) := by decide +kernel
theorem dX6_chain_288 : decode cX6_chain 288 = .ok (.iconst 2, 1) := by decide +kernel
theorem dX6_chain_289 : decode cX6_chain 289 = .ok (.invokevirtual 204, 3) := by decide +kernel
theorem dX6_chain_292 : decode cX6_chain 292 = .ok (.ifCond .eq 360, 3) := by decide +kernel
theorem dX6_chain_295 : decode cX6_chain 295 = .ok (.iload_n 2, 1) := by decide +kernel
theorem dX6_chain_296 : decode cX6_chain 296 = .ok (.ifCond .eq 356, 3) := by decide +kernel
theorem dX6_chain_299 : decode cX6_chain 299 = .ok (.iload 4, 2) := by decide +kernel
theorem dX6_chain_301 : decode cX6_chain 301 = .ok (.iload 6, 2) := by decide +kernel
theorem dX6_chain_303 : decode cX6_chain 303 = .ok (.if_icmp .ne 349, 3) := by decide +kernel
theorem dX6_chain_306 : decode cX6_chain 306 = .ok (.aload_n 0, 1) := by decide +kernel
theorem dX6_chain_307 : decode cX6_chain 307 = .ok (.iload_n 1, 1) := by decide +kernel
theorem dX6_chain_308 : decode cX6_chain 308 = .ok (.bipush 11, 2) := by decide +kernel
theorem dX6_chain_310 : decode cX6_chain 310 = .ok (.iload_n 3, 1) := by decide +kernel
theorem dX6_chain_311 : decode cX6_chain 311 = .ok (.iload 7, 2) := by decide +kernel
theorem dX6_chain_313 : decode cX6_chain 313 = .ok (.iload 5, 2) := by decide +kernel
theorem dX6_chain_315 : decode cX6_chain 315 = .ok (.invokevirtual 189, 3) := by decide +kernel
theorem dX6_chain_318 : decode cX6_chain 318 = .ok (.goto 334, 3) := by decide +kernel
theorem dX6_chain_321 : decode cX6_chain 321 = .ok (.aload_n 0, 1) := by decide +kernel
theorem dX6_chain_322 : decode cX6_chain 322 = .ok (.iload_n 1, 1) := by decide +kernel
theorem dX6_chain_323 : decode cX6_chain 323 = .ok (.iconst 0, 1) := by decide +kernel
theorem dX6_chain_324 : decode cX6_chain 324 = .ok (.iconst 3, 1) := by decide +kernel
theorem dX6_chain_325 : decode cX6_chain 325 = .ok (.invokevirtual 204, 3) := by decide +kernel
theorem dX6_chain_328 : decode cX6_chain 328 = .ok (.ifCond .eq 324, 3) := by decide +kernel
theorem dX6_chain_331 : decode cX6_chain 331 = .ok (.iload_n 2, 1) := by decide +kernel
theorem dX6_chain_332 : decode cX6_chain 332 = .ok (.ifCond .eq 320, 3) := by decide +kernel
theorem dX6_chain_335 : decode cX6_chain 335 = .ok (.iload 4, 2) := by decide +kernel
theorem dX6_chain_337 : decode cX6_chain 337 = .ok (.iload 6, 2) := by decide +kernel
theorem dX6_chain_339 : decode cX6_chain 339 = .ok (.if_icmp .ne 313, 3) := by decide +kernel
theorem dX6_chain_342 : decode cX6_chain 342 = .ok (.aload_n 0, 1) := by decide +kernel
theorem dX6_chain_343 : decode cX6_chain 343 = .ok (.iload_n 1, 1) := by decide +kernel
theorem dX6_chain_344 : decode cX6_chain 344 = .ok (.bipush 11, 2) := by decide +kernel
theorem dX6_chain_346 : decode cX6_chain 346 = .ok (.iload_n 3, 1) := by decide +kernel
theorem dX6_chain_347 : decode cX6_chain 347 = .ok (.iconst 0, 1) := by decide +kernel
theorem dX6_chain_348 : decode cX6_chain 348 = .ok (.iload 7, 2) := by decide +kernel
theorem dX6_chain_350 : decode cX6_chain 350 = .ok (.invokevirtual 189, 3) := by decide +kernel
theorem dX6_chain_353 : decode cX6_chain 353 = .ok (.goto 299, 3) := by decide +kernel
theorem dX6_chain_356 : decode cX6_chain 356 = .ok (.aload_n 0, 1) := by decide +kernel
theorem dX6_chain_357 : decode cX6_chain 357 = .ok (.iload_n 1, 1) := by decide +kernel
theorem dX6_chain_358 : decode cX6_chain 358 = .ok (.iconst 0, 1) := by decide +kernel
theorem dX6_chain_359 : decode cX6_chain 359 = .ok (.iconst 4, 1) := by decide +kernel
theorem dX6_chain_360 : decode cX6_chain 360 = .ok (.invokevirtual 204, 3) := by decide +kernel
theorem dX6_chain_363 : decode cX6_chain 363 = .ok (.ifCond .eq 289, 3) := by decide +kernel
theorem dX6_chain_366 : decode cX6_chain 366 = .ok (.iload_n 2, 1) := by decide +kernel
theorem dX6_chain_367 : decode cX6_chain 367 = .ok (.ifCond .eq 285, 3) := by decide +kernel
theorem dX6_chain_370 : decode cX6_chain 370 = .ok (.iload 4, 2) := by decide +kernel
theorem dX6_chain_372 : decode cX6_chain 372 = .ok (.iload 6, 2) := by decide +kernel
theorem dX6_chain_374 : decode cX6_chain 374 = .ok (.if_icmp .ne 278, 3) := by decide +kernel
theorem dX6_chain_377 : decode cX6_chain 377 = .ok (.aload_n 0, 1) := by decide +kernel
theorem dX6_chain_378 : decode cX6_chain 378 = .ok (.iload_n 1, 1) := by decide +kernel
theorem dX6_chain_379 : decode cX6_chain 379 = .ok (.bipush 11, 2) := by decide +kernel
theorem dX6_chain_381 : decode cX6_chain 381 = .ok (.iload 5, 2) := by decide +kernel
theorem dX6_chain_383 : decode cX6_chain 383 = .ok (.iconst 0, 1) := by decide +kernel
theorem dX6_chain_384 : decode cX6_chain 384 = .ok (.iload 7, 2) := by decide +kernel
theorem dX6_chain_386 : decode cX6_chain 386 = .ok (.invokevirtual 189, 3) := by decide +kernel
theorem dX6_chain_389 : decode cX6_chain 389 = .ok (.goto 263, 3) := by decide +kernel
theorem dX6_chain_392 : decode cX6_chain 392 = .ok (.aload_n 0, 1) := by decide +kernel
theorem dX6_chain_393 : decode cX6_chain 393 = .ok (.iload_n 1, 1) := by decide +kernel
theorem dX6_chain_394 : decode cX6_chain 394 = .ok (.iconst 0, 1) := by decide +kernel
theorem dX6_chain_395 : decode cX6_chain 395 = .ok (.bipush 7, 2) := by decide +kernel
theorem dX6_chain_397 : decode cX6_chain 397 = .ok (.invokevirtual 204, 3) := by decide +kernel
theorem dX6_chain_400 : decode cX6_chain 400 = .ok (.ifCond .eq 252, 3) := by decide +kernel
theorem dX6_chain_403 : decode cX6_chain 403 = .ok (.iload_n 2, 1) := by decide +kernel
theorem dX6_chain_404 : decode cX6_chain 404 = .ok (.ifCond .eq 248, 3) := by decide +kernel
theorem dX6_chain_407 : decode cX6_chain 407 = .ok (.iload 4, 2) := by decide +kernel
theorem dX6_chain_409 : decode cX6_chain 409 = .ok (.iload 6, 2) := by decide +kernel
theorem dX6_chain_411 : decode cX6_chain 411 = .ok (.if_icmp .ne 241, 3) := by decide +kernel
theorem dX6_chain_414 : decode cX6_chain 414 = .ok (.aload_n 0, 1) := by decide +kernel
theorem dX6_chain_415 : decode cX6_chain 415 = .ok (.iload_n 1, 1) := by decide +kernel
theorem dX6_chain_416 : decode cX6_chain 416 = .ok (.bipush 11, 2) := by decide +kernel
theorem dX6_chain_418 : decode cX6_chain 418 = .ok (.iload 5, 2) := by decide +kernel
theorem dX6_chain_420 : decode cX6_chain 420 = .ok (.iload 4, 2) := by decide +kernel
theorem dX6_chain_422 : decode cX6_chain 422 = .ok (.iload_n 3, 1) := by decide +kernel
theorem dX6_chain_423 : decode cX6_chain 423 = .ok (.invokevirtual 189, 3) := by decide +kernel
theorem dX6_chain_426 : decode cX6_chain 426 = .ok (.goto 226, 3) := by decide +kernel
theorem dX6_chain_429 : decode cX6_chain 429 = .ok (.aload_n 0, 1) := by decide +kernel
theorem dX6_chain_430 : decode cX6_chain 430 = .ok (.iload_n 1, 1) := by decide +kernel
theorem dX6_chain_431 : decode cX6_chain 431 = .ok (.iconst 0, 1) := by decide +kernel
theorem dX6_chain_432 : decode cX6_chain 432 = .ok (.bipush 8, 2) := by decide +kernel
theorem dX6_chain_434 : decode cX6_chain 434 = .ok (.invokevirtual 204, 3) := by decide +kernel
theorem dX6_chain_437 : decode cX6_chain 437 = .ok (.ifCond .eq 215, 3) := by decide +kernel
theorem dX6_chain_440 : decode cX6_chain 440 = .ok (.iload_n 2, 1) := by decide +kernel
theorem dX6_chain_441 : decode cX6_chain 441 = .ok (.ifCond .eq 211, 3) := by decide +kernel
theorem dX6_chain_444 : decode cX6_chain 444 = .ok (.iload 4, 2) := by decide +kernel
theorem dX6_chain_446 : decode cX6_chain 446 = .ok (.iload 6, 2) := by decide +kernel
theorem dX6_chain_448 : decode cX6_chain 448 = .ok (.if_icmp .ne 204, 3) := by decide +kernel
theorem dX6_chain_451 : decode cX6_chain 451 = .ok (.aload_n 0, 1) := by decide +kernel
theorem dX6_chain_452 : decode cX6_chain 452 = .ok (.iload_n 1, 1) := by decide +kernel
theorem dX6_chain_453 : decode cX6_chain 453 = .ok (.bipush 11, 2) := by decide +kernel
theorem dX6_chain_455 : decode cX6_chain 455 = .ok (.iload 5, 2) := by decide +kernel
theorem dX6_chain_457 : decode cX6_chain 457 = .ok (.iload 7, 2) := by decide +kernel
theorem dX6_chain_459 : decode cX6_chain 459 = .ok (.iload_n 3, 1) := by decide +kernel
theorem dX6_chain_460 : decode cX6_chain 460 = .ok (.invokevirtual 189, 3) := by decide +kernel
theorem dX6_chain_463 : decode cX6_chain 463 = .ok (.goto 189, 3) := by decide +kernel
theorem dX6_chain_466 : decode cX6_chain 466 = .ok (.aload_n 0, 1) := by decide +kernel
theorem dX6_chain_467 : decode cX6_chain 467 = .ok (.iload_n 1, 1) := by decide +kernel
theorem dX6_chain_468 : decode cX6_chain 468 = .ok (.iconst 0, 1) := by decide +kernel
theorem dX6_chain_469 : decode cX6_chain 469 = .ok (.bipush 11, 2) := by decide +kernel
theorem dX6_chain_471 : decode cX6_chain 471 = .ok (.invokevirtual 204, 3) := by decide +kernel
theorem dX6_chain_474 : decode cX6_chain 474 = .ok (.ifCond .eq 178, 3) := by decide +kernel
theorem dX6_chain_477 : decode cX6_chain 477 = .ok (.iload 7, 2) := by decide +kernel
theorem dX6_chain_479 : decode cX6_chain 479 = .ok (.iconst 1, 1) := by decide +kernel
theorem dX6_chain_480 : decode cX6_chain 480 = .ok (.if_icmp .ne 172, 3) := by decide +kernel
theorem dX6_chain_483 : decode cX6_chain 483 = .ok (.iload_n 2, 1) := by decide +kernel
theorem dX6_chain_484 : decode cX6_chain 484 = .ok (.ifCond .eq 168, 3) := by decide +kernel
theorem dX6_chain_487 : decode cX6_chain 487 = .ok (.iload_n 3, 1) := by decide +kernel
theorem dX6_chain_488 : decode cX6_chain 488 = .ok (.iload 6, 2) := by decide +kernel
theorem dX6_chain_490 : decode cX6_chain 490 = .ok (.if_icmp .ne 162, 3) := by decide +kernel
theorem dX6_chain_493 : decode cX6_chain 493 = .ok (.aload_n 0, 1) := by decide +kernel
theorem dX6_chain_494 : decode cX6_chain 494 = .ok (.iload_n 1, 1) := by decide +kernel
theorem dX6_chain_495 : decode cX6_chain 495 = .ok (.bipush 11, 2) := by decide +kernel
theorem dX6_chain_497 : decode cX6_chain 497 = .ok (.aload_n 0, 1) := by decide +kernel
theorem dX6_chain_498 : decode cX6_chain 498 = .ok (.iload_n 1, 1) := by decide +kernel
theorem dX6_chain_499 : decode cX6_chain 499 = .ok (.iconst 0, 1) := by decide +kernel
theorem dX6_chain_500 : decode cX6_chain 500 = .ok (.iconst 3, 1) := by decide +kernel
theorem dX6_chain_501 : decode cX6_chain 501 = .ok (.invokevirtual 185, 3) := by decide +kernel
theorem dX6_chain_504 : decode cX6_chain 504 = .ok (.iload 4, 2) := by decide +kernel
theorem dX6_chain_506 : decode cX6_chain 506 = .ok (.iload 5, 2) := by decide +kernel
theorem dX6_chain_508 : decode cX6_chain 508 = .ok (.invokevirtual 189, 3) := by decide +kernel
theorem dX6_chain_511 : decode cX6_chain 511 = .ok (.goto 141, 3) := by decide +kernel
theorem dX6_chain_514 : decode cX6_chain 514 = .ok (.aload_n 0, 1) := by decide +kernel
theorem dX6_chain_515 : decode cX6_chain 515 = .ok (.iload_n 1, 1) := by decide +kernel
theorem dX6_chain_516 : decode cX6_chain 516 = .ok (.iconst 0, 1) := by decide +kernel
theorem dX6_chain_517 : decode cX6_chain 517 = .ok (.bipush 10, 2) := by decide +kernel
theorem dX6_chain_519 : decode cX6_chain 519 = .ok (.invokevirtual 204, 3) := by decide +kernel
theorem dX6_chain_522 : decode cX6_chain 522 = .ok (.ifCond .eq 130, 3) := by decide +kernel
theorem dX6_chain_525 : decode cX6_chain 525 = .ok (.iload_n 2, 1) := by decide +kernel
theorem dX6_chain_526 : decode cX6_chain 526 = .ok (.ifCond .eq 126, 3) := by decide +kernel
theorem dX6_chain_529 : decode cX6_chain 529 = .ok (.iload 4, 2) := by decide +kernel
theorem dX6_chain_531 : decode cX6_chain 531 = .ok (.iconst 1, 1) := by decide +kernel
theorem dX6_chain_532 : decode cX6_chain 532 = .ok (.if_icmp .ne 120, 3) := by decide +kernel
theorem dX6_chain_535 : decode cX6_chain 535 = .ok (.iload_n 3, 1) := by decide +kernel
theorem dX6_chain_536 : decode cX6_chain 536 = .ok (.iload 6, 2) := by decide +kernel
theorem dX6_chain_538 : decode cX6_chain 538 = .ok (.if_icmp .ne 114, 3) := by decide +kernel
theorem dX6_chain_541 : decode cX6_chain 541 = .ok (.iload 5, 2) := by decide +kernel
theorem dX6_chain_543 : decode cX6_chain 543 = .ok (.iload 7, 2) := by decide +kernel
theorem dX6_chain_545 : decode cX6_chain 545 = .ok (.if_icmp .ne 107, 3) := by decide +kernel
theorem dX6_chain_548 : decode cX6_chain 548 = .ok (.aload_n 0, 1) := by decide +kernel
theorem dX6_chain_549 : decode cX6_chain 549 = .ok (.iload_n 1, 1) := by decide +kernel
theorem dX6_chain_550 : decode cX6_chain 550 = .ok (.bipush 12, 2) := by decide +kernel
theorem dX6_chain_552 : decode cX6_chain 552 = .ok (.iconst 0, 1) := by decide +kernel
theorem dX6_chain_553 : decode cX6_chain 553 = .ok (.iconst 0, 1) := by decide +kernel
theorem dX6_chain_554 : decode cX6_chain 554 = .ok (.iconst 0, 1) := by decide +kernel
theorem dX6_chain_555 : decode cX6_chain 555 = .ok (.invokevirtual 189, 3) := by decide +kernel
theorem dX6_chain_558 : decode cX6_chain 558 = .ok (.goto 94, 3) := by decide +kernel
theorem dX6_chain_561 : decode cX6_chain 561 = .ok (.aload_n 0, 1) := by decide +kernel
theorem dX6_chain_562 : decode cX6_chain 562 = .ok (.iload_n 1, 1) := by decide +kernel
theorem dX6_chain_563 : decode cX6_chain 563 = .ok (.iconst 0, 1) := by decide +kernel
theorem dX6_chain_564 : decode cX6_chain 564 = .ok (.bipush 11, 2) := by decide +kernel
theorem dX6_chain_566 : decode cX6_chain 566 = .ok (.invokevirtual 204, 3) := by decide +kernel
theorem dX6_chain_569 : decode cX6_chain 569 = .ok (.ifCond .eq 83, 3) := by decide +kernel
theorem dX6_chain_572 : decode cX6_chain 572 = .ok (.iload 7, 2) := by decide +kernel
theorem dX6_chain_574 : decode cX6_chain 574 = .ok (.iconst 1, 1) := by decide +kernel
theorem dX6_chain_575 : decode cX6_chain 575 = .ok (.if_icmp .ne 77, 3) := by decide +kernel
theorem dX6_chain_578 : decode cX6_chain 578 = .ok (.aload_n 0, 1) := by decide +kernel
theorem dX6_chain_579 : decode cX6_chain 579 = .ok (.iload_n 1, 1) := by decide +kernel
theorem dX6_chain_580 : decode cX6_chain 580 = .ok (.bipush 11, 2) := by decide +kernel
theorem dX6_chain_582 : decode cX6_chain 582 = .ok (.aload_n 0, 1) := by decide +kernel
theorem dX6_chain_583 : decode cX6_chain 583 = .ok (.iload_n 1, 1) := by decide +kernel
theorem dX6_chain_584 : decode cX6_chain 584 = .ok (.iconst 0, 1) := by decide +kernel
theorem dX6_chain_585 : decode cX6_chain 585 = .ok (.iconst 3, 1) := by decide +kernel
theorem dX6_chain_586 : decode cX6_chain 586 = .ok (.invokevirtual 185, 3) := by decide +kernel
theorem dX6_chain_589 : decode cX6_chain 589 = .ok (.iconst 1, 1) := by decide +kernel
theorem dX6_chain_590 : decode cX6_chain 590 = .ok (.iload 6, 2) := by decide +kernel
theorem dX6_chain_592 : decode cX6_chain 592 = .ok (.invokevirtual 189, 3) := by decide +kernel
theorem dX6_chain_595 : decode cX6_chain 595 = .ok (.goto 57, 3) := by decide +kernel
theorem dX6_chain_598 : decode cX6_chain 598 = .ok (.aload_n 0, 1) := by decide +kernel
theorem dX6_chain_599 : decode cX6_chain 599 = .ok (.iload_n 1, 1) := by decide +kernel
theorem dX6_chain_600 : decode cX6_chain 600 = .ok (.iconst 0, 1) := by decide +kernel
theorem dX6_chain_601 : decode cX6_chain 601 = .ok (.bipush 12, 2) := by decide +kernel
theorem dX6_chain_603 : decode cX6_chain 603 = .ok (.invokevirtual 204, 3) := by decide +kernel
theorem dX6_chain_606 : decode cX6_chain 606 = .ok (.ifCond .eq 46, 3) := by decide +kernel
theorem dX6_chain_609 : decode cX6_chain 609 = .ok (.aload_n 0, 1) := by decide +kernel
theorem dX6_chain_610 : decode cX6_chain 610 = .ok (.aload_n 0, 1) := by decide +kernel
theorem dX6_chain_611 : decode cX6_chain 611 = .ok (.getfield 125, 3) := by decide +kernel
theorem dX6_chain_614 : decode cX6_chain 614 = .ok (.aload_n 0, 1) := by decide +kernel
theorem dX6_chain_615 : decode cX6_chain 615 = .ok (.getfield 131, 3) := by decide +kernel
theorem dX6_chain_618 : decode cX6_chain 618 = .ok (.iload_n 1, 1) := by decide +kernel
theorem dX6_chain_619 : decode cX6_chain 619 = .ok (.iaload, 1) := by decide +kernel
theorem dX6_chain_620 : decode cX6_chain 620 = .ok (.iload_n 1, 1) := by decide +kernel
theorem dX6_chain_621 : decode cX6_chain 621 = .ok (.invokevirtual 197, 3) := by decide +kernel
theorem dX6_chain_624 : decode cX6_chain 624 = .ok (.goto 28, 3) := by decide +kernel
theorem dX6_chain_627 : decode cX6_chain 627 = .ok (.iload_n 2, 1) := by decide +kernel
theorem dX6_chain_628 : decode cX6_chain 628 = .ok (.ifCond .eq 24, 3) := by decide +kernel
theorem dX6_chain_631 : decode cX6_chain 631 = .ok (.aload_n 0, 1) := by decide +kernel
theorem dX6_chain_632 : decode cX6_chain 632 = .ok (.iload_n 1, 1) := by decide +kernel
theorem dX6_chain_633 : decode cX6_chain 633 = .ok (.iconst 2, 1) := by decide +kernel
theorem dX6_chain_634 : decode cX6_chain 634 = .ok (.bipush 11, 2) := by decide +kernel
theorem dX6_chain_636 : decode cX6_chain 636 = .ok (.invokevirtual 204, 3) := by decide +kernel
theorem dX6_chain_639 : decode cX6_chain 639 = .ok (.ifCond .eq 13, 3) := by decide +kernel
theorem dX6_chain_642 : decode cX6_chain 642 = .ok (.aload_n 0, 1) := by decide +kernel
theorem dX6_chain_643 : decode cX6_chain 643 = .ok (.iload_n 1, 1) := by decide +kernel
theorem dX6_chain_644 : decode cX6_chain 644 = .ok (.iload_n 3, 1) := by decide +kernel
theorem dX6_chain_645 : decode cX6_chain 645 = .ok (.iload 4, 2) := by decide +kernel
theorem dX6_chain_647 : decode cX6_chain 647 = .ok (.iload 5, 2) := by decide +kernel
theorem dX6_chain_649 : decode cX6_chain 649 = .ok (.invokevirtual 208, 3) := by decide +kernel
theorem dX6_chain_652 : decode cX6_chain 652 = .ok (.return_, 1) := by decide +kernel
set_option maxRecDepth 20000 in
theorem ggX6_three_X6_of : GoodIn wsX6_three wsX6_of := goodIn_r _ [6, 7, 8, 17, 18, 19, 20, 21, 22, 23, 24, 25, 26, 27, 28, 29, 30, 31, 32, 33] rfl (by decide +kernel)
set_option maxRecDepth 20000 in
theorem gX6_three_X6_of : GoodIn wsX6_three (wsV RX6 185 RX6 yX6_of wsX6_of) := goodIn_app (goodIn_of _ (by decide +kernel)) ggX6_three_X6_of
set_option maxRecDepth 20000 in
theorem ggX6_three_X6_is : GoodIn wsX6_three wsX6_is := goodIn_r _ [12, 2, 3, 4, 5, 6, 7, 8, 17, 18, 19, 20, 21, 22, 23, 24, 25, 26, 27, 28, 29, 30, 31, 32, 33] rfl (by decide +kernel)
set_option maxRecDepth 20000 in
theorem gX6_three_X6_is : GoodIn wsX6_three (wsV RX6 204 RX6 yX6_is wsX6_is) := goodIn_app (goodIn_of _ (by decide +kernel)) ggX6_three_X6_is
set_option maxRecDepth 20000 in
theorem ggX6_three_X6_state : GoodIn wsX6_three wsX6_state := goodIn_r _ [16, 7, 17, 18, 19, 20, 21, 22, 23, 24, 25, 26, 27, 28, 29, 30, 31, 32, 33] rfl (by decide +kernel)
set_option maxRecDepth 20000 in
theorem gX6_three_X6_state : GoodIn wsX6_three (wsV RX6 189 RX6 yX6_state wsX6_state) := goodIn_app (goodIn_of _ (by decide +kernel)) ggX6_three_X6_state
theorem dX6_three_0 : decode cX6_three 0 = .ok (.aload_n 0, 1) := by decide +kernel
theorem dX6_three_1 : decode cX6_three 1 = .ok (.iload_n 1, 1) := by decide +kernel
theorem dX6_three_2 : decode cX6_three 2 = .ok (.iconst 0, 1) := by decide +kernel
theorem dX6_three_3 : decode cX6_three 3 = .ok (.iconst 1, 1) := by decide +kernel
theorem dX6_three_4 : decode cX6_three 4 = .ok (.invokevirtual 185, 3) := by decide +kernel
theorem dX6_three_7 : decode cX6_three 7 = .ok (.istore 5, 2) := by decide +kernel
theorem dX6_three_9 : decode cX6_three 9 = .ok (.aload_n 0, 1) := by decide +kernel
theorem dX6_three_10 : decode cX6_three 10 = .ok (.iload_n 1, 1) := by decide +kernel
theorem dX6_three_11 : decode cX6_three 11 = .ok (.iconst 2, 1) := by decide +kernel
theorem dX6_three_12 : decode cX6_three 12 = .ok (.iconst 1, 1) := by decide +kernel
theorem dX6_three_13 : decode cX6_three 13 = .ok (.invokevirtual 185, 3) := by decide +kernel
theorem dX6_three_16 : decode cX6_three 16 = .ok (.istore 6, 2) := by decide +kernel
theorem dX6_three_18 : decode cX6_three 18 = .ok (.aload_n 0, 1) := by decide +kernel
theorem dX6_three_19 : decode cX6_three 19 = .ok (.iload_n 1, 1) := by decide +kernel
theorem dX6_three_20 : decode cX6_three 20 = .ok (.iconst 2, 1) := by decide +kernel
theorem dX6_three_21 : decode cX6_three 21 = .ok (.iconst 2, 1) := by decide +kernel
theorem dX6_three_22 : decode cX6_three 22 = .ok (.invokevirtual 185, 3) := by decide +kernel
theorem dX6_three_25 : decode cX6_three 25 = .ok (.istore 7, 2) := by decide +kernel
theorem dX6_three_27 : decode cX6_three 27 = .ok (.aload_n 0, 1) := by decide +kernel
theorem dX6_three_28 : decode cX6_three 28 = .ok (.iload_n 1, 1) := by decide +kernel
theorem dX6_three_29 : decode cX6_three 29 = .ok (.iconst 2, 1) := by decide +kernel
theorem dX6_three_30 : decode cX6_three 30 = .ok (.iconst 3, 1) := by decide +kernel
theorem dX6_three_31 : decode cX6_three 31 = .ok (.invokevirtual 185, 3) := by decide +kernel
theorem dX6_three_34 : decode cX6_three 34 = .ok (.istore 8, 2) := by decide +kernel
theorem dX6_three_36 : decode cX6_three 36 = .ok (.aload_n 0, 1) := by decide +kernel
theorem dX6_three_37 : decode cX6_three 37 = .ok (.getfield 128, 3) := by decide +kernel
theorem dX6_three_40 : decode cX6_three 40 = .ok (.iload_n 1, 1) := by decide +kernel
theorem dX6_three_41 : decode cX6_three 41 = .ok (.iaload, 1) := by decide +kernel
theorem dX6_three_42 : decode cX6_three 42 = .ok (.bipush 10, 2) := by decide +kernel
theorem dX6_three_44 : decode cX6_three 44 = .ok (.if_icmp .ne 45, 3) := by decide +kernel
theorem dX6_three_47 : decode cX6_three 47 = .ok (.aload_n 0, 1) := by decide +kernel
theorem dX6_three_48 : decode cX6_three 48 = .ok (.iload_n 1, 1) := by decide +kernel
theorem dX6_three_49 : decode cX6_three 49 = .ok (.iconst 0, 1) := by decide +kernel
theorem dX6_three_50 : decode cX6_three 50 = .ok (.bipush 6, 2) := by decide +kernel
theorem dX6_three_52 : decode cX6_three 52 = .ok (.invokevirtual 204, 3) := by decide +kernel
theorem dX6_three_55 : decode cX6_three 55 = .ok (.ifCond .eq 34, 3) := by decide +kernel
theorem dX6_three_58 : decode cX6_three 58 = .ok (.iload_n 3, 1) := by decide +kernel
theorem dX6_three_59 : decode cX6_three 59 = .ok (.iload 5, 2) := by decide +kernel
theorem dX6_three_61 : decode cX6_three 61 = .ok (.if_icmp .ne 28, 3) := by decide +kernel
theorem dX6_three_64 : decode cX6_three 64 = .ok (.iload 7, 2) := by decide +kernel
theorem dX6_three_66 : decode cX6_three 66 = .ok (.iload 5, 2) := by decide +kernel
theorem dX6_three_68 : decode cX6_three 68 = .ok (.if_icmp .ne 21, 3) := by decide +kernel
theorem dX6_three_71 : decode cX6_three 71 = .ok (.iload 4, 2) := by decide +kernel
theorem dX6_three_73 : decode cX6_three 73 = .ok (.iload 6, 2) := by decide +kernel
theorem dX6_three_75 : decode cX6_three 75 = .ok (.if_icmp .ne 14, 3) := by decide +kernel
theorem dX6_three_78 : decode cX6_three 78 = .ok (.aload_n 0, 1) := by decide +kernel
theorem dX6_three_79 : decode cX6_three 79 = .ok (.iload_n 1, 1) := by decide +kernel
theorem dX6_three_80 : decode cX6_three 80 = .ok (.bipush 11, 2) := by decide +kernel
theorem dX6_three_82 : decode cX6_three 82 = .ok (.iload_n 2, 1) := by decide +kernel
theorem dX6_three_83 : decode cX6_three 83 = .ok (.iload_n 3, 1) := by decide +kernel
theorem dX6_three_84 : decode cX6_three 84 = .ok (.iload 8, 2) := by decide +kernel
theorem dX6_three_86 : decode cX6_three 86 = .ok (.invokevirtual 189, 3) := by decide +kernel
theorem dX6_three_89 : decode cX6_three 89 = .ok (.aload_n 0, 1) := by decide +kernel
theorem dX6_three_90 : decode cX6_three 90 = .ok (.getfield 128, 3) := by decide +kernel
theorem dX6_three_93 : decode cX6_three 93 = .ok (.iload_n 1, 1) := by decide +kernel
theorem dX6_three_94 : decode cX6_three 94 = .ok (.iaload, 1) := by decide +kernel
theorem dX6_three_95 : decode cX6_three 95 = .ok (.bipush 14, 2) := by decide +kernel
theorem dX6_three_97 : decode cX6_three 97 = .ok (.if_icmp .ne 45, 3) := by decide +kernel
theorem dX6_three_100 : decode cX6_three 100 = .ok (.aload_n 0, 1) := by decide +kernel
theorem dX6_three_101 : decode cX6_three 101 = .ok (.iload_n 1, 1) := by decide +kernel
theorem dX6_three_102 : decode cX6_three 102 = .ok (.iconst 0, 1) := by decide +kernel
theorem dX6_three_103 : decode cX6_three 103 = .ok (.bipush 9, 2) := by decide +kernel
theorem dX6_three_105 : decode cX6_three 105 = .ok (.invokevirtual 204, 3) := by decide +kernel
theorem dX6_three_108 : decode cX6_three 108 = .ok (.ifCond .eq 34, 3) := by decide +kernel
theorem dX6_three_111 : decode cX6_three 111 = .ok (.iload_n 3, 1) := by decide +kernel
theorem dX6_three_112 : decode cX6_three 112 = .ok (.iload 5, 2) := by decide +kernel
theorem dX6_three_114 : decode cX6_three 114 = .ok (.if_icmp .ne 28, 3) := by decide +kernel
theorem dX6_three_117 : decode cX6_three 117 = .ok (.iload 7, 2) := by decide +kernel
theorem dX6_three_119 : decode cX6_three 119 = .ok (.iload 5, 2) := by decide +kernel
theorem dX6_three_121 : decode cX6_three 121 = .ok (.if_icmp .ne 21, 3) := by decide +kernel
theorem dX6_three_124 : decode cX6_three 124 = .ok (.iload_n 2, 1) := by decide +kernel
theorem dX6_three_125 : decode cX6_three 125 = .ok (.iload 6, 2) := by decide +kernel
theorem dX6_three_127 : decode cX6_three 127 = .ok (.if_icmp .ne 15, 3) := by decide +kernel
theorem dX6_three_130 : decode cX6_three 130 = .ok (.aload_n 0, 1) := by decide +kernel
theorem dX6_three_131 : decode cX6_three 131 = .ok (.iload_n 1, 1) := by decide +kernel
theorem dX6_three_132 : decode cX6_three 132 = .ok (.bipush 11, 2) := by decide +kernel
theorem dX6_three_134 : decode cX6_three 134 = .ok (.iload 4, 2) := by decide +kernel
theorem dX6_three_136 : decode cX6_three 136 = .ok (.iconst 1, 1) := by decide +kernel
theorem dX6_three_137 : decode cX6_three 137 = .ok (.iload 8, 2) := by decide +kernel
theorem dX6_three_139 : decode cX6_three 139 = .ok (.invokevirtual 189, 3) := by decide +kernel
theorem dX6_three_142 : decode cX6_three 142 = .ok (.aload_n 0, 1) := by decide +kernel
theorem dX6_three_143 : decode cX6_three 143 = .ok (.getfield 128, 3) := by decide +kernel
theorem dX6_three_146 : decode cX6_three 146 = .ok (.iload_n 1, 1) := by decide +kernel
theorem dX6_three_147 : decode cX6_three 147 = .ok (.iaload, 1) := by decide +kernel
theorem dX6_three_148 : decode cX6_three 148 = .ok (.bipush 15, 2) := by decide +kernel
theorem dX6_three_150 : decode cX6_three 150 = .ok (.if_icmp .ne 57, 3) := by decide +kernel
theorem dX6_three_153 : decode cX6_three 153 = .ok (.aload_n 0, 1) := by decide +kernel
theorem dX6_three_154 : decode cX6_three 154 = .ok (.iload_n 1, 1) := by decide +kernel
theorem dX6_three_155 : decode cX6_three 155 = .ok (.iconst 0, 1) := by decide +kernel
theorem dX6_three_156 : decode cX6_three 156 = .ok (.iconst 5, 1) := by decide +kernel
theorem dX6_three_157 : decode cX6_three 157 = .ok (.invokevirtual 204, 3) := by decide +kernel
theorem dX6_three_160 : decode cX6_three 160 = .ok (.ifCond .eq 47, 3) := by decide +kernel
theorem dX6_three_163 : decode cX6_three 163 = .ok (.iload_n 3, 1) := by decide +kernel
theorem dX6_three_164 : decode cX6_three 164 = .ok (.ifCond .ne 43, 3) := by decide +kernel
theorem dX6_three_167 : decode cX6_three 167 = .ok (.iload 7, 2) := by decide +kernel
theorem dX6_three_169 : decode cX6_three 169 = .ok (.ifCond .ne 38, 3) := by decide +kernel
theorem dX6_three_172 : decode cX6_three 172 = .ok (.iload 4, 2) := by decide +kernel
theorem dX6_three_174 : decode cX6_three 174 = .ok (.iload 5, 2) := by decide +kernel
theorem dX6_three_176 : decode cX6_three 176 = .ok (.if_icmp .ne 31, 3) := by decide +kernel
theorem dX6_three_179 : decode cX6_three 179 = .ok (.iload 8, 2) := by decide +kernel
theorem dX6_three_181 : decode cX6_three 181 = .ok (.aload_n 0, 1) := by decide +kernel
theorem dX6_three_182 : decode cX6_three 182 = .ok (.iload_n 1, 1) := by decide +kernel
theorem dX6_three_183 : decode cX6_three 183 = .ok (.iconst 0, 1) := by decide +kernel
theorem dX6_three_184 : decode cX6_three 184 = .ok (.iconst 2, 1) := by decide +kernel
theorem dX6_three_185 : decode cX6_three 185 = .ok (.invokevirtual 185, 3) := by decide +kernel
theorem dX6_three_188 : decode cX6_three 188 = .ok (.if_icmp .ne 19, 3) := by decide +kernel
theorem dX6_three_191 : decode cX6_three 191 = .ok (.iload_n 2, 1) := by decide +kernel
theorem dX6_three_192 : decode cX6_three 192 = .ok (.iload 6, 2) := by decide +kernel
theorem dX6_three_194 : decode cX6_three 194 = .ok (.if_icmp .ne 13, 3) := by decide +kernel
theorem dX6_three_197 : decode cX6_three 197 = .ok (.aload_n 0, 1) := by decide +kernel
theorem dX6_three_198 : decode cX6_three 198 = .ok (.iload_n 1, 1) := by decide +kernel
theorem dX6_three_199 : decode cX6_three 199 = .ok (.bipush 12, 2) := by decide +kernel
theorem dX6_three_201 : decode cX6_three 201 = .ok (.iconst 0, 1) := by decide +kernel
theorem dX6_three_202 : decode cX6_three 202 = .ok (.iconst 0, 1) := by decide +kernel
theorem dX6_three_203 : decode cX6_three 203 = .ok (.iconst 0, 1) := by decide +kernel
theorem dX6_three_204 : decode cX6_three 204 = .ok (.invokevirtual 189, 3) := by decide +kernel
theorem dX6_three_207 : decode cX6_three 207 = .ok (.return_, 1) := by decide +kernel
theorem dX6_mark_0 : decode cX6_mark 0 = .ok (.iconst 1, 1) := by decide +kernel
theorem dX6_mark_1 : decode cX6_mark 1 = .ok (.istore_n 2, 1) := by decide +kernel
theorem dX6_mark_2 : decode cX6_mark 2 = .ok (.iload_n 2, 1) := by decide +kernel
theorem dX6_mark_3 : decode cX6_mark 3 = .ok (.aload_n 0, 1) := by decide +kernel
theorem dX6_mark_4 : decode cX6_mark 4 = .ok (.getfield 167, 3) := by decide +kernel
theorem dX6_mark_7 : decode cX6_mark 7 = .ok (.if_icmp .gt 25, 3) := by decide +kernel
theorem dX6_mark_10 : decode cX6_mark 10 = .ok (.aload_n 0, 1) := by decide +kernel
theorem dX6_mark_11 : decode cX6_mark 11 = .ok (.getfield 143, 3) := by decide +kernel
theorem dX6_mark_14 : decode cX6_mark 14 = .ok (.iload_n 2, 1) := by decide +kernel
theorem dX6_mark_15 : decode cX6_mark 15 = .ok (.iload_n 2, 1) := by decide +kernel
theorem dX6_mark_16 : decode cX6_mark 16 = .ok (.iload_n 1, 1) := by decide +kernel
theorem dX6_mark_17 : decode cX6_mark 17 = .ok (.if_icmp .ne 7, 3) := by decide +kernel
theorem dX6_mark_20 : decode cX6_mark 20 = .ok (.iconst 1, 1) := by decide +kernel
theorem dX6_mark_21 : decode cX6_mark 21 = .ok (.goto 4, 3) := by decide +kernel
theorem dX6_mark_24 : decode cX6_mark 24 = .ok (.iconst 0, 1) := by decide +kernel
theorem dX6_mark_25 : decode cX6_mark 25 = .ok (.bastore, 1) := by decide +kernel
theorem dX6_mark_26 : decode cX6_mark 26 = .ok (.iinc 2 1, 3) := by decide +kernel
theorem dX6_mark_29 : decode cX6_mark 29 = .ok (.goto (-27), 3) := by decide +kernel
theorem dX6_mark_32 : decode cX6_mark 32 = .ok (.iconst 0, 1) := by decide +kernel
theorem dX6_mark_33 : decode cX6_mark 33 = .ok (.istore_n 2, 1) := by decide +kernel
theorem dX6_mark_34 : decode cX6_mark 34 = .ok (.iload_n 1, 1) := by decide +kernel
theorem dX6_mark_35 : decode cX6_mark 35 = .ok (.istore_n 3, 1) := by decide +kernel
theorem dX6_mark_36 : decode cX6_mark 36 = .ok (.iload_n 3, 1) := by decide +kernel
theorem dX6_mark_37 : decode cX6_mark 37 = .ok (.ifCond .le 61, 3) := by decide +kernel
theorem dX6_mark_40 : decode cX6_mark 40 = .ok (.aload_n 0, 1) := by decide +kernel
theorem dX6_mark_41 : decode cX6_mark 41 = .ok (.getfield 143, 3) := by decide +kernel
theorem dX6_mark_44 : decode cX6_mark 44 = .ok (.iload_n 3, 1) := by decide +kernel
theorem dX6_mark_45 : decode cX6_mark 45 = .ok (.baload, 1) := by decide +kernel
theorem dX6_mark_46 : decode cX6_mark 46 = .ok (.ifCond .ne 6, 3) := by decide +kernel
theorem dX6_mark_49 : decode cX6_mark 49 = .ok (.goto 43, 3) := by decide +kernel
theorem dX6_mark_52 : decode cX6_mark 52 = .ok (.iinc 2 1, 3) := by decide +kernel
theorem dX6_mark_55 : decode cX6_mark 55 = .ok (.iconst 0, 1) := by decide +kernel
theorem dX6_mark_56 : decode cX6_mark 56 = .ok (.istore 4, 2) := by decide +kernel
theorem dX6_mark_58 : decode cX6_mark 58 = .ok (.iload 4, 2) := by decide +kernel
theorem dX6_mark_60 : decode cX6_mark 60 = .ok (.aload_n 0, 1) := by decide +kernel
theorem dX6_mark_61 : decode cX6_mark 61 = .ok (.getfield 134, 3) := by decide +kernel
theorem dX6_mark_64 : decode cX6_mark 64 = .ok (.iload_n 3, 1) := by decide +kernel
theorem dX6_mark_65 : decode cX6_mark 65 = .ok (.iaload, 1) := by decide +kernel
theorem dX6_mark_66 : decode cX6_mark 66 = .ok (.if_icmp .ge 26, 3) := by decide +kernel
theorem dX6_mark_69 : decode cX6_mark 69 = .ok (.aload_n 0, 1) := by decide +kernel
theorem dX6_mark_70 : decode cX6_mark 70 = .ok (.getfield 143, 3) := by decide +kernel
theorem dX6_mark_73 : decode cX6_mark 73 = .ok (.aload_n 0, 1) := by decide +kernel
theorem dX6_mark_74 : decode cX6_mark 74 = .ok (.getfield 137, 3) := by decide +kernel
theorem dX6_mark_77 : decode cX6_mark 77 = .ok (.iconst 3, 1) := by decide +kernel
theorem dX6_mark_78 : decode cX6_mark 78 = .ok (.iload_n 3, 1) := by decide +kernel
theorem dX6_mark_79 : decode cX6_mark 79 = .ok (.imul, 1) := by decide +kernel
theorem dX6_mark_80 : decode cX6_mark 80 = .ok (.iload 4, 2) := by decide +kernel
theorem dX6_mark_82 : decode cX6_mark 82 = .ok (.iadd, 1) := by decide +kernel
theorem dX6_mark_83 : decode cX6_mark 83 = .ok (.iaload, 1) := by decide +kernel
theorem dX6_mark_84 : decode cX6_mark 84 = .ok (.iconst 1, 1) := by decide +kernel
theorem dX6_mark_85 : decode cX6_mark 85 = .ok (.bastore, 1) := by decide +kernel
theorem dX6_mark_86 : decode cX6_mark 86 = .ok (.iinc 4 1, 3) := by decide +kernel
theorem dX6_mark_89 : decode cX6_mark 89 = .ok (.goto (-31), 3) := by decide +kernel
theorem dX6_mark_92 : decode cX6_mark 92 = .ok (.iinc 3 (-1), 3) := by decide +kernel
theorem dX6_mark_95 : decode cX6_mark 95 = .ok (.goto (-59), 3) := by decide +kernel
theorem dX6_mark_98 : decode cX6_mark 98 = .ok (.iload_n 2, 1) := by decide +kernel
theorem dX6_mark_99 : decode cX6_mark 99 = .ok (.ireturn, 1) := by decide +kernel
set_option maxRecDepth 20000 in
theorem ggX6_check_X6_isRow : GoodIn wsX6_check wsX6_isRow := goodIn_r _ [8, 9, 59, 60, 61, 62, 63, 64, 65, 66, 67, 68, 69, 70, 71, 72, 73, 74, 75] rfl (by decide +kernel)
set_option maxRecDepth 20000 in
theorem gX6_check_X6_isRow : GoodIn wsX6_check (wsV RX6 174 RX6 yX6_isRow wsX6_isRow) := goodIn_app (goodIn_of _ (by decide +kernel)) ggX6_check_X6_isRow
set_option maxRecDepth 20000 in
theorem ggX6_check_X6_mark : GoodIn wsX6_check wsX6_mark := goodIn_r _ [13, 9, 2, 3, 14, 59, 60, 61, 62, 63, 64, 65, 66, 67, 68, 69, 70, 71, 72, 73, 74, 75] rfl (by decide +kernel)
set_option maxRecDepth 20000 in
theorem gX6_check_X6_mark : GoodIn wsX6_check (wsV RX6 212 RX6 yX6_mark wsX6_mark) := goodIn_app (goodIn_of _ (by decide +kernel)) ggX6_check_X6_mark
set_option maxRecDepth 20000 in
theorem ggX6_check_X6_work : GoodIn wsX6_check wsX6_work := goodIn_r _ [18, 3, 19, 20, 21, 22, 7, 23, 24, 25, 26, 27, 28, 29, 30, 31, 14, 32, 33, 34, 35, 36, 37, 38, 39, 40, 41, 42, 43, 44, 45, 46, 47, 48, 49, 50, 51, 52, 53, 54, 59, 60, 61, 62, 63, 64, 65, 66, 67, 68, 69, 70, 71, 72, 73, 74, 75] rfl (by decide +kernel)
set_option maxRecDepth 20000 in
theorem gX6_check_X6_work : GoodIn wsX6_check (wsV RX6 215 RX6 yX6_work wsX6_work) := goodIn_app (goodIn_of _ (by decide +kernel)) ggX6_check_X6_work
set_option maxRecDepth 20000 in
theorem ggX6_check_X6_kindOf : GoodIn wsX6_check wsX6_kindOf := goodIn_r _ [58, 24, 59, 60, 61, 62, 63, 64, 65, 66, 67, 68, 69, 70, 71, 72, 73, 74, 75] rfl (by decide +kernel)
set_option maxRecDepth 20000 in
theorem gX6_check_X6_kindOf : GoodIn wsX6_check (wsV RX6 221 RX6 yX6_kindOf wsX6_kindOf) := goodIn_app (goodIn_of _ (by decide +kernel)) ggX6_check_X6_kindOf
set_option maxRecDepth 20000 in
theorem ggX6_check_X6_of : GoodIn wsX6_check wsX6_of := goodIn_r _ [31, 24, 14, 59, 60, 61, 62, 63, 64, 65, 66, 67, 68, 69, 70, 71, 72, 73, 74, 75] rfl (by decide +kernel)
set_option maxRecDepth 20000 in
theorem gX6_check_X6_of : GoodIn wsX6_check (wsV RX6 185 RX6 yX6_of wsX6_of) := goodIn_app (goodIn_of _ (by decide +kernel)) ggX6_check_X6_of
theorem dX6_check_0 : decode cX6_check 0 = .ok (.aload_n 0, 1) := by decide +kernel
theorem dX6_check_1 : decode cX6_check 1 = .ok (.iload_n 1, 1) := by decide +kernel
theorem dX6_check_2 : decode cX6_check 2 = .ok (.invokevirtual 174, 3) := by decide +kernel
theorem dX6_check_5 : decode cX6_check 5 = .ok (.ifCond .ne 5, 3) := by decide +kernel
theorem dX6_check_8 : decode cX6_check 8 = .ok (.iconst (-1), 1) := by decide +kernel
theorem dX6_check_9 : decode cX6_check 9 = .ok (.ireturn, 1) := by decide +kernel
theorem dX6_check_10 : decode cX6_check 10 = .ok (.aload_n 0, 1) := by decide +kernel
theorem dX6_check_11 : decode cX6_check 11 = .ok (.iload_n 1, 1) := by decide +kernel
theorem dX6_check_12 : decode cX6_check 12 = .ok (.invokevirtual 212, 3) := by decide +kernel
theorem dX6_check_15 : decode cX6_check 15 = .ok (.pop, 1) := by decide +kernel
theorem dX6_check_16 : decode cX6_check 16 = .ok (.aload_n 0, 1) := by decide +kernel
theorem dX6_check_17 : decode cX6_check 17 = .ok (.iload_n 1, 1) := by decide +kernel
theorem dX6_check_18 : decode cX6_check 18 = .ok (.invokevirtual 215, 3) := by decide +kernel
theorem dX6_check_21 : decode cX6_check 21 = .ok (.aload_n 0, 1) := by decide +kernel
theorem dX6_check_22 : decode cX6_check 22 = .ok (.iconst 0, 1) := by decide +kernel
theorem dX6_check_23 : decode cX6_check 23 = .ok (.putfield 218, 3) := by decide +kernel
theorem dX6_check_26 : decode cX6_check 26 = .ok (.iload_n 1, 1) := by decide +kernel
theorem dX6_check_27 : decode cX6_check 27 = .ok (.istore_n 2, 1) := by decide +kernel
theorem dX6_check_28 : decode cX6_check 28 = .ok (.iload_n 2, 1) := by decide +kernel
theorem dX6_check_29 : decode cX6_check 29 = .ok (.ifCond .le 82, 3) := by decide +kernel
theorem dX6_check_32 : decode cX6_check 32 = .ok (.aload_n 0, 1) := by decide +kernel
theorem dX6_check_33 : decode cX6_check 33 = .ok (.getfield 143, 3) := by decide +kernel
theorem dX6_check_36 : decode cX6_check 36 = .ok (.iload_n 2, 1) := by decide +kernel
theorem dX6_check_37 : decode cX6_check 37 = .ok (.baload, 1) := by decide +kernel
theorem dX6_check_38 : decode cX6_check 38 = .ok (.ifCond .eq 15, 3) := by decide +kernel
theorem dX6_check_41 : decode cX6_check 41 = .ok (.aload_n 0, 1) := by decide +kernel
theorem dX6_check_42 : decode cX6_check 42 = .ok (.iload_n 2, 1) := by decide +kernel
theorem dX6_check_43 : decode cX6_check 43 = .ok (.invokevirtual 221, 3) := by decide +kernel
theorem dX6_check_46 : decode cX6_check 46 = .ok (.ifCond .ne 7, 3) := by decide +kernel
theorem dX6_check_49 : decode cX6_check 49 = .ok (.iconst 1, 1) := by decide +kernel
theorem dX6_check_50 : decode cX6_check 50 = .ok (.goto 4, 3) := by decide +kernel
theorem dX6_check_53 : decode cX6_check 53 = .ok (.iconst 0, 1) := by decide +kernel
theorem dX6_check_54 : decode cX6_check 54 = .ok (.istore_n 3, 1) := by decide +kernel
theorem dX6_check_55 : decode cX6_check 55 = .ok (.iconst 0, 1) := by decide +kernel
theorem dX6_check_56 : decode cX6_check 56 = .ok (.istore 4, 2) := by decide +kernel
theorem dX6_check_58 : decode cX6_check 58 = .ok (.iload 4, 2) := by decide +kernel
theorem dX6_check_60 : decode cX6_check 60 = .ok (.aload_n 0, 1) := by decide +kernel
theorem dX6_check_61 : decode cX6_check 61 = .ok (.getfield 134, 3) := by decide +kernel
theorem dX6_check_64 : decode cX6_check 64 = .ok (.iload_n 2, 1) := by decide +kernel
theorem dX6_check_65 : decode cX6_check 65 = .ok (.iaload, 1) := by decide +kernel
theorem dX6_check_66 : decode cX6_check 66 = .ok (.if_icmp .ge 30, 3) := by decide +kernel
theorem dX6_check_69 : decode cX6_check 69 = .ok (.iload_n 3, 1) := by decide +kernel
theorem dX6_check_70 : decode cX6_check 70 = .ok (.ifCond .eq 18, 3) := by decide +kernel
theorem dX6_check_73 : decode cX6_check 73 = .ok (.aload_n 0, 1) := by decide +kernel
theorem dX6_check_74 : decode cX6_check 74 = .ok (.iload_n 2, 1) := by decide +kernel
theorem dX6_check_75 : decode cX6_check 75 = .ok (.iload 4, 2) := by decide +kernel
theorem dX6_check_77 : decode cX6_check 77 = .ok (.iconst 0, 1) := by decide +kernel
theorem dX6_check_78 : decode cX6_check 78 = .ok (.invokevirtual 185, 3) := by decide +kernel
theorem dX6_check_81 : decode cX6_check 81 = .ok (.ifCond .eq 7, 3) := by decide +kernel
theorem dX6_check_84 : decode cX6_check 84 = .ok (.iconst 1, 1) := by decide +kernel
theorem dX6_check_85 : decode cX6_check 85 = .ok (.goto 4, 3) := by decide +kernel
theorem dX6_check_88 : decode cX6_check 88 = .ok (.iconst 0, 1) := by decide +kernel
theorem dX6_check_89 : decode cX6_check 89 = .ok (.istore_n 3, 1) := by decide +kernel
theorem dX6_check_90 : decode cX6_check 90 = .ok (.iinc 4 1, 3) := by decide +kernel
theorem dX6_check_93 : decode cX6_check 93 = .ok (.goto (-35), 3) := by decide +kernel
theorem dX6_check_96 : decode cX6_check 96 = .ok (.iload_n 3, 1) := by decide +kernel
theorem dX6_check_97 : decode cX6_check 97 = .ok (.ifCond .eq 8, 3) := by decide +kernel
theorem dX6_check_100 : decode cX6_check 100 = .ok (.aload_n 0, 1) := by decide +kernel
theorem dX6_check_101 : decode cX6_check 101 = .ok (.iload_n 2, 1) := by decide +kernel
theorem dX6_check_102 : decode cX6_check 102 = .ok (.putfield 218, 3) := by decide +kernel
theorem dX6_check_105 : decode cX6_check 105 = .ok (.iinc 2 (-1), 3) := by decide +kernel
theorem dX6_check_108 : decode cX6_check 108 = .ok (.goto (-80), 3) := by decide +kernel
theorem dX6_check_111 : decode cX6_check 111 = .ok (.aload_n 0, 1) := by decide +kernel
theorem dX6_check_112 : decode cX6_check 112 = .ok (.iload_n 1, 1) := by decide +kernel
theorem dX6_check_113 : decode cX6_check 113 = .ok (.invokevirtual 221, 3) := by decide +kernel
theorem dX6_check_116 : decode cX6_check 116 = .ok (.ifCond .eq 7, 3) := by decide +kernel
theorem dX6_check_119 : decode cX6_check 119 = .ok (.iconst 1, 1) := by decide +kernel
theorem dX6_check_120 : decode cX6_check 120 = .ok (.goto 4, 3) := by decide +kernel
theorem dX6_check_123 : decode cX6_check 123 = .ok (.iconst 0, 1) := by decide +kernel
theorem dX6_check_124 : decode cX6_check 124 = .ok (.ireturn, 1) := by decide +kernel
theorem dX6_broken_0 : decode cX6_broken 0 = .ok (.aload_n 0, 1) := by decide +kernel
theorem dX6_broken_1 : decode cX6_broken 1 = .ok (.getfield 218, 3) := by decide +kernel
theorem dX6_broken_4 : decode cX6_broken 4 = .ok (.ireturn, 1) := by decide +kernel
set_option maxRecDepth 20000 in
theorem ggX6_rows_X6_isRow : GoodIn wsX6_rows wsX6_isRow := goodIn_r _ [5, 6, 14, 15, 16, 17, 18, 19, 20, 21, 22, 23, 24, 25, 26, 27, 28, 29, 30] rfl (by decide +kernel)
set_option maxRecDepth 20000 in
theorem gX6_rows_X6_isRow : GoodIn wsX6_rows (wsV RX6 174 RX6 yX6_isRow wsX6_isRow) := goodIn_app (goodIn_of _ (by decide +kernel)) ggX6_rows_X6_isRow
set_option maxRecDepth 20000 in
theorem ggX6_rows_X6_mark : GoodIn wsX6_rows wsX6_mark := goodIn_r _ [10, 6, 11, 12, 13, 14, 15, 16, 17, 18, 19, 20, 21, 22, 23, 24, 25, 26, 27, 28, 29, 30] rfl (by decide +kernel)
set_option maxRecDepth 20000 in
theorem gX6_rows_X6_mark : GoodIn wsX6_rows (wsV RX6 212 RX6 yX6_mark wsX6_mark) := goodIn_app (goodIn_of _ (by decide +kernel)) ggX6_rows_X6_mark
theorem dX6_rows_0 : decode cX6_rows 0 = .ok (.aload_n 0, 1) := by decide +kernel
theorem dX6_rows_1 : decode cX6_rows 1 = .ok (.iload_n 1, 1) := by decide +kernel
theorem dX6_rows_2 : decode cX6_rows 2 = .ok (.invokevirtual 174, 3) := by decide +kernel
theorem dX6_rows_5 : decode cX6_rows 5 = .ok (.ifCond .eq 11, 3) := by decide +kernel
theorem dX6_rows_8 : decode cX6_rows 8 = .ok (.aload_n 0, 1) := by decide +kernel
theorem dX6_rows_9 : decode cX6_rows 9 = .ok (.iload_n 1, 1) := by decide +kernel
theorem dX6_rows_10 : decode cX6_rows 10 = .ok (.invokevirtual 212, 3) := by decide +kernel
theorem dX6_rows_13 : decode cX6_rows 13 = .ok (.goto 4, 3) := by decide +kernel
theorem dX6_rows_16 : decode cX6_rows 16 = .ok (.iconst (-1), 1) := by decide +kernel
theorem dX6_rows_17 : decode cX6_rows 17 = .ok (.ireturn, 1) := by decide +kernel
set_option maxRecDepth 20000 in
theorem ggX6_size_X6_isRow : GoodIn wsX6_size wsX6_isRow := goodIn_r _ [10, 11, 12, 13, 14, 15, 16, 17, 18, 19, 20, 21, 22, 23, 24, 25, 26, 27, 28] rfl (by decide +kernel)
set_option maxRecDepth 20000 in
theorem gX6_size_X6_isRow : GoodIn wsX6_size (wsV RX6 174 RX6 yX6_isRow wsX6_isRow) := goodIn_app (goodIn_of _ (by decide +kernel)) ggX6_size_X6_isRow
theorem dX6_size_0 : decode cX6_size 0 = .ok (.aload_n 0, 1) := by decide +kernel
theorem dX6_size_1 : decode cX6_size 1 = .ok (.iload_n 1, 1) := by decide +kernel
theorem dX6_size_2 : decode cX6_size 2 = .ok (.invokevirtual 174, 3) := by decide +kernel
theorem dX6_size_5 : decode cX6_size 5 = .ok (.ifCond .ne 5, 3) := by decide +kernel
theorem dX6_size_8 : decode cX6_size 8 = .ok (.iconst (-1), 1) := by decide +kernel
theorem dX6_size_9 : decode cX6_size 9 = .ok (.ireturn, 1) := by decide +kernel
theorem dX6_size_10 : decode cX6_size 10 = .ok (.iconst 1, 1) := by decide +kernel
theorem dX6_size_11 : decode cX6_size 11 = .ok (.istore_n 2, 1) := by decide +kernel
theorem dX6_size_12 : decode cX6_size 12 = .ok (.iload_n 2, 1) := by decide +kernel
theorem dX6_size_13 : decode cX6_size 13 = .ok (.iload_n 1, 1) := by decide +kernel
theorem dX6_size_14 : decode cX6_size 14 = .ok (.if_icmp .gt 72, 3) := by decide +kernel
theorem dX6_size_17 : decode cX6_size 17 = .ok (.lconst 1, 1) := by decide +kernel
theorem dX6_size_18 : decode cX6_size 18 = .ok (.lstore_n 3, 1) := by decide +kernel
theorem dX6_size_19 : decode cX6_size 19 = .ok (.iconst 0, 1) := by decide +kernel
theorem dX6_size_20 : decode cX6_size 20 = .ok (.istore 5, 2) := by decide +kernel
theorem dX6_size_22 : decode cX6_size 22 = .ok (.iload 5, 2) := by decide +kernel
theorem dX6_size_24 : decode cX6_size 24 = .ok (.aload_n 0, 1) := by decide +kernel
theorem dX6_size_25 : decode cX6_size 25 = .ok (.getfield 134, 3) := by decide +kernel
theorem dX6_size_28 : decode cX6_size 28 = .ok (.iload_n 2, 1) := by decide +kernel
theorem dX6_size_29 : decode cX6_size 29 = .ok (.iaload, 1) := by decide +kernel
theorem dX6_size_30 : decode cX6_size 30 = .ok (.if_icmp .ge 29, 3) := by decide +kernel
theorem dX6_size_33 : decode cX6_size 33 = .ok (.lload_n 3, 1) := by decide +kernel
theorem dX6_size_34 : decode cX6_size 34 = .ok (.aload_n 0, 1) := by decide +kernel
theorem dX6_size_35 : decode cX6_size 35 = .ok (.getfield 150, 3) := by decide +kernel
theorem dX6_size_38 : decode cX6_size 38 = .ok (.aload_n 0, 1) := by decide +kernel
theorem dX6_size_39 : decode cX6_size 39 = .ok (.getfield 137, 3) := by decide +kernel
theorem dX6_size_42 : decode cX6_size 42 = .ok (.iconst 3, 1) := by decide +kernel
theorem dX6_size_43 : decode cX6_size 43 = .ok (.iload_n 2, 1) := by decide +kernel
theorem dX6_size_44 : decode cX6_size 44 = .ok (.imul, 1) := by decide +kernel
theorem dX6_size_45 : decode cX6_size 45 = .ok (.iload 5, 2) := by decide +kernel
theorem dX6_size_47 : decode cX6_size 47 = .ok (.iadd, 1) := by decide +kernel
theorem dX6_size_48 : decode cX6_size 48 = .ok (.iaload, 1) := by decide +kernel
theorem dX6_size_49 : decode cX6_size 49 = .ok (.iaload, 1) := by decide +kernel
theorem dX6_size_50 : decode cX6_size 50 = .ok (.i2l, 1) := by decide +kernel
theorem dX6_size_51 : decode cX6_size 51 = .ok (.ladd, 1) := by decide +kernel
theorem dX6_size_52 : decode cX6_size 52 = .ok (.lstore_n 3, 1) := by decide +kernel
theorem dX6_size_53 : decode cX6_size 53 = .ok (.iinc 5 1, 3) := by decide +kernel
theorem dX6_size_56 : decode cX6_size 56 = .ok (.goto (-34), 3) := by decide +kernel
theorem dX6_size_59 : decode cX6_size 59 = .ok (.aload_n 0, 1) := by decide +kernel
theorem dX6_size_60 : decode cX6_size 60 = .ok (.getfield 150, 3) := by decide +kernel
theorem dX6_size_63 : decode cX6_size 63 = .ok (.iload_n 2, 1) := by decide +kernel
theorem dX6_size_64 : decode cX6_size 64 = .ok (.lload_n 3, 1) := by decide +kernel
theorem dX6_size_65 : decode cX6_size 65 = .ok (.ldc2_w 224, 3) := by decide +kernel
theorem dX6_size_68 : decode cX6_size 68 = .ok (.lcmp, 1) := by decide +kernel
theorem dX6_size_69 : decode cX6_size 69 = .ok (.ifCond .le 8, 3) := by decide +kernel
theorem dX6_size_72 : decode cX6_size 72 = .ok (.ldc 226, 2) := by decide +kernel
theorem dX6_size_74 : decode cX6_size 74 = .ok (.goto 5, 3) := by decide +kernel
theorem dX6_size_77 : decode cX6_size 77 = .ok (.lload_n 3, 1) := by decide +kernel
theorem dX6_size_78 : decode cX6_size 78 = .ok (.l2i, 1) := by decide +kernel
theorem dX6_size_79 : decode cX6_size 79 = .ok (.iastore, 1) := by decide +kernel
theorem dX6_size_80 : decode cX6_size 80 = .ok (.iinc 2 1, 3) := by decide +kernel
theorem dX6_size_83 : decode cX6_size 83 = .ok (.goto (-71), 3) := by decide +kernel
theorem dX6_size_86 : decode cX6_size 86 = .ok (.aload_n 0, 1) := by decide +kernel
theorem dX6_size_87 : decode cX6_size 87 = .ok (.getfield 150, 3) := by decide +kernel
theorem dX6_size_90 : decode cX6_size 90 = .ok (.iload_n 1, 1) := by decide +kernel
theorem dX6_size_91 : decode cX6_size 91 = .ok (.iaload, 1) := by decide +kernel
theorem dX6_size_92 : decode cX6_size 92 = .ok (.ireturn, 1) := by decide +kernel
set_option maxRecDepth 20000 in
theorem ggX6_drop_X6_isRow : GoodIn wsX6_drop wsX6_isRow := goodIn_r _ [13, 1, 18, 19, 20, 21, 22, 23, 24, 25, 26, 27, 28, 29, 30, 31, 32, 33, 34] rfl (by decide +kernel)
set_option maxRecDepth 20000 in
theorem gX6_drop_X6_isRow : GoodIn wsX6_drop (wsV RX6 174 RX6 yX6_isRow wsX6_isRow) := goodIn_app (goodIn_of _ (by decide +kernel)) ggX6_drop_X6_isRow
set_option maxRecDepth 20000 in
theorem ggX6_drop_X6_mark : GoodIn wsX6_drop wsX6_mark := goodIn_r _ [17, 1, 2, 6, 7, 18, 19, 20, 21, 22, 23, 24, 25, 26, 27, 28, 29, 30, 31, 32, 33, 34] rfl (by decide +kernel)
set_option maxRecDepth 20000 in
theorem gX6_drop_X6_mark : GoodIn wsX6_drop (wsV RX6 212 RX6 yX6_mark wsX6_mark) := goodIn_app (goodIn_of _ (by decide +kernel)) ggX6_drop_X6_mark
theorem dX6_drop_0 : decode cX6_drop 0 = .ok (.aload_n 0, 1) := by decide +kernel
theorem dX6_drop_1 : decode cX6_drop 1 = .ok (.iload_n 1, 1) := by decide +kernel
theorem dX6_drop_2 : decode cX6_drop 2 = .ok (.invokevirtual 174, 3) := by decide +kernel
theorem dX6_drop_5 : decode cX6_drop 5 = .ok (.ifCond .ne 5, 3) := by decide +kernel
theorem dX6_drop_8 : decode cX6_drop 8 = .ok (.iconst (-1), 1) := by decide +kernel
theorem dX6_drop_9 : decode cX6_drop 9 = .ok (.ireturn, 1) := by decide +kernel
theorem dX6_drop_10 : decode cX6_drop 10 = .ok (.aload_n 0, 1) := by decide +kernel
theorem dX6_drop_11 : decode cX6_drop 11 = .ok (.iload_n 1, 1) := by decide +kernel
theorem dX6_drop_12 : decode cX6_drop 12 = .ok (.invokevirtual 212, 3) := by decide +kernel
theorem dX6_drop_15 : decode cX6_drop 15 = .ok (.pop, 1) := by decide +kernel
theorem dX6_drop_16 : decode cX6_drop 16 = .ok (.iconst 0, 1) := by decide +kernel
theorem dX6_drop_17 : decode cX6_drop 17 = .ok (.istore_n 2, 1) := by decide +kernel
theorem dX6_drop_18 : decode cX6_drop 18 = .ok (.iconst 1, 1) := by decide +kernel
theorem dX6_drop_19 : decode cX6_drop 19 = .ok (.istore_n 3, 1) := by decide +kernel
theorem dX6_drop_20 : decode cX6_drop 20 = .ok (.iload_n 3, 1) := by decide +kernel
theorem dX6_drop_21 : decode cX6_drop 21 = .ok (.aload_n 0, 1) := by decide +kernel
theorem dX6_drop_22 : decode cX6_drop 22 = .ok (.getfield 167, 3) := by decide +kernel
theorem dX6_drop_25 : decode cX6_drop 25 = .ok (.if_icmp .gt 114, 3) := by decide +kernel
theorem dX6_drop_28 : decode cX6_drop 28 = .ok (.aload_n 0, 1) := by decide +kernel
theorem dX6_drop_29 : decode cX6_drop 29 = .ok (.getfield 143, 3) := by decide +kernel
theorem dX6_drop_32 : decode cX6_drop 32 = .ok (.iload_n 3, 1) := by decide +kernel
theorem dX6_drop_33 : decode cX6_drop 33 = .ok (.baload, 1) := by decide +kernel
theorem dX6_drop_34 : decode cX6_drop 34 = .ok (.ifCond .ne 6, 3) := by decide +kernel
theorem dX6_drop_37 : decode cX6_drop 37 = .ok (.goto 96, 3) := by decide +kernel
theorem dX6_drop_40 : decode cX6_drop 40 = .ok (.iinc 2 1, 3) := by decide +kernel
theorem dX6_drop_43 : decode cX6_drop 43 = .ok (.aload_n 0, 1) := by decide +kernel
theorem dX6_drop_44 : decode cX6_drop 44 = .ok (.getfield 153, 3) := by decide +kernel
theorem dX6_drop_47 : decode cX6_drop 47 = .ok (.iload_n 3, 1) := by decide +kernel
theorem dX6_drop_48 : decode cX6_drop 48 = .ok (.iload_n 2, 1) := by decide +kernel
theorem dX6_drop_49 : decode cX6_drop 49 = .ok (.iastore, 1) := by decide +kernel
theorem dX6_drop_50 : decode cX6_drop 50 = .ok (.aload_n 0, 1) := by decide +kernel
theorem dX6_drop_51 : decode cX6_drop 51 = .ok (.getfield 128, 3) := by decide +kernel
theorem dX6_drop_54 : decode cX6_drop 54 = .ok (.iload_n 2, 1) := by decide +kernel
theorem dX6_drop_55 : decode cX6_drop 55 = .ok (.aload_n 0, 1) := by decide +kernel
theorem dX6_drop_56 : decode cX6_drop 56 = .ok (.getfield 128, 3) := by decide +kernel
theorem dX6_drop_59 : decode cX6_drop 59 = .ok (.iload_n 3, 1) := by decide +kernel
theorem dX6_drop_60 : decode cX6_drop 60 = .ok (.iaload, 1) := by decide +kernel
theorem dX6_drop_61 : decode cX6_drop 61 = .ok (.iastore, 1) := by decide +kernel
theorem dX6_drop_62 : decode cX6_drop 62 = .ok (.aload_n 0, 1) := by decide +kernel
theorem dX6_drop_63 : decode cX6_drop 63 = .ok (.getfield 131, 3) := by decide +kernel
theorem dX6_drop_66 : decode cX6_drop 66 = .ok (.iload_n 2, 1) := by decide +kernel
theorem dX6_drop_67 : decode cX6_drop 67 = .ok (.aload_n 0, 1) := by decide +kernel
theorem dX6_drop_68 : decode cX6_drop 68 = .ok (.getfield 131, 3) := by decide +kernel
theorem dX6_drop_71 : decode cX6_drop 71 = .ok (.iload_n 3, 1) := by decide +kernel
theorem dX6_drop_72 : decode cX6_drop 72 = .ok (.iaload, 1) := by decide +kernel
theorem dX6_drop_73 : decode cX6_drop 73 = .ok (.iastore, 1) := by decide +kernel
theorem dX6_drop_74 : decode cX6_drop 74 = .ok (.aload_n 0, 1) := by decide +kernel
theorem dX6_drop_75 : decode cX6_drop 75 = .ok (.getfield 134, 3) := by decide +kernel
theorem dX6_drop_78 : decode cX6_drop 78 = .ok (.iload_n 3, 1) := by decide +kernel
theorem dX6_drop_79 : decode cX6_drop 79 = .ok (.iaload, 1) := by decide +kernel
theorem dX6_drop_80 : decode cX6_drop 80 = .ok (.istore 4, 2) := by decide +kernel
theorem dX6_drop_82 : decode cX6_drop 82 = .ok (.iconst 0, 1) := by decide +kernel
theorem dX6_drop_83 : decode cX6_drop 83 = .ok (.istore 5, 2) := by decide +kernel
theorem dX6_drop_85 : decode cX6_drop 85 = .ok (.iload 5, 2) := by decide +kernel
theorem dX6_drop_87 : decode cX6_drop 87 = .ok (.iload 4, 2) := by decide +kernel
theorem dX6_drop_89 : decode cX6_drop 89 = .ok (.if_icmp .ge 36, 3) := by decide +kernel
theorem dX6_drop_92 : decode cX6_drop 92 = .ok (.aload_n 0, 1) := by decide +kernel
theorem dX6_drop_93 : decode cX6_drop 93 = .ok (.getfield 137, 3) := by decide +kernel
theorem dX6_drop_96 : decode cX6_drop 96 = .ok (.iconst 3, 1) := by decide +kernel
theorem dX6_drop_97 : decode cX6_drop 97 = .ok (.iload_n 2, 1) := by decide +kernel
theorem dX6_drop_98 : decode cX6_drop 98 = .ok (.imul, 1) := by decide +kernel
theorem dX6_drop_99 : decode cX6_drop 99 = .ok (.iload 5, 2) := by decide +kernel
theorem dX6_drop_101 : decode cX6_drop 101 = .ok (.iadd, 1) := by decide +kernel
theorem dX6_drop_102 : decode cX6_drop 102 = .ok (.aload_n 0, 1) := by decide +kernel
theorem dX6_drop_103 : decode cX6_drop 103 = .ok (.getfield 153, 3) := by decide +kernel
theorem dX6_drop_106 : decode cX6_drop 106 = .ok (.aload_n 0, 1) := by decide +kernel
theorem dX6_drop_107 : decode cX6_drop 107 = .ok (.getfield 137, 3) := by decide +kernel
theorem dX6_drop_110 : decode cX6_drop 110 = .ok (.iconst 3, 1) := by decide +kernel
theorem dX6_drop_111 : decode cX6_drop 111 = .ok (.iload_n 3, 1) := by decide +kernel
theorem dX6_drop_112 : decode cX6_drop 112 = .ok (.imul, 1) := by decide +kernel
theorem dX6_drop_113 : decode cX6_drop 113 = .ok (.iload 5, 2) := by decide +kernel
theorem dX6_drop_115 : decode cX6_drop 115 = .ok (.iadd, 1) := by decide +kernel
theorem dX6_drop_116 : decode cX6_drop 116 = .ok (.iaload, 1) := by decide +kernel
theorem dX6_drop_117 : decode cX6_drop 117 = .ok (.iaload, 1) := by decide +kernel
theorem dX6_drop_118 : decode cX6_drop 118 = .ok (.iastore, 1) := by decide +kernel
theorem dX6_drop_119 : decode cX6_drop 119 = .ok (.iinc 5 1, 3) := by decide +kernel
theorem dX6_drop_122 : decode cX6_drop 122 = .ok (.goto (-37), 3) := by decide +kernel
theorem dX6_drop_125 : decode cX6_drop 125 = .ok (.aload_n 0, 1) := by decide +kernel
theorem dX6_drop_126 : decode cX6_drop 126 = .ok (.getfield 134, 3) := by decide +kernel
theorem dX6_drop_129 : decode cX6_drop 129 = .ok (.iload_n 2, 1) := by decide +kernel
theorem dX6_drop_130 : decode cX6_drop 130 = .ok (.iload 4, 2) := by decide +kernel
theorem dX6_drop_132 : decode cX6_drop 132 = .ok (.iastore, 1) := by decide +kernel
theorem dX6_drop_133 : decode cX6_drop 133 = .ok (.iinc 3 1, 3) := by decide +kernel
theorem dX6_drop_136 : decode cX6_drop 136 = .ok (.goto (-116), 3) := by decide +kernel
theorem dX6_drop_139 : decode cX6_drop 139 = .ok (.aload_n 0, 1) := by decide +kernel
theorem dX6_drop_140 : decode cX6_drop 140 = .ok (.iload_n 2, 1) := by decide +kernel
theorem dX6_drop_141 : decode cX6_drop 141 = .ok (.putfield 167, 3) := by decide +kernel
theorem dX6_drop_144 : decode cX6_drop 144 = .ok (.aload_n 0, 1) := by decide +kernel
theorem dX6_drop_145 : decode cX6_drop 145 = .ok (.iconst 0, 1) := by decide +kernel
theorem dX6_drop_146 : decode cX6_drop 146 = .ok (.putfield 218, 3) := by decide +kernel
theorem dX6_drop_149 : decode cX6_drop 149 = .ok (.iload_n 2, 1) := by decide +kernel
theorem dX6_drop_150 : decode cX6_drop 150 = .ok (.ireturn, 1) := by decide +kernel
set_option maxRecDepth 20000 in
theorem ggX6_name_X6_isRow : GoodIn wsX6_name wsX6_isRow := goodIn_r _ [6, 7, 8, 9, 10, 11, 12, 13, 14, 15, 16, 17, 18, 19, 20, 21, 22, 23, 24] rfl (by decide +kernel)
set_option maxRecDepth 20000 in
theorem gX6_name_X6_isRow : GoodIn wsX6_name (wsV RX6 174 RX6 yX6_isRow wsX6_isRow) := goodIn_app (goodIn_of _ (by decide +kernel)) ggX6_name_X6_isRow
theorem dX6_name_0 : decode cX6_name 0 = .ok (.aload_n 0, 1) := by decide +kernel
theorem dX6_name_1 : decode cX6_name 1 = .ok (.iload_n 1, 1) := by decide +kernel
theorem dX6_name_2 : decode cX6_name 2 = .ok (.invokevirtual 174, 3) := by decide +kernel
theorem dX6_name_5 : decode cX6_name 5 = .ok (.ifCond .eq 12, 3) := by decide +kernel
theorem dX6_name_8 : decode cX6_name 8 = .ok (.aload_n 0, 1) := by decide +kernel
theorem dX6_name_9 : decode cX6_name 9 = .ok (.getfield 128, 3) := by decide +kernel
theorem dX6_name_12 : decode cX6_name 12 = .ok (.iload_n 1, 1) := by decide +kernel
theorem dX6_name_13 : decode cX6_name 13 = .ok (.iaload, 1) := by decide +kernel
theorem dX6_name_14 : decode cX6_name 14 = .ok (.goto 4, 3) := by decide +kernel
theorem dX6_name_17 : decode cX6_name 17 = .ok (.iconst (-1), 1) := by decide +kernel
theorem dX6_name_18 : decode cX6_name 18 = .ok (.ireturn, 1) := by decide +kernel
set_option maxRecDepth 20000 in
theorem ggX6_states_X6_isRow : GoodIn wsX6_states wsX6_isRow := goodIn_r _ [6, 7, 49, 50, 51, 52, 53, 54, 55, 56, 57, 58, 59, 60, 61, 62, 63, 64, 65] rfl (by decide +kernel)
set_option maxRecDepth 20000 in
theorem gX6_states_X6_isRow : GoodIn wsX6_states (wsV RX6 174 RX6 yX6_isRow wsX6_isRow) := goodIn_app (goodIn_of _ (by decide +kernel)) ggX6_states_X6_isRow
set_option maxRecDepth 20000 in
theorem ggX6_states_X6_work : GoodIn wsX6_states wsX6_work := goodIn_r _ [11, 12, 13, 14, 15, 16, 5, 17, 1, 18, 19, 20, 21, 22, 23, 24, 25, 26, 27, 28, 29, 30, 31, 32, 33, 34, 35, 36, 37, 38, 39, 40, 41, 42, 43, 44, 45, 46, 47, 48, 49, 50, 51, 52, 53, 54, 55, 56, 57, 58, 59, 60, 61, 62, 63, 64, 65] rfl (by decide +kernel)
set_option maxRecDepth 20000 in
theorem gX6_states_X6_work : GoodIn wsX6_states (wsV RX6 215 RX6 yX6_work wsX6_work) := goodIn_app (goodIn_of _ (by decide +kernel)) ggX6_states_X6_work
theorem dX6_states_0 : decode cX6_states 0 = .ok (.aload_n 0, 1) := by decide +kernel
theorem dX6_states_1 : decode cX6_states 1 = .ok (.iload_n 1, 1) := by decide +kernel
theorem dX6_states_2 : decode cX6_states 2 = .ok (.invokevirtual 174, 3) := by decide +kernel
theorem dX6_states_5 : decode cX6_states 5 = .ok (.ifCond .ne 5, 3) := by decide +kernel
theorem dX6_states_8 : decode cX6_states 8 = .ok (.iconst (-1), 1) := by decide +kernel
theorem dX6_states_9 : decode cX6_states 9 = .ok (.ireturn, 1) := by decide +kernel
theorem dX6_states_10 : decode cX6_states 10 = .ok (.iload_n 2, 1) := by decide +kernel
theorem dX6_states_11 : decode cX6_states 11 = .ok (.ifCond .lt 8, 3) := by decide +kernel
theorem dX6_states_14 : decode cX6_states 14 = .ok (.iload_n 2, 1) := by decide +kernel
theorem dX6_states_15 : decode cX6_states 15 = .ok (.iconst 3, 1) := by decide +kernel
theorem dX6_states_16 : decode cX6_states 16 = .ok (.if_icmp .le 6, 3) := by decide +kernel
theorem dX6_states_19 : decode cX6_states 19 = .ok (.bipush (-2), 2) := by decide +kernel
theorem dX6_states_21 : decode cX6_states 21 = .ok (.ireturn, 1) := by decide +kernel
theorem dX6_states_22 : decode cX6_states 22 = .ok (.aload_n 0, 1) := by decide +kernel
theorem dX6_states_23 : decode cX6_states 23 = .ok (.iload_n 1, 1) := by decide +kernel
theorem dX6_states_24 : decode cX6_states 24 = .ok (.invokevirtual 215, 3) := by decide +kernel
theorem dX6_states_27 : decode cX6_states 27 = .ok (.aload_n 0, 1) := by decide +kernel
theorem dX6_states_28 : decode cX6_states 28 = .ok (.getfield 140, 3) := by decide +kernel
theorem dX6_states_31 : decode cX6_states 31 = .ok (.iconst 4, 1) := by decide +kernel
theorem dX6_states_32 : decode cX6_states 32 = .ok (.iload_n 1, 1) := by decide +kernel
theorem dX6_states_33 : decode cX6_states 33 = .ok (.imul, 1) := by decide +kernel
theorem dX6_states_34 : decode cX6_states 34 = .ok (.iload_n 2, 1) := by decide +kernel
theorem dX6_states_35 : decode cX6_states 35 = .ok (.iadd, 1) := by decide +kernel
theorem dX6_states_36 : decode cX6_states 36 = .ok (.iaload, 1) := by decide +kernel
theorem dX6_states_37 : decode cX6_states 37 = .ok (.ireturn, 1) := by decide +kernel
set_option maxRecDepth 20000 in
theorem ggX6_concludes_X6_isRow : GoodIn wsX6_concludes wsX6_isRow := goodIn_r _ [8, 9, 50, 51, 52, 53, 54, 55, 56, 57, 58, 59, 60, 61, 62, 63, 64, 65, 66] rfl (by decide +kernel)
set_option maxRecDepth 20000 in
theorem gX6_concludes_X6_isRow : GoodIn wsX6_concludes (wsV RX6 174 RX6 yX6_isRow wsX6_isRow) := goodIn_app (goodIn_of _ (by decide +kernel)) ggX6_concludes_X6_isRow
set_option maxRecDepth 20000 in
theorem ggX6_concludes_X6_work : GoodIn wsX6_concludes wsX6_work := goodIn_r _ [13, 14, 15, 16, 17, 18, 7, 19, 2, 20, 21, 22, 23, 24, 25, 26, 27, 28, 29, 30, 31, 32, 33, 3, 34, 35, 36, 37, 38, 39, 40, 41, 42, 43, 44, 45, 46, 47, 48, 49, 50, 51, 52, 53, 54, 55, 56, 57, 58, 59, 60, 61, 62, 63, 64, 65, 66] rfl (by decide +kernel)
set_option maxRecDepth 20000 in
theorem gX6_concludes_X6_work : GoodIn wsX6_concludes (wsV RX6 215 RX6 yX6_work wsX6_work) := goodIn_app (goodIn_of _ (by decide +kernel)) ggX6_concludes_X6_work
theorem dX6_concludes_0 : decode cX6_concludes 0 = .ok (.aload_n 0, 1) := by decide +kernel
theorem dX6_concludes_1 : decode cX6_concludes 1 = .ok (.iload_n 1, 1) := by decide +kernel
theorem dX6_concludes_2 : decode cX6_concludes 2 = .ok (.invokevirtual 174, 3) := by decide +kernel
theorem dX6_concludes_5 : decode cX6_concludes 5 = .ok (.ifCond .eq 16, 3) := by decide +kernel
theorem dX6_concludes_8 : decode cX6_concludes 8 = .ok (.iload_n 2, 1) := by decide +kernel
theorem dX6_concludes_9 : decode cX6_concludes 9 = .ok (.iconst 1, 1) := by decide +kernel
theorem dX6_concludes_10 : decode cX6_concludes 10 = .ok (.if_icmp .lt 11, 3) := by decide +kernel
theorem dX6_concludes_13 : decode cX6_concludes 13 = .ok (.iload_n 2, 1) := by decide +kernel
theorem dX6_concludes_14 : decode cX6_concludes 14 = .ok (.aload_n 0, 1) := by decide +kernel
theorem dX6_concludes_15 : decode cX6_concludes 15 = .ok (.getfield 164, 3) := by decide +kernel
theorem dX6_concludes_18 : decode cX6_concludes 18 = .ok (.if_icmp .le 5, 3) := by decide +kernel
theorem dX6_concludes_21 : decode cX6_concludes 21 = .ok (.iconst 0, 1) := by decide +kernel
theorem dX6_concludes_22 : decode cX6_concludes 22 = .ok (.ireturn, 1) := by decide +kernel
theorem dX6_concludes_23 : decode cX6_concludes 23 = .ok (.aload_n 0, 1) := by decide +kernel
theorem dX6_concludes_24 : decode cX6_concludes 24 = .ok (.iload_n 1, 1) := by decide +kernel
theorem dX6_concludes_25 : decode cX6_concludes 25 = .ok (.invokevirtual 215, 3) := by decide +kernel
theorem dX6_concludes_28 : decode cX6_concludes 28 = .ok (.iconst 1, 1) := by decide +kernel
theorem dX6_concludes_29 : decode cX6_concludes 29 = .ok (.istore_n 3, 1) := by decide +kernel
theorem dX6_concludes_30 : decode cX6_concludes 30 = .ok (.iconst 0, 1) := by decide +kernel
theorem dX6_concludes_31 : decode cX6_concludes 31 = .ok (.istore 4, 2) := by decide +kernel
theorem dX6_concludes_33 : decode cX6_concludes 33 = .ok (.iload 4, 2) := by decide +kernel
theorem dX6_concludes_35 : decode cX6_concludes 35 = .ok (.iconst 4, 1) := by decide +kernel
theorem dX6_concludes_36 : decode cX6_concludes 36 = .ok (.if_icmp .ge 44, 3) := by decide +kernel
theorem dX6_concludes_39 : decode cX6_concludes 39 = .ok (.iload_n 3, 1) := by decide +kernel
theorem dX6_concludes_40 : decode cX6_concludes 40 = .ok (.ifCond .eq 32, 3) := by decide +kernel
theorem dX6_concludes_43 : decode cX6_concludes 43 = .ok (.aload_n 0, 1) := by decide +kernel
theorem dX6_concludes_44 : decode cX6_concludes 44 = .ok (.getfield 140, 3) := by decide +kernel
theorem dX6_concludes_47 : decode cX6_concludes 47 = .ok (.iconst 4, 1) := by decide +kernel
theorem dX6_concludes_48 : decode cX6_concludes 48 = .ok (.iload_n 1, 1) := by decide +kernel
theorem dX6_concludes_49 : decode cX6_concludes 49 = .ok (.imul, 1) := by decide +kernel
theorem dX6_concludes_50 : decode cX6_concludes 50 = .ok (.iload 4, 2) := by decide +kernel
theorem dX6_concludes_52 : decode cX6_concludes 52 = .ok (.iadd, 1) := by decide +kernel
theorem dX6_concludes_53 : decode cX6_concludes 53 = .ok (.iaload, 1) := by decide +kernel
theorem dX6_concludes_54 : decode cX6_concludes 54 = .ok (.aload_n 0, 1) := by decide +kernel
theorem dX6_concludes_55 : decode cX6_concludes 55 = .ok (.getfield 125, 3) := by decide +kernel
theorem dX6_concludes_58 : decode cX6_concludes 58 = .ok (.iconst 4, 1) := by decide +kernel
theorem dX6_concludes_59 : decode cX6_concludes 59 = .ok (.iload_n 2, 1) := by decide +kernel
theorem dX6_concludes_60 : decode cX6_concludes 60 = .ok (.imul, 1) := by decide +kernel
theorem dX6_concludes_61 : decode cX6_concludes 61 = .ok (.iload 4, 2) := by decide +kernel
theorem dX6_concludes_63 : decode cX6_concludes 63 = .ok (.iadd, 1) := by decide +kernel
theorem dX6_concludes_64 : decode cX6_concludes 64 = .ok (.iaload, 1) := by decide +kernel
theorem dX6_concludes_65 : decode cX6_concludes 65 = .ok (.if_icmp .ne 7, 3) := by decide +kernel
theorem dX6_concludes_68 : decode cX6_concludes 68 = .ok (.iconst 1, 1) := by decide +kernel
theorem dX6_concludes_69 : decode cX6_concludes 69 = .ok (.goto 4, 3) := by decide +kernel
theorem dX6_concludes_72 : decode cX6_concludes 72 = .ok (.iconst 0, 1) := by decide +kernel
theorem dX6_concludes_73 : decode cX6_concludes 73 = .ok (.istore_n 3, 1) := by decide +kernel
theorem dX6_concludes_74 : decode cX6_concludes 74 = .ok (.iinc 4 1, 3) := by decide +kernel
theorem dX6_concludes_77 : decode cX6_concludes 77 = .ok (.goto (-44), 3) := by decide +kernel
theorem dX6_concludes_80 : decode cX6_concludes 80 = .ok (.iload_n 3, 1) := by decide +kernel
theorem dX6_concludes_81 : decode cX6_concludes 81 = .ok (.ireturn, 1) := by decide +kernel
theorem dX6_put_0 : decode cX6_put 0 = .ok (.iconst 0, 1) := by decide +kernel
theorem dX6_put_1 : decode cX6_put 1 = .ok (.istore_n 2, 1) := by decide +kernel
theorem dX6_put_2 : decode cX6_put 2 = .ok (.iconst 0, 1) := by decide +kernel
theorem dX6_put_3 : decode cX6_put 3 = .ok (.istore_n 3, 1) := by decide +kernel
theorem dX6_put_4 : decode cX6_put 4 = .ok (.iload_n 3, 1) := by decide +kernel
theorem dX6_put_5 : decode cX6_put 5 = .ok (.iload_n 1, 1) := by decide +kernel
theorem dX6_put_6 : decode cX6_put 6 = .ok (.if_icmp .ge 29, 3) := by decide +kernel
theorem dX6_put_9 : decode cX6_put 9 = .ok (.aload_n 0, 1) := by decide +kernel
theorem dX6_put_10 : decode cX6_put 10 = .ok (.getfield 115, 3) := by decide +kernel
theorem dX6_put_13 : decode cX6_put 13 = .ok (.iload_n 2, 1) := by decide +kernel
theorem dX6_put_14 : decode cX6_put 14 = .ok (.laload, 1) := by decide +kernel
theorem dX6_put_15 : decode cX6_put 15 = .ok (.lconst 0, 1) := by decide +kernel
theorem dX6_put_16 : decode cX6_put 16 = .ok (.lcmp, 1) := by decide +kernel
theorem dX6_put_17 : decode cX6_put 17 = .ok (.ifCond .eq 9, 3) := by decide +kernel
theorem dX6_put_20 : decode cX6_put 20 = .ok (.iinc 2 1, 3) := by decide +kernel
theorem dX6_put_23 : decode cX6_put 23 = .ok (.goto (-14), 3) := by decide +kernel
theorem dX6_put_26 : decode cX6_put 26 = .ok (.iinc 2 1, 3) := by decide +kernel
theorem dX6_put_29 : decode cX6_put 29 = .ok (.iinc 3 1, 3) := by decide +kernel
theorem dX6_put_32 : decode cX6_put 32 = .ok (.goto (-28), 3) := by decide +kernel
theorem dX6_put_35 : decode cX6_put 35 = .ok (.aload_n 0, 1) := by decide +kernel
theorem dX6_put_36 : decode cX6_put 36 = .ok (.getfield 115, 3) := by decide +kernel
theorem dX6_put_39 : decode cX6_put 39 = .ok (.iload_n 2, 1) := by decide +kernel
theorem dX6_put_40 : decode cX6_put 40 = .ok (.laload, 1) := by decide +kernel
theorem dX6_put_41 : decode cX6_put 41 = .ok (.lconst 0, 1) := by decide +kernel
theorem dX6_put_42 : decode cX6_put 42 = .ok (.lcmp, 1) := by decide +kernel
theorem dX6_put_43 : decode cX6_put 43 = .ok (.ifCond .eq 66, 3) := by decide +kernel
theorem dX6_put_46 : decode cX6_put 46 = .ok (.bipush 56, 2) := by decide +kernel
theorem dX6_put_48 : decode cX6_put 48 = .ok (.istore_n 3, 1) := by decide +kernel
theorem dX6_put_49 : decode cX6_put 49 = .ok (.iload_n 3, 1) := by decide +kernel
theorem dX6_put_50 : decode cX6_put 50 = .ok (.ifCond .lt 53, 3) := by decide +kernel
theorem dX6_put_53 : decode cX6_put 53 = .ok (.aload_n 0, 1) := by decide +kernel
theorem dX6_put_54 : decode cX6_put 54 = .ok (.getfield 115, 3) := by decide +kernel
theorem dX6_put_57 : decode cX6_put 57 = .ok (.iload_n 2, 1) := by decide +kernel
theorem dX6_put_58 : decode cX6_put 58 = .ok (.laload, 1) := by decide +kernel
theorem dX6_put_59 : decode cX6_put 59 = .ok (.iload_n 3, 1) := by decide +kernel
theorem dX6_put_60 : decode cX6_put 60 = .ok (.lshr, 1) := by decide +kernel
theorem dX6_put_61 : decode cX6_put 61 = .ok (.ldc2_w 227, 3) := by decide +kernel
theorem dX6_put_64 : decode cX6_put 64 = .ok (.land, 1) := by decide +kernel
theorem dX6_put_65 : decode cX6_put 65 = .ok (.l2i, 1) := by decide +kernel
theorem dX6_put_66 : decode cX6_put 66 = .ok (.istore 4, 2) := by decide +kernel
theorem dX6_put_68 : decode cX6_put 68 = .ok (.iload 4, 2) := by decide +kernel
theorem dX6_put_70 : decode cX6_put 70 = .ok (.ifCond .ne 6, 3) := by decide +kernel
theorem dX6_put_73 : decode cX6_put 73 = .ok (.goto 24, 3) := by decide +kernel
theorem dX6_put_76 : decode cX6_put 76 = .ok (.aload_n 0, 1) := by decide +kernel
theorem dX6_put_77 : decode cX6_put 77 = .ok (.getfield 147, 3) := by decide +kernel
theorem dX6_put_80 : decode cX6_put 80 = .ok (.aload_n 0, 1) := by decide +kernel
theorem dX6_put_81 : decode cX6_put 81 = .ok (.getfield 229, 3) := by decide +kernel
theorem dX6_put_84 : decode cX6_put 84 = .ok (.iload 4, 2) := by decide +kernel
theorem dX6_put_86 : decode cX6_put 86 = .ok (.iastore, 1) := by decide +kernel
theorem dX6_put_87 : decode cX6_put 87 = .ok (.aload_n 0, 1) := by decide +kernel
theorem dX6_put_88 : decode cX6_put 88 = .ok (.dup, 1) := by decide +kernel
theorem dX6_put_89 : decode cX6_put 89 = .ok (.getfield 229, 3) := by decide +kernel
theorem dX6_put_92 : decode cX6_put 92 = .ok (.iconst 1, 1) := by decide +kernel
theorem dX6_put_93 : decode cX6_put 93 = .ok (.iadd, 1) := by decide +kernel
theorem dX6_put_94 : decode cX6_put 94 = .ok (.putfield 229, 3) := by decide +kernel
theorem dX6_put_97 : decode cX6_put 97 = .ok (.iinc 3 (-8), 3) := by decide +kernel
theorem dX6_put_100 : decode cX6_put 100 = .ok (.goto (-51), 3) := by decide +kernel
theorem dX6_put_103 : decode cX6_put 103 = .ok (.iinc 2 1, 3) := by decide +kernel
theorem dX6_put_106 : decode cX6_put 106 = .ok (.goto (-71), 3) := by decide +kernel
theorem dX6_put_109 : decode cX6_put 109 = .ok (.return_, 1) := by decide +kernel
theorem dX6_number_0 : decode cX6_number 0 = .ok (.iconst 1, 1) := by decide +kernel
theorem dX6_number_1 : decode cX6_number 1 = .ok (.istore_n 2, 1) := by decide +kernel
theorem dX6_number_2 : decode cX6_number 2 = .ok (.iload_n 1, 1) := by decide +kernel
theorem dX6_number_3 : decode cX6_number 3 = .ok (.iload_n 2, 1) := by decide +kernel
theorem dX6_number_4 : decode cX6_number 4 = .ok (.idiv, 1) := by decide +kernel
theorem dX6_number_5 : decode cX6_number 5 = .ok (.bipush 9, 2) := by decide +kernel
theorem dX6_number_7 : decode cX6_number 7 = .ok (.if_icmp .le 11, 3) := by decide +kernel
theorem dX6_number_10 : decode cX6_number 10 = .ok (.iload_n 2, 1) := by decide +kernel
theorem dX6_number_11 : decode cX6_number 11 = .ok (.bipush 10, 2) := by decide +kernel
theorem dX6_number_13 : decode cX6_number 13 = .ok (.imul, 1) := by decide +kernel
theorem dX6_number_14 : decode cX6_number 14 = .ok (.istore_n 2, 1) := by decide +kernel
theorem dX6_number_15 : decode cX6_number 15 = .ok (.goto (-13), 3) := by decide +kernel
theorem dX6_number_18 : decode cX6_number 18 = .ok (.iload_n 2, 1) := by decide +kernel
theorem dX6_number_19 : decode cX6_number 19 = .ok (.istore_n 3, 1) := by decide +kernel
theorem dX6_number_20 : decode cX6_number 20 = .ok (.iload_n 3, 1) := by decide +kernel
theorem dX6_number_21 : decode cX6_number 21 = .ok (.ifCond .le 39, 3) := by decide +kernel
theorem dX6_number_24 : decode cX6_number 24 = .ok (.aload_n 0, 1) := by decide +kernel
theorem dX6_number_25 : decode cX6_number 25 = .ok (.getfield 147, 3) := by decide +kernel
theorem dX6_number_28 : decode cX6_number 28 = .ok (.aload_n 0, 1) := by decide +kernel
theorem dX6_number_29 : decode cX6_number 29 = .ok (.getfield 229, 3) := by decide +kernel
theorem dX6_number_32 : decode cX6_number 32 = .ok (.bipush 48, 2) := by decide +kernel
theorem dX6_number_34 : decode cX6_number 34 = .ok (.iload_n 1, 1) := by decide +kernel
theorem dX6_number_35 : decode cX6_number 35 = .ok (.iload_n 3, 1) := by decide +kernel
theorem dX6_number_36 : decode cX6_number 36 = .ok (.idiv, 1) := by decide +kernel
theorem dX6_number_37 : decode cX6_number 37 = .ok (.bipush 10, 2) := by decide +kernel
theorem dX6_number_39 : decode cX6_number 39 = .ok (.irem, 1) := by decide +kernel
theorem dX6_number_40 : decode cX6_number 40 = .ok (.iadd, 1) := by decide +kernel
theorem dX6_number_41 : decode cX6_number 41 = .ok (.iastore, 1) := by decide +kernel
theorem dX6_number_42 : decode cX6_number 42 = .ok (.aload_n 0, 1) := by decide +kernel
theorem dX6_number_43 : decode cX6_number 43 = .ok (.dup, 1) := by decide +kernel
theorem dX6_number_44 : decode cX6_number 44 = .ok (.getfield 229, 3) := by decide +kernel
theorem dX6_number_47 : decode cX6_number 47 = .ok (.iconst 1, 1) := by decide +kernel
theorem dX6_number_48 : decode cX6_number 48 = .ok (.iadd, 1) := by decide +kernel
theorem dX6_number_49 : decode cX6_number 49 = .ok (.putfield 229, 3) := by decide +kernel
theorem dX6_number_52 : decode cX6_number 52 = .ok (.iload_n 3, 1) := by decide +kernel
theorem dX6_number_53 : decode cX6_number 53 = .ok (.bipush 10, 2) := by decide +kernel
theorem dX6_number_55 : decode cX6_number 55 = .ok (.idiv, 1) := by decide +kernel
theorem dX6_number_56 : decode cX6_number 56 = .ok (.istore_n 3, 1) := by decide +kernel
theorem dX6_number_57 : decode cX6_number 57 = .ok (.goto (-37), 3) := by decide +kernel
theorem dX6_number_60 : decode cX6_number 60 = .ok (.return_, 1) := by decide +kernel
theorem dX6_wordOf_0 : decode cX6_wordOf 0 = .ok (.iload_n 0, 1) := by decide +kernel
theorem dX6_wordOf_1 : decode cX6_wordOf 1 = .ok (.tableswitch 128 0 16 #[83, 85, 87, 89, 91, 93, 95, 98, 101, 104, 107, 110, 113, 116, 119, 122, 125], 83) := by decide +kernel
theorem dX6_wordOf_84 : decode cX6_wordOf 84 = .ok (.iconst 0, 1) := by decide +kernel
theorem dX6_wordOf_85 : decode cX6_wordOf 85 = .ok (.ireturn, 1) := by decide +kernel
theorem dX6_wordOf_86 : decode cX6_wordOf 86 = .ok (.iconst 1, 1) := by decide +kernel
theorem dX6_wordOf_87 : decode cX6_wordOf 87 = .ok (.ireturn, 1) := by decide +kernel
theorem dX6_wordOf_88 : decode cX6_wordOf 88 = .ok (.iconst 2, 1) := by decide +kernel
theorem dX6_wordOf_89 : decode cX6_wordOf 89 = .ok (.ireturn, 1) := by decide +kernel
theorem dX6_wordOf_90 : decode cX6_wordOf 90 = .ok (.iconst 3, 1) := by decide +kernel
theorem dX6_wordOf_91 : decode cX6_wordOf 91 = .ok (.ireturn, 1) := by decide +kernel
theorem dX6_wordOf_92 : decode cX6_wordOf 92 = .ok (.iconst 4, 1) := by decide +kernel
theorem dX6_wordOf_93 : decode cX6_wordOf 93 = .ok (.ireturn, 1) := by decide +kernel
theorem dX6_wordOf_94 : decode cX6_wordOf 94 = .ok (.iconst 5, 1) := by decide +kernel
theorem dX6_wordOf_95 : decode cX6_wordOf 95 = .ok (.ireturn, 1) := by decide +kernel
theorem dX6_wordOf_96 : decode cX6_wordOf 96 = .ok (.bipush 6, 2) := by decide +kernel
theorem dX6_wordOf_98 : decode cX6_wordOf 98 = .ok (.ireturn, 1) := by decide +kernel
theorem dX6_wordOf_99 : decode cX6_wordOf 99 = .ok (.bipush 7, 2) := by decide +kernel
theorem dX6_wordOf_101 : decode cX6_wordOf 101 = .ok (.ireturn, 1) := by decide +kernel
theorem dX6_wordOf_102 : decode cX6_wordOf 102 = .ok (.bipush 8, 2) := by decide +kernel
theorem dX6_wordOf_104 : decode cX6_wordOf 104 = .ok (.ireturn, 1) := by decide +kernel
theorem dX6_wordOf_105 : decode cX6_wordOf 105 = .ok (.bipush 9, 2) := by decide +kernel
theorem dX6_wordOf_107 : decode cX6_wordOf 107 = .ok (.ireturn, 1) := by decide +kernel
theorem dX6_wordOf_108 : decode cX6_wordOf 108 = .ok (.bipush 10, 2) := by decide +kernel
theorem dX6_wordOf_110 : decode cX6_wordOf 110 = .ok (.ireturn, 1) := by decide +kernel
theorem dX6_wordOf_111 : decode cX6_wordOf 111 = .ok (.bipush 11, 2) := by decide +kernel
theorem dX6_wordOf_113 : decode cX6_wordOf 113 = .ok (.ireturn, 1) := by decide +kernel
theorem dX6_wordOf_114 : decode cX6_wordOf 114 = .ok (.bipush 12, 2) := by decide +kernel
theorem dX6_wordOf_116 : decode cX6_wordOf 116 = .ok (.ireturn, 1) := by decide +kernel
theorem dX6_wordOf_117 : decode cX6_wordOf 117 = .ok (.bipush 13, 2) := by decide +kernel
theorem dX6_wordOf_119 : decode cX6_wordOf 119 = .ok (.ireturn, 1) := by decide +kernel
theorem dX6_wordOf_120 : decode cX6_wordOf 120 = .ok (.bipush 14, 2) := by decide +kernel
theorem dX6_wordOf_122 : decode cX6_wordOf 122 = .ok (.ireturn, 1) := by decide +kernel
theorem dX6_wordOf_123 : decode cX6_wordOf 123 = .ok (.bipush 15, 2) := by decide +kernel
theorem dX6_wordOf_125 : decode cX6_wordOf 125 = .ok (.ireturn, 1) := by decide +kernel
theorem dX6_wordOf_126 : decode cX6_wordOf 126 = .ok (.bipush 16, 2) := by decide +kernel
theorem dX6_wordOf_128 : decode cX6_wordOf 128 = .ok (.ireturn, 1) := by decide +kernel
theorem dX6_wordOf_129 : decode cX6_wordOf 129 = .ok (.bipush 17, 2) := by decide +kernel
theorem dX6_wordOf_131 : decode cX6_wordOf 131 = .ok (.ireturn, 1) := by decide +kernel
set_option maxRecDepth 20000 in
theorem ggX6_statement_X6_put : GoodIn wsX6_statement wsX6_put := goodIn_r _ [5, 6, 7, 8, 9, 14, 15, 16, 17, 18, 19, 20, 21, 22, 23, 24, 25, 26, 27, 28, 29, 30] rfl (by decide +kernel)
set_option maxRecDepth 20000 in
theorem gX6_statement_X6_put : GoodIn wsX6_statement (wsV RX6 232 RX6 yX6_put wsX6_put) := goodIn_app (goodIn_of _ (by decide +kernel)) ggX6_statement_X6_put
set_option maxRecDepth 20000 in
theorem ggX6_statement_X6_number : GoodIn wsX6_statement wsX6_number := goodIn_r _ [13, 8, 9, 14, 15, 16, 17, 18, 19, 20, 21, 22, 23, 24, 25, 26, 27, 28, 29, 30] rfl (by decide +kernel)
set_option maxRecDepth 20000 in
theorem gX6_statement_X6_number : GoodIn wsX6_statement (wsV RX6 235 RX6 yX6_number wsX6_number) := goodIn_app (goodIn_of _ (by decide +kernel)) ggX6_statement_X6_number
theorem dX6_statement_0 : decode cX6_statement 0 = .ok (.iload_n 1, 1) := by decide +kernel
theorem dX6_statement_1 : decode cX6_statement 1 = .ok (.bipush 12, 2) := by decide +kernel
theorem dX6_statement_3 : decode cX6_statement 3 = .ok (.if_icmp .eq 7, 3) := by decide +kernel
theorem dX6_statement_6 : decode cX6_statement 6 = .ok (.iload_n 1, 1) := by decide +kernel
theorem dX6_statement_7 : decode cX6_statement 7 = .ok (.ifCond .ne 19, 3) := by decide +kernel
theorem dX6_statement_10 : decode cX6_statement 10 = .ok (.aload_n 0, 1) := by decide +kernel
theorem dX6_statement_11 : decode cX6_statement 11 = .ok (.iload_n 1, 1) := by decide +kernel
theorem dX6_statement_12 : decode cX6_statement 12 = .ok (.ifCond .ne 8, 3) := by decide +kernel
theorem dX6_statement_15 : decode cX6_statement 15 = .ok (.bipush 18, 2) := by decide +kernel
theorem dX6_statement_17 : decode cX6_statement 17 = .ok (.goto 5, 3) := by decide +kernel
theorem dX6_statement_20 : decode cX6_statement 20 = .ok (.bipush 19, 2) := by decide +kernel
theorem dX6_statement_22 : decode cX6_statement 22 = .ok (.invokevirtual 232, 3) := by decide +kernel
theorem dX6_statement_25 : decode cX6_statement 25 = .ok (.return_, 1) := by decide +kernel
theorem dX6_statement_26 : decode cX6_statement 26 = .ok (.iload_n 1, 1) := by decide +kernel
theorem dX6_statement_27 : decode cX6_statement 27 = .ok (.iconst 1, 1) := by decide +kernel
theorem dX6_statement_28 : decode cX6_statement 28 = .ok (.if_icmp .eq 8, 3) := by decide +kernel
theorem dX6_statement_31 : decode cX6_statement 31 = .ok (.iload_n 1, 1) := by decide +kernel
theorem dX6_statement_32 : decode cX6_statement 32 = .ok (.iconst 5, 1) := by decide +kernel
theorem dX6_statement_33 : decode cX6_statement 33 = .ok (.if_icmp .ne 9, 3) := by decide +kernel
theorem dX6_statement_36 : decode cX6_statement 36 = .ok (.aload_n 0, 1) := by decide +kernel
theorem dX6_statement_37 : decode cX6_statement 37 = .ok (.bipush 20, 2) := by decide +kernel
theorem dX6_statement_39 : decode cX6_statement 39 = .ok (.invokevirtual 232, 3) := by decide +kernel
theorem dX6_statement_42 : decode cX6_statement 42 = .ok (.iload_n 1, 1) := by decide +kernel
theorem dX6_statement_43 : decode cX6_statement 43 = .ok (.iconst 3, 1) := by decide +kernel
theorem dX6_statement_44 : decode cX6_statement 44 = .ok (.if_icmp .eq 8, 3) := by decide +kernel
theorem dX6_statement_47 : decode cX6_statement 47 = .ok (.iload_n 1, 1) := by decide +kernel
theorem dX6_statement_48 : decode cX6_statement 48 = .ok (.iconst 4, 1) := by decide +kernel
theorem dX6_statement_49 : decode cX6_statement 49 = .ok (.if_icmp .ne 9, 3) := by decide +kernel
theorem dX6_statement_52 : decode cX6_statement 52 = .ok (.aload_n 0, 1) := by decide +kernel
theorem dX6_statement_53 : decode cX6_statement 53 = .ok (.bipush 21, 2) := by decide +kernel
theorem dX6_statement_55 : decode cX6_statement 55 = .ok (.invokevirtual 232, 3) := by decide +kernel
theorem dX6_statement_58 : decode cX6_statement 58 = .ok (.aload_n 0, 1) := by decide +kernel
theorem dX6_statement_59 : decode cX6_statement 59 = .ok (.iload_n 2, 1) := by decide +kernel
theorem dX6_statement_60 : decode cX6_statement 60 = .ok (.invokevirtual 235, 3) := by decide +kernel
theorem dX6_statement_63 : decode cX6_statement 63 = .ok (.iload_n 1, 1) := by decide +kernel
theorem dX6_statement_64 : decode cX6_statement 64 = .ok (.tableswitch 146 1 10 #[56, 65, 74, 83, 92, 101, 110, 119, 128, 137], 56) := by decide +kernel
theorem dX6_statement_120 : decode cX6_statement 120 = .ok (.aload_n 0, 1) := by decide +kernel
theorem dX6_statement_121 : decode cX6_statement 121 = .ok (.bipush 22, 2) := by decide +kernel
theorem dX6_statement_123 : decode cX6_statement 123 = .ok (.invokevirtual 232, 3) := by decide +kernel
theorem dX6_statement_126 : decode cX6_statement 126 = .ok (.goto 125, 3) := by decide +kernel
theorem dX6_statement_129 : decode cX6_statement 129 = .ok (.aload_n 0, 1) := by decide +kernel
theorem dX6_statement_130 : decode cX6_statement 130 = .ok (.bipush 23, 2) := by decide +kernel
theorem dX6_statement_132 : decode cX6_statement 132 = .ok (.invokevirtual 232, 3) := by decide +kernel
theorem dX6_statement_135 : decode cX6_statement 135 = .ok (.goto 116, 3) := by decide +kernel
theorem dX6_statement_138 : decode cX6_statement 138 = .ok (.aload_n 0, 1) := by decide +kernel
theorem dX6_statement_139 : decode cX6_statement 139 = .ok (.bipush 24, 2) := by decide +kernel
theorem dX6_statement_141 : decode cX6_statement 141 = .ok (.invokevirtual 232, 3) := by decide +kernel
theorem dX6_statement_144 : decode cX6_statement 144 = .ok (.goto 107, 3) := by decide +kernel
theorem dX6_statement_147 : decode cX6_statement 147 = .ok (.aload_n 0, 1) := by decide +kernel
theorem dX6_statement_148 : decode cX6_statement 148 = .ok (.bipush 25, 2) := by decide +kernel
theorem dX6_statement_150 : decode cX6_statement 150 = .ok (.invokevirtual 232, 3) := by decide +kernel
theorem dX6_statement_153 : decode cX6_statement 153 = .ok (.goto 98, 3) := by decide +kernel
theorem dX6_statement_156 : decode cX6_statement 156 = .ok (.aload_n 0, 1) := by decide +kernel
theorem dX6_statement_157 : decode cX6_statement 157 = .ok (.bipush 26, 2) := by decide +kernel
theorem dX6_statement_159 : decode cX6_statement 159 = .ok (.invokevirtual 232, 3) := by decide +kernel
theorem dX6_statement_162 : decode cX6_statement 162 = .ok (.goto 89, 3) := by decide +kernel
theorem dX6_statement_165 : decode cX6_statement 165 = .ok (.aload_n 0, 1) := by decide +kernel
theorem dX6_statement_166 : decode cX6_statement 166 = .ok (.bipush 27, 2) := by decide +kernel
theorem dX6_statement_168 : decode cX6_statement 168 = .ok (.invokevirtual 232, 3) := by decide +kernel
theorem dX6_statement_171 : decode cX6_statement 171 = .ok (.goto 80, 3) := by decide +kernel
theorem dX6_statement_174 : decode cX6_statement 174 = .ok (.aload_n 0, 1) := by decide +kernel
theorem dX6_statement_175 : decode cX6_statement 175 = .ok (.bipush 28, 2) := by decide +kernel
theorem dX6_statement_177 : decode cX6_statement 177 = .ok (.invokevirtual 232, 3) := by decide +kernel
theorem dX6_statement_180 : decode cX6_statement 180 = .ok (.goto 71, 3) := by decide +kernel
theorem dX6_statement_183 : decode cX6_statement 183 = .ok (.aload_n 0, 1) := by decide +kernel
theorem dX6_statement_184 : decode cX6_statement 184 = .ok (.bipush 29, 2) := by decide +kernel
theorem dX6_statement_186 : decode cX6_statement 186 = .ok (.invokevirtual 232, 3) := by decide +kernel
theorem dX6_statement_189 : decode cX6_statement 189 = .ok (.goto 62, 3) := by decide +kernel
theorem dX6_statement_192 : decode cX6_statement 192 = .ok (.aload_n 0, 1) := by decide +kernel
theorem dX6_statement_193 : decode cX6_statement 193 = .ok (.bipush 30, 2) := by decide +kernel
theorem dX6_statement_195 : decode cX6_statement 195 = .ok (.invokevirtual 232, 3) := by decide +kernel
theorem dX6_statement_198 : decode cX6_statement 198 = .ok (.goto 53, 3) := by decide +kernel
theorem dX6_statement_201 : decode cX6_statement 201 = .ok (.aload_n 0, 1) := by decide +kernel
theorem dX6_statement_202 : decode cX6_statement 202 = .ok (.bipush 31, 2) := by decide +kernel
theorem dX6_statement_204 : decode cX6_statement 204 = .ok (.invokevirtual 232, 3) := by decide +kernel
theorem dX6_statement_207 : decode cX6_statement 207 = .ok (.goto 44, 3) := by decide +kernel
theorem dX6_statement_210 : decode cX6_statement 210 = .ok (.aload_n 0, 1) := by decide +kernel
theorem dX6_statement_211 : decode cX6_statement 211 = .ok (.iload_n 3, 1) := by decide +kernel
theorem dX6_statement_212 : decode cX6_statement 212 = .ok (.ifCond .ne 8, 3) := by decide +kernel
theorem dX6_statement_215 : decode cX6_statement 215 = .ok (.bipush 32, 2) := by decide +kernel
theorem dX6_statement_217 : decode cX6_statement 217 = .ok (.goto 15, 3) := by decide +kernel
theorem dX6_statement_220 : decode cX6_statement 220 = .ok (.iload_n 3, 1) := by decide +kernel
theorem dX6_statement_221 : decode cX6_statement 221 = .ok (.iconst 1, 1) := by decide +kernel
theorem dX6_statement_222 : decode cX6_statement 222 = .ok (.if_icmp .ne 8, 3) := by decide +kernel
theorem dX6_statement_225 : decode cX6_statement 225 = .ok (.bipush 29, 2) := by decide +kernel
theorem dX6_statement_227 : decode cX6_statement 227 = .ok (.goto 5, 3) := by decide +kernel
theorem dX6_statement_230 : decode cX6_statement 230 = .ok (.bipush 33, 2) := by decide +kernel
theorem dX6_statement_232 : decode cX6_statement 232 = .ok (.invokevirtual 232, 3) := by decide +kernel
theorem dX6_statement_235 : decode cX6_statement 235 = .ok (.iload_n 3, 1) := by decide +kernel
theorem dX6_statement_236 : decode cX6_statement 236 = .ok (.iconst 1, 1) := by decide +kernel
theorem dX6_statement_237 : decode cX6_statement 237 = .ok (.if_icmp .le 14, 3) := by decide +kernel
theorem dX6_statement_240 : decode cX6_statement 240 = .ok (.aload_n 0, 1) := by decide +kernel
theorem dX6_statement_241 : decode cX6_statement 241 = .ok (.iload_n 3, 1) := by decide +kernel
theorem dX6_statement_242 : decode cX6_statement 242 = .ok (.invokevirtual 235, 3) := by decide +kernel
theorem dX6_statement_245 : decode cX6_statement 245 = .ok (.aload_n 0, 1) := by decide +kernel
theorem dX6_statement_246 : decode cX6_statement 246 = .ok (.bipush 33, 2) := by decide +kernel
theorem dX6_statement_248 : decode cX6_statement 248 = .ok (.invokevirtual 232, 3) := by decide +kernel
theorem dX6_statement_251 : decode cX6_statement 251 = .ok (.iload_n 1, 1) := by decide +kernel
theorem dX6_statement_252 : decode cX6_statement 252 = .ok (.bipush 6, 2) := by decide +kernel
theorem dX6_statement_254 : decode cX6_statement 254 = .ok (.if_icmp .eq 15, 3) := by decide +kernel
theorem dX6_statement_257 : decode cX6_statement 257 = .ok (.iload_n 1, 1) := by decide +kernel
theorem dX6_statement_258 : decode cX6_statement 258 = .ok (.bipush 7, 2) := by decide +kernel
theorem dX6_statement_260 : decode cX6_statement 260 = .ok (.if_icmp .eq 9, 3) := by decide +kernel
theorem dX6_statement_263 : decode cX6_statement 263 = .ok (.iload_n 1, 1) := by decide +kernel
theorem dX6_statement_264 : decode cX6_statement 264 = .ok (.bipush 9, 2) := by decide +kernel
theorem dX6_statement_266 : decode cX6_statement 266 = .ok (.if_icmp .ne 4, 3) := by decide +kernel
theorem dX6_statement_269 : decode cX6_statement 269 = .ok (.return_, 1) := by decide +kernel
theorem dX6_statement_270 : decode cX6_statement 270 = .ok (.aload_n 0, 1) := by decide +kernel
theorem dX6_statement_271 : decode cX6_statement 271 = .ok (.iload_n 1, 1) := by decide +kernel
theorem dX6_statement_272 : decode cX6_statement 272 = .ok (.bipush 11, 2) := by decide +kernel
theorem dX6_statement_274 : decode cX6_statement 274 = .ok (.if_icmp .ne 8, 3) := by decide +kernel
theorem dX6_statement_277 : decode cX6_statement 277 = .ok (.iload 4, 2) := by decide +kernel
theorem dX6_statement_279 : decode cX6_statement 279 = .ok (.goto 4, 3) := by decide +kernel
theorem dX6_statement_282 : decode cX6_statement 282 = .ok (.iload_n 3, 1) := by decide +kernel
theorem dX6_statement_283 : decode cX6_statement 283 = .ok (.invokevirtual 235, 3) := by decide +kernel
theorem dX6_statement_286 : decode cX6_statement 286 = .ok (.iload_n 1, 1) := by decide +kernel
theorem dX6_statement_287 : decode cX6_statement 287 = .ok (.iconst 5, 1) := by decide +kernel
theorem dX6_statement_288 : decode cX6_statement 288 = .ok (.if_icmp .ne 9, 3) := by decide +kernel
theorem dX6_statement_291 : decode cX6_statement 291 = .ok (.aload_n 0, 1) := by decide +kernel
theorem dX6_statement_292 : decode cX6_statement 292 = .ok (.bipush 34, 2) := by decide +kernel
theorem dX6_statement_294 : decode cX6_statement 294 = .ok (.invokevirtual 232, 3) := by decide +kernel
theorem dX6_statement_297 : decode cX6_statement 297 = .ok (.iload_n 1, 1) := by decide +kernel
theorem dX6_statement_298 : decode cX6_statement 298 = .ok (.bipush 8, 2) := by decide +kernel
theorem dX6_statement_300 : decode cX6_statement 300 = .ok (.if_icmp .ne 9, 3) := by decide +kernel
theorem dX6_statement_303 : decode cX6_statement 303 = .ok (.aload_n 0, 1) := by decide +kernel
theorem dX6_statement_304 : decode cX6_statement 304 = .ok (.bipush 35, 2) := by decide +kernel
theorem dX6_statement_306 : decode cX6_statement 306 = .ok (.invokevirtual 232, 3) := by decide +kernel
theorem dX6_statement_309 : decode cX6_statement 309 = .ok (.return_, 1) := by decide +kernel
set_option maxRecDepth 20000 in
theorem ggX6_sentence_X6_isRow : GoodIn wsX6_sentence wsX6_isRow := goodIn_r _ [10, 11, 68, 69, 70, 71, 72, 73, 74, 75, 76, 77, 78, 79, 80, 81, 82, 83, 84] rfl (by decide +kernel)
set_option maxRecDepth 20000 in
theorem gX6_sentence_X6_isRow : GoodIn wsX6_sentence (wsV RX6 174 RX6 yX6_isRow wsX6_isRow) := goodIn_app (goodIn_of _ (by decide +kernel)) ggX6_sentence_X6_isRow
set_option maxRecDepth 20000 in
theorem ggX6_sentence_X6_work : GoodIn wsX6_sentence wsX6_work := goodIn_r _ [15, 4, 3, 16, 17, 18, 9, 19, 2, 20, 21, 22, 23, 24, 25, 26, 5, 27, 28, 29, 30, 31, 32, 33, 34, 35, 36, 37, 38, 39, 40, 41, 42, 43, 44, 45, 46, 47, 48, 49, 68, 69, 70, 71, 72, 73, 74, 75, 76, 77, 78, 79, 80, 81, 82, 83, 84] rfl (by decide +kernel)
set_option maxRecDepth 20000 in
theorem gX6_sentence_X6_work : GoodIn wsX6_sentence (wsV RX6 215 RX6 yX6_work wsX6_work) := goodIn_app (goodIn_of _ (by decide +kernel)) ggX6_sentence_X6_work
set_option maxRecDepth 20000 in
theorem ggX6_sentence_X6_number : GoodIn wsX6_sentence wsX6_number := goodIn_r _ [53, 54, 1, 68, 69, 70, 71, 72, 73, 74, 75, 76, 77, 78, 79, 80, 81, 82, 83, 84] rfl (by decide +kernel)
set_option maxRecDepth 20000 in
theorem gX6_sentence_X6_number : GoodIn wsX6_sentence (wsV RX6 235 RX6 yX6_number wsX6_number) := goodIn_app (goodIn_of _ (by decide +kernel)) ggX6_sentence_X6_number
set_option maxRecDepth 20000 in
theorem ggX6_sentence_X6_put : GoodIn wsX6_sentence wsX6_put := goodIn_r _ [58, 59, 60, 54, 1, 68, 69, 70, 71, 72, 73, 74, 75, 76, 77, 78, 79, 80, 81, 82, 83, 84] rfl (by decide +kernel)
set_option maxRecDepth 20000 in
theorem gX6_sentence_X6_put : GoodIn wsX6_sentence (wsV RX6 232 RX6 yX6_put wsX6_put) := goodIn_app (goodIn_of _ (by decide +kernel)) ggX6_sentence_X6_put
set_option maxRecDepth 20000 in
theorem ggX6_sentence_X6_statement : GoodIn wsX6_sentence wsX6_statement := goodIn_r _ [64, 55, 56, 57, 9, 58, 59, 60, 54, 1, 50, 51, 52, 53, 68, 69, 70, 71, 72, 73, 74, 75, 76, 77, 78, 79, 80, 81, 82, 83, 84] rfl (by decide +kernel)
set_option maxRecDepth 20000 in
theorem gX6_sentence_X6_statement : GoodIn wsX6_sentence (wsV RX6 238 RX6 yX6_statement wsX6_statement) := goodIn_app (goodIn_of _ (by decide +kernel)) ggX6_sentence_X6_statement
set_option maxRecDepth 20000 in
theorem ggX6_sentence_X6_wordOf : GoodIn wsX6_sentence wsX6_wordOf := goodIn_r _ [67] rfl (by decide +kernel)
set_option maxRecDepth 20000 in
theorem gX6_sentence_X6_wordOf : GoodIn wsX6_sentence (va_wsS RX6 241 yX6_wordOf wsX6_wordOf) := goodIn_app (goodIn_of _ (by decide +kernel)) ggX6_sentence_X6_wordOf
theorem dX6_sentence_0 : decode cX6_sentence 0 = .ok (.aload_n 0, 1) := by decide +kernel
theorem dX6_sentence_1 : decode cX6_sentence 1 = .ok (.iload_n 1, 1) := by decide +kernel
theorem dX6_sentence_2 : decode cX6_sentence 2 = .ok (.invokevirtual 174, 3) := by decide +kernel
theorem dX6_sentence_5 : decode cX6_sentence 5 = .ok (.ifCond .ne 5, 3) := by decide +kernel
theorem dX6_sentence_8 : decode cX6_sentence 8 = .ok (.iconst (-1), 1) := by decide +kernel
theorem dX6_sentence_9 : decode cX6_sentence 9 = .ok (.ireturn, 1) := by decide +kernel
theorem dX6_sentence_10 : decode cX6_sentence 10 = .ok (.aload_n 0, 1) := by decide +kernel
theorem dX6_sentence_11 : decode cX6_sentence 11 = .ok (.iload_n 1, 1) := by decide +kernel
theorem dX6_sentence_12 : decode cX6_sentence 12 = .ok (.invokevirtual 215, 3) := by decide +kernel
theorem dX6_sentence_15 : decode cX6_sentence 15 = .ok (.aload_n 0, 1) := by decide +kernel
theorem dX6_sentence_16 : decode cX6_sentence 16 = .ok (.iconst 0, 1) := by decide +kernel
theorem dX6_sentence_17 : decode cX6_sentence 17 = .ok (.putfield 229, 3) := by decide +kernel
theorem dX6_sentence_20 : decode cX6_sentence 20 = .ok (.aload_n 0, 1) := by decide +kernel
theorem dX6_sentence_21 : decode cX6_sentence 21 = .ok (.iload_n 1, 1) := by decide +kernel
theorem dX6_sentence_22 : decode cX6_sentence 22 = .ok (.invokevirtual 235, 3) := by decide +kernel
theorem dX6_sentence_25 : decode cX6_sentence 25 = .ok (.aload_n 0, 1) := by decide +kernel
theorem dX6_sentence_26 : decode cX6_sentence 26 = .ok (.bipush 36, 2) := by decide +kernel
theorem dX6_sentence_28 : decode cX6_sentence 28 = .ok (.invokevirtual 232, 3) := by decide +kernel
theorem dX6_sentence_31 : decode cX6_sentence 31 = .ok (.aload_n 0, 1) := by decide +kernel
theorem dX6_sentence_32 : decode cX6_sentence 32 = .ok (.aload_n 0, 1) := by decide +kernel
theorem dX6_sentence_33 : decode cX6_sentence 33 = .ok (.getfield 140, 3) := by decide +kernel
theorem dX6_sentence_36 : decode cX6_sentence 36 = .ok (.iconst 4, 1) := by decide +kernel
theorem dX6_sentence_37 : decode cX6_sentence 37 = .ok (.iload_n 1, 1) := by decide +kernel
theorem dX6_sentence_38 : decode cX6_sentence 38 = .ok (.imul, 1) := by decide +kernel
theorem dX6_sentence_39 : decode cX6_sentence 39 = .ok (.iaload, 1) := by decide +kernel
theorem dX6_sentence_40 : decode cX6_sentence 40 = .ok (.aload_n 0, 1) := by decide +kernel
theorem dX6_sentence_41 : decode cX6_sentence 41 = .ok (.getfield 140, 3) := by decide +kernel
theorem dX6_sentence_44 : decode cX6_sentence 44 = .ok (.iconst 4, 1) := by decide +kernel
theorem dX6_sentence_45 : decode cX6_sentence 45 = .ok (.iload_n 1, 1) := by decide +kernel
theorem dX6_sentence_46 : decode cX6_sentence 46 = .ok (.imul, 1) := by decide +kernel
theorem dX6_sentence_47 : decode cX6_sentence 47 = .ok (.iconst 1, 1) := by decide +kernel
theorem dX6_sentence_48 : decode cX6_sentence 48 = .ok (.iadd, 1) := by decide +kernel
theorem dX6_sentence_49 : decode cX6_sentence 49 = .ok (.iaload, 1) := by decide +kernel
theorem dX6_sentence_50 : decode cX6_sentence 50 = .ok (.aload_n 0, 1) := by decide +kernel
theorem dX6_sentence_51 : decode cX6_sentence 51 = .ok (.getfield 140, 3) := by decide +kernel
theorem dX6_sentence_54 : decode cX6_sentence 54 = .ok (.iconst 4, 1) := by decide +kernel
theorem dX6_sentence_55 : decode cX6_sentence 55 = .ok (.iload_n 1, 1) := by decide +kernel
theorem dX6_sentence_56 : decode cX6_sentence 56 = .ok (.imul, 1) := by decide +kernel
theorem dX6_sentence_57 : decode cX6_sentence 57 = .ok (.iconst 2, 1) := by decide +kernel
theorem dX6_sentence_58 : decode cX6_sentence 58 = .ok (.iadd, 1) := by decide +kernel
theorem dX6_sentence_59 : decode cX6_sentence 59 = .ok (.iaload, 1) := by decide +kernel
theorem dX6_sentence_60 : decode cX6_sentence 60 = .ok (.aload_n 0, 1) := by decide +kernel
theorem dX6_sentence_61 : decode cX6_sentence 61 = .ok (.getfield 140, 3) := by decide +kernel
theorem dX6_sentence_64 : decode cX6_sentence 64 = .ok (.iconst 4, 1) := by decide +kernel
theorem dX6_sentence_65 : decode cX6_sentence 65 = .ok (.iload_n 1, 1) := by decide +kernel
theorem dX6_sentence_66 : decode cX6_sentence 66 = .ok (.imul, 1) := by decide +kernel
theorem dX6_sentence_67 : decode cX6_sentence 67 = .ok (.iconst 3, 1) := by decide +kernel
theorem dX6_sentence_68 : decode cX6_sentence 68 = .ok (.iadd, 1) := by decide +kernel
theorem dX6_sentence_69 : decode cX6_sentence 69 = .ok (.iaload, 1) := by decide +kernel
theorem dX6_sentence_70 : decode cX6_sentence 70 = .ok (.invokevirtual 238, 3) := by decide +kernel
theorem dX6_sentence_73 : decode cX6_sentence 73 = .ok (.aload_n 0, 1) := by decide +kernel
theorem dX6_sentence_74 : decode cX6_sentence 74 = .ok (.bipush 37, 2) := by decide +kernel
theorem dX6_sentence_76 : decode cX6_sentence 76 = .ok (.invokevirtual 232, 3) := by decide +kernel
theorem dX6_sentence_79 : decode cX6_sentence 79 = .ok (.aload_n 0, 1) := by decide +kernel
theorem dX6_sentence_80 : decode cX6_sentence 80 = .ok (.aload_n 0, 1) := by decide +kernel
theorem dX6_sentence_81 : decode cX6_sentence 81 = .ok (.getfield 128, 3) := by decide +kernel
theorem dX6_sentence_84 : decode cX6_sentence 84 = .ok (.iload_n 1, 1) := by decide +kernel
theorem dX6_sentence_85 : decode cX6_sentence 85 = .ok (.iaload, 1) := by decide +kernel
theorem dX6_sentence_86 : decode cX6_sentence 86 = .ok (.invokestatic 241, 3) := by decide +kernel
theorem dX6_sentence_89 : decode cX6_sentence 89 = .ok (.invokevirtual 232, 3) := by decide +kernel
theorem dX6_sentence_92 : decode cX6_sentence 92 = .ok (.iconst 0, 1) := by decide +kernel
theorem dX6_sentence_93 : decode cX6_sentence 93 = .ok (.istore_n 2, 1) := by decide +kernel
theorem dX6_sentence_94 : decode cX6_sentence 94 = .ok (.iload_n 2, 1) := by decide +kernel
theorem dX6_sentence_95 : decode cX6_sentence 95 = .ok (.aload_n 0, 1) := by decide +kernel
theorem dX6_sentence_96 : decode cX6_sentence 96 = .ok (.getfield 134, 3) := by decide +kernel
theorem dX6_sentence_99 : decode cX6_sentence 99 = .ok (.iload_n 1, 1) := by decide +kernel
theorem dX6_sentence_100 : decode cX6_sentence 100 = .ok (.iaload, 1) := by decide +kernel
theorem dX6_sentence_101 : decode cX6_sentence 101 = .ok (.if_icmp .ge 38, 3) := by decide +kernel
theorem dX6_sentence_104 : decode cX6_sentence 104 = .ok (.aload_n 0, 1) := by decide +kernel
theorem dX6_sentence_105 : decode cX6_sentence 105 = .ok (.iload_n 2, 1) := by decide +kernel
theorem dX6_sentence_106 : decode cX6_sentence 106 = .ok (.ifCond .ne 8, 3) := by decide +kernel
theorem dX6_sentence_109 : decode cX6_sentence 109 = .ok (.bipush 38, 2) := by decide +kernel
theorem dX6_sentence_111 : decode cX6_sentence 111 = .ok (.goto 5, 3) := by decide +kernel
theorem dX6_sentence_114 : decode cX6_sentence 114 = .ok (.bipush 39, 2) := by decide +kernel
theorem dX6_sentence_116 : decode cX6_sentence 116 = .ok (.invokevirtual 232, 3) := by decide +kernel
theorem dX6_sentence_119 : decode cX6_sentence 119 = .ok (.aload_n 0, 1) := by decide +kernel
theorem dX6_sentence_120 : decode cX6_sentence 120 = .ok (.aload_n 0, 1) := by decide +kernel
theorem dX6_sentence_121 : decode cX6_sentence 121 = .ok (.getfield 137, 3) := by decide +kernel
theorem dX6_sentence_124 : decode cX6_sentence 124 = .ok (.iconst 3, 1) := by decide +kernel
theorem dX6_sentence_125 : decode cX6_sentence 125 = .ok (.iload_n 1, 1) := by decide +kernel
theorem dX6_sentence_126 : decode cX6_sentence 126 = .ok (.imul, 1) := by decide +kernel
theorem dX6_sentence_127 : decode cX6_sentence 127 = .ok (.iload_n 2, 1) := by decide +kernel
theorem dX6_sentence_128 : decode cX6_sentence 128 = .ok (.iadd, 1) := by decide +kernel
theorem dX6_sentence_129 : decode cX6_sentence 129 = .ok (.iaload, 1) := by decide +kernel
theorem dX6_sentence_130 : decode cX6_sentence 130 = .ok (.invokevirtual 235, 3) := by decide +kernel
theorem dX6_sentence_133 : decode cX6_sentence 133 = .ok (.iinc 2 1, 3) := by decide +kernel
theorem dX6_sentence_136 : decode cX6_sentence 136 = .ok (.goto (-42), 3) := by decide +kernel
theorem dX6_sentence_139 : decode cX6_sentence 139 = .ok (.aload_n 0, 1) := by decide +kernel
theorem dX6_sentence_140 : decode cX6_sentence 140 = .ok (.bipush 40, 2) := by decide +kernel
theorem dX6_sentence_142 : decode cX6_sentence 142 = .ok (.invokevirtual 232, 3) := by decide +kernel
theorem dX6_sentence_145 : decode cX6_sentence 145 = .ok (.aload_n 0, 1) := by decide +kernel
theorem dX6_sentence_146 : decode cX6_sentence 146 = .ok (.getfield 229, 3) := by decide +kernel
theorem dX6_sentence_149 : decode cX6_sentence 149 = .ok (.ireturn, 1) := by decide +kernel
theorem dX6_at_0 : decode cX6_at 0 = .ok (.iload_n 1, 1) := by decide +kernel
theorem dX6_at_1 : decode cX6_at 1 = .ok (.ifCond .lt 20, 3) := by decide +kernel
theorem dX6_at_4 : decode cX6_at 4 = .ok (.iload_n 1, 1) := by decide +kernel
theorem dX6_at_5 : decode cX6_at 5 = .ok (.aload_n 0, 1) := by decide +kernel
theorem dX6_at_6 : decode cX6_at 6 = .ok (.getfield 229, 3) := by decide +kernel
theorem dX6_at_9 : decode cX6_at 9 = .ok (.if_icmp .ge 12, 3) := by decide +kernel
theorem dX6_at_12 : decode cX6_at 12 = .ok (.aload_n 0, 1) := by decide +kernel
theorem dX6_at_13 : decode cX6_at 13 = .ok (.getfield 147, 3) := by decide +kernel
theorem dX6_at_16 : decode cX6_at 16 = .ok (.iload_n 1, 1) := by decide +kernel
theorem dX6_at_17 : decode cX6_at 17 = .ok (.iaload, 1) := by decide +kernel
theorem dX6_at_18 : decode cX6_at 18 = .ok (.goto 5, 3) := by decide +kernel
theorem dX6_at_21 : decode cX6_at 21 = .ok (.bipush (-2), 2) := by decide +kernel
theorem dX6_at_23 : decode cX6_at 23 = .ok (.ireturn, 1) := by decide +kernel
