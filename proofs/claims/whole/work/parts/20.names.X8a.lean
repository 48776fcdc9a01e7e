theorem dX8_init_0 : decode cX8_init 0 = .ok (.aload_n 0, 1) := by decide +kernel
theorem dX8_init_1 : decode cX8_init 1 = .ok (.invokespecial 1, 3) := by decide +kernel
theorem dX8_init_4 : decode cX8_init 4 = .ok (.aload_n 0, 1) := by decide +kernel
theorem dX8_init_5 : decode cX8_init 5 = .ok (.sipush 188, 3) := by decide +kernel
theorem dX8_init_8 : decode cX8_init 8 = .ok (.newarray .int, 2) := by decide +kernel
theorem dX8_init_10 : decode cX8_init 10 = .ok (.dup, 1) := by decide +kernel
theorem dX8_init_11 : decode cX8_init 11 = .ok (.iconst 0, 1) := by decide +kernel
theorem dX8_init_12 : decode cX8_init 12 = .ok (.sipush 22017, 3) := by decide +kernel
theorem dX8_init_15 : decode cX8_init 15 = .ok (.iastore, 1) := by decide +kernel
theorem dX8_init_16 : decode cX8_init 16 = .ok (.dup, 1) := by decide +kernel
theorem dX8_init_17 : decode cX8_init 17 = .ok (.iconst 1, 1) := by decide +kernel
theorem dX8_init_18 : decode cX8_init 18 = .ok (.iconst 1, 1) := by decide +kernel
theorem dX8_init_19 : decode cX8_init 19 = .ok (.iastore, 1) := by decide +kernel
theorem dX8_init_20 : decode cX8_init 20 = .ok (.dup, 1) := by decide +kernel
theorem dX8_init_21 : decode cX8_init 21 = .ok (.iconst 2, 1) := by decide +kernel
theorem dX8_init_22 : decode cX8_init 22 = .ok (.iconst 1, 1) := by decide +kernel
theorem dX8_init_23 : decode cX8_init 23 = .ok (.iastore, 1) := by decide +kernel
theorem dX8_init_24 : decode cX8_init 24 = .ok (.dup, 1) := by decide +kernel
theorem dX8_init_25 : decode cX8_init 25 = .ok (.iconst 3, 1) := by decide +kernel
theorem dX8_init_26 : decode cX8_init 26 = .ok (.iconst 1, 1) := by decide +kernel
theorem dX8_init_27 : decode cX8_init 27 = .ok (.iastore, 1) := by decide +kernel
theorem dX8_init_28 : decode cX8_init 28 = .ok (.dup, 1) := by decide +kernel
theorem dX8_init_29 : decode cX8_init 29 = .ok (.iconst 4, 1) := by decide +kernel
theorem dX8_init_30 : decode cX8_init 30 = .ok (.sipush 13313, 3) := by decide +kernel
theorem dX8_init_33 : decode cX8_init 33 = .ok (.iastore, 1) := by decide +kernel
theorem dX8_init_34 : decode cX8_init 34 = .ok (.dup, 1) := by decide +kernel
theorem dX8_init_35 : decode cX8_init 35 = .ok (.iconst 5, 1) := by decide +kernel
theorem dX8_init_36 : decode cX8_init 36 = .ok (.iconst 2, 1) := by decide +kernel
theorem dX8_init_37 : decode cX8_init 37 = .ok (.iastore, 1) := by decide +kernel
theorem dX8_init_38 : decode cX8_init 38 = .ok (.dup, 1) := by decide +kernel
theorem dX8_init_39 : decode cX8_init 39 = .ok (.bipush 6, 2) := by decide +kernel
theorem dX8_init_41 : decode cX8_init 41 = .ok (.bipush 6, 2) := by decide +kernel
theorem dX8_init_43 : decode cX8_init 43 = .ok (.iastore, 1) := by decide +kernel
theorem dX8_init_44 : decode cX8_init 44 = .ok (.dup, 1) := by decide +kernel
theorem dX8_init_45 : decode cX8_init 45 = .ok (.bipush 7, 2) := by decide +kernel
theorem dX8_init_47 : decode cX8_init 47 = .ok (.iconst 0, 1) := by decide +kernel
theorem dX8_init_48 : decode cX8_init 48 = .ok (.iastore, 1) := by decide +kernel
theorem dX8_init_49 : decode cX8_init 49 = .ok (.dup, 1) := by decide +kernel
theorem dX8_init_50 : decode cX8_init 50 = .ok (.bipush 8, 2) := by decide +kernel
theorem dX8_init_52 : decode cX8_init 52 = .ok (.sipush 6145, 3) := by decide +kernel
theorem dX8_init_55 : decode cX8_init 55 = .ok (.iastore, 1) := by decide +kernel
theorem dX8_init_56 : decode cX8_init 56 = .ok (.dup, 1) := by decide +kernel
theorem dX8_init_57 : decode cX8_init 57 = .ok (.bipush 9, 2) := by decide +kernel
theorem dX8_init_59 : decode cX8_init 59 = .ok (.iconst 3, 1) := by decide +kernel
theorem dX8_init_60 : decode cX8_init 60 = .ok (.iastore, 1) := by decide +kernel
theorem dX8_init_61 : decode cX8_init 61 = .ok (.dup, 1) := by decide +kernel
theorem dX8_init_62 : decode cX8_init 62 = .ok (.bipush 10, 2) := by decide +kernel
theorem dX8_init_64 : decode cX8_init 64 = .ok (.bipush 9, 2) := by decide +kernel
theorem dX8_init_66 : decode cX8_init 66 = .ok (.iastore, 1) := by decide +kernel
theorem dX8_init_67 : decode cX8_init 67 = .ok (.dup, 1) := by decide +kernel
theorem dX8_init_68 : decode cX8_init 68 = .ok (.bipush 11, 2) := by decide +kernel
theorem dX8_init_70 : decode cX8_init 70 = .ok (.iconst 0, 1) := by decide +kernel
theorem dX8_init_71 : decode cX8_init 71 = .ok (.iastore, 1) := by decide +kernel
theorem dX8_init_72 : decode cX8_init 72 = .ok (.dup, 1) := by decide +kernel
theorem dX8_init_73 : decode cX8_init 73 = .ok (.bipush 12, 2) := by decide +kernel
theorem dX8_init_75 : decode cX8_init 75 = .ok (.sipush 2753, 3) := by decide +kernel
theorem dX8_init_78 : decode cX8_init 78 = .ok (.iastore, 1) := by decide +kernel
theorem dX8_init_79 : decode cX8_init 79 = .ok (.dup, 1) := by decide +kernel
theorem dX8_init_80 : decode cX8_init 80 = .ok (.bipush 13, 2) := by decide +kernel
theorem dX8_init_82 : decode cX8_init 82 = .ok (.iconst 4, 1) := by decide +kernel
theorem dX8_init_83 : decode cX8_init 83 = .ok (.iastore, 1) := by decide +kernel
theorem dX8_init_84 : decode cX8_init 84 = .ok (.dup, 1) := by decide +kernel
theorem dX8_init_85 : decode cX8_init 85 = .ok (.bipush 14, 2) := by decide +kernel
theorem dX8_init_87 : decode cX8_init 87 = .ok (.bipush 12, 2) := by decide +kernel
theorem dX8_init_89 : decode cX8_init 89 = .ok (.iastore, 1) := by decide +kernel
theorem dX8_init_90 : decode cX8_init 90 = .ok (.dup, 1) := by decide +kernel
theorem dX8_init_91 : decode cX8_init 91 = .ok (.bipush 15, 2) := by decide +kernel
theorem dX8_init_93 : decode cX8_init 93 = .ok (.iconst 0, 1) := by decide +kernel
theorem dX8_init_94 : decode cX8_init 94 = .ok (.iastore, 1) := by decide +kernel
theorem dX8_init_95 : decode cX8_init 95 = .ok (.dup, 1) := by decide +kernel
theorem dX8_init_96 : decode cX8_init 96 = .ok (.bipush 16, 2) := by decide +kernel
theorem dX8_init_98 : decode cX8_init 98 = .ok (.sipush 1313, 3) := by decide +kernel
theorem dX8_init_101 : decode cX8_init 101 = .ok (.iastore, 1) := by decide +kernel
theorem dX8_init_102 : decode cX8_init 102 = .ok (.dup, 1) := by decide +kernel
theorem dX8_init_103 : decode cX8_init 103 = .ok (.bipush 17, 2) := by decide +kernel
theorem dX8_init_105 : decode cX8_init 105 = .ok (.iconst 5, 1) := by decide +kernel
theorem dX8_init_106 : decode cX8_init 106 = .ok (.iastore, 1) := by decide +kernel
theorem dX8_init_107 : decode cX8_init 107 = .ok (.dup, 1) := by decide +kernel
theorem dX8_init_108 : decode cX8_init 108 = .ok (.bipush 18, 2) := by decide +kernel
theorem dX8_init_110 : decode cX8_init 110 = .ok (.bipush 29, 2) := by decide +kernel
theorem dX8_init_112 : decode cX8_init 112 = .ok (.iastore, 1) := by decide +kernel
theorem dX8_init_113 : decode cX8_init 113 = .ok (.dup, 1) := by decide +kernel
theorem dX8_init_114 : decode cX8_init 114 = .ok (.bipush 19, 2) := by decide +kernel
theorem dX8_init_116 : decode cX8_init 116 = .ok (.iconst 0, 1) := by decide +kernel
theorem dX8_init_117 : decode cX8_init 117 = .ok (.iastore, 1) := by decide +kernel
theorem dX8_init_118 : decode cX8_init 118 = .ok (.dup, 1) := by decide +kernel
theorem dX8_init_119 : decode cX8_init 119 = .ok (.bipush 20, 2) := by decide +kernel
theorem dX8_init_121 : decode cX8_init 121 = .ok (.sipush 545, 3) := by decide +kernel
theorem dX8_init_124 : decode cX8_init 124 = .ok (.iastore, 1) := by decide +kernel
theorem dX8_init_125 : decode cX8_init 125 = .ok (.dup, 1) := by decide +kernel
theorem dX8_init_126 : decode cX8_init 126 = .ok (.bipush 21, 2) := by decide +kernel
theorem dX8_init_128 : decode cX8_init 128 = .ok (.bipush 38, 2) := by decide +kernel
theorem dX8_init_130 : decode cX8_init 130 = .ok (.iastore, 1) := by decide +kernel
theorem dX8_init_131 : decode cX8_init 131 = .ok (.dup, 1) := by decide +kernel
theorem dX8_init_132 : decode cX8_init 132 = .ok (.bipush 22, 2) := by decide +kernel
theorem dX8_init_134 : decode cX8_init 134 = .ok (.bipush 33, 2) := by decide +kernel
theorem dX8_init_136 : decode cX8_init 136 = .ok (.iastore, 1) := by decide +kernel
theorem dX8_init_137 : decode cX8_init 137 = .ok (.dup, 1) := by decide +kernel
theorem dX8_init_138 : decode cX8_init 138 = .ok (.bipush 23, 2) := by decide +kernel
theorem dX8_init_140 : decode cX8_init 140 = .ok (.iconst 0, 1) := by decide +kernel
theorem dX8_init_141 : decode cX8_init 141 = .ok (.iastore, 1) := by decide +kernel
theorem dX8_init_142 : decode cX8_init 142 = .ok (.dup, 1) := by decide +kernel
theorem dX8_init_143 : decode cX8_init 143 = .ok (.bipush 24, 2) := by decide +kernel
theorem dX8_init_145 : decode cX8_init 145 = .ok (.sipush 22017, 3) := by decide +kernel
theorem dX8_init_148 : decode cX8_init 148 = .ok (.iastore, 1) := by decide +kernel
theorem dX8_init_149 : decode cX8_init 149 = .ok (.dup, 1) := by decide +kernel
theorem dX8_init_150 : decode cX8_init 150 = .ok (.bipush 25, 2) := by decide +kernel
theorem dX8_init_152 : decode cX8_init 152 = .ok (.bipush 7, 2) := by decide +kernel
theorem dX8_init_154 : decode cX8_init 154 = .ok (.iastore, 1) := by decide +kernel
theorem dX8_init_155 : decode cX8_init 155 = .ok (.dup, 1) := by decide +kernel
theorem dX8_init_156 : decode cX8_init 156 = .ok (.bipush 26, 2) := by decide +kernel
theorem dX8_init_158 : decode cX8_init 158 = .ok (.bipush 6, 2) := by decide +kernel
theorem dX8_init_160 : decode cX8_init 160 = .ok (.iastore, 1) := by decide +kernel
theorem dX8_init_161 : decode cX8_init 161 = .ok (.dup, 1) := by decide +kernel
theorem dX8_init_162 : decode cX8_init 162 = .ok (.bipush 27, 2) := by decide +kernel
theorem dX8_init_164 : decode cX8_init 164 = .ok (.iconst 1, 1) := by decide +kernel
theorem dX8_init_165 : decode cX8_init 165 = .ok (.iastore, 1) := by decide +kernel
theorem dX8_init_166 : decode cX8_init 166 = .ok (.dup, 1) := by decide +kernel
theorem dX8_init_167 : decode cX8_init 167 = .ok (.bipush 28, 2) := by decide +kernel
theorem dX8_init_169 : decode cX8_init 169 = .ok (.sipush 21505, 3) := by decide +kernel
theorem dX8_init_172 : decode cX8_init 172 = .ok (.iastore, 1) := by decide +kernel
theorem dX8_init_173 : decode cX8_init 173 = .ok (.dup, 1) := by decide +kernel
theorem dX8_init_174 : decode cX8_init 174 = .ok (.bipush 29, 2) := by decide +kernel
theorem dX8_init_176 : decode cX8_init 176 = .ok (.bipush 8, 2) := by decide +kernel
theorem dX8_init_178 : decode cX8_init 178 = .ok (.iastore, 1) := by decide +kernel
theorem dX8_init_179 : decode cX8_init 179 = .ok (.dup, 1) := by decide +kernel
theorem dX8_init_180 : decode cX8_init 180 = .ok (.bipush 30, 2) := by decide +kernel
theorem dX8_init_182 : decode cX8_init 182 = .ok (.bipush 14, 2) := by decide +kernel
theorem dX8_init_184 : decode cX8_init 184 = .ok (.iastore, 1) := by decide +kernel
theorem dX8_init_185 : decode cX8_init 185 = .ok (.dup, 1) := by decide +kernel
theorem dX8_init_186 : decode cX8_init 186 = .ok (.bipush 31, 2) := by decide +kernel
theorem dX8_init_188 : decode cX8_init 188 = .ok (.iconst 0, 1) := by decide +kernel
theorem dX8_init_189 : decode cX8_init 189 = .ok (.iastore, 1) := by decide +kernel
theorem dX8_init_190 : decode cX8_init 190 = .ok (.dup, 1) := by decide +kernel
theorem dX8_init_191 : decode cX8_init 191 = .ok (.bipush 32, 2) := by decide +kernel
theorem dX8_init_193 : decode cX8_init 193 = .ok (.sipush 18433, 3) := by decide +kernel
theorem dX8_init_196 : decode cX8_init 196 = .ok (.iastore, 1) := by decide +kernel
theorem dX8_init_197 : decode cX8_init 197 = .ok (.dup, 1) := by decide +kernel
theorem dX8_init_198 : decode cX8_init 198 = .ok (.bipush 33, 2) := by decide +kernel
theorem dX8_init_200 : decode cX8_init 200 = .ok (.bipush 9, 2) := by decide +kernel
theorem dX8_init_202 : decode cX8_init 202 = .ok (.iastore, 1) := by decide +kernel
theorem dX8_init_203 : decode cX8_init 203 = .ok (.dup, 1) := by decide +kernel
theorem dX8_init_204 : decode cX8_init 204 = .ok (.bipush 34, 2) := by decide +kernel
theorem dX8_init_206 : decode cX8_init 206 = .ok (.bipush 14, 2) := by decide +kernel
theorem dX8_init_208 : decode cX8_init 208 = .ok (.iastore, 1) := by decide +kernel
theorem dX8_init_209 : decode cX8_init 209 = .ok (.dup, 1) := by decide +kernel
theorem dX8_init_210 : decode cX8_init 210 = .ok (.bipush 35, 2) := by decide +kernel
theorem dX8_init_212 : decode cX8_init 212 = .ok (.iconst 0, 1) := by decide +kernel
theorem dX8_init_213 : decode cX8_init 213 = .ok (.iastore, 1) := by decide +kernel
theorem dX8_init_214 : decode cX8_init 214 = .ok (.dup, 1) := by decide +kernel
theorem dX8_init_215 : decode cX8_init 215 = .ok (.bipush 36, 2) := by decide +kernel
theorem dX8_init_217 : decode cX8_init 217 = .ok (.sipush 14337, 3) := by decide +kernel
theorem dX8_init_220 : decode cX8_init 220 = .ok (.iastore, 1) := by decide +kernel
theorem dX8_init_221 : decode cX8_init 221 = .ok (.dup, 1) := by decide +kernel
theorem dX8_init_222 : decode cX8_init 222 = .ok (.bipush 37, 2) := by decide +kernel
theorem dX8_init_224 : decode cX8_init 224 = .ok (.bipush 10, 2) := by decide +kernel
theorem dX8_init_226 : decode cX8_init 226 = .ok (.iastore, 1) := by decide +kernel
theorem dX8_init_227 : decode cX8_init 227 = .ok (.dup, 1) := by decide +kernel
theorem dX8_init_228 : decode cX8_init 228 = .ok (.bipush 38, 2) := by decide +kernel
theorem dX8_init_230 : decode cX8_init 230 = .ok (.bipush 14, 2) := by decide +kernel
theorem dX8_init_232 : decode cX8_init 232 = .ok (.iastore, 1) := by decide +kernel
theorem dX8_init_233 : decode cX8_init 233 = .ok (.dup, 1) := by decide +kernel
theorem dX8_init_234 : decode cX8_init 234 = .ok (.bipush 39, 2) := by decide +kernel
theorem dX8_init_236 : decode cX8_init 236 = .ok (.iconst 0, 1) := by decide +kernel
theorem dX8_init_237 : decode cX8_init 237 = .ok (.iastore, 1) := by decide +kernel
theorem dX8_init_238 : decode cX8_init 238 = .ok (.dup, 1) := by decide +kernel
theorem dX8_init_239 : decode cX8_init 239 = .ok (.bipush 40, 2) := by decide +kernel
theorem dX8_init_241 : decode cX8_init 241 = .ok (.sipush 12289, 3) := by decide +kernel
theorem dX8_init_244 : decode cX8_init 244 = .ok (.iastore, 1) := by decide +kernel
theorem dX8_init_245 : decode cX8_init 245 = .ok (.dup, 1) := by decide +kernel
theorem dX8_init_246 : decode cX8_init 246 = .ok (.bipush 41, 2) := by decide +kernel
theorem dX8_init_248 : decode cX8_init 248 = .ok (.bipush 11, 2) := by decide +kernel
theorem dX8_init_250 : decode cX8_init 250 = .ok (.iastore, 1) := by decide +kernel
theorem dX8_init_251 : decode cX8_init 251 = .ok (.dup, 1) := by decide +kernel
theorem dX8_init_252 : decode cX8_init 252 = .ok (.bipush 42, 2) := by decide +kernel
theorem dX8_init_254 : decode cX8_init 254 = .ok (.bipush 17, 2) := by decide +kernel
theorem dX8_init_256 : decode cX8_init 256 = .ok (.iastore, 1) := by decide +kernel
theorem dX8_init_257 : decode cX8_init 257 = .ok (.dup, 1) := by decide +kernel
theorem dX8_init_258 : decode cX8_init 258 = .ok (.bipush 43, 2) := by decide +kernel
theorem dX8_init_260 : decode cX8_init 260 = .ok (.iconst 0, 1) := by decide +kernel
theorem dX8_init_261 : decode cX8_init 261 = .ok (.iastore, 1) := by decide +kernel
theorem dX8_init_262 : decode cX8_init 262 = .ok (.dup, 1) := by decide +kernel
theorem dX8_init_263 : decode cX8_init 263 = .ok (.bipush 44, 2) := by decide +kernel
theorem dX8_init_265 : decode cX8_init 265 = .ok (.sipush 9217, 3) := by decide +kernel
theorem dX8_init_268 : decode cX8_init 268 = .ok (.iastore, 1) := by decide +kernel
theorem dX8_init_269 : decode cX8_init 269 = .ok (.dup, 1) := by decide +kernel
theorem dX8_init_270 : decode cX8_init 270 = .ok (.bipush 45, 2) := by decide +kernel
theorem dX8_init_272 : decode cX8_init 272 = .ok (.bipush 12, 2) := by decide +kernel
theorem dX8_init_274 : decode cX8_init 274 = .ok (.iastore, 1) := by decide +kernel
theorem dX8_init_275 : decode cX8_init 275 = .ok (.dup, 1) := by decide +kernel
theorem dX8_init_276 : decode cX8_init 276 = .ok (.bipush 46, 2) := by decide +kernel
theorem dX8_init_278 : decode cX8_init 278 = .ok (.bipush 18, 2) := by decide +kernel
theorem dX8_init_280 : decode cX8_init 280 = .ok (.iastore, 1) := by decide +kernel
theorem dX8_init_281 : decode cX8_init 281 = .ok (.dup, 1) := by decide +kernel
theorem dX8_init_282 : decode cX8_init 282 = .ok (.bipush 47, 2) := by decide +kernel
theorem dX8_init_284 : decode cX8_init 284 = .ok (.iconst 0, 1) := by decide +kernel
theorem dX8_init_285 : decode cX8_init 285 = .ok (.iastore, 1) := by decide +kernel
theorem dX8_init_286 : decode cX8_init 286 = .ok (.dup, 1) := by decide +kernel
theorem dX8_init_287 : decode cX8_init 287 = .ok (.bipush 48, 2) := by decide +kernel
theorem dX8_init_289 : decode cX8_init 289 = .ok (.sipush 7169, 3) := by decide +kernel
theorem dX8_init_292 : decode cX8_init 292 = .ok (.iastore, 1) := by decide +kernel
theorem dX8_init_293 : decode cX8_init 293 = .ok (.dup, 1) := by decide +kernel
theorem dX8_init_294 : decode cX8_init 294 = .ok (.bipush 49, 2) := by decide +kernel
theorem dX8_init_296 : decode cX8_init 296 = .ok (.bipush 13, 2) := by decide +kernel
theorem dX8_init_298 : decode cX8_init 298 = .ok (.iastore, 1) := by decide +kernel
theorem dX8_init_299 : decode cX8_init 299 = .ok (.dup, 1) := by decide +kernel
theorem dX8_init_300 : decode cX8_init 300 = .ok (.bipush 50, 2) := by decide +kernel
theorem dX8_init_302 : decode cX8_init 302 = .ok (.bipush 20, 2) := by decide +kernel
theorem dX8_init_304 : decode cX8_init 304 = .ok (.iastore, 1) := by decide +kernel
theorem dX8_init_305 : decode cX8_init 305 = .ok (.dup, 1) := by decide +kernel
theorem dX8_init_306 : decode cX8_init 306 = .ok (.bipush 51, 2) := by decide +kernel
theorem dX8_init_308 : decode cX8_init 308 = .ok (.iconst 0, 1) := by decide +kernel
theorem dX8_init_309 : decode cX8_init 309 = .ok (.iastore, 1) := by decide +kernel
theorem dX8_init_310 : decode cX8_init 310 = .ok (.dup, 1) := by decide +kernel
theorem dX8_init_311 : decode cX8_init 311 = .ok (.bipush 52, 2) := by decide +kernel
theorem dX8_init_313 : decode cX8_init 313 = .ok (.sipush 5633, 3) := by decide +kernel
theorem dX8_init_316 : decode cX8_init 316 = .ok (.iastore, 1) := by decide +kernel
theorem dX8_init_317 : decode cX8_init 317 = .ok (.dup, 1) := by decide +kernel
theorem dX8_init_318 : decode cX8_init 318 = .ok (.bipush 53, 2) := by decide +kernel
theorem dX8_init_320 : decode cX8_init 320 = .ok (.bipush 29, 2) := by decide +kernel
theorem dX8_init_322 : decode cX8_init 322 = .ok (.iastore, 1) := by decide +kernel
theorem dX8_init_323 : decode cX8_init 323 = .ok (.dup, 1) := by decide +kernel
theorem dX8_init_324 : decode cX8_init 324 = .ok (.bipush 54, 2) := by decide +kernel
theorem dX8_init_326 : decode cX8_init 326 = .ok (.bipush 21, 2) := by decide +kernel
theorem dX8_init_328 : decode cX8_init 328 = .ok (.iastore, 1) := by decide +kernel
theorem dX8_init_329 : decode cX8_init 329 = .ok (.dup, 1) := by decide +kernel
theorem dX8_init_330 : decode cX8_init 330 = .ok (.bipush 55, 2) := by decide +kernel
theorem dX8_init_332 : decode cX8_init 332 = .ok (.iconst 0, 1) := by decide +kernel
theorem dX8_init_333 : decode cX8_init 333 = .ok (.iastore, 1) := by decide +kernel
theorem dX8_init_334 : decode cX8_init 334 = .ok (.dup, 1) := by decide +kernel
theorem dX8_init_335 : decode cX8_init 335 = .ok (.bipush 56, 2) := by decide +kernel
theorem dX8_init_337 : decode cX8_init 337 = .ok (.sipush 22017, 3) := by decide +kernel
theorem dX8_init_340 : decode cX8_init 340 = .ok (.iastore, 1) := by decide +kernel
theorem dX8_init_341 : decode cX8_init 341 = .ok (.dup, 1) := by decide +kernel
theorem dX8_init_342 : decode cX8_init 342 = .ok (.bipush 57, 2) := by decide +kernel
theorem dX8_init_344 : decode cX8_init 344 = .ok (.bipush 15, 2) := by decide +kernel
theorem dX8_init_346 : decode cX8_init 346 = .ok (.iastore, 1) := by decide +kernel
theorem dX8_init_347 : decode cX8_init 347 = .ok (.dup, 1) := by decide +kernel
theorem dX8_init_348 : decode cX8_init 348 = .ok (.bipush 58, 2) := by decide +kernel
theorem dX8_init_350 : decode cX8_init 350 = .ok (.bipush 14, 2) := by decide +kernel
theorem dX8_init_352 : decode cX8_init 352 = .ok (.iastore, 1) := by decide +kernel
theorem dX8_init_353 : decode cX8_init 353 = .ok (.dup, 1) := by decide +kernel
theorem dX8_init_354 : decode cX8_init 354 = .ok (.bipush 59, 2) := by decide +kernel
theorem dX8_init_356 : decode cX8_init 356 = .ok (.iconst 1, 1) := by decide +kernel
theorem dX8_init_357 : decode cX8_init 357 = .ok (.iastore, 1) := by decide +kernel
theorem dX8_init_358 : decode cX8_init 358 = .ok (.dup, 1) := by decide +kernel
theorem dX8_init_359 : decode cX8_init 359 = .ok (.bipush 60, 2) := by decide +kernel
theorem dX8_init_361 : decode cX8_init 361 = .ok (.sipush 21505, 3) := by decide +kernel
theorem dX8_init_364 : decode cX8_init 364 = .ok (.iastore, 1) := by decide +kernel
theorem dX8_init_365 : decode cX8_init 365 = .ok (.dup, 1) := by decide +kernel
theorem dX8_init_366 : decode cX8_init 366 = .ok (.bipush 61, 2) := by decide +kernel
theorem dX8_init_368 : decode cX8_init 368 = .ok (.bipush 16, 2) := by decide +kernel
theorem dX8_init_370 : decode cX8_init 370 = .ok (.iastore, 1) := by decide +kernel
theorem dX8_init_371 : decode cX8_init 371 = .ok (.dup, 1) := by decide +kernel
theorem dX8_init_372 : decode cX8_init 372 = .ok (.bipush 62, 2) := by decide +kernel
theorem dX8_init_374 : decode cX8_init 374 = .ok (.bipush 14, 2) := by decide +kernel
theorem dX8_init_376 : decode cX8_init 376 = .ok (.iastore, 1) := by decide +kernel
theorem dX8_init_377 : decode cX8_init 377 = .ok (.dup, 1) := by decide +kernel
theorem dX8_init_378 : decode cX8_init 378 = .ok (.bipush 63, 2) := by decide +kernel
theorem dX8_init_380 : decode cX8_init 380 = .ok (.iconst 0, 1) := by decide +kernel
theorem dX8_init_381 : decode cX8_init 381 = .ok (.iastore, 1) := by decide +kernel
theorem dX8_init_382 : decode cX8_init 382 = .ok (.dup, 1) := by decide +kernel
theorem dX8_init_383 : decode cX8_init 383 = .ok (.bipush 64, 2) := by decide +kernel
theorem dX8_init_385 : decode cX8_init 385 = .ok (.sipush 20737, 3) := by decide +kernel
theorem dX8_init_388 : decode cX8_init 388 = .ok (.iastore, 1) := by decide +kernel
theorem dX8_init_389 : decode cX8_init 389 = .ok (.dup, 1) := by decide +kernel
theorem dX8_init_390 : decode cX8_init 390 = .ok (.bipush 65, 2) := by decide +kernel
theorem dX8_init_392 : decode cX8_init 392 = .ok (.bipush 17, 2) := by decide +kernel
theorem dX8_init_394 : decode cX8_init 394 = .ok (.iastore, 1) := by decide +kernel
theorem dX8_init_395 : decode cX8_init 395 = .ok (.dup, 1) := by decide +kernel
theorem dX8_init_396 : decode cX8_init 396 = .ok (.bipush 66, 2) := by decide +kernel
theorem dX8_init_398 : decode cX8_init 398 = .ok (.bipush 15, 2) := by decide +kernel
theorem dX8_init_400 : decode cX8_init 400 = .ok (.iastore, 1) := by decide +kernel
theorem dX8_init_401 : decode cX8_init 401 = .ok (.dup, 1) := by decide +kernel
theorem dX8_init_402 : decode cX8_init 402 = .ok (.bipush 67, 2) := by decide +kernel
theorem dX8_init_404 : decode cX8_init 404 = .ok (.iconst 0, 1) := by decide +kernel
theorem dX8_init_405 : decode cX8_init 405 = .ok (.iastore, 1) := by decide +kernel
theorem dX8_init_406 : decode cX8_init 406 = .ok (.dup, 1) := by decide +kernel
theorem dX8_init_407 : decode cX8_init 407 = .ok (.bipush 68, 2) := by decide +kernel
theorem dX8_init_409 : decode cX8_init 409 = .ok (.sipush 18433, 3) := by decide +kernel
theorem dX8_init_412 : decode cX8_init 412 = .ok (.iastore, 1) := by decide +kernel
theorem dX8_init_413 : decode cX8_init 413 = .ok (.dup, 1) := by decide +kernel
theorem dX8_init_414 : decode cX8_init 414 = .ok (.bipush 69, 2) := by decide +kernel
theorem dX8_init_416 : decode cX8_init 416 = .ok (.bipush 18, 2) := by decide +kernel
theorem dX8_init_418 : decode cX8_init 418 = .ok (.iastore, 1) := by decide +kernel
theorem dX8_init_419 : decode cX8_init 419 = .ok (.dup, 1) := by decide +kernel
theorem dX8_init_420 : decode cX8_init 420 = .ok (.bipush 70, 2) := by decide +kernel
theorem dX8_init_422 : decode cX8_init 422 = .ok (.bipush 16, 2) := by decide +kernel
theorem dX8_init_424 : decode cX8_init 424 = .ok (.iastore, 1) := by decide +kernel
theorem dX8_init_425 : decode cX8_init 425 = .ok (.dup, 1) := by decide +kernel
theorem dX8_init_426 : decode cX8_init 426 = .ok (.bipush 71, 2) := by decide +kernel
theorem dX8_init_428 : decode cX8_init 428 = .ok (.iconst 0, 1) := by decide +kernel
theorem dX8_init_429 : decode cX8_init 429 = .ok (.iastore, 1) := by decide +kernel
theorem dX8_init_430 : decode cX8_init 430 = .ok (.dup, 1) := by decide +kernel
theorem dX8_init_431 : decode cX8_init 431 = .ok (.bipush 72, 2) := by decide +kernel
theorem dX8_init_433 : decode cX8_init 433 = .ok (.sipush 14337, 3) := by decide +kernel
theorem dX8_init_436 : decode cX8_init 436 = .ok (.iastore, 1) := by decide +kernel
theorem dX8_init_437 : decode cX8_init 437 = .ok (.dup, 1) := by decide +kernel
theorem dX8_init_438 : decode cX8_init 438 = .ok (.bipush 73, 2) := by decide +kernel
theorem dX8_init_440 : decode cX8_init 440 = .ok (.bipush 19, 2) := by decide +kernel
theorem dX8_init_442 : decode cX8_init 442 = .ok (.iastore, 1) := by decide +kernel
theorem dX8_init_443 : decode cX8_init 443 = .ok (.dup, 1) := by decide +kernel
theorem dX8_init_444 : decode cX8_init 444 = .ok (.bipush 74, 2) := by decide +kernel
theorem dX8_init_446 : decode cX8_init 446 = .ok (.bipush 17, 2) := by decide +kernel
theorem dX8_init_448 : decode cX8_init 448 = .ok (.iastore, 1) := by decide +kernel
theorem dX8_init_449 : decode cX8_init 449 = .ok (.dup, 1) := by decide +kernel
theorem dX8_init_450 : decode cX8_init 450 = .ok (.bipush 75, 2) := by decide +kernel
theorem dX8_init_452 : decode cX8_init 452 = .ok (.iconst 0, 1) := by decide +kernel
theorem dX8_init_453 : decode cX8_init 453 = .ok (.iastore, 1) := by decide +kernel
theorem dX8_init_454 : decode cX8_init 454 = .ok (.dup, 1) := by decide +kernel
theorem dX8_init_455 : decode cX8_init 455 = .ok (.bipush 76, 2) := by decide +kernel
theorem dX8_init_457 : decode cX8_init 457 = .ok (.sipush 13313, 3) := by decide +kernel
theorem dX8_init_460 : decode cX8_init 460 = .ok (.iastore, 1) := by decide +kernel
theorem dX8_init_461 : decode cX8_init 461 = .ok (.dup, 1) := by decide +kernel
theorem dX8_init_462 : decode cX8_init 462 = .ok (.bipush 77, 2) := by decide +kernel
theorem dX8_init_464 : decode cX8_init 464 = .ok (.bipush 20, 2) := by decide +kernel
theorem dX8_init_466 : decode cX8_init 466 = .ok (.iastore, 1) := by decide +kernel
theorem dX8_init_467 : decode cX8_init 467 = .ok (.dup, 1) := by decide +kernel
theorem dX8_init_468 : decode cX8_init 468 = .ok (.bipush 78, 2) := by decide +kernel
theorem dX8_init_470 : decode cX8_init 470 = .ok (.bipush 18, 2) := by decide +kernel
theorem dX8_init_472 : decode cX8_init 472 = .ok (.iastore, 1) := by decide +kernel
theorem dX8_init_473 : decode cX8_init 473 = .ok (.dup, 1) := by decide +kernel
theorem dX8_init_474 : decode cX8_init 474 = .ok (.bipush 79, 2) := by decide +kernel
theorem dX8_init_476 : decode cX8_init 476 = .ok (.iconst 0, 1) := by decide +kernel
theorem dX8_init_477 : decode cX8_init 477 = .ok (.iastore, 1) := by decide +kernel
theorem dX8_init_478 : decode cX8_init 478 = .ok (.dup, 1) := by decide +kernel
theorem dX8_init_479 : decode cX8_init 479 = .ok (.bipush 80, 2) := by decide +kernel
theorem dX8_init_481 : decode cX8_init 481 = .ok (.sipush 12289, 3) := by decide +kernel
theorem dX8_init_484 : decode cX8_init 484 = .ok (.iastore, 1) := by decide +kernel
theorem dX8_init_485 : decode cX8_init 485 = .ok (.dup, 1) := by decide +kernel
theorem dX8_init_486 : decode cX8_init 486 = .ok (.bipush 81, 2) := by decide +kernel
theorem dX8_init_488 : decode cX8_init 488 = .ok (.bipush 21, 2) := by decide +kernel
theorem dX8_init_490 : decode cX8_init 490 = .ok (.iastore, 1) := by decide +kernel
theorem dX8_init_491 : decode cX8_init 491 = .ok (.dup, 1) := by decide +kernel
theorem dX8_init_492 : decode cX8_init 492 = .ok (.bipush 82, 2) := by decide +kernel
theorem dX8_init_494 : decode cX8_init 494 = .ok (.bipush 19, 2) := by decide +kernel
theorem dX8_init_496 : decode cX8_init 496 = .ok (.iastore, 1) := by decide +kernel
theorem dX8_init_497 : decode cX8_init 497 = .ok (.dup, 1) := by decide +kernel
theorem dX8_init_498 : decode cX8_init 498 = .ok (.bipush 83, 2) := by decide +kernel
theorem dX8_init_500 : decode cX8_init 500 = .ok (.iconst 0, 1) := by decide +kernel
theorem dX8_init_501 : decode cX8_init 501 = .ok (.iastore, 1) := by decide +kernel
theorem dX8_init_502 : decode cX8_init 502 = .ok (.dup, 1) := by decide +kernel
theorem dX8_init_503 : decode cX8_init 503 = .ok (.bipush 84, 2) := by decide +kernel
theorem dX8_init_505 : decode cX8_init 505 = .ok (.sipush 10241, 3) := by decide +kernel
theorem dX8_init_508 : decode cX8_init 508 = .ok (.iastore, 1) := by decide +kernel
theorem dX8_init_509 : decode cX8_init 509 = .ok (.dup, 1) := by decide +kernel
theorem dX8_init_510 : decode cX8_init 510 = .ok (.bipush 85, 2) := by decide +kernel
theorem dX8_init_512 : decode cX8_init 512 = .ok (.bipush 22, 2) := by decide +kernel
theorem dX8_init_514 : decode cX8_init 514 = .ok (.iastore, 1) := by decide +kernel
theorem dX8_init_515 : decode cX8_init 515 = .ok (.dup, 1) := by decide +kernel
theorem dX8_init_516 : decode cX8_init 516 = .ok (.bipush 86, 2) := by decide +kernel
theorem dX8_init_518 : decode cX8_init 518 = .ok (.bipush 19, 2) := by decide +kernel
theorem dX8_init_520 : decode cX8_init 520 = .ok (.iastore, 1) := by decide +kernel
theorem dX8_init_521 : decode cX8_init 521 = .ok (.dup, 1) := by decide +kernel
theorem dX8_init_522 : decode cX8_init 522 = .ok (.bipush 87, 2) := by decide +kernel
theorem dX8_init_524 : decode cX8_init 524 = .ok (.iconst 0, 1) := by decide +kernel
theorem dX8_init_525 : decode cX8_init 525 = .ok (.iastore, 1) := by decide +kernel
theorem dX8_init_526 : decode cX8_init 526 = .ok (.dup, 1) := by decide +kernel
theorem dX8_init_527 : decode cX8_init 527 = .ok (.bipush 88, 2) := by decide +kernel
theorem dX8_init_529 : decode cX8_init 529 = .ok (.sipush 9217, 3) := by decide +kernel
theorem dX8_init_532 : decode cX8_init 532 = .ok (.iastore, 1) := by decide +kernel
theorem dX8_init_533 : decode cX8_init 533 = .ok (.dup, 1) := by decide +kernel
theorem dX8_init_534 : decode cX8_init 534 = .ok (.bipush 89, 2) := by decide +kernel
theorem dX8_init_536 : decode cX8_init 536 = .ok (.bipush 23, 2) := by decide +kernel
theorem dX8_init_538 : decode cX8_init 538 = .ok (.iastore, 1) := by decide +kernel
theorem dX8_init_539 : decode cX8_init 539 = .ok (.dup, 1) := by decide +kernel
theorem dX8_init_540 : decode cX8_init 540 = .ok (.bipush 90, 2) := by decide +kernel
theorem dX8_init_542 : decode cX8_init 542 = .ok (.bipush 20, 2) := by decide +kernel
theorem dX8_init_544 : decode cX8_init 544 = .ok (.iastore, 1) := by decide +kernel
theorem dX8_init_545 : decode cX8_init 545 = .ok (.dup, 1) := by decide +kernel
theorem dX8_init_546 : decode cX8_init 546 = .ok (.bipush 91, 2) := by decide +kernel
theorem dX8_init_548 : decode cX8_init 548 = .ok (.iconst 0, 1) := by decide +kernel
theorem dX8_init_549 : decode cX8_init 549 = .ok (.iastore, 1) := by decide +kernel
theorem dX8_init_550 : decode cX8_init 550 = .ok (.dup, 1) := by decide +kernel
theorem dX8_init_551 : decode cX8_init 551 = .ok (.bipush 92, 2) := by decide +kernel
theorem dX8_init_553 : decode cX8_init 553 = .ok (.sipush 8705, 3) := by decide +kernel
theorem dX8_init_556 : decode cX8_init 556 = .ok (.iastore, 1) := by decide +kernel
theorem dX8_init_557 : decode cX8_init 557 = .ok (.dup, 1) := by decide +kernel
theorem dX8_init_558 : decode cX8_init 558 = .ok (.bipush 93, 2) := by decide +kernel
theorem dX8_init_560 : decode cX8_init 560 = .ok (.bipush 24, 2) := by decide +kernel
theorem dX8_init_562 : decode cX8_init 562 = .ok (.iastore, 1) := by decide +kernel
theorem dX8_init_563 : decode cX8_init 563 = .ok (.dup, 1) := by decide +kernel
theorem dX8_init_564 : decode cX8_init 564 = .ok (.bipush 94, 2) := by decide +kernel
theorem dX8_init_566 : decode cX8_init 566 = .ok (.bipush 21, 2) := by decide +kernel
theorem dX8_init_568 : decode cX8_init 568 = .ok (.iastore, 1) := by decide +kernel
theorem dX8_init_569 : decode cX8_init 569 = .ok (.dup, 1) := by decide +kernel
theorem dX8_init_570 : decode cX8_init 570 = .ok (.bipush 95, 2) := by decide +kernel
theorem dX8_init_572 : decode cX8_init 572 = .ok (.iconst 0, 1) := by decide +kernel
theorem dX8_init_573 : decode cX8_init 573 = .ok (.iastore, 1) := by decide +kernel
theorem dX8_init_574 : decode cX8_init 574 = .ok (.dup, 1) := by decide +kernel
theorem dX8_init_575 : decode cX8_init 575 = .ok (.bipush 96, 2) := by decide +kernel
theorem dX8_init_577 : decode cX8_init 577 = .ok (.sipush 7169, 3) := by decide +kernel
theorem dX8_init_580 : decode cX8_init 580 = .ok (.iastore, 1) := by decide +kernel
theorem dX8_init_581 : decode cX8_init 581 = .ok (.dup, 1) := by decide +kernel
theorem dX8_init_582 : decode cX8_init 582 = .ok (.bipush 97, 2) := by decide +kernel
theorem dX8_init_584 : decode cX8_init 584 = .ok (.bipush 25, 2) := by decide +kernel
theorem dX8_init_586 : decode cX8_init 586 = .ok (.iastore, 1) := by decide +kernel
theorem dX8_init_587 : decode cX8_init 587 = .ok (.dup, 1) := by decide +kernel
theorem dX8_init_588 : decode cX8_init 588 = .ok (.bipush 98, 2) := by decide +kernel
theorem dX8_init_590 : decode cX8_init 590 = .ok (.bipush 22, 2) := by decide +kernel
