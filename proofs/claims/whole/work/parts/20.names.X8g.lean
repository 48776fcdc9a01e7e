theorem dX8_decode_75 : decode cX8_decode 75 = .ok (.iconst 0, 1) := by decide +kernel
theorem dX8_decode_76 : decode cX8_decode 76 = .ok (.invokevirtual 179, 3) := by decide +kernel
theorem dX8_decode_79 : decode cX8_decode 79 = .ok (.i2l, 1) := by decide +kernel
theorem dX8_decode_80 : decode cX8_decode 80 = .ok (.bipush 16, 2) := by decide +kernel
theorem dX8_decode_82 : decode cX8_decode 82 = .ok (.lshl, 1) := by decide +kernel
theorem dX8_decode_83 : decode cX8_decode 83 = .ok (.putfield 107, 3) := by decide +kernel
theorem dX8_decode_86 : decode cX8_decode 86 = .ok (.aload_n 0, 1) := by decide +kernel
theorem dX8_decode_87 : decode cX8_decode 87 = .ok (.invokevirtual 187, 3) := by decide +kernel
theorem dX8_decode_90 : decode cX8_decode 90 = .ok (.aload_n 0, 1) := by decide +kernel
theorem dX8_decode_91 : decode cX8_decode 91 = .ok (.aload_n 0, 1) := by decide +kernel
theorem dX8_decode_92 : decode cX8_decode 92 = .ok (.getfield 107, 3) := by decide +kernel
theorem dX8_decode_95 : decode cX8_decode 95 = .ok (.bipush 7, 2) := by decide +kernel
theorem dX8_decode_97 : decode cX8_decode 97 = .ok (.lshl, 1) := by decide +kernel
theorem dX8_decode_98 : decode cX8_decode 98 = .ok (.ldc2_w 185, 3) := by decide +kernel
theorem dX8_decode_101 : decode cX8_decode 101 = .ok (.land, 1) := by decide +kernel
theorem dX8_decode_102 : decode cX8_decode 102 = .ok (.putfield 107, 3) := by decide +kernel
theorem dX8_decode_105 : decode cX8_decode 105 = .ok (.aload_n 0, 1) := by decide +kernel
theorem dX8_decode_106 : decode cX8_decode 106 = .ok (.aload_n 0, 1) := by decide +kernel
theorem dX8_decode_107 : decode cX8_decode 107 = .ok (.getfield 119, 3) := by decide +kernel
theorem dX8_decode_110 : decode cX8_decode 110 = .ok (.bipush 7, 2) := by decide +kernel
theorem dX8_decode_112 : decode cX8_decode 112 = .ok (.isub, 1) := by decide +kernel
theorem dX8_decode_113 : decode cX8_decode 113 = .ok (.putfield 119, 3) := by decide +kernel
theorem dX8_decode_116 : decode cX8_decode 116 = .ok (.aload_n 0, 1) := by decide +kernel
theorem dX8_decode_117 : decode cX8_decode 117 = .ok (.ldc2_w 132, 3) := by decide +kernel
theorem dX8_decode_120 : decode cX8_decode 120 = .ok (.putfield 126, 3) := by decide +kernel
theorem dX8_decode_123 : decode cX8_decode 123 = .ok (.iconst 0, 1) := by decide +kernel
theorem dX8_decode_124 : decode cX8_decode 124 = .ok (.istore_n 1, 1) := by decide +kernel
theorem dX8_decode_125 : decode cX8_decode 125 = .ok (.iconst 0, 1) := by decide +kernel
theorem dX8_decode_126 : decode cX8_decode 126 = .ok (.istore_n 2, 1) := by decide +kernel
theorem dX8_decode_127 : decode cX8_decode 127 = .ok (.iconst 0, 1) := by decide +kernel
theorem dX8_decode_128 : decode cX8_decode 128 = .ok (.istore_n 3, 1) := by decide +kernel
theorem dX8_decode_129 : decode cX8_decode 129 = .ok (.iload_n 3, 1) := by decide +kernel
theorem dX8_decode_130 : decode cX8_decode 130 = .ok (.aload_n 0, 1) := by decide +kernel
theorem dX8_decode_131 : decode cX8_decode 131 = .ok (.getfield 17, 3) := by decide +kernel
theorem dX8_decode_134 : decode cX8_decode 134 = .ok (.if_icmp .ge 175, 3) := by decide +kernel
theorem dX8_decode_137 : decode cX8_decode 137 = .ok (.aload_n 0, 1) := by decide +kernel
theorem dX8_decode_138 : decode cX8_decode 138 = .ok (.getfield 54, 3) := by decide +kernel
theorem dX8_decode_141 : decode cX8_decode 141 = .ok (.ifCond .eq 64, 3) := by decide +kernel
theorem dX8_decode_144 : decode cX8_decode 144 = .ok (.aload_n 0, 1) := by decide +kernel
theorem dX8_decode_145 : decode cX8_decode 145 = .ok (.sipush 8192, 3) := by decide +kernel
theorem dX8_decode_148 : decode cX8_decode 148 = .ok (.aload_n 0, 1) := by decide +kernel
theorem dX8_decode_149 : decode cX8_decode 149 = .ok (.getfield 51, 3) := by decide +kernel
theorem dX8_decode_152 : decode cX8_decode 152 = .ok (.ifCond .ne 8, 3) := by decide +kernel
theorem dX8_decode_155 : decode cX8_decode 155 = .ok (.bipush 16, 2) := by decide +kernel
theorem dX8_decode_157 : decode cX8_decode 157 = .ok (.goto 5, 3) := by decide +kernel
theorem dX8_decode_160 : decode cX8_decode 160 = .ok (.bipush 8, 2) := by decide +kernel
theorem dX8_decode_162 : decode cX8_decode 162 = .ok (.iadd, 1) := by decide +kernel
theorem dX8_decode_163 : decode cX8_decode 163 = .ok (.invokevirtual 193, 3) := by decide +kernel
theorem dX8_decode_166 : decode cX8_decode 166 = .ok (.iconst 1, 1) := by decide +kernel
theorem dX8_decode_167 : decode cX8_decode 167 = .ok (.if_icmp .ne 15, 3) := by decide +kernel
theorem dX8_decode_170 : decode cX8_decode 170 = .ok (.iload_n 1, 1) := by decide +kernel
theorem dX8_decode_171 : decode cX8_decode 171 = .ok (.ifCond .ne 7, 3) := by decide +kernel
theorem dX8_decode_174 : decode cX8_decode 174 = .ok (.iconst 1, 1) := by decide +kernel
theorem dX8_decode_175 : decode cX8_decode 175 = .ok (.goto 8, 3) := by decide +kernel
theorem dX8_decode_178 : decode cX8_decode 178 = .ok (.iconst 0, 1) := by decide +kernel
theorem dX8_decode_179 : decode cX8_decode 179 = .ok (.goto 4, 3) := by decide +kernel
theorem dX8_decode_182 : decode cX8_decode 182 = .ok (.iload_n 1, 1) := by decide +kernel
theorem dX8_decode_183 : decode cX8_decode 183 = .ok (.istore_n 1, 1) := by decide +kernel
theorem dX8_decode_184 : decode cX8_decode 184 = .ok (.aload_n 0, 1) := by decide +kernel
theorem dX8_decode_185 : decode cX8_decode 185 = .ok (.iload_n 1, 1) := by decide +kernel
theorem dX8_decode_186 : decode cX8_decode 186 = .ok (.ifCond .eq 12, 3) := by decide +kernel
theorem dX8_decode_189 : decode cX8_decode 189 = .ok (.aload_n 0, 1) := by decide +kernel
theorem dX8_decode_190 : decode cX8_decode 190 = .ok (.getfield 153, 3) := by decide +kernel
theorem dX8_decode_193 : decode cX8_decode 193 = .ok (.iconst 1, 1) := by decide +kernel
theorem dX8_decode_194 : decode cX8_decode 194 = .ok (.iadd, 1) := by decide +kernel
theorem dX8_decode_195 : decode cX8_decode 195 = .ok (.goto 7, 3) := by decide +kernel
theorem dX8_decode_198 : decode cX8_decode 198 = .ok (.aload_n 0, 1) := by decide +kernel
theorem dX8_decode_199 : decode cX8_decode 199 = .ok (.getfield 153, 3) := by decide +kernel
theorem dX8_decode_202 : decode cX8_decode 202 = .ok (.putfield 153, 3) := by decide +kernel
theorem dX8_decode_205 : decode cX8_decode 205 = .ok (.iconst 0, 1) := by decide +kernel
theorem dX8_decode_206 : decode cX8_decode 206 = .ok (.istore 4, 2) := by decide +kernel
theorem dX8_decode_208 : decode cX8_decode 208 = .ok (.iload 4, 2) := by decide +kernel
theorem dX8_decode_210 : decode cX8_decode 210 = .ok (.aload_n 0, 1) := by decide +kernel
theorem dX8_decode_211 : decode cX8_decode 211 = .ok (.getfield 13, 3) := by decide +kernel
theorem dX8_decode_214 : decode cX8_decode 214 = .ok (.if_icmp .ge 89, 3) := by decide +kernel
theorem dX8_decode_217 : decode cX8_decode 217 = .ok (.iload_n 1, 1) := by decide +kernel
theorem dX8_decode_218 : decode cX8_decode 218 = .ok (.ifCond .eq 13, 3) := by decide +kernel
theorem dX8_decode_221 : decode cX8_decode 221 = .ok (.aload_n 0, 1) := by decide +kernel
theorem dX8_decode_222 : decode cX8_decode 222 = .ok (.iload 4, 2) := by decide +kernel
theorem dX8_decode_224 : decode cX8_decode 224 = .ok (.iload_n 3, 1) := by decide +kernel
theorem dX8_decode_225 : decode cX8_decode 225 = .ok (.invokevirtual 156, 3) := by decide +kernel
theorem dX8_decode_228 : decode cX8_decode 228 = .ok (.goto 4, 3) := by decide +kernel
theorem dX8_decode_231 : decode cX8_decode 231 = .ok (.iconst (-1), 1) := by decide +kernel
theorem dX8_decode_232 : decode cX8_decode 232 = .ok (.istore 5, 2) := by decide +kernel
theorem dX8_decode_234 : decode cX8_decode 234 = .ok (.iload 5, 2) := by decide +kernel
theorem dX8_decode_236 : decode cX8_decode 236 = .ok (.ifCond .lt 16, 3) := by decide +kernel
theorem dX8_decode_239 : decode cX8_decode 239 = .ok (.aload_n 0, 1) := by decide +kernel
theorem dX8_decode_240 : decode cX8_decode 240 = .ok (.dup, 1) := by decide +kernel
theorem dX8_decode_241 : decode cX8_decode 241 = .ok (.getfield 150, 3) := by decide +kernel
theorem dX8_decode_244 : decode cX8_decode 244 = .ok (.iconst 1, 1) := by decide +kernel
theorem dX8_decode_245 : decode cX8_decode 245 = .ok (.iadd, 1) := by decide +kernel
theorem dX8_decode_246 : decode cX8_decode 246 = .ok (.putfield 150, 3) := by decide +kernel
theorem dX8_decode_249 : decode cX8_decode 249 = .ok (.goto 20, 3) := by decide +kernel
theorem dX8_decode_252 : decode cX8_decode 252 = .ok (.aload_n 0, 1) := by decide +kernel
theorem dX8_decode_253 : decode cX8_decode 253 = .ok (.sipush 8192, 3) := by decide +kernel
theorem dX8_decode_256 : decode cX8_decode 256 = .ok (.aload_n 0, 1) := by decide +kernel
theorem dX8_decode_257 : decode cX8_decode 257 = .ok (.iload 4, 2) := by decide +kernel
theorem dX8_decode_259 : decode cX8_decode 259 = .ok (.iload_n 3, 1) := by decide +kernel
theorem dX8_decode_260 : decode cX8_decode 260 = .ok (.invokevirtual 97, 3) := by decide +kernel
theorem dX8_decode_263 : decode cX8_decode 263 = .ok (.iadd, 1) := by decide +kernel
theorem dX8_decode_264 : decode cX8_decode 264 = .ok (.invokevirtual 193, 3) := by decide +kernel
theorem dX8_decode_267 : decode cX8_decode 267 = .ok (.istore 5, 2) := by decide +kernel
theorem dX8_decode_269 : decode cX8_decode 269 = .ok (.aload_n 0, 1) := by decide +kernel
theorem dX8_decode_270 : decode cX8_decode 270 = .ok (.getfield 24, 3) := by decide +kernel
theorem dX8_decode_273 : decode cX8_decode 273 = .ok (.bipush 40, 2) := by decide +kernel
theorem dX8_decode_275 : decode cX8_decode 275 = .ok (.iload_n 3, 1) := by decide +kernel
theorem dX8_decode_276 : decode cX8_decode 276 = .ok (.imul, 1) := by decide +kernel
theorem dX8_decode_277 : decode cX8_decode 277 = .ok (.iload 4, 2) := by decide +kernel
theorem dX8_decode_279 : decode cX8_decode 279 = .ok (.iadd, 1) := by decide +kernel
theorem dX8_decode_280 : decode cX8_decode 280 = .ok (.iload 5, 2) := by decide +kernel
theorem dX8_decode_282 : decode cX8_decode 282 = .ok (.iconst 1, 1) := by decide +kernel
theorem dX8_decode_283 : decode cX8_decode 283 = .ok (.if_icmp .ne 7, 3) := by decide +kernel
theorem dX8_decode_286 : decode cX8_decode 286 = .ok (.iconst 1, 1) := by decide +kernel
theorem dX8_decode_287 : decode cX8_decode 287 = .ok (.goto 4, 3) := by decide +kernel
theorem dX8_decode_290 : decode cX8_decode 290 = .ok (.iconst 0, 1) := by decide +kernel
theorem dX8_decode_291 : decode cX8_decode 291 = .ok (.bastore, 1) := by decide +kernel
theorem dX8_decode_292 : decode cX8_decode 292 = .ok (.iload_n 2, 1) := by decide +kernel
theorem dX8_decode_293 : decode cX8_decode 293 = .ok (.iload 5, 2) := by decide +kernel
theorem dX8_decode_295 : decode cX8_decode 295 = .ok (.iadd, 1) := by decide +kernel
theorem dX8_decode_296 : decode cX8_decode 296 = .ok (.istore_n 2, 1) := by decide +kernel
theorem dX8_decode_297 : decode cX8_decode 297 = .ok (.iinc 4 1, 3) := by decide +kernel
theorem dX8_decode_300 : decode cX8_decode 300 = .ok (.goto (-92), 3) := by decide +kernel
theorem dX8_decode_303 : decode cX8_decode 303 = .ok (.iinc 3 1, 3) := by decide +kernel
theorem dX8_decode_306 : decode cX8_decode 306 = .ok (.goto (-177), 3) := by decide +kernel
theorem dX8_decode_309 : decode cX8_decode 309 = .ok (.aload_n 0, 1) := by decide +kernel
theorem dX8_decode_310 : decode cX8_decode 310 = .ok (.iconst 0, 1) := by decide +kernel
theorem dX8_decode_311 : decode cX8_decode 311 = .ok (.putfield 87, 3) := by decide +kernel
theorem dX8_decode_314 : decode cX8_decode 314 = .ok (.iload_n 2, 1) := by decide +kernel
theorem dX8_decode_315 : decode cX8_decode 315 = .ok (.ireturn, 1) := by decide +kernel
set_option maxRecDepth 20000 in
theorem ggX8_at_X8_noPixel : GoodIn wsX8_at wsX8_noPixel := goodIn_r _ [8, 9, 10, 11, 12, 13, 14, 15, 16, 17, 18, 19, 20, 21, 22, 23, 24, 25, 26, 27, 28, 29, 30, 31, 32, 33, 34, 35, 36, 37, 38, 39, 40, 41] (by decide +kernel) (by decide +kernel)
set_option maxRecDepth 20000 in
theorem gX8_at_X8_noPixel : GoodIn wsX8_at (wsV RX8 61 RX8 yX8_noPixel wsX8_noPixel) := goodIn_app (goodIn_of _ (by decide +kernel)) ggX8_at_X8_noPixel
theorem dX8_at_0 : decode cX8_at 0 = .ok (.aload_n 0, 1) := by decide +kernel
theorem dX8_at_1 : decode cX8_at 1 = .ok (.iconst 0, 1) := by decide +kernel
theorem dX8_at_2 : decode cX8_at 2 = .ok (.putfield 48, 3) := by decide +kernel
theorem dX8_at_5 : decode cX8_at 5 = .ok (.aload_n 0, 1) := by decide +kernel
theorem dX8_at_6 : decode cX8_at 6 = .ok (.getfield 58, 3) := by decide +kernel
theorem dX8_at_9 : decode cX8_at 9 = .ok (.ifCond .eq 12, 3) := by decide +kernel
theorem dX8_at_12 : decode cX8_at 12 = .ok (.aload_n 0, 1) := by decide +kernel
theorem dX8_at_13 : decode cX8_at 13 = .ok (.iload_n 1, 1) := by decide +kernel
theorem dX8_at_14 : decode cX8_at 14 = .ok (.iload_n 2, 1) := by decide +kernel
theorem dX8_at_15 : decode cX8_at 15 = .ok (.invokevirtual 61, 3) := by decide +kernel
theorem dX8_at_18 : decode cX8_at 18 = .ok (.ifCond .eq 7, 3) := by decide +kernel
theorem dX8_at_21 : decode cX8_at 21 = .ok (.iconst (-1), 1) := by decide +kernel
theorem dX8_at_22 : decode cX8_at 22 = .ok (.goto 22, 3) := by decide +kernel
theorem dX8_at_25 : decode cX8_at 25 = .ok (.aload_n 0, 1) := by decide +kernel
theorem dX8_at_26 : decode cX8_at 26 = .ok (.getfield 24, 3) := by decide +kernel
theorem dX8_at_29 : decode cX8_at 29 = .ok (.bipush 40, 2) := by decide +kernel
theorem dX8_at_31 : decode cX8_at 31 = .ok (.iload_n 2, 1) := by decide +kernel
theorem dX8_at_32 : decode cX8_at 32 = .ok (.imul, 1) := by decide +kernel
theorem dX8_at_33 : decode cX8_at 33 = .ok (.iload_n 1, 1) := by decide +kernel
theorem dX8_at_34 : decode cX8_at 34 = .ok (.iadd, 1) := by decide +kernel
theorem dX8_at_35 : decode cX8_at 35 = .ok (.baload, 1) := by decide +kernel
theorem dX8_at_36 : decode cX8_at 36 = .ok (.ifCond .eq 7, 3) := by decide +kernel
theorem dX8_at_39 : decode cX8_at 39 = .ok (.iconst 1, 1) := by decide +kernel
theorem dX8_at_40 : decode cX8_at 40 = .ok (.goto 4, 3) := by decide +kernel
theorem dX8_at_43 : decode cX8_at 43 = .ok (.iconst 0, 1) := by decide +kernel
theorem dX8_at_44 : decode cX8_at 44 = .ok (.ireturn, 1) := by decide +kernel
set_option maxRecDepth 20000 in
theorem ggX8_take_X8_whiteReference : GoodIn wsX8_take wsX8_whiteReference := goodIn_r _ [11, 12, 13, 14, 15, 16, 5, 17, 18, 19, 20, 21, 22, 23, 24, 25, 26, 27, 28, 29, 30, 31, 32, 33, 34, 35, 36, 37, 38, 39, 40, 41, 42, 43, 44, 45, 46, 47] (by decide +kernel) (by decide +kernel)
set_option maxRecDepth 20000 in
theorem gX8_take_X8_whiteReference : GoodIn wsX8_take (wsV RX8 80 RX8 yX8_whiteReference wsX8_whiteReference) := goodIn_app (goodIn_of _ (by decide +kernel)) ggX8_take_X8_whiteReference
theorem dX8_take_0 : decode cX8_take 0 = .ok (.aload_n 0, 1) := by decide +kernel
theorem dX8_take_1 : decode cX8_take 1 = .ok (.iconst 0, 1) := by decide +kernel
theorem dX8_take_2 : decode cX8_take 2 = .ok (.putfield 48, 3) := by decide +kernel
theorem dX8_take_5 : decode cX8_take 5 = .ok (.aload_n 0, 1) := by decide +kernel
theorem dX8_take_6 : decode cX8_take 6 = .ok (.getfield 58, 3) := by decide +kernel
theorem dX8_take_9 : decode cX8_take 9 = .ok (.ifCond .ne 5, 3) := by decide +kernel
theorem dX8_take_12 : decode cX8_take 12 = .ok (.iconst 0, 1) := by decide +kernel
theorem dX8_take_13 : decode cX8_take 13 = .ok (.ireturn, 1) := by decide +kernel
theorem dX8_take_14 : decode cX8_take 14 = .ok (.aload_n 0, 1) := by decide +kernel
theorem dX8_take_15 : decode cX8_take 15 = .ok (.aload_n 0, 1) := by decide +kernel
theorem dX8_take_16 : decode cX8_take 16 = .ok (.getfield 13, 3) := by decide +kernel
theorem dX8_take_19 : decode cX8_take 19 = .ok (.aload_n 0, 1) := by decide +kernel
theorem dX8_take_20 : decode cX8_take 20 = .ok (.getfield 17, 3) := by decide +kernel
theorem dX8_take_23 : decode cX8_take 23 = .ok (.invokevirtual 80, 3) := by decide +kernel
theorem dX8_take_26 : decode cX8_take 26 = .ok (.iconst 0, 1) := by decide +kernel
theorem dX8_take_27 : decode cX8_take 27 = .ok (.istore_n 1, 1) := by decide +kernel
theorem dX8_take_28 : decode cX8_take 28 = .ok (.iload_n 1, 1) := by decide +kernel
theorem dX8_take_29 : decode cX8_take 29 = .ok (.aload_n 0, 1) := by decide +kernel
theorem dX8_take_30 : decode cX8_take 30 = .ok (.getfield 13, 3) := by decide +kernel
theorem dX8_take_33 : decode cX8_take 33 = .ok (.aload_n 0, 1) := by decide +kernel
theorem dX8_take_34 : decode cX8_take 34 = .ok (.getfield 17, 3) := by decide +kernel
theorem dX8_take_37 : decode cX8_take 37 = .ok (.imul, 1) := by decide +kernel
theorem dX8_take_38 : decode cX8_take 38 = .ok (.if_icmp .ge 51, 3) := by decide +kernel
theorem dX8_take_41 : decode cX8_take 41 = .ok (.aload_n 0, 1) := by decide +kernel
theorem dX8_take_42 : decode cX8_take 42 = .ok (.getfield 27, 3) := by decide +kernel
theorem dX8_take_45 : decode cX8_take 45 = .ok (.bipush 60, 2) := by decide +kernel
theorem dX8_take_47 : decode cX8_take 47 = .ok (.iload_n 1, 1) := by decide +kernel
theorem dX8_take_48 : decode cX8_take 48 = .ok (.aload_n 0, 1) := by decide +kernel
theorem dX8_take_49 : decode cX8_take 49 = .ok (.getfield 13, 3) := by decide +kernel
theorem dX8_take_52 : decode cX8_take 52 = .ok (.idiv, 1) := by decide +kernel
theorem dX8_take_53 : decode cX8_take 53 = .ok (.imul, 1) := by decide +kernel
theorem dX8_take_54 : decode cX8_take 54 = .ok (.iload_n 1, 1) := by decide +kernel
theorem dX8_take_55 : decode cX8_take 55 = .ok (.aload_n 0, 1) := by decide +kernel
theorem dX8_take_56 : decode cX8_take 56 = .ok (.getfield 13, 3) := by decide +kernel
theorem dX8_take_59 : decode cX8_take 59 = .ok (.irem, 1) := by decide +kernel
theorem dX8_take_60 : decode cX8_take 60 = .ok (.iadd, 1) := by decide +kernel
theorem dX8_take_61 : decode cX8_take 61 = .ok (.aload_n 0, 1) := by decide +kernel
theorem dX8_take_62 : decode cX8_take 62 = .ok (.getfield 24, 3) := by decide +kernel
theorem dX8_take_65 : decode cX8_take 65 = .ok (.bipush 40, 2) := by decide +kernel
theorem dX8_take_67 : decode cX8_take 67 = .ok (.iload_n 1, 1) := by decide +kernel
theorem dX8_take_68 : decode cX8_take 68 = .ok (.aload_n 0, 1) := by decide +kernel
theorem dX8_take_69 : decode cX8_take 69 = .ok (.getfield 13, 3) := by decide +kernel
theorem dX8_take_72 : decode cX8_take 72 = .ok (.idiv, 1) := by decide +kernel
theorem dX8_take_73 : decode cX8_take 73 = .ok (.imul, 1) := by decide +kernel
theorem dX8_take_74 : decode cX8_take 74 = .ok (.iload_n 1, 1) := by decide +kernel
theorem dX8_take_75 : decode cX8_take 75 = .ok (.aload_n 0, 1) := by decide +kernel
theorem dX8_take_76 : decode cX8_take 76 = .ok (.getfield 13, 3) := by decide +kernel
theorem dX8_take_79 : decode cX8_take 79 = .ok (.irem, 1) := by decide +kernel
theorem dX8_take_80 : decode cX8_take 80 = .ok (.iadd, 1) := by decide +kernel
theorem dX8_take_81 : decode cX8_take 81 = .ok (.baload, 1) := by decide +kernel
theorem dX8_take_82 : decode cX8_take 82 = .ok (.bastore, 1) := by decide +kernel
theorem dX8_take_83 : decode cX8_take 83 = .ok (.iinc 1 1, 3) := by decide +kernel
theorem dX8_take_86 : decode cX8_take 86 = .ok (.goto (-58), 3) := by decide +kernel
theorem dX8_take_89 : decode cX8_take 89 = .ok (.iconst 1, 1) := by decide +kernel
theorem dX8_take_90 : decode cX8_take 90 = .ok (.ireturn, 1) := by decide +kernel
theorem dX8_different_0 : decode cX8_different 0 = .ok (.iconst 0, 1) := by decide +kernel
theorem dX8_different_1 : decode cX8_different 1 = .ok (.istore_n 1, 1) := by decide +kernel
theorem dX8_different_2 : decode cX8_different 2 = .ok (.iconst 0, 1) := by decide +kernel
theorem dX8_different_3 : decode cX8_different 3 = .ok (.istore_n 2, 1) := by decide +kernel
theorem dX8_different_4 : decode cX8_different 4 = .ok (.iload_n 2, 1) := by decide +kernel
theorem dX8_different_5 : decode cX8_different 5 = .ok (.aload_n 0, 1) := by decide +kernel
theorem dX8_different_6 : decode cX8_different 6 = .ok (.getfield 13, 3) := by decide +kernel
theorem dX8_different_9 : decode cX8_different 9 = .ok (.aload_n 0, 1) := by decide +kernel
theorem dX8_different_10 : decode cX8_different 10 = .ok (.getfield 17, 3) := by decide +kernel
theorem dX8_different_13 : decode cX8_different 13 = .ok (.imul, 1) := by decide +kernel
theorem dX8_different_14 : decode cX8_different 14 = .ok (.if_icmp .ge 49, 3) := by decide +kernel
theorem dX8_different_17 : decode cX8_different 17 = .ok (.bipush 40, 2) := by decide +kernel
theorem dX8_different_19 : decode cX8_different 19 = .ok (.iload_n 2, 1) := by decide +kernel
theorem dX8_different_20 : decode cX8_different 20 = .ok (.aload_n 0, 1) := by decide +kernel
theorem dX8_different_21 : decode cX8_different 21 = .ok (.getfield 13, 3) := by decide +kernel
theorem dX8_different_24 : decode cX8_different 24 = .ok (.idiv, 1) := by decide +kernel
theorem dX8_different_25 : decode cX8_different 25 = .ok (.imul, 1) := by decide +kernel
theorem dX8_different_26 : decode cX8_different 26 = .ok (.iload_n 2, 1) := by decide +kernel
theorem dX8_different_27 : decode cX8_different 27 = .ok (.aload_n 0, 1) := by decide +kernel
theorem dX8_different_28 : decode cX8_different 28 = .ok (.getfield 13, 3) := by decide +kernel
theorem dX8_different_31 : decode cX8_different 31 = .ok (.irem, 1) := by decide +kernel
theorem dX8_different_32 : decode cX8_different 32 = .ok (.iadd, 1) := by decide +kernel
theorem dX8_different_33 : decode cX8_different 33 = .ok (.istore_n 3, 1) := by decide +kernel
theorem dX8_different_34 : decode cX8_different 34 = .ok (.aload_n 0, 1) := by decide +kernel
theorem dX8_different_35 : decode cX8_different 35 = .ok (.getfield 20, 3) := by decide +kernel
theorem dX8_different_38 : decode cX8_different 38 = .ok (.iload_n 3, 1) := by decide +kernel
theorem dX8_different_39 : decode cX8_different 39 = .ok (.baload, 1) := by decide +kernel
theorem dX8_different_40 : decode cX8_different 40 = .ok (.aload_n 0, 1) := by decide +kernel
theorem dX8_different_41 : decode cX8_different 41 = .ok (.getfield 24, 3) := by decide +kernel
theorem dX8_different_44 : decode cX8_different 44 = .ok (.iload_n 3, 1) := by decide +kernel
theorem dX8_different_45 : decode cX8_different 45 = .ok (.baload, 1) := by decide +kernel
theorem dX8_different_46 : decode cX8_different 46 = .ok (.if_icmp .eq 9, 3) := by decide +kernel
theorem dX8_different_49 : decode cX8_different 49 = .ok (.iload_n 1, 1) := by decide +kernel
theorem dX8_different_50 : decode cX8_different 50 = .ok (.iconst 1, 1) := by decide +kernel
theorem dX8_different_51 : decode cX8_different 51 = .ok (.iadd, 1) := by decide +kernel
theorem dX8_different_52 : decode cX8_different 52 = .ok (.goto 4, 3) := by decide +kernel
theorem dX8_different_55 : decode cX8_different 55 = .ok (.iload_n 1, 1) := by decide +kernel
theorem dX8_different_56 : decode cX8_different 56 = .ok (.istore_n 1, 1) := by decide +kernel
theorem dX8_different_57 : decode cX8_different 57 = .ok (.iinc 2 1, 3) := by decide +kernel
theorem dX8_different_60 : decode cX8_different 60 = .ok (.goto (-56), 3) := by decide +kernel
theorem dX8_different_63 : decode cX8_different 63 = .ok (.aload_n 0, 1) := by decide +kernel
theorem dX8_different_64 : decode cX8_different 64 = .ok (.getfield 58, 3) := by decide +kernel
theorem dX8_different_67 : decode cX8_different 67 = .ok (.ifCond .eq 7, 3) := by decide +kernel
theorem dX8_different_70 : decode cX8_different 70 = .ok (.iload_n 1, 1) := by decide +kernel
theorem dX8_different_71 : decode cX8_different 71 = .ok (.goto 4, 3) := by decide +kernel
theorem dX8_different_74 : decode cX8_different 74 = .ok (.iconst (-1), 1) := by decide +kernel
theorem dX8_different_75 : decode cX8_different 75 = .ok (.ireturn, 1) := by decide +kernel
set_option maxRecDepth 20000 in
theorem ggX8_told_X8_different : GoodIn wsX8_told wsX8_different := goodIn_r _ [11, 12, 13, 14, 15, 16, 17, 18, 19, 20, 21, 22, 23, 24, 25, 26, 27, 28, 29, 30, 31, 32, 33, 34, 35, 36, 37, 38, 39, 40, 41, 42, 43, 44, 45, 46, 47] (by decide +kernel) (by decide +kernel)
set_option maxRecDepth 20000 in
theorem gX8_told_X8_different : GoodIn wsX8_told (wsV RX8 196 RX8 yX8_different wsX8_different) := goodIn_app (goodIn_of _ (by decide +kernel)) ggX8_told_X8_different
theorem dX8_told_0 : decode cX8_told 0 = .ok (.aload_n 0, 1) := by decide +kernel
theorem dX8_told_1 : decode cX8_told 1 = .ok (.iload_n 1, 1) := by decide +kernel
theorem dX8_told_2 : decode cX8_told 2 = .ok (.ifCond .lt 8, 3) := by decide +kernel
theorem dX8_told_5 : decode cX8_told 5 = .ok (.iload_n 1, 1) := by decide +kernel
theorem dX8_told_6 : decode cX8_told 6 = .ok (.iconst 5, 1) := by decide +kernel
theorem dX8_told_7 : decode cX8_told 7 = .ok (.if_icmp .le 7, 3) := by decide +kernel
theorem dX8_told_10 : decode cX8_told 10 = .ok (.iconst 1, 1) := by decide +kernel
theorem dX8_told_11 : decode cX8_told 11 = .ok (.goto 4, 3) := by decide +kernel
theorem dX8_told_14 : decode cX8_told 14 = .ok (.iconst 0, 1) := by decide +kernel
theorem dX8_told_15 : decode cX8_told 15 = .ok (.putfield 48, 3) := by decide +kernel
theorem dX8_told_18 : decode cX8_told 18 = .ok (.aload_n 0, 1) := by decide +kernel
theorem dX8_told_19 : decode cX8_told 19 = .ok (.getfield 48, 3) := by decide +kernel
theorem dX8_told_22 : decode cX8_told 22 = .ok (.ifCond .le 5, 3) := by decide +kernel
theorem dX8_told_25 : decode cX8_told 25 = .ok (.iconst 0, 1) := by decide +kernel
theorem dX8_told_26 : decode cX8_told 26 = .ok (.ireturn, 1) := by decide +kernel
theorem dX8_told_27 : decode cX8_told 27 = .ok (.iload_n 1, 1) := by decide +kernel
theorem dX8_told_28 : decode cX8_told 28 = .ok (.ifCond .ne 10, 3) := by decide +kernel
theorem dX8_told_31 : decode cX8_told 31 = .ok (.aload_n 0, 1) := by decide +kernel
theorem dX8_told_32 : decode cX8_told 32 = .ok (.getfield 100, 3) := by decide +kernel
theorem dX8_told_35 : decode cX8_told 35 = .ok (.goto 55, 3) := by decide +kernel
theorem dX8_told_38 : decode cX8_told 38 = .ok (.iload_n 1, 1) := by decide +kernel
theorem dX8_told_39 : decode cX8_told 39 = .ok (.iconst 1, 1) := by decide +kernel
theorem dX8_told_40 : decode cX8_told 40 = .ok (.if_icmp .ne 10, 3) := by decide +kernel
theorem dX8_told_43 : decode cX8_told 43 = .ok (.aload_n 0, 1) := by decide +kernel
theorem dX8_told_44 : decode cX8_told 44 = .ok (.getfield 150, 3) := by decide +kernel
theorem dX8_told_47 : decode cX8_told 47 = .ok (.goto 43, 3) := by decide +kernel
theorem dX8_told_50 : decode cX8_told 50 = .ok (.iload_n 1, 1) := by decide +kernel
theorem dX8_told_51 : decode cX8_told 51 = .ok (.iconst 2, 1) := by decide +kernel
theorem dX8_told_52 : decode cX8_told 52 = .ok (.if_icmp .ne 10, 3) := by decide +kernel
theorem dX8_told_55 : decode cX8_told 55 = .ok (.aload_n 0, 1) := by decide +kernel
theorem dX8_told_56 : decode cX8_told 56 = .ok (.getfield 153, 3) := by decide +kernel
theorem dX8_told_59 : decode cX8_told 59 = .ok (.goto 31, 3) := by decide +kernel
theorem dX8_told_62 : decode cX8_told 62 = .ok (.iload_n 1, 1) := by decide +kernel
theorem dX8_told_63 : decode cX8_told 63 = .ok (.iconst 3, 1) := by decide +kernel
theorem dX8_told_64 : decode cX8_told 64 = .ok (.if_icmp .ne 10, 3) := by decide +kernel
theorem dX8_told_67 : decode cX8_told 67 = .ok (.aload_n 0, 1) := by decide +kernel
theorem dX8_told_68 : decode cX8_told 68 = .ok (.getfield 134, 3) := by decide +kernel
theorem dX8_told_71 : decode cX8_told 71 = .ok (.goto 19, 3) := by decide +kernel
theorem dX8_told_74 : decode cX8_told 74 = .ok (.iload_n 1, 1) := by decide +kernel
theorem dX8_told_75 : decode cX8_told 75 = .ok (.iconst 4, 1) := by decide +kernel
theorem dX8_told_76 : decode cX8_told 76 = .ok (.if_icmp .ne 10, 3) := by decide +kernel
theorem dX8_told_79 : decode cX8_told 79 = .ok (.aload_n 0, 1) := by decide +kernel
theorem dX8_told_80 : decode cX8_told 80 = .ok (.getfield 176, 3) := by decide +kernel
theorem dX8_told_83 : decode cX8_told 83 = .ok (.goto 7, 3) := by decide +kernel
theorem dX8_told_86 : decode cX8_told 86 = .ok (.aload_n 0, 1) := by decide +kernel
theorem dX8_told_87 : decode cX8_told 87 = .ok (.invokevirtual 196, 3) := by decide +kernel
theorem dX8_told_90 : decode cX8_told 90 = .ok (.ireturn, 1) := by decide +kernel
theorem dX8_state_0 : decode cX8_state 0 = .ok (.aload_n 0, 1) := by decide +kernel
theorem dX8_state_1 : decode cX8_state 1 = .ok (.iload_n 1, 1) := by decide +kernel
theorem dX8_state_2 : decode cX8_state 2 = .ok (.ifCond .lt 10, 3) := by decide +kernel
theorem dX8_state_5 : decode cX8_state 5 = .ok (.iload_n 1, 1) := by decide +kernel
theorem dX8_state_6 : decode cX8_state 6 = .ok (.sipush 8192, 3) := by decide +kernel
theorem dX8_state_9 : decode cX8_state 9 = .ok (.if_icmp .lt 7, 3) := by decide +kernel
theorem dX8_state_12 : decode cX8_state 12 = .ok (.iconst 1, 1) := by decide +kernel
theorem dX8_state_13 : decode cX8_state 13 = .ok (.goto 4, 3) := by decide +kernel
theorem dX8_state_16 : decode cX8_state 16 = .ok (.iconst 0, 1) := by decide +kernel
theorem dX8_state_17 : decode cX8_state 17 = .ok (.putfield 48, 3) := by decide +kernel
theorem dX8_state_20 : decode cX8_state 20 = .ok (.aload_n 0, 1) := by decide +kernel
theorem dX8_state_21 : decode cX8_state 21 = .ok (.getfield 48, 3) := by decide +kernel
theorem dX8_state_24 : decode cX8_state 24 = .ok (.ifCond .le 7, 3) := by decide +kernel
theorem dX8_state_27 : decode cX8_state 27 = .ok (.iconst 0, 1) := by decide +kernel
theorem dX8_state_28 : decode cX8_state 28 = .ok (.goto 21, 3) := by decide +kernel
theorem dX8_state_31 : decode cX8_state 31 = .ok (.aload_n 0, 1) := by decide +kernel
theorem dX8_state_32 : decode cX8_state 32 = .ok (.getfield 42, 3) := by decide +kernel
theorem dX8_state_35 : decode cX8_state 35 = .ok (.iload_n 2, 1) := by decide +kernel
theorem dX8_state_36 : decode cX8_state 36 = .ok (.ifCond .eq 11, 3) := by decide +kernel
theorem dX8_state_39 : decode cX8_state 39 = .ok (.sipush 8192, 3) := by decide +kernel
theorem dX8_state_42 : decode cX8_state 42 = .ok (.iload_n 1, 1) := by decide +kernel
theorem dX8_state_43 : decode cX8_state 43 = .ok (.iadd, 1) := by decide +kernel
theorem dX8_state_44 : decode cX8_state 44 = .ok (.goto 4, 3) := by decide +kernel
theorem dX8_state_47 : decode cX8_state 47 = .ok (.iload_n 1, 1) := by decide +kernel
theorem dX8_state_48 : decode cX8_state 48 = .ok (.iaload, 1) := by decide +kernel
theorem dX8_state_49 : decode cX8_state 49 = .ok (.ireturn, 1) := by decide +kernel
