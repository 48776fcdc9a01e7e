theorem dX8_referred_61 : decode cX8_referred 61 = .ok (.goto 4, 3) := by decide +kernel
theorem dX8_referred_64 : decode cX8_referred 64 = .ok (.iconst 0, 1) := by decide +kernel
theorem dX8_referred_65 : decode cX8_referred 65 = .ok (.ireturn, 1) := by decide +kernel
set_option maxRecDepth 20000 in
theorem ggX8_contextOf_X8_pixel : GoodIn wsX8_contextOf wsX8_pixel := goodIn_r _ [10, 11, 12, 13, 14, 15, 16, 9, 17, 18, 19, 29, 30, 31, 32, 33, 34, 35, 36, 37, 38, 39, 40, 41, 42, 43, 44, 45, 46, 47, 48, 49, 50, 51, 52, 53, 54, 55, 56, 57, 58, 59] (by decide +kernel) (by decide +kernel)
set_option maxRecDepth 20000 in
theorem gX8_contextOf_X8_pixel : GoodIn wsX8_contextOf (wsV RX8 90 RX8 yX8_pixel wsX8_pixel) := goodIn_app (goodIn_of _ (by decide +kernel)) ggX8_contextOf_X8_pixel
set_option maxRecDepth 20000 in
theorem ggX8_contextOf_X8_referred : GoodIn wsX8_contextOf wsX8_referred := goodIn_r _ [23, 24, 25, 26, 27, 28, 29, 30, 31, 32, 33, 34, 35, 36, 37, 38, 39, 40, 41, 42, 43, 44, 45, 46, 47, 48, 49, 50, 51, 52, 53, 54, 55, 56, 57, 58, 59] (by decide +kernel) (by decide +kernel)
set_option maxRecDepth 20000 in
theorem gX8_contextOf_X8_referred : GoodIn wsX8_contextOf (wsV RX8 94 RX8 yX8_referred wsX8_referred) := goodIn_app (goodIn_of _ (by decide +kernel)) ggX8_contextOf_X8_referred
theorem dX8_contextOf_0 : decode cX8_contextOf 0 = .ok (.aload_n 0, 1) := by decide +kernel
theorem dX8_contextOf_1 : decode cX8_contextOf 1 = .ok (.iload_n 1, 1) := by decide +kernel
theorem dX8_contextOf_2 : decode cX8_contextOf 2 = .ok (.iconst 1, 1) := by decide +kernel
theorem dX8_contextOf_3 : decode cX8_contextOf 3 = .ok (.isub, 1) := by decide +kernel
theorem dX8_contextOf_4 : decode cX8_contextOf 4 = .ok (.iload_n 2, 1) := by decide +kernel
theorem dX8_contextOf_5 : decode cX8_contextOf 5 = .ok (.invokevirtual 90, 3) := by decide +kernel
theorem dX8_contextOf_8 : decode cX8_contextOf 8 = .ok (.aload_n 0, 1) := by decide +kernel
theorem dX8_contextOf_9 : decode cX8_contextOf 9 = .ok (.iload_n 1, 1) := by decide +kernel
theorem dX8_contextOf_10 : decode cX8_contextOf 10 = .ok (.iconst 1, 1) := by decide +kernel
theorem dX8_contextOf_11 : decode cX8_contextOf 11 = .ok (.iadd, 1) := by decide +kernel
theorem dX8_contextOf_12 : decode cX8_contextOf 12 = .ok (.iload_n 2, 1) := by decide +kernel
theorem dX8_contextOf_13 : decode cX8_contextOf 13 = .ok (.iconst 1, 1) := by decide +kernel
theorem dX8_contextOf_14 : decode cX8_contextOf 14 = .ok (.isub, 1) := by decide +kernel
theorem dX8_contextOf_15 : decode cX8_contextOf 15 = .ok (.invokevirtual 90, 3) := by decide +kernel
theorem dX8_contextOf_18 : decode cX8_contextOf 18 = .ok (.iconst 1, 1) := by decide +kernel
theorem dX8_contextOf_19 : decode cX8_contextOf 19 = .ok (.ishl, 1) := by decide +kernel
theorem dX8_contextOf_20 : decode cX8_contextOf 20 = .ok (.ior, 1) := by decide +kernel
theorem dX8_contextOf_21 : decode cX8_contextOf 21 = .ok (.aload_n 0, 1) := by decide +kernel
theorem dX8_contextOf_22 : decode cX8_contextOf 22 = .ok (.iload_n 1, 1) := by decide +kernel
theorem dX8_contextOf_23 : decode cX8_contextOf 23 = .ok (.iload_n 2, 1) := by decide +kernel
theorem dX8_contextOf_24 : decode cX8_contextOf 24 = .ok (.iconst 1, 1) := by decide +kernel
theorem dX8_contextOf_25 : decode cX8_contextOf 25 = .ok (.isub, 1) := by decide +kernel
theorem dX8_contextOf_26 : decode cX8_contextOf 26 = .ok (.invokevirtual 90, 3) := by decide +kernel
theorem dX8_contextOf_29 : decode cX8_contextOf 29 = .ok (.iconst 2, 1) := by decide +kernel
theorem dX8_contextOf_30 : decode cX8_contextOf 30 = .ok (.ishl, 1) := by decide +kernel
theorem dX8_contextOf_31 : decode cX8_contextOf 31 = .ok (.ior, 1) := by decide +kernel
theorem dX8_contextOf_32 : decode cX8_contextOf 32 = .ok (.istore_n 3, 1) := by decide +kernel
theorem dX8_contextOf_33 : decode cX8_contextOf 33 = .ok (.aload_n 0, 1) := by decide +kernel
theorem dX8_contextOf_34 : decode cX8_contextOf 34 = .ok (.getfield 51, 3) := by decide +kernel
theorem dX8_contextOf_37 : decode cX8_contextOf 37 = .ok (.iconst 1, 1) := by decide +kernel
theorem dX8_contextOf_38 : decode cX8_contextOf 38 = .ok (.if_icmp .ne 92, 3) := by decide +kernel
theorem dX8_contextOf_41 : decode cX8_contextOf 41 = .ok (.iload_n 3, 1) := by decide +kernel
theorem dX8_contextOf_42 : decode cX8_contextOf 42 = .ok (.aload_n 0, 1) := by decide +kernel
theorem dX8_contextOf_43 : decode cX8_contextOf 43 = .ok (.iload_n 1, 1) := by decide +kernel
theorem dX8_contextOf_44 : decode cX8_contextOf 44 = .ok (.iconst 1, 1) := by decide +kernel
theorem dX8_contextOf_45 : decode cX8_contextOf 45 = .ok (.isub, 1) := by decide +kernel
theorem dX8_contextOf_46 : decode cX8_contextOf 46 = .ok (.iload_n 2, 1) := by decide +kernel
theorem dX8_contextOf_47 : decode cX8_contextOf 47 = .ok (.iconst 1, 1) := by decide +kernel
theorem dX8_contextOf_48 : decode cX8_contextOf 48 = .ok (.isub, 1) := by decide +kernel
theorem dX8_contextOf_49 : decode cX8_contextOf 49 = .ok (.invokevirtual 90, 3) := by decide +kernel
theorem dX8_contextOf_52 : decode cX8_contextOf 52 = .ok (.iconst 3, 1) := by decide +kernel
theorem dX8_contextOf_53 : decode cX8_contextOf 53 = .ok (.ishl, 1) := by decide +kernel
theorem dX8_contextOf_54 : decode cX8_contextOf 54 = .ok (.ior, 1) := by decide +kernel
theorem dX8_contextOf_55 : decode cX8_contextOf 55 = .ok (.aload_n 0, 1) := by decide +kernel
theorem dX8_contextOf_56 : decode cX8_contextOf 56 = .ok (.iload_n 1, 1) := by decide +kernel
theorem dX8_contextOf_57 : decode cX8_contextOf 57 = .ok (.iconst 1, 1) := by decide +kernel
theorem dX8_contextOf_58 : decode cX8_contextOf 58 = .ok (.iadd, 1) := by decide +kernel
theorem dX8_contextOf_59 : decode cX8_contextOf 59 = .ok (.iload_n 2, 1) := by decide +kernel
theorem dX8_contextOf_60 : decode cX8_contextOf 60 = .ok (.iconst 1, 1) := by decide +kernel
theorem dX8_contextOf_61 : decode cX8_contextOf 61 = .ok (.iadd, 1) := by decide +kernel
theorem dX8_contextOf_62 : decode cX8_contextOf 62 = .ok (.invokevirtual 94, 3) := by decide +kernel
theorem dX8_contextOf_65 : decode cX8_contextOf 65 = .ok (.iconst 4, 1) := by decide +kernel
theorem dX8_contextOf_66 : decode cX8_contextOf 66 = .ok (.ishl, 1) := by decide +kernel
theorem dX8_contextOf_67 : decode cX8_contextOf 67 = .ok (.ior, 1) := by decide +kernel
theorem dX8_contextOf_68 : decode cX8_contextOf 68 = .ok (.aload_n 0, 1) := by decide +kernel
theorem dX8_contextOf_69 : decode cX8_contextOf 69 = .ok (.iload_n 1, 1) := by decide +kernel
theorem dX8_contextOf_70 : decode cX8_contextOf 70 = .ok (.iload_n 2, 1) := by decide +kernel
theorem dX8_contextOf_71 : decode cX8_contextOf 71 = .ok (.iconst 1, 1) := by decide +kernel
theorem dX8_contextOf_72 : decode cX8_contextOf 72 = .ok (.iadd, 1) := by decide +kernel
theorem dX8_contextOf_73 : decode cX8_contextOf 73 = .ok (.invokevirtual 94, 3) := by decide +kernel
theorem dX8_contextOf_76 : decode cX8_contextOf 76 = .ok (.iconst 5, 1) := by decide +kernel
theorem dX8_contextOf_77 : decode cX8_contextOf 77 = .ok (.ishl, 1) := by decide +kernel
theorem dX8_contextOf_78 : decode cX8_contextOf 78 = .ok (.ior, 1) := by decide +kernel
theorem dX8_contextOf_79 : decode cX8_contextOf 79 = .ok (.istore_n 3, 1) := by decide +kernel
theorem dX8_contextOf_80 : decode cX8_contextOf 80 = .ok (.iload_n 3, 1) := by decide +kernel
theorem dX8_contextOf_81 : decode cX8_contextOf 81 = .ok (.aload_n 0, 1) := by decide +kernel
theorem dX8_contextOf_82 : decode cX8_contextOf 82 = .ok (.iload_n 1, 1) := by decide +kernel
theorem dX8_contextOf_83 : decode cX8_contextOf 83 = .ok (.iconst 1, 1) := by decide +kernel
theorem dX8_contextOf_84 : decode cX8_contextOf 84 = .ok (.iadd, 1) := by decide +kernel
theorem dX8_contextOf_85 : decode cX8_contextOf 85 = .ok (.iload_n 2, 1) := by decide +kernel
theorem dX8_contextOf_86 : decode cX8_contextOf 86 = .ok (.invokevirtual 94, 3) := by decide +kernel
theorem dX8_contextOf_89 : decode cX8_contextOf 89 = .ok (.bipush 6, 2) := by decide +kernel
theorem dX8_contextOf_91 : decode cX8_contextOf 91 = .ok (.ishl, 1) := by decide +kernel
theorem dX8_contextOf_92 : decode cX8_contextOf 92 = .ok (.ior, 1) := by decide +kernel
theorem dX8_contextOf_93 : decode cX8_contextOf 93 = .ok (.aload_n 0, 1) := by decide +kernel
theorem dX8_contextOf_94 : decode cX8_contextOf 94 = .ok (.iload_n 1, 1) := by decide +kernel
theorem dX8_contextOf_95 : decode cX8_contextOf 95 = .ok (.iload_n 2, 1) := by decide +kernel
theorem dX8_contextOf_96 : decode cX8_contextOf 96 = .ok (.invokevirtual 94, 3) := by decide +kernel
theorem dX8_contextOf_99 : decode cX8_contextOf 99 = .ok (.bipush 7, 2) := by decide +kernel
theorem dX8_contextOf_101 : decode cX8_contextOf 101 = .ok (.ishl, 1) := by decide +kernel
theorem dX8_contextOf_102 : decode cX8_contextOf 102 = .ok (.ior, 1) := by decide +kernel
theorem dX8_contextOf_103 : decode cX8_contextOf 103 = .ok (.aload_n 0, 1) := by decide +kernel
theorem dX8_contextOf_104 : decode cX8_contextOf 104 = .ok (.iload_n 1, 1) := by decide +kernel
theorem dX8_contextOf_105 : decode cX8_contextOf 105 = .ok (.iconst 1, 1) := by decide +kernel
theorem dX8_contextOf_106 : decode cX8_contextOf 106 = .ok (.isub, 1) := by decide +kernel
theorem dX8_contextOf_107 : decode cX8_contextOf 107 = .ok (.iload_n 2, 1) := by decide +kernel
theorem dX8_contextOf_108 : decode cX8_contextOf 108 = .ok (.invokevirtual 94, 3) := by decide +kernel
theorem dX8_contextOf_111 : decode cX8_contextOf 111 = .ok (.bipush 8, 2) := by decide +kernel
theorem dX8_contextOf_113 : decode cX8_contextOf 113 = .ok (.ishl, 1) := by decide +kernel
theorem dX8_contextOf_114 : decode cX8_contextOf 114 = .ok (.ior, 1) := by decide +kernel
theorem dX8_contextOf_115 : decode cX8_contextOf 115 = .ok (.aload_n 0, 1) := by decide +kernel
theorem dX8_contextOf_116 : decode cX8_contextOf 116 = .ok (.iload_n 1, 1) := by decide +kernel
theorem dX8_contextOf_117 : decode cX8_contextOf 117 = .ok (.iload_n 2, 1) := by decide +kernel
theorem dX8_contextOf_118 : decode cX8_contextOf 118 = .ok (.iconst 1, 1) := by decide +kernel
theorem dX8_contextOf_119 : decode cX8_contextOf 119 = .ok (.isub, 1) := by decide +kernel
theorem dX8_contextOf_120 : decode cX8_contextOf 120 = .ok (.invokevirtual 94, 3) := by decide +kernel
theorem dX8_contextOf_123 : decode cX8_contextOf 123 = .ok (.bipush 9, 2) := by decide +kernel
theorem dX8_contextOf_125 : decode cX8_contextOf 125 = .ok (.ishl, 1) := by decide +kernel
theorem dX8_contextOf_126 : decode cX8_contextOf 126 = .ok (.ior, 1) := by decide +kernel
theorem dX8_contextOf_127 : decode cX8_contextOf 127 = .ok (.istore_n 3, 1) := by decide +kernel
theorem dX8_contextOf_128 : decode cX8_contextOf 128 = .ok (.iload_n 3, 1) := by decide +kernel
theorem dX8_contextOf_129 : decode cX8_contextOf 129 = .ok (.ireturn, 1) := by decide +kernel
theorem dX8_contextOf_130 : decode cX8_contextOf 130 = .ok (.iload_n 3, 1) := by decide +kernel
theorem dX8_contextOf_131 : decode cX8_contextOf 131 = .ok (.aload_n 0, 1) := by decide +kernel
theorem dX8_contextOf_132 : decode cX8_contextOf 132 = .ok (.iload_n 1, 1) := by decide +kernel
theorem dX8_contextOf_133 : decode cX8_contextOf 133 = .ok (.aload_n 0, 1) := by decide +kernel
theorem dX8_contextOf_134 : decode cX8_contextOf 134 = .ok (.getfield 30, 3) := by decide +kernel
theorem dX8_contextOf_137 : decode cX8_contextOf 137 = .ok (.iadd, 1) := by decide +kernel
theorem dX8_contextOf_138 : decode cX8_contextOf 138 = .ok (.iload_n 2, 1) := by decide +kernel
theorem dX8_contextOf_139 : decode cX8_contextOf 139 = .ok (.aload_n 0, 1) := by decide +kernel
theorem dX8_contextOf_140 : decode cX8_contextOf 140 = .ok (.getfield 33, 3) := by decide +kernel
theorem dX8_contextOf_143 : decode cX8_contextOf 143 = .ok (.iadd, 1) := by decide +kernel
theorem dX8_contextOf_144 : decode cX8_contextOf 144 = .ok (.invokevirtual 90, 3) := by decide +kernel
theorem dX8_contextOf_147 : decode cX8_contextOf 147 = .ok (.iconst 3, 1) := by decide +kernel
theorem dX8_contextOf_148 : decode cX8_contextOf 148 = .ok (.ishl, 1) := by decide +kernel
theorem dX8_contextOf_149 : decode cX8_contextOf 149 = .ok (.ior, 1) := by decide +kernel
theorem dX8_contextOf_150 : decode cX8_contextOf 150 = .ok (.istore_n 3, 1) := by decide +kernel
theorem dX8_contextOf_151 : decode cX8_contextOf 151 = .ok (.iload_n 3, 1) := by decide +kernel
theorem dX8_contextOf_152 : decode cX8_contextOf 152 = .ok (.aload_n 0, 1) := by decide +kernel
theorem dX8_contextOf_153 : decode cX8_contextOf 153 = .ok (.iload_n 1, 1) := by decide +kernel
theorem dX8_contextOf_154 : decode cX8_contextOf 154 = .ok (.iconst 1, 1) := by decide +kernel
theorem dX8_contextOf_155 : decode cX8_contextOf 155 = .ok (.iadd, 1) := by decide +kernel
theorem dX8_contextOf_156 : decode cX8_contextOf 156 = .ok (.iload_n 2, 1) := by decide +kernel
theorem dX8_contextOf_157 : decode cX8_contextOf 157 = .ok (.iconst 1, 1) := by decide +kernel
theorem dX8_contextOf_158 : decode cX8_contextOf 158 = .ok (.iadd, 1) := by decide +kernel
theorem dX8_contextOf_159 : decode cX8_contextOf 159 = .ok (.invokevirtual 94, 3) := by decide +kernel
theorem dX8_contextOf_162 : decode cX8_contextOf 162 = .ok (.iconst 4, 1) := by decide +kernel
theorem dX8_contextOf_163 : decode cX8_contextOf 163 = .ok (.ishl, 1) := by decide +kernel
theorem dX8_contextOf_164 : decode cX8_contextOf 164 = .ok (.ior, 1) := by decide +kernel
theorem dX8_contextOf_165 : decode cX8_contextOf 165 = .ok (.aload_n 0, 1) := by decide +kernel
theorem dX8_contextOf_166 : decode cX8_contextOf 166 = .ok (.iload_n 1, 1) := by decide +kernel
theorem dX8_contextOf_167 : decode cX8_contextOf 167 = .ok (.iload_n 2, 1) := by decide +kernel
theorem dX8_contextOf_168 : decode cX8_contextOf 168 = .ok (.iconst 1, 1) := by decide +kernel
theorem dX8_contextOf_169 : decode cX8_contextOf 169 = .ok (.iadd, 1) := by decide +kernel
theorem dX8_contextOf_170 : decode cX8_contextOf 170 = .ok (.invokevirtual 94, 3) := by decide +kernel
theorem dX8_contextOf_173 : decode cX8_contextOf 173 = .ok (.iconst 5, 1) := by decide +kernel
theorem dX8_contextOf_174 : decode cX8_contextOf 174 = .ok (.ishl, 1) := by decide +kernel
theorem dX8_contextOf_175 : decode cX8_contextOf 175 = .ok (.ior, 1) := by decide +kernel
theorem dX8_contextOf_176 : decode cX8_contextOf 176 = .ok (.aload_n 0, 1) := by decide +kernel
theorem dX8_contextOf_177 : decode cX8_contextOf 177 = .ok (.iload_n 1, 1) := by decide +kernel
theorem dX8_contextOf_178 : decode cX8_contextOf 178 = .ok (.iconst 1, 1) := by decide +kernel
theorem dX8_contextOf_179 : decode cX8_contextOf 179 = .ok (.isub, 1) := by decide +kernel
theorem dX8_contextOf_180 : decode cX8_contextOf 180 = .ok (.iload_n 2, 1) := by decide +kernel
theorem dX8_contextOf_181 : decode cX8_contextOf 181 = .ok (.iconst 1, 1) := by decide +kernel
theorem dX8_contextOf_182 : decode cX8_contextOf 182 = .ok (.iadd, 1) := by decide +kernel
theorem dX8_contextOf_183 : decode cX8_contextOf 183 = .ok (.invokevirtual 94, 3) := by decide +kernel
theorem dX8_contextOf_186 : decode cX8_contextOf 186 = .ok (.bipush 6, 2) := by decide +kernel
theorem dX8_contextOf_188 : decode cX8_contextOf 188 = .ok (.ishl, 1) := by decide +kernel
theorem dX8_contextOf_189 : decode cX8_contextOf 189 = .ok (.ior, 1) := by decide +kernel
theorem dX8_contextOf_190 : decode cX8_contextOf 190 = .ok (.istore_n 3, 1) := by decide +kernel
theorem dX8_contextOf_191 : decode cX8_contextOf 191 = .ok (.iload_n 3, 1) := by decide +kernel
theorem dX8_contextOf_192 : decode cX8_contextOf 192 = .ok (.aload_n 0, 1) := by decide +kernel
theorem dX8_contextOf_193 : decode cX8_contextOf 193 = .ok (.iload_n 1, 1) := by decide +kernel
theorem dX8_contextOf_194 : decode cX8_contextOf 194 = .ok (.iconst 1, 1) := by decide +kernel
theorem dX8_contextOf_195 : decode cX8_contextOf 195 = .ok (.iadd, 1) := by decide +kernel
theorem dX8_contextOf_196 : decode cX8_contextOf 196 = .ok (.iload_n 2, 1) := by decide +kernel
theorem dX8_contextOf_197 : decode cX8_contextOf 197 = .ok (.invokevirtual 94, 3) := by decide +kernel
theorem dX8_contextOf_200 : decode cX8_contextOf 200 = .ok (.bipush 7, 2) := by decide +kernel
theorem dX8_contextOf_202 : decode cX8_contextOf 202 = .ok (.ishl, 1) := by decide +kernel
theorem dX8_contextOf_203 : decode cX8_contextOf 203 = .ok (.ior, 1) := by decide +kernel
theorem dX8_contextOf_204 : decode cX8_contextOf 204 = .ok (.aload_n 0, 1) := by decide +kernel
theorem dX8_contextOf_205 : decode cX8_contextOf 205 = .ok (.iload_n 1, 1) := by decide +kernel
theorem dX8_contextOf_206 : decode cX8_contextOf 206 = .ok (.iload_n 2, 1) := by decide +kernel
theorem dX8_contextOf_207 : decode cX8_contextOf 207 = .ok (.invokevirtual 94, 3) := by decide +kernel
theorem dX8_contextOf_210 : decode cX8_contextOf 210 = .ok (.bipush 8, 2) := by decide +kernel
theorem dX8_contextOf_212 : decode cX8_contextOf 212 = .ok (.ishl, 1) := by decide +kernel
theorem dX8_contextOf_213 : decode cX8_contextOf 213 = .ok (.ior, 1) := by decide +kernel
theorem dX8_contextOf_214 : decode cX8_contextOf 214 = .ok (.aload_n 0, 1) := by decide +kernel
theorem dX8_contextOf_215 : decode cX8_contextOf 215 = .ok (.iload_n 1, 1) := by decide +kernel
theorem dX8_contextOf_216 : decode cX8_contextOf 216 = .ok (.iconst 1, 1) := by decide +kernel
theorem dX8_contextOf_217 : decode cX8_contextOf 217 = .ok (.isub, 1) := by decide +kernel
theorem dX8_contextOf_218 : decode cX8_contextOf 218 = .ok (.iload_n 2, 1) := by decide +kernel
theorem dX8_contextOf_219 : decode cX8_contextOf 219 = .ok (.invokevirtual 94, 3) := by decide +kernel
theorem dX8_contextOf_222 : decode cX8_contextOf 222 = .ok (.bipush 9, 2) := by decide +kernel
theorem dX8_contextOf_224 : decode cX8_contextOf 224 = .ok (.ishl, 1) := by decide +kernel
theorem dX8_contextOf_225 : decode cX8_contextOf 225 = .ok (.ior, 1) := by decide +kernel
theorem dX8_contextOf_226 : decode cX8_contextOf 226 = .ok (.istore_n 3, 1) := by decide +kernel
theorem dX8_contextOf_227 : decode cX8_contextOf 227 = .ok (.iload_n 3, 1) := by decide +kernel
theorem dX8_contextOf_228 : decode cX8_contextOf 228 = .ok (.aload_n 0, 1) := by decide +kernel
theorem dX8_contextOf_229 : decode cX8_contextOf 229 = .ok (.iload_n 1, 1) := by decide +kernel
theorem dX8_contextOf_230 : decode cX8_contextOf 230 = .ok (.iconst 1, 1) := by decide +kernel
theorem dX8_contextOf_231 : decode cX8_contextOf 231 = .ok (.iadd, 1) := by decide +kernel
theorem dX8_contextOf_232 : decode cX8_contextOf 232 = .ok (.iload_n 2, 1) := by decide +kernel
theorem dX8_contextOf_233 : decode cX8_contextOf 233 = .ok (.iconst 1, 1) := by decide +kernel
theorem dX8_contextOf_234 : decode cX8_contextOf 234 = .ok (.isub, 1) := by decide +kernel
theorem dX8_contextOf_235 : decode cX8_contextOf 235 = .ok (.invokevirtual 94, 3) := by decide +kernel
theorem dX8_contextOf_238 : decode cX8_contextOf 238 = .ok (.bipush 10, 2) := by decide +kernel
theorem dX8_contextOf_240 : decode cX8_contextOf 240 = .ok (.ishl, 1) := by decide +kernel
theorem dX8_contextOf_241 : decode cX8_contextOf 241 = .ok (.ior, 1) := by decide +kernel
theorem dX8_contextOf_242 : decode cX8_contextOf 242 = .ok (.aload_n 0, 1) := by decide +kernel
theorem dX8_contextOf_243 : decode cX8_contextOf 243 = .ok (.iload_n 1, 1) := by decide +kernel
theorem dX8_contextOf_244 : decode cX8_contextOf 244 = .ok (.iload_n 2, 1) := by decide +kernel
theorem dX8_contextOf_245 : decode cX8_contextOf 245 = .ok (.iconst 1, 1) := by decide +kernel
theorem dX8_contextOf_246 : decode cX8_contextOf 246 = .ok (.isub, 1) := by decide +kernel
theorem dX8_contextOf_247 : decode cX8_contextOf 247 = .ok (.invokevirtual 94, 3) := by decide +kernel
theorem dX8_contextOf_250 : decode cX8_contextOf 250 = .ok (.bipush 11, 2) := by decide +kernel
theorem dX8_contextOf_252 : decode cX8_contextOf 252 = .ok (.ishl, 1) := by decide +kernel
theorem dX8_contextOf_253 : decode cX8_contextOf 253 = .ok (.ior, 1) := by decide +kernel
theorem dX8_contextOf_254 : decode cX8_contextOf 254 = .ok (.aload_n 0, 1) := by decide +kernel
theorem dX8_contextOf_255 : decode cX8_contextOf 255 = .ok (.iload_n 1, 1) := by decide +kernel
theorem dX8_contextOf_256 : decode cX8_contextOf 256 = .ok (.aload_n 0, 1) := by decide +kernel
theorem dX8_contextOf_257 : decode cX8_contextOf 257 = .ok (.getfield 36, 3) := by decide +kernel
theorem dX8_contextOf_260 : decode cX8_contextOf 260 = .ok (.iadd, 1) := by decide +kernel
theorem dX8_contextOf_261 : decode cX8_contextOf 261 = .ok (.iload_n 2, 1) := by decide +kernel
theorem dX8_contextOf_262 : decode cX8_contextOf 262 = .ok (.aload_n 0, 1) := by decide +kernel
theorem dX8_contextOf_263 : decode cX8_contextOf 263 = .ok (.getfield 39, 3) := by decide +kernel
theorem dX8_contextOf_266 : decode cX8_contextOf 266 = .ok (.iadd, 1) := by decide +kernel
theorem dX8_contextOf_267 : decode cX8_contextOf 267 = .ok (.invokevirtual 94, 3) := by decide +kernel
theorem dX8_contextOf_270 : decode cX8_contextOf 270 = .ok (.bipush 12, 2) := by decide +kernel
theorem dX8_contextOf_272 : decode cX8_contextOf 272 = .ok (.ishl, 1) := by decide +kernel
theorem dX8_contextOf_273 : decode cX8_contextOf 273 = .ok (.ior, 1) := by decide +kernel
theorem dX8_contextOf_274 : decode cX8_contextOf 274 = .ok (.istore_n 3, 1) := by decide +kernel
theorem dX8_contextOf_275 : decode cX8_contextOf 275 = .ok (.iload_n 3, 1) := by decide +kernel
theorem dX8_contextOf_276 : decode cX8_contextOf 276 = .ok (.ireturn, 1) := by decide +kernel
set_option maxRecDepth 20000 in
theorem ggX8_context_X8_noPixel : GoodIn wsX8_context wsX8_noPixel := goodIn_r _ [8, 9, 10, 35, 36, 37, 38, 39, 40, 41, 42, 43, 44, 45, 46, 47, 48, 49, 50, 51, 52, 53, 54, 55, 56, 57, 58, 59, 60, 61, 62, 63, 64, 65] (by decide +kernel) (by decide +kernel)
set_option maxRecDepth 20000 in
theorem gX8_context_X8_noPixel : GoodIn wsX8_context (wsV RX8 61 RX8 yX8_noPixel wsX8_noPixel) := goodIn_app (goodIn_of _ (by decide +kernel)) ggX8_context_X8_noPixel
set_option maxRecDepth 20000 in
theorem ggX8_context_X8_contextOf : GoodIn wsX8_context wsX8_contextOf := goodIn_r _ [14, 15, 16, 17, 18, 19, 20, 21, 22, 7, 23, 3, 24, 25, 4, 5, 6, 8, 9, 10, 26, 27, 28, 29, 30, 31, 32, 33, 34, 35, 36, 37, 38, 39, 40, 41, 42, 43, 44, 45, 46, 47, 48, 49, 50, 51, 52, 53, 54, 55, 56, 57, 58, 59, 60, 61, 62, 63, 64, 65] (by decide +kernel) (by decide +kernel)
set_option maxRecDepth 20000 in
theorem gX8_context_X8_contextOf : GoodIn wsX8_context (wsV RX8 97 RX8 yX8_contextOf wsX8_contextOf) := goodIn_app (goodIn_of _ (by decide +kernel)) ggX8_context_X8_contextOf
theorem dX8_context_0 : decode cX8_context 0 = .ok (.aload_n 0, 1) := by decide +kernel
theorem dX8_context_1 : decode cX8_context 1 = .ok (.aload_n 0, 1) := by decide +kernel
theorem dX8_context_2 : decode cX8_context 2 = .ok (.getfield 65, 3) := by decide +kernel
theorem dX8_context_5 : decode cX8_context 5 = .ok (.ifCond .ne 7, 3) := by decide +kernel
theorem dX8_context_8 : decode cX8_context 8 = .ok (.iconst 1, 1) := by decide +kernel
theorem dX8_context_9 : decode cX8_context 9 = .ok (.goto 17, 3) := by decide +kernel
theorem dX8_context_12 : decode cX8_context 12 = .ok (.aload_n 0, 1) := by decide +kernel
theorem dX8_context_13 : decode cX8_context 13 = .ok (.iload_n 1, 1) := by decide +kernel
theorem dX8_context_14 : decode cX8_context 14 = .ok (.iload_n 2, 1) := by decide +kernel
theorem dX8_context_15 : decode cX8_context 15 = .ok (.invokevirtual 61, 3) := by decide +kernel
theorem dX8_context_18 : decode cX8_context 18 = .ok (.ifCond .eq 7, 3) := by decide +kernel
theorem dX8_context_21 : decode cX8_context 21 = .ok (.iconst 2, 1) := by decide +kernel
theorem dX8_context_22 : decode cX8_context 22 = .ok (.goto 4, 3) := by decide +kernel
theorem dX8_context_25 : decode cX8_context 25 = .ok (.iconst 0, 1) := by decide +kernel
theorem dX8_context_26 : decode cX8_context 26 = .ok (.putfield 48, 3) := by decide +kernel
theorem dX8_context_29 : decode cX8_context 29 = .ok (.aload_n 0, 1) := by decide +kernel
theorem dX8_context_30 : decode cX8_context 30 = .ok (.getfield 48, 3) := by decide +kernel
theorem dX8_context_33 : decode cX8_context 33 = .ok (.ifCond .le 5, 3) := by decide +kernel
theorem dX8_context_36 : decode cX8_context 36 = .ok (.iconst 0, 1) := by decide +kernel
theorem dX8_context_37 : decode cX8_context 37 = .ok (.ireturn, 1) := by decide +kernel
theorem dX8_context_38 : decode cX8_context 38 = .ok (.aload_n 0, 1) := by decide +kernel
theorem dX8_context_39 : decode cX8_context 39 = .ok (.iconst 0, 1) := by decide +kernel
theorem dX8_context_40 : decode cX8_context 40 = .ok (.putfield 87, 3) := by decide +kernel
theorem dX8_context_43 : decode cX8_context 43 = .ok (.aload_n 0, 1) := by decide +kernel
theorem dX8_context_44 : decode cX8_context 44 = .ok (.iload_n 1, 1) := by decide +kernel
theorem dX8_context_45 : decode cX8_context 45 = .ok (.iload_n 2, 1) := by decide +kernel
theorem dX8_context_46 : decode cX8_context 46 = .ok (.invokevirtual 97, 3) := by decide +kernel
theorem dX8_context_49 : decode cX8_context 49 = .ok (.ireturn, 1) := by decide +kernel
set_option maxRecDepth 20000 in
theorem ggX8_nine_X8_referred : GoodIn wsX8_nine wsX8_referred := goodIn_r _ [5, 6, 7, 8, 9, 10, 11, 12, 13, 14, 15, 16, 17, 18, 19, 20, 21, 22, 23, 24, 25, 26, 27, 28, 29, 30, 31, 32, 33, 34, 35, 36, 37, 38, 39, 40, 41] (by decide +kernel) (by decide +kernel)
set_option maxRecDepth 20000 in
theorem gX8_nine_X8_referred : GoodIn wsX8_nine (wsV RX8 94 RX8 yX8_referred wsX8_referred) := goodIn_app (goodIn_of _ (by decide +kernel)) ggX8_nine_X8_referred
theorem dX8_nine_0 : decode cX8_nine 0 = .ok (.iconst 0, 1) := by decide +kernel
theorem dX8_nine_1 : decode cX8_nine 1 = .ok (.istore_n 3, 1) := by decide +kernel
theorem dX8_nine_2 : decode cX8_nine 2 = .ok (.iconst 0, 1) := by decide +kernel
theorem dX8_nine_3 : decode cX8_nine 3 = .ok (.istore 4, 2) := by decide +kernel
theorem dX8_nine_5 : decode cX8_nine 5 = .ok (.iload 4, 2) := by decide +kernel
theorem dX8_nine_7 : decode cX8_nine 7 = .ok (.bipush 9, 2) := by decide +kernel
theorem dX8_nine_9 : decode cX8_nine 9 = .ok (.if_icmp .ge 32, 3) := by decide +kernel
theorem dX8_nine_12 : decode cX8_nine 12 = .ok (.iload_n 3, 1) := by decide +kernel
theorem dX8_nine_13 : decode cX8_nine 13 = .ok (.aload_n 0, 1) := by decide +kernel
theorem dX8_nine_14 : decode cX8_nine 14 = .ok (.iload_n 1, 1) := by decide +kernel
theorem dX8_nine_15 : decode cX8_nine 15 = .ok (.iload 4, 2) := by decide +kernel
theorem dX8_nine_17 : decode cX8_nine 17 = .ok (.iconst 3, 1) := by decide +kernel
theorem dX8_nine_18 : decode cX8_nine 18 = .ok (.irem, 1) := by decide +kernel
theorem dX8_nine_19 : decode cX8_nine 19 = .ok (.iadd, 1) := by decide +kernel
theorem dX8_nine_20 : decode cX8_nine 20 = .ok (.iconst 1, 1) := by decide +kernel
theorem dX8_nine_21 : decode cX8_nine 21 = .ok (.isub, 1) := by decide +kernel
theorem dX8_nine_22 : decode cX8_nine 22 = .ok (.iload_n 2, 1) := by decide +kernel
theorem dX8_nine_23 : decode cX8_nine 23 = .ok (.iload 4, 2) := by decide +kernel
theorem dX8_nine_25 : decode cX8_nine 25 = .ok (.iconst 3, 1) := by decide +kernel
theorem dX8_nine_26 : decode cX8_nine 26 = .ok (.idiv, 1) := by decide +kernel
theorem dX8_nine_27 : decode cX8_nine 27 = .ok (.iadd, 1) := by decide +kernel
theorem dX8_nine_28 : decode cX8_nine 28 = .ok (.iconst 1, 1) := by decide +kernel
theorem dX8_nine_29 : decode cX8_nine 29 = .ok (.isub, 1) := by decide +kernel
theorem dX8_nine_30 : decode cX8_nine 30 = .ok (.invokevirtual 94, 3) := by decide +kernel
theorem dX8_nine_33 : decode cX8_nine 33 = .ok (.iadd, 1) := by decide +kernel
theorem dX8_nine_34 : decode cX8_nine 34 = .ok (.istore_n 3, 1) := by decide +kernel
theorem dX8_nine_35 : decode cX8_nine 35 = .ok (.iinc 4 1, 3) := by decide +kernel
theorem dX8_nine_38 : decode cX8_nine 38 = .ok (.goto (-33), 3) := by decide +kernel
theorem dX8_nine_41 : decode cX8_nine 41 = .ok (.iload_n 3, 1) := by decide +kernel
theorem dX8_nine_42 : decode cX8_nine 42 = .ok (.ifCond .ne 7, 3) := by decide +kernel
theorem dX8_nine_45 : decode cX8_nine 45 = .ok (.iconst 0, 1) := by decide +kernel
theorem dX8_nine_46 : decode cX8_nine 46 = .ok (.goto 14, 3) := by decide +kernel
theorem dX8_nine_49 : decode cX8_nine 49 = .ok (.iload_n 3, 1) := by decide +kernel
theorem dX8_nine_50 : decode cX8_nine 50 = .ok (.bipush 9, 2) := by decide +kernel
theorem dX8_nine_52 : decode cX8_nine 52 = .ok (.if_icmp .ne 7, 3) := by decide +kernel
theorem dX8_nine_55 : decode cX8_nine 55 = .ok (.iconst 1, 1) := by decide +kernel
theorem dX8_nine_56 : decode cX8_nine 56 = .ok (.goto 4, 3) := by decide +kernel
theorem dX8_nine_59 : decode cX8_nine 59 = .ok (.iconst (-1), 1) := by decide +kernel
theorem dX8_nine_60 : decode cX8_nine 60 = .ok (.ireturn, 1) := by decide +kernel
theorem dX8_last_0 : decode cX8_last 0 = .ok (.aload_n 0, 1) := by decide +kernel
theorem dX8_last_1 : decode cX8_last 1 = .ok (.getfield 100, 3) := by decide +kernel
theorem dX8_last_4 : decode cX8_last 4 = .ok (.ifCond .ne 7, 3) := by decide +kernel
theorem dX8_last_7 : decode cX8_last 7 = .ok (.iconst 0, 1) := by decide +kernel
theorem dX8_last_8 : decode cX8_last 8 = .ok (.goto 14, 3) := by decide +kernel
theorem dX8_last_11 : decode cX8_last 11 = .ok (.aload_n 0, 1) := by decide +kernel
theorem dX8_last_12 : decode cX8_last 12 = .ok (.getfield 45, 3) := by decide +kernel
theorem dX8_last_15 : decode cX8_last 15 = .ok (.aload_n 0, 1) := by decide +kernel
theorem dX8_last_16 : decode cX8_last 16 = .ok (.getfield 100, 3) := by decide +kernel
theorem dX8_last_19 : decode cX8_last 19 = .ok (.iconst 1, 1) := by decide +kernel
theorem dX8_last_20 : decode cX8_last 20 = .ok (.isub, 1) := by decide +kernel
theorem dX8_last_21 : decode cX8_last 21 = .ok (.iaload, 1) := by decide +kernel
theorem dX8_last_22 : decode cX8_last 22 = .ok (.ireturn, 1) := by decide +kernel
theorem dX8_out_0 : decode cX8_out 0 = .ok (.aload_n 0, 1) := by decide +kernel
theorem dX8_out_1 : decode cX8_out 1 = .ok (.getfield 45, 3) := by decide +kernel
theorem dX8_out_4 : decode cX8_out 4 = .ok (.aload_n 0, 1) := by decide +kernel
theorem dX8_out_5 : decode cX8_out 5 = .ok (.getfield 100, 3) := by decide +kernel
theorem dX8_out_8 : decode cX8_out 8 = .ok (.lload_n 1, 1) := by decide +kernel
theorem dX8_out_9 : decode cX8_out 9 = .ok (.l2i, 1) := by decide +kernel
theorem dX8_out_10 : decode cX8_out 10 = .ok (.iastore, 1) := by decide +kernel
theorem dX8_out_11 : decode cX8_out 11 = .ok (.aload_n 0, 1) := by decide +kernel
theorem dX8_out_12 : decode cX8_out 12 = .ok (.dup, 1) := by decide +kernel
theorem dX8_out_13 : decode cX8_out 13 = .ok (.getfield 100, 3) := by decide +kernel
theorem dX8_out_16 : decode cX8_out 16 = .ok (.iconst 1, 1) := by decide +kernel
theorem dX8_out_17 : decode cX8_out 17 = .ok (.iadd, 1) := by decide +kernel
theorem dX8_out_18 : decode cX8_out 18 = .ok (.putfield 100, 3) := by decide +kernel
theorem dX8_out_21 : decode cX8_out 21 = .ok (.return_, 1) := by decide +kernel
set_option maxRecDepth 20000 in
theorem ggX8_byteOut_X8_last : GoodIn wsX8_byteOut wsX8_last := goodIn_r _ [12, 4, 3, 17, 18, 19, 20, 21, 22, 23, 24, 25, 26, 27, 28, 29, 30, 31, 32, 33, 34, 35, 36, 37, 38, 39, 40, 41, 42, 43, 44, 45, 46, 47] (by decide +kernel) (by decide +kernel)
set_option maxRecDepth 20000 in
theorem gX8_byteOut_X8_last : GoodIn wsX8_byteOut (wsV RX8 103 RX8 yX8_last wsX8_last) := goodIn_app (goodIn_of _ (by decide +kernel)) ggX8_byteOut_X8_last
set_option maxRecDepth 20000 in
theorem ggX8_byteOut_X8_out : GoodIn wsX8_byteOut wsX8_out := goodIn_r _ [16, 3, 4, 17, 18, 19, 20, 21, 22, 23, 24, 25, 26, 27, 28, 29, 30, 31, 32, 33, 34, 35, 36, 37, 38, 39, 40, 41, 42, 43, 44, 45, 46, 47] (by decide +kernel) (by decide +kernel)
set_option maxRecDepth 20000 in
theorem gX8_byteOut_X8_out : GoodIn wsX8_byteOut (wsV RX8 113 RX8 yX8_out wsX8_out) := goodIn_app (goodIn_of _ (by decide +kernel)) ggX8_byteOut_X8_out
theorem dX8_byteOut_0 : decode cX8_byteOut 0 = .ok (.aload_n 0, 1) := by decide +kernel
theorem dX8_byteOut_1 : decode cX8_byteOut 1 = .ok (.invokevirtual 103, 3) := by decide +kernel
theorem dX8_byteOut_4 : decode cX8_byteOut 4 = .ok (.sipush 255, 3) := by decide +kernel
theorem dX8_byteOut_7 : decode cX8_byteOut 7 = .ok (.if_icmp .ne 7, 3) := by decide +kernel
theorem dX8_byteOut_10 : decode cX8_byteOut 10 = .ok (.iconst 1, 1) := by decide +kernel
theorem dX8_byteOut_11 : decode cX8_byteOut 11 = .ok (.goto 4, 3) := by decide +kernel
theorem dX8_byteOut_14 : decode cX8_byteOut 14 = .ok (.iconst 0, 1) := by decide +kernel
theorem dX8_byteOut_15 : decode cX8_byteOut 15 = .ok (.istore_n 1, 1) := by decide +kernel
theorem dX8_byteOut_16 : decode cX8_byteOut 16 = .ok (.iload_n 1, 1) := by decide +kernel
theorem dX8_byteOut_17 : decode cX8_byteOut 17 = .ok (.ifCond .ne 57, 3) := by decide +kernel
theorem dX8_byteOut_20 : decode cX8_byteOut 20 = .ok (.aload_n 0, 1) := by decide +kernel
theorem dX8_byteOut_21 : decode cX8_byteOut 21 = .ok (.getfield 107, 3) := by decide +kernel
theorem dX8_byteOut_24 : decode cX8_byteOut 24 = .ok (.ldc2_w 111, 3) := by decide +kernel
theorem dX8_byteOut_27 : decode cX8_byteOut 27 = .ok (.lcmp, 1) := by decide +kernel
theorem dX8_byteOut_28 : decode cX8_byteOut 28 = .ok (.ifCond .lt 46, 3) := by decide +kernel
theorem dX8_byteOut_31 : decode cX8_byteOut 31 = .ok (.aload_n 0, 1) := by decide +kernel
theorem dX8_byteOut_32 : decode cX8_byteOut 32 = .ok (.getfield 45, 3) := by decide +kernel
theorem dX8_byteOut_35 : decode cX8_byteOut 35 = .ok (.aload_n 0, 1) := by decide +kernel
theorem dX8_byteOut_36 : decode cX8_byteOut 36 = .ok (.getfield 100, 3) := by decide +kernel
theorem dX8_byteOut_39 : decode cX8_byteOut 39 = .ok (.iconst 1, 1) := by decide +kernel
theorem dX8_byteOut_40 : decode cX8_byteOut 40 = .ok (.isub, 1) := by decide +kernel
theorem dX8_byteOut_41 : decode cX8_byteOut 41 = .ok (.dup2, 1) := by decide +kernel
theorem dX8_byteOut_42 : decode cX8_byteOut 42 = .ok (.iaload, 1) := by decide +kernel
theorem dX8_byteOut_43 : decode cX8_byteOut 43 = .ok (.iconst 1, 1) := by decide +kernel
theorem dX8_byteOut_44 : decode cX8_byteOut 44 = .ok (.iadd, 1) := by decide +kernel
theorem dX8_byteOut_45 : decode cX8_byteOut 45 = .ok (.iastore, 1) := by decide +kernel
theorem dX8_byteOut_46 : decode cX8_byteOut 46 = .ok (.aload_n 0, 1) := by decide +kernel
theorem dX8_byteOut_47 : decode cX8_byteOut 47 = .ok (.aload_n 0, 1) := by decide +kernel
theorem dX8_byteOut_48 : decode cX8_byteOut 48 = .ok (.getfield 107, 3) := by decide +kernel
theorem dX8_byteOut_51 : decode cX8_byteOut 51 = .ok (.ldc2_w 111, 3) := by decide +kernel
theorem dX8_byteOut_54 : decode cX8_byteOut 54 = .ok (.lsub, 1) := by decide +kernel
theorem dX8_byteOut_55 : decode cX8_byteOut 55 = .ok (.putfield 107, 3) := by decide +kernel
theorem dX8_byteOut_58 : decode cX8_byteOut 58 = .ok (.aload_n 0, 1) := by decide +kernel
theorem dX8_byteOut_59 : decode cX8_byteOut 59 = .ok (.invokevirtual 103, 3) := by decide +kernel
theorem dX8_byteOut_62 : decode cX8_byteOut 62 = .ok (.sipush 255, 3) := by decide +kernel
theorem dX8_byteOut_65 : decode cX8_byteOut 65 = .ok (.if_icmp .ne 7, 3) := by decide +kernel
theorem dX8_byteOut_68 : decode cX8_byteOut 68 = .ok (.iconst 1, 1) := by decide +kernel
theorem dX8_byteOut_69 : decode cX8_byteOut 69 = .ok (.goto 4, 3) := by decide +kernel
theorem dX8_byteOut_72 : decode cX8_byteOut 72 = .ok (.iconst 0, 1) := by decide +kernel
theorem dX8_byteOut_73 : decode cX8_byteOut 73 = .ok (.istore_n 1, 1) := by decide +kernel
theorem dX8_byteOut_74 : decode cX8_byteOut 74 = .ok (.iload_n 1, 1) := by decide +kernel
theorem dX8_byteOut_75 : decode cX8_byteOut 75 = .ok (.ifCond .eq 35, 3) := by decide +kernel
theorem dX8_byteOut_78 : decode cX8_byteOut 78 = .ok (.aload_n 0, 1) := by decide +kernel
theorem dX8_byteOut_79 : decode cX8_byteOut 79 = .ok (.aload_n 0, 1) := by decide +kernel
theorem dX8_byteOut_80 : decode cX8_byteOut 80 = .ok (.getfield 107, 3) := by decide +kernel
theorem dX8_byteOut_83 : decode cX8_byteOut 83 = .ok (.bipush 20, 2) := by decide +kernel
theorem dX8_byteOut_85 : decode cX8_byteOut 85 = .ok (.lshr, 1) := by decide +kernel
theorem dX8_byteOut_86 : decode cX8_byteOut 86 = .ok (.invokevirtual 113, 3) := by decide +kernel
theorem dX8_byteOut_89 : decode cX8_byteOut 89 = .ok (.aload_n 0, 1) := by decide +kernel
theorem dX8_byteOut_90 : decode cX8_byteOut 90 = .ok (.aload_n 0, 1) := by decide +kernel
theorem dX8_byteOut_91 : decode cX8_byteOut 91 = .ok (.getfield 107, 3) := by decide +kernel
theorem dX8_byteOut_94 : decode cX8_byteOut 94 = .ok (.ldc2_w 117, 3) := by decide +kernel
theorem dX8_byteOut_97 : decode cX8_byteOut 97 = .ok (.land, 1) := by decide +kernel
theorem dX8_byteOut_98 : decode cX8_byteOut 98 = .ok (.putfield 107, 3) := by decide +kernel
theorem dX8_byteOut_101 : decode cX8_byteOut 101 = .ok (.aload_n 0, 1) := by decide +kernel
theorem dX8_byteOut_102 : decode cX8_byteOut 102 = .ok (.bipush 7, 2) := by decide +kernel
theorem dX8_byteOut_104 : decode cX8_byteOut 104 = .ok (.putfield 119, 3) := by decide +kernel
theorem dX8_byteOut_107 : decode cX8_byteOut 107 = .ok (.goto 32, 3) := by decide +kernel
theorem dX8_byteOut_110 : decode cX8_byteOut 110 = .ok (.aload_n 0, 1) := by decide +kernel
theorem dX8_byteOut_111 : decode cX8_byteOut 111 = .ok (.aload_n 0, 1) := by decide +kernel
theorem dX8_byteOut_112 : decode cX8_byteOut 112 = .ok (.getfield 107, 3) := by decide +kernel
theorem dX8_byteOut_115 : decode cX8_byteOut 115 = .ok (.bipush 19, 2) := by decide +kernel
theorem dX8_byteOut_117 : decode cX8_byteOut 117 = .ok (.lshr, 1) := by decide +kernel
theorem dX8_byteOut_118 : decode cX8_byteOut 118 = .ok (.invokevirtual 113, 3) := by decide +kernel
theorem dX8_byteOut_121 : decode cX8_byteOut 121 = .ok (.aload_n 0, 1) := by decide +kernel
theorem dX8_byteOut_122 : decode cX8_byteOut 122 = .ok (.aload_n 0, 1) := by decide +kernel
theorem dX8_byteOut_123 : decode cX8_byteOut 123 = .ok (.getfield 107, 3) := by decide +kernel
theorem dX8_byteOut_126 : decode cX8_byteOut 126 = .ok (.ldc2_w 122, 3) := by decide +kernel
theorem dX8_byteOut_129 : decode cX8_byteOut 129 = .ok (.land, 1) := by decide +kernel
theorem dX8_byteOut_130 : decode cX8_byteOut 130 = .ok (.putfield 107, 3) := by decide +kernel
theorem dX8_byteOut_133 : decode cX8_byteOut 133 = .ok (.aload_n 0, 1) := by decide +kernel
theorem dX8_byteOut_134 : decode cX8_byteOut 134 = .ok (.bipush 8, 2) := by decide +kernel
theorem dX8_byteOut_136 : decode cX8_byteOut 136 = .ok (.putfield 119, 3) := by decide +kernel
theorem dX8_byteOut_139 : decode cX8_byteOut 139 = .ok (.return_, 1) := by decide +kernel
set_option maxRecDepth 20000 in
theorem ggX8_renewWriting_X8_byteOut : GoodIn wsX8_renewWriting wsX8_byteOut := goodIn_r _ [10, 3, 11, 12, 13, 14, 4, 15, 16, 17, 18, 9, 19, 20, 21, 22, 23, 24, 25, 26, 27, 28, 29, 30, 31, 32, 33, 34, 35, 36, 37, 38, 39, 40, 41, 42, 43, 44, 45, 46, 47, 48, 49, 50, 51, 52, 53, 54] (by decide +kernel) (by decide +kernel)
