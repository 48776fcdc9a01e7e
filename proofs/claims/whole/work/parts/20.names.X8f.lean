theorem dX8_encode_138 : decode cX8_encode 138 = .ok (.iconst 0, 1) := by decide +kernel
theorem dX8_encode_139 : decode cX8_encode 139 = .ok (.istore_n 3, 1) := by decide +kernel
theorem dX8_encode_140 : decode cX8_encode 140 = .ok (.iload_n 3, 1) := by decide +kernel
theorem dX8_encode_141 : decode cX8_encode 141 = .ok (.aload_n 0, 1) := by decide +kernel
theorem dX8_encode_142 : decode cX8_encode 142 = .ok (.getfield 13, 3) := by decide +kernel
theorem dX8_encode_145 : decode cX8_encode 145 = .ok (.if_icmp .ge 51, 3) := by decide +kernel
theorem dX8_encode_148 : decode cX8_encode 148 = .ok (.iload_n 1, 1) := by decide +kernel
theorem dX8_encode_149 : decode cX8_encode 149 = .ok (.ifCond .eq 25, 3) := by decide +kernel
theorem dX8_encode_152 : decode cX8_encode 152 = .ok (.aload_n 0, 1) := by decide +kernel
theorem dX8_encode_153 : decode cX8_encode 153 = .ok (.iload_n 3, 1) := by decide +kernel
theorem dX8_encode_154 : decode cX8_encode 154 = .ok (.iload_n 2, 1) := by decide +kernel
theorem dX8_encode_155 : decode cX8_encode 155 = .ok (.invokevirtual 156, 3) := by decide +kernel
theorem dX8_encode_158 : decode cX8_encode 158 = .ok (.ifCond .lt 16, 3) := by decide +kernel
theorem dX8_encode_161 : decode cX8_encode 161 = .ok (.aload_n 0, 1) := by decide +kernel
theorem dX8_encode_162 : decode cX8_encode 162 = .ok (.dup, 1) := by decide +kernel
theorem dX8_encode_163 : decode cX8_encode 163 = .ok (.getfield 150, 3) := by decide +kernel
theorem dX8_encode_166 : decode cX8_encode 166 = .ok (.iconst 1, 1) := by decide +kernel
theorem dX8_encode_167 : decode cX8_encode 167 = .ok (.iadd, 1) := by decide +kernel
theorem dX8_encode_168 : decode cX8_encode 168 = .ok (.putfield 150, 3) := by decide +kernel
theorem dX8_encode_171 : decode cX8_encode 171 = .ok (.goto 19, 3) := by decide +kernel
theorem dX8_encode_174 : decode cX8_encode 174 = .ok (.aload_n 0, 1) := by decide +kernel
theorem dX8_encode_175 : decode cX8_encode 175 = .ok (.aload_n 0, 1) := by decide +kernel
theorem dX8_encode_176 : decode cX8_encode 176 = .ok (.iload_n 3, 1) := by decide +kernel
theorem dX8_encode_177 : decode cX8_encode 177 = .ok (.iload_n 2, 1) := by decide +kernel
theorem dX8_encode_178 : decode cX8_encode 178 = .ok (.invokevirtual 97, 3) := by decide +kernel
theorem dX8_encode_181 : decode cX8_encode 181 = .ok (.aload_n 0, 1) := by decide +kernel
theorem dX8_encode_182 : decode cX8_encode 182 = .ok (.iload_n 3, 1) := by decide +kernel
theorem dX8_encode_183 : decode cX8_encode 183 = .ok (.iload_n 2, 1) := by decide +kernel
theorem dX8_encode_184 : decode cX8_encode 184 = .ok (.invokevirtual 90, 3) := by decide +kernel
theorem dX8_encode_187 : decode cX8_encode 187 = .ok (.invokevirtual 170, 3) := by decide +kernel
theorem dX8_encode_190 : decode cX8_encode 190 = .ok (.iinc 3 1, 3) := by decide +kernel
theorem dX8_encode_193 : decode cX8_encode 193 = .ok (.goto (-53), 3) := by decide +kernel
theorem dX8_encode_196 : decode cX8_encode 196 = .ok (.iinc 2 1, 3) := by decide +kernel
theorem dX8_encode_199 : decode cX8_encode 199 = .ok (.goto (-133), 3) := by decide +kernel
theorem dX8_encode_202 : decode cX8_encode 202 = .ok (.aload_n 0, 1) := by decide +kernel
theorem dX8_encode_203 : decode cX8_encode 203 = .ok (.invokevirtual 173, 3) := by decide +kernel
theorem dX8_encode_206 : decode cX8_encode 206 = .ok (.aload_n 0, 1) := by decide +kernel
theorem dX8_encode_207 : decode cX8_encode 207 = .ok (.getfield 100, 3) := by decide +kernel
theorem dX8_encode_210 : decode cX8_encode 210 = .ok (.ireturn, 1) := by decide +kernel
set_option maxRecDepth 20000 in
theorem ggX8_feed_X8_out : GoodIn wsX8_feed wsX8_out := goodIn_r _ [8, 9, 2, 10, 11, 12, 13, 14, 15, 16, 17, 18, 19, 20, 21, 22, 23, 24, 25, 26, 27, 28, 29, 30, 31, 32, 33, 34, 35, 36, 37, 38, 39, 40] (by decide +kernel) (by decide +kernel)
set_option maxRecDepth 20000 in
theorem gX8_feed_X8_out : GoodIn wsX8_feed (wsV RX8 113 RX8 yX8_out wsX8_out) := goodIn_app (goodIn_of _ (by decide +kernel)) ggX8_feed_X8_out
theorem dX8_feed_0 : decode cX8_feed 0 = .ok (.aload_n 0, 1) := by decide +kernel
theorem dX8_feed_1 : decode cX8_feed 1 = .ok (.iload_n 1, 1) := by decide +kernel
theorem dX8_feed_2 : decode cX8_feed 2 = .ok (.iconst 1, 1) := by decide +kernel
theorem dX8_feed_3 : decode cX8_feed 3 = .ok (.if_icmp .lt 9, 3) := by decide +kernel
theorem dX8_feed_6 : decode cX8_feed 6 = .ok (.iload_n 1, 1) := by decide +kernel
theorem dX8_feed_7 : decode cX8_feed 7 = .ok (.bipush 8, 2) := by decide +kernel
theorem dX8_feed_9 : decode cX8_feed 9 = .ok (.if_icmp .le 7, 3) := by decide +kernel
theorem dX8_feed_12 : decode cX8_feed 12 = .ok (.iconst 1, 1) := by decide +kernel
theorem dX8_feed_13 : decode cX8_feed 13 = .ok (.goto 4, 3) := by decide +kernel
theorem dX8_feed_16 : decode cX8_feed 16 = .ok (.iconst 0, 1) := by decide +kernel
theorem dX8_feed_17 : decode cX8_feed 17 = .ok (.putfield 48, 3) := by decide +kernel
theorem dX8_feed_20 : decode cX8_feed 20 = .ok (.aload_n 0, 1) := by decide +kernel
theorem dX8_feed_21 : decode cX8_feed 21 = .ok (.getfield 48, 3) := by decide +kernel
theorem dX8_feed_24 : decode cX8_feed 24 = .ok (.ifCond .le 5, 3) := by decide +kernel
theorem dX8_feed_27 : decode cX8_feed 27 = .ok (.iconst 0, 1) := by decide +kernel
theorem dX8_feed_28 : decode cX8_feed 28 = .ok (.ireturn, 1) := by decide +kernel
theorem dX8_feed_29 : decode cX8_feed 29 = .ok (.aload_n 0, 1) := by decide +kernel
theorem dX8_feed_30 : decode cX8_feed 30 = .ok (.getfield 100, 3) := by decide +kernel
theorem dX8_feed_33 : decode cX8_feed 33 = .ok (.iload_n 1, 1) := by decide +kernel
theorem dX8_feed_34 : decode cX8_feed 34 = .ok (.iadd, 1) := by decide +kernel
theorem dX8_feed_35 : decode cX8_feed 35 = .ok (.sipush 4096, 3) := by decide +kernel
theorem dX8_feed_38 : decode cX8_feed 38 = .ok (.if_icmp .le 5, 3) := by decide +kernel
theorem dX8_feed_41 : decode cX8_feed 41 = .ok (.iconst (-1), 1) := by decide +kernel
theorem dX8_feed_42 : decode cX8_feed 42 = .ok (.ireturn, 1) := by decide +kernel
theorem dX8_feed_43 : decode cX8_feed 43 = .ok (.iconst 0, 1) := by decide +kernel
theorem dX8_feed_44 : decode cX8_feed 44 = .ok (.istore 4, 2) := by decide +kernel
theorem dX8_feed_46 : decode cX8_feed 46 = .ok (.iload 4, 2) := by decide +kernel
theorem dX8_feed_48 : decode cX8_feed 48 = .ok (.iload_n 1, 1) := by decide +kernel
theorem dX8_feed_49 : decode cX8_feed 49 = .ok (.if_icmp .ge 24, 3) := by decide +kernel
theorem dX8_feed_52 : decode cX8_feed 52 = .ok (.aload_n 0, 1) := by decide +kernel
theorem dX8_feed_53 : decode cX8_feed 53 = .ok (.lload_n 2, 1) := by decide +kernel
theorem dX8_feed_54 : decode cX8_feed 54 = .ok (.bipush 8, 2) := by decide +kernel
theorem dX8_feed_56 : decode cX8_feed 56 = .ok (.iload 4, 2) := by decide +kernel
theorem dX8_feed_58 : decode cX8_feed 58 = .ok (.imul, 1) := by decide +kernel
theorem dX8_feed_59 : decode cX8_feed 59 = .ok (.lshr, 1) := by decide +kernel
theorem dX8_feed_60 : decode cX8_feed 60 = .ok (.ldc2_w 146, 3) := by decide +kernel
theorem dX8_feed_63 : decode cX8_feed 63 = .ok (.land, 1) := by decide +kernel
theorem dX8_feed_64 : decode cX8_feed 64 = .ok (.invokevirtual 113, 3) := by decide +kernel
theorem dX8_feed_67 : decode cX8_feed 67 = .ok (.iinc 4 1, 3) := by decide +kernel
theorem dX8_feed_70 : decode cX8_feed 70 = .ok (.goto (-24), 3) := by decide +kernel
theorem dX8_feed_73 : decode cX8_feed 73 = .ok (.aload_n 0, 1) := by decide +kernel
theorem dX8_feed_74 : decode cX8_feed 74 = .ok (.getfield 100, 3) := by decide +kernel
theorem dX8_feed_77 : decode cX8_feed 77 = .ok (.ireturn, 1) := by decide +kernel
theorem dX8_wipe_0 : decode cX8_wipe 0 = .ok (.aload_n 0, 1) := by decide +kernel
theorem dX8_wipe_1 : decode cX8_wipe 1 = .ok (.iconst 0, 1) := by decide +kernel
theorem dX8_wipe_2 : decode cX8_wipe 2 = .ok (.putfield 48, 3) := by decide +kernel
theorem dX8_wipe_5 : decode cX8_wipe 5 = .ok (.aload_n 0, 1) := by decide +kernel
theorem dX8_wipe_6 : decode cX8_wipe 6 = .ok (.getfield 100, 3) := by decide +kernel
theorem dX8_wipe_9 : decode cX8_wipe 9 = .ok (.istore_n 1, 1) := by decide +kernel
theorem dX8_wipe_10 : decode cX8_wipe 10 = .ok (.aload_n 0, 1) := by decide +kernel
theorem dX8_wipe_11 : decode cX8_wipe 11 = .ok (.iconst 0, 1) := by decide +kernel
theorem dX8_wipe_12 : decode cX8_wipe 12 = .ok (.putfield 100, 3) := by decide +kernel
theorem dX8_wipe_15 : decode cX8_wipe 15 = .ok (.iload_n 1, 1) := by decide +kernel
theorem dX8_wipe_16 : decode cX8_wipe 16 = .ok (.ireturn, 1) := by decide +kernel
theorem dX8_byteAt_0 : decode cX8_byteAt 0 = .ok (.aload_n 0, 1) := by decide +kernel
theorem dX8_byteAt_1 : decode cX8_byteAt 1 = .ok (.iconst 0, 1) := by decide +kernel
theorem dX8_byteAt_2 : decode cX8_byteAt 2 = .ok (.putfield 48, 3) := by decide +kernel
theorem dX8_byteAt_5 : decode cX8_byteAt 5 = .ok (.iload_n 1, 1) := by decide +kernel
theorem dX8_byteAt_6 : decode cX8_byteAt 6 = .ok (.ifCond .lt 11, 3) := by decide +kernel
theorem dX8_byteAt_9 : decode cX8_byteAt 9 = .ok (.iload_n 1, 1) := by decide +kernel
theorem dX8_byteAt_10 : decode cX8_byteAt 10 = .ok (.aload_n 0, 1) := by decide +kernel
theorem dX8_byteAt_11 : decode cX8_byteAt 11 = .ok (.getfield 100, 3) := by decide +kernel
theorem dX8_byteAt_14 : decode cX8_byteAt 14 = .ok (.if_icmp .lt 7, 3) := by decide +kernel
theorem dX8_byteAt_17 : decode cX8_byteAt 17 = .ok (.iconst (-1), 1) := by decide +kernel
theorem dX8_byteAt_18 : decode cX8_byteAt 18 = .ok (.goto 9, 3) := by decide +kernel
theorem dX8_byteAt_21 : decode cX8_byteAt 21 = .ok (.aload_n 0, 1) := by decide +kernel
theorem dX8_byteAt_22 : decode cX8_byteAt 22 = .ok (.getfield 45, 3) := by decide +kernel
theorem dX8_byteAt_25 : decode cX8_byteAt 25 = .ok (.iload_n 1, 1) := by decide +kernel
theorem dX8_byteAt_26 : decode cX8_byteAt 26 = .ok (.iaload, 1) := by decide +kernel
theorem dX8_byteAt_27 : decode cX8_byteAt 27 = .ok (.ireturn, 1) := by decide +kernel
theorem dX8_in_0 : decode cX8_in 0 = .ok (.iload_n 1, 1) := by decide +kernel
theorem dX8_in_1 : decode cX8_in 1 = .ok (.aload_n 0, 1) := by decide +kernel
theorem dX8_in_2 : decode cX8_in 2 = .ok (.getfield 100, 3) := by decide +kernel
theorem dX8_in_5 : decode cX8_in 5 = .ok (.if_icmp .ge 12, 3) := by decide +kernel
theorem dX8_in_8 : decode cX8_in 8 = .ok (.aload_n 0, 1) := by decide +kernel
theorem dX8_in_9 : decode cX8_in 9 = .ok (.getfield 45, 3) := by decide +kernel
theorem dX8_in_12 : decode cX8_in 12 = .ok (.iload_n 1, 1) := by decide +kernel
theorem dX8_in_13 : decode cX8_in 13 = .ok (.iaload, 1) := by decide +kernel
theorem dX8_in_14 : decode cX8_in 14 = .ok (.goto 6, 3) := by decide +kernel
theorem dX8_in_17 : decode cX8_in 17 = .ok (.sipush 255, 3) := by decide +kernel
theorem dX8_in_20 : decode cX8_in 20 = .ok (.ireturn, 1) := by decide +kernel
set_option maxRecDepth 20000 in
theorem ggX8_byteIn_X8_in : GoodIn wsX8_byteIn wsX8_in := goodIn_r _ [10, 11, 12, 13, 14, 15, 16, 17, 18, 19, 20, 21, 22, 23, 24, 25, 26, 27, 28, 29, 30, 31, 32, 33, 34, 35, 36, 37, 38, 39, 40, 41, 42, 43] (by decide +kernel) (by decide +kernel)
set_option maxRecDepth 20000 in
theorem gX8_byteIn_X8_in : GoodIn wsX8_byteIn (wsV RX8 179 RX8 yX8_in wsX8_in) := goodIn_app (goodIn_of _ (by decide +kernel)) ggX8_byteIn_X8_in
theorem dX8_byteIn_0 : decode cX8_byteIn 0 = .ok (.aload_n 0, 1) := by decide +kernel
theorem dX8_byteIn_1 : decode cX8_byteIn 1 = .ok (.aload_n 0, 1) := by decide +kernel
theorem dX8_byteIn_2 : decode cX8_byteIn 2 = .ok (.getfield 176, 3) := by decide +kernel
theorem dX8_byteIn_5 : decode cX8_byteIn 5 = .ok (.invokevirtual 179, 3) := by decide +kernel
theorem dX8_byteIn_8 : decode cX8_byteIn 8 = .ok (.sipush 255, 3) := by decide +kernel
theorem dX8_byteIn_11 : decode cX8_byteIn 11 = .ok (.if_icmp .ne 40, 3) := by decide +kernel
theorem dX8_byteIn_14 : decode cX8_byteIn 14 = .ok (.aload_n 0, 1) := by decide +kernel
theorem dX8_byteIn_15 : decode cX8_byteIn 15 = .ok (.aload_n 0, 1) := by decide +kernel
theorem dX8_byteIn_16 : decode cX8_byteIn 16 = .ok (.getfield 176, 3) := by decide +kernel
theorem dX8_byteIn_19 : decode cX8_byteIn 19 = .ok (.iconst 1, 1) := by decide +kernel
theorem dX8_byteIn_20 : decode cX8_byteIn 20 = .ok (.iadd, 1) := by decide +kernel
theorem dX8_byteIn_21 : decode cX8_byteIn 21 = .ok (.invokevirtual 179, 3) := by decide +kernel
theorem dX8_byteIn_24 : decode cX8_byteIn 24 = .ok (.sipush 143, 3) := by decide +kernel
theorem dX8_byteIn_27 : decode cX8_byteIn 27 = .ok (.if_icmp .le 24, 3) := by decide +kernel
theorem dX8_byteIn_30 : decode cX8_byteIn 30 = .ok (.aload_n 0, 1) := by decide +kernel
theorem dX8_byteIn_31 : decode cX8_byteIn 31 = .ok (.aload_n 0, 1) := by decide +kernel
theorem dX8_byteIn_32 : decode cX8_byteIn 32 = .ok (.getfield 107, 3) := by decide +kernel
theorem dX8_byteIn_35 : decode cX8_byteIn 35 = .ok (.ldc2_w 183, 3) := by decide +kernel
theorem dX8_byteIn_38 : decode cX8_byteIn 38 = .ok (.ladd, 1) := by decide +kernel
theorem dX8_byteIn_39 : decode cX8_byteIn 39 = .ok (.putfield 107, 3) := by decide +kernel
theorem dX8_byteIn_42 : decode cX8_byteIn 42 = .ok (.aload_n 0, 1) := by decide +kernel
theorem dX8_byteIn_43 : decode cX8_byteIn 43 = .ok (.bipush 8, 2) := by decide +kernel
theorem dX8_byteIn_45 : decode cX8_byteIn 45 = .ok (.putfield 119, 3) := by decide +kernel
theorem dX8_byteIn_48 : decode cX8_byteIn 48 = .ok (.goto 94, 3) := by decide +kernel
theorem dX8_byteIn_51 : decode cX8_byteIn 51 = .ok (.aload_n 0, 1) := by decide +kernel
theorem dX8_byteIn_52 : decode cX8_byteIn 52 = .ok (.aload_n 0, 1) := by decide +kernel
theorem dX8_byteIn_53 : decode cX8_byteIn 53 = .ok (.getfield 176, 3) := by decide +kernel
theorem dX8_byteIn_56 : decode cX8_byteIn 56 = .ok (.invokevirtual 179, 3) := by decide +kernel
theorem dX8_byteIn_59 : decode cX8_byteIn 59 = .ok (.sipush 255, 3) := by decide +kernel
theorem dX8_byteIn_62 : decode cX8_byteIn 62 = .ok (.if_icmp .ne 43, 3) := by decide +kernel
theorem dX8_byteIn_65 : decode cX8_byteIn 65 = .ok (.aload_n 0, 1) := by decide +kernel
theorem dX8_byteIn_66 : decode cX8_byteIn 66 = .ok (.dup, 1) := by decide +kernel
theorem dX8_byteIn_67 : decode cX8_byteIn 67 = .ok (.getfield 176, 3) := by decide +kernel
theorem dX8_byteIn_70 : decode cX8_byteIn 70 = .ok (.iconst 1, 1) := by decide +kernel
theorem dX8_byteIn_71 : decode cX8_byteIn 71 = .ok (.iadd, 1) := by decide +kernel
theorem dX8_byteIn_72 : decode cX8_byteIn 72 = .ok (.putfield 176, 3) := by decide +kernel
theorem dX8_byteIn_75 : decode cX8_byteIn 75 = .ok (.aload_n 0, 1) := by decide +kernel
theorem dX8_byteIn_76 : decode cX8_byteIn 76 = .ok (.aload_n 0, 1) := by decide +kernel
theorem dX8_byteIn_77 : decode cX8_byteIn 77 = .ok (.getfield 107, 3) := by decide +kernel
theorem dX8_byteIn_80 : decode cX8_byteIn 80 = .ok (.aload_n 0, 1) := by decide +kernel
theorem dX8_byteIn_81 : decode cX8_byteIn 81 = .ok (.aload_n 0, 1) := by decide +kernel
theorem dX8_byteIn_82 : decode cX8_byteIn 82 = .ok (.getfield 176, 3) := by decide +kernel
theorem dX8_byteIn_85 : decode cX8_byteIn 85 = .ok (.invokevirtual 179, 3) := by decide +kernel
theorem dX8_byteIn_88 : decode cX8_byteIn 88 = .ok (.i2l, 1) := by decide +kernel
theorem dX8_byteIn_89 : decode cX8_byteIn 89 = .ok (.bipush 9, 2) := by decide +kernel
theorem dX8_byteIn_91 : decode cX8_byteIn 91 = .ok (.lshl, 1) := by decide +kernel
theorem dX8_byteIn_92 : decode cX8_byteIn 92 = .ok (.ladd, 1) := by decide +kernel
theorem dX8_byteIn_93 : decode cX8_byteIn 93 = .ok (.putfield 107, 3) := by decide +kernel
theorem dX8_byteIn_96 : decode cX8_byteIn 96 = .ok (.aload_n 0, 1) := by decide +kernel
theorem dX8_byteIn_97 : decode cX8_byteIn 97 = .ok (.bipush 7, 2) := by decide +kernel
theorem dX8_byteIn_99 : decode cX8_byteIn 99 = .ok (.putfield 119, 3) := by decide +kernel
theorem dX8_byteIn_102 : decode cX8_byteIn 102 = .ok (.goto 40, 3) := by decide +kernel
theorem dX8_byteIn_105 : decode cX8_byteIn 105 = .ok (.aload_n 0, 1) := by decide +kernel
theorem dX8_byteIn_106 : decode cX8_byteIn 106 = .ok (.dup, 1) := by decide +kernel
theorem dX8_byteIn_107 : decode cX8_byteIn 107 = .ok (.getfield 176, 3) := by decide +kernel
theorem dX8_byteIn_110 : decode cX8_byteIn 110 = .ok (.iconst 1, 1) := by decide +kernel
theorem dX8_byteIn_111 : decode cX8_byteIn 111 = .ok (.iadd, 1) := by decide +kernel
theorem dX8_byteIn_112 : decode cX8_byteIn 112 = .ok (.putfield 176, 3) := by decide +kernel
theorem dX8_byteIn_115 : decode cX8_byteIn 115 = .ok (.aload_n 0, 1) := by decide +kernel
theorem dX8_byteIn_116 : decode cX8_byteIn 116 = .ok (.aload_n 0, 1) := by decide +kernel
theorem dX8_byteIn_117 : decode cX8_byteIn 117 = .ok (.getfield 107, 3) := by decide +kernel
theorem dX8_byteIn_120 : decode cX8_byteIn 120 = .ok (.aload_n 0, 1) := by decide +kernel
theorem dX8_byteIn_121 : decode cX8_byteIn 121 = .ok (.aload_n 0, 1) := by decide +kernel
theorem dX8_byteIn_122 : decode cX8_byteIn 122 = .ok (.getfield 176, 3) := by decide +kernel
theorem dX8_byteIn_125 : decode cX8_byteIn 125 = .ok (.invokevirtual 179, 3) := by decide +kernel
theorem dX8_byteIn_128 : decode cX8_byteIn 128 = .ok (.i2l, 1) := by decide +kernel
theorem dX8_byteIn_129 : decode cX8_byteIn 129 = .ok (.bipush 8, 2) := by decide +kernel
theorem dX8_byteIn_131 : decode cX8_byteIn 131 = .ok (.lshl, 1) := by decide +kernel
theorem dX8_byteIn_132 : decode cX8_byteIn 132 = .ok (.ladd, 1) := by decide +kernel
theorem dX8_byteIn_133 : decode cX8_byteIn 133 = .ok (.putfield 107, 3) := by decide +kernel
theorem dX8_byteIn_136 : decode cX8_byteIn 136 = .ok (.aload_n 0, 1) := by decide +kernel
theorem dX8_byteIn_137 : decode cX8_byteIn 137 = .ok (.bipush 8, 2) := by decide +kernel
theorem dX8_byteIn_139 : decode cX8_byteIn 139 = .ok (.putfield 119, 3) := by decide +kernel
theorem dX8_byteIn_142 : decode cX8_byteIn 142 = .ok (.aload_n 0, 1) := by decide +kernel
theorem dX8_byteIn_143 : decode cX8_byteIn 143 = .ok (.aload_n 0, 1) := by decide +kernel
theorem dX8_byteIn_144 : decode cX8_byteIn 144 = .ok (.getfield 107, 3) := by decide +kernel
theorem dX8_byteIn_147 : decode cX8_byteIn 147 = .ok (.ldc2_w 185, 3) := by decide +kernel
theorem dX8_byteIn_150 : decode cX8_byteIn 150 = .ok (.land, 1) := by decide +kernel
theorem dX8_byteIn_151 : decode cX8_byteIn 151 = .ok (.putfield 107, 3) := by decide +kernel
theorem dX8_byteIn_154 : decode cX8_byteIn 154 = .ok (.return_, 1) := by decide +kernel
set_option maxRecDepth 20000 in
theorem ggX8_renewReading_X8_byteIn : GoodIn wsX8_renewReading wsX8_byteIn := goodIn_r _ [11, 12, 4, 13, 1, 5, 14, 15, 16, 10, 17, 18, 19, 20, 21, 22, 23, 24, 25, 26, 27, 28, 29, 30, 31, 32, 33, 34, 35, 36, 37, 38, 39, 40, 41, 42, 43, 44, 45, 46, 47, 48, 49, 50] (by decide +kernel) (by decide +kernel)
set_option maxRecDepth 20000 in
theorem gX8_renewReading_X8_byteIn : GoodIn wsX8_renewReading (wsV RX8 187 RX8 yX8_byteIn wsX8_byteIn) := goodIn_app (goodIn_of _ (by decide +kernel)) ggX8_renewReading_X8_byteIn
theorem dX8_renewReading_0 : decode cX8_renewReading 0 = .ok (.iconst 1, 1) := by decide +kernel
theorem dX8_renewReading_1 : decode cX8_renewReading 1 = .ok (.istore_n 1, 1) := by decide +kernel
theorem dX8_renewReading_2 : decode cX8_renewReading 2 = .ok (.iload_n 1, 1) := by decide +kernel
theorem dX8_renewReading_3 : decode cX8_renewReading 3 = .ok (.ifCond .eq 72, 3) := by decide +kernel
theorem dX8_renewReading_6 : decode cX8_renewReading 6 = .ok (.aload_n 0, 1) := by decide +kernel
theorem dX8_renewReading_7 : decode cX8_renewReading 7 = .ok (.getfield 119, 3) := by decide +kernel
theorem dX8_renewReading_10 : decode cX8_renewReading 10 = .ok (.ifCond .ne 7, 3) := by decide +kernel
theorem dX8_renewReading_13 : decode cX8_renewReading 13 = .ok (.aload_n 0, 1) := by decide +kernel
theorem dX8_renewReading_14 : decode cX8_renewReading 14 = .ok (.invokevirtual 187, 3) := by decide +kernel
theorem dX8_renewReading_17 : decode cX8_renewReading 17 = .ok (.aload_n 0, 1) := by decide +kernel
theorem dX8_renewReading_18 : decode cX8_renewReading 18 = .ok (.ldc2_w 124, 3) := by decide +kernel
theorem dX8_renewReading_21 : decode cX8_renewReading 21 = .ok (.aload_n 0, 1) := by decide +kernel
theorem dX8_renewReading_22 : decode cX8_renewReading 22 = .ok (.getfield 126, 3) := by decide +kernel
theorem dX8_renewReading_25 : decode cX8_renewReading 25 = .ok (.lmul, 1) := by decide +kernel
theorem dX8_renewReading_26 : decode cX8_renewReading 26 = .ok (.putfield 126, 3) := by decide +kernel
theorem dX8_renewReading_29 : decode cX8_renewReading 29 = .ok (.aload_n 0, 1) := by decide +kernel
theorem dX8_renewReading_30 : decode cX8_renewReading 30 = .ok (.ldc2_w 124, 3) := by decide +kernel
theorem dX8_renewReading_33 : decode cX8_renewReading 33 = .ok (.aload_n 0, 1) := by decide +kernel
theorem dX8_renewReading_34 : decode cX8_renewReading 34 = .ok (.getfield 107, 3) := by decide +kernel
theorem dX8_renewReading_37 : decode cX8_renewReading 37 = .ok (.lmul, 1) := by decide +kernel
theorem dX8_renewReading_38 : decode cX8_renewReading 38 = .ok (.ldc2_w 185, 3) := by decide +kernel
theorem dX8_renewReading_41 : decode cX8_renewReading 41 = .ok (.land, 1) := by decide +kernel
theorem dX8_renewReading_42 : decode cX8_renewReading 42 = .ok (.putfield 107, 3) := by decide +kernel
theorem dX8_renewReading_45 : decode cX8_renewReading 45 = .ok (.aload_n 0, 1) := by decide +kernel
theorem dX8_renewReading_46 : decode cX8_renewReading 46 = .ok (.dup, 1) := by decide +kernel
theorem dX8_renewReading_47 : decode cX8_renewReading 47 = .ok (.getfield 119, 3) := by decide +kernel
theorem dX8_renewReading_50 : decode cX8_renewReading 50 = .ok (.iconst 1, 1) := by decide +kernel
theorem dX8_renewReading_51 : decode cX8_renewReading 51 = .ok (.isub, 1) := by decide +kernel
theorem dX8_renewReading_52 : decode cX8_renewReading 52 = .ok (.putfield 119, 3) := by decide +kernel
theorem dX8_renewReading_55 : decode cX8_renewReading 55 = .ok (.aload_n 0, 1) := by decide +kernel
theorem dX8_renewReading_56 : decode cX8_renewReading 56 = .ok (.getfield 126, 3) := by decide +kernel
theorem dX8_renewReading_59 : decode cX8_renewReading 59 = .ok (.ldc2_w 132, 3) := by decide +kernel
theorem dX8_renewReading_62 : decode cX8_renewReading 62 = .ok (.lcmp, 1) := by decide +kernel
theorem dX8_renewReading_63 : decode cX8_renewReading 63 = .ok (.ifCond .ge 7, 3) := by decide +kernel
theorem dX8_renewReading_66 : decode cX8_renewReading 66 = .ok (.iconst 1, 1) := by decide +kernel
theorem dX8_renewReading_67 : decode cX8_renewReading 67 = .ok (.goto 4, 3) := by decide +kernel
theorem dX8_renewReading_70 : decode cX8_renewReading 70 = .ok (.iconst 0, 1) := by decide +kernel
theorem dX8_renewReading_71 : decode cX8_renewReading 71 = .ok (.istore_n 1, 1) := by decide +kernel
theorem dX8_renewReading_72 : decode cX8_renewReading 72 = .ok (.goto (-70), 3) := by decide +kernel
theorem dX8_renewReading_75 : decode cX8_renewReading 75 = .ok (.return_, 1) := by decide +kernel
set_option maxRecDepth 20000 in
theorem ggX8_readBit_X8_step : GoodIn wsX8_readBit wsX8_step := goodIn_r _ [11, 3, 2, 31, 32, 33, 34, 35, 36, 37, 38, 39, 40, 41, 42, 43, 44, 45, 46, 47, 48, 49, 50, 51, 52, 53, 54, 55, 56, 57, 58, 59, 60, 61] (by decide +kernel) (by decide +kernel)
set_option maxRecDepth 20000 in
theorem gX8_readBit_X8_step : GoodIn wsX8_readBit (wsV RX8 137 RX8 yX8_step wsX8_step) := goodIn_app (goodIn_of _ (by decide +kernel)) ggX8_readBit_X8_step
set_option maxRecDepth 20000 in
theorem ggX8_readBit_X8_renewReading : GoodIn wsX8_readBit wsX8_renewReading := goodIn_r _ [15, 16, 17, 4, 5, 18, 6, 19, 20, 21, 10, 22, 23, 24, 25, 26, 27, 28, 29, 30, 31, 32, 33, 34, 35, 36, 37, 38, 39, 40, 41, 42, 43, 44, 45, 46, 47, 48, 49, 50, 51, 52, 53, 54, 55, 56, 57, 58, 59, 60, 61] (by decide +kernel) (by decide +kernel)
set_option maxRecDepth 20000 in
theorem gX8_readBit_X8_renewReading : GoodIn wsX8_readBit (wsV RX8 190 RX8 yX8_renewReading wsX8_renewReading) := goodIn_app (goodIn_of _ (by decide +kernel)) ggX8_readBit_X8_renewReading
theorem dX8_readBit_0 : decode cX8_readBit 0 = .ok (.aload_n 0, 1) := by decide +kernel
theorem dX8_readBit_1 : decode cX8_readBit 1 = .ok (.dup, 1) := by decide +kernel
theorem dX8_readBit_2 : decode cX8_readBit 2 = .ok (.getfield 134, 3) := by decide +kernel
theorem dX8_readBit_5 : decode cX8_readBit 5 = .ok (.iconst 1, 1) := by decide +kernel
theorem dX8_readBit_6 : decode cX8_readBit 6 = .ok (.iadd, 1) := by decide +kernel
theorem dX8_readBit_7 : decode cX8_readBit 7 = .ok (.putfield 134, 3) := by decide +kernel
theorem dX8_readBit_10 : decode cX8_readBit 10 = .ok (.aload_n 0, 1) := by decide +kernel
theorem dX8_readBit_11 : decode cX8_readBit 11 = .ok (.getfield 7, 3) := by decide +kernel
theorem dX8_readBit_14 : decode cX8_readBit 14 = .ok (.iconst 4, 1) := by decide +kernel
theorem dX8_readBit_15 : decode cX8_readBit 15 = .ok (.aload_n 0, 1) := by decide +kernel
theorem dX8_readBit_16 : decode cX8_readBit 16 = .ok (.getfield 42, 3) := by decide +kernel
theorem dX8_readBit_19 : decode cX8_readBit 19 = .ok (.iload_n 1, 1) := by decide +kernel
theorem dX8_readBit_20 : decode cX8_readBit 20 = .ok (.iaload, 1) := by decide +kernel
theorem dX8_readBit_21 : decode cX8_readBit 21 = .ok (.iconst 1, 1) := by decide +kernel
theorem dX8_readBit_22 : decode cX8_readBit 22 = .ok (.ishr, 1) := by decide +kernel
theorem dX8_readBit_23 : decode cX8_readBit 23 = .ok (.imul, 1) := by decide +kernel
theorem dX8_readBit_24 : decode cX8_readBit 24 = .ok (.iaload, 1) := by decide +kernel
theorem dX8_readBit_25 : decode cX8_readBit 25 = .ok (.istore_n 2, 1) := by decide +kernel
theorem dX8_readBit_26 : decode cX8_readBit 26 = .ok (.aload_n 0, 1) := by decide +kernel
theorem dX8_readBit_27 : decode cX8_readBit 27 = .ok (.getfield 42, 3) := by decide +kernel
theorem dX8_readBit_30 : decode cX8_readBit 30 = .ok (.iload_n 1, 1) := by decide +kernel
theorem dX8_readBit_31 : decode cX8_readBit 31 = .ok (.iaload, 1) := by decide +kernel
theorem dX8_readBit_32 : decode cX8_readBit 32 = .ok (.iconst 1, 1) := by decide +kernel
theorem dX8_readBit_33 : decode cX8_readBit 33 = .ok (.iand, 1) := by decide +kernel
theorem dX8_readBit_34 : decode cX8_readBit 34 = .ok (.istore_n 3, 1) := by decide +kernel
theorem dX8_readBit_35 : decode cX8_readBit 35 = .ok (.aload_n 0, 1) := by decide +kernel
theorem dX8_readBit_36 : decode cX8_readBit 36 = .ok (.aload_n 0, 1) := by decide +kernel
theorem dX8_readBit_37 : decode cX8_readBit 37 = .ok (.getfield 126, 3) := by decide +kernel
theorem dX8_readBit_40 : decode cX8_readBit 40 = .ok (.iload_n 2, 1) := by decide +kernel
theorem dX8_readBit_41 : decode cX8_readBit 41 = .ok (.i2l, 1) := by decide +kernel
theorem dX8_readBit_42 : decode cX8_readBit 42 = .ok (.lsub, 1) := by decide +kernel
theorem dX8_readBit_43 : decode cX8_readBit 43 = .ok (.putfield 126, 3) := by decide +kernel
theorem dX8_readBit_46 : decode cX8_readBit 46 = .ok (.aload_n 0, 1) := by decide +kernel
theorem dX8_readBit_47 : decode cX8_readBit 47 = .ok (.getfield 107, 3) := by decide +kernel
theorem dX8_readBit_50 : decode cX8_readBit 50 = .ok (.bipush 16, 2) := by decide +kernel
theorem dX8_readBit_52 : decode cX8_readBit 52 = .ok (.lshr, 1) := by decide +kernel
theorem dX8_readBit_53 : decode cX8_readBit 53 = .ok (.iload_n 2, 1) := by decide +kernel
theorem dX8_readBit_54 : decode cX8_readBit 54 = .ok (.i2l, 1) := by decide +kernel
theorem dX8_readBit_55 : decode cX8_readBit 55 = .ok (.lcmp, 1) := by decide +kernel
theorem dX8_readBit_56 : decode cX8_readBit 56 = .ok (.ifCond .ge 29, 3) := by decide +kernel
theorem dX8_readBit_59 : decode cX8_readBit 59 = .ok (.aload_n 0, 1) := by decide +kernel
theorem dX8_readBit_60 : decode cX8_readBit 60 = .ok (.getfield 126, 3) := by decide +kernel
theorem dX8_readBit_63 : decode cX8_readBit 63 = .ok (.iload_n 2, 1) := by decide +kernel
theorem dX8_readBit_64 : decode cX8_readBit 64 = .ok (.i2l, 1) := by decide +kernel
theorem dX8_readBit_65 : decode cX8_readBit 65 = .ok (.lcmp, 1) := by decide +kernel
theorem dX8_readBit_66 : decode cX8_readBit 66 = .ok (.ifCond .ge 7, 3) := by decide +kernel
theorem dX8_readBit_69 : decode cX8_readBit 69 = .ok (.iconst 1, 1) := by decide +kernel
theorem dX8_readBit_70 : decode cX8_readBit 70 = .ok (.goto 4, 3) := by decide +kernel
theorem dX8_readBit_73 : decode cX8_readBit 73 = .ok (.iconst 0, 1) := by decide +kernel
theorem dX8_readBit_74 : decode cX8_readBit 74 = .ok (.istore 4, 2) := by decide +kernel
theorem dX8_readBit_76 : decode cX8_readBit 76 = .ok (.aload_n 0, 1) := by decide +kernel
theorem dX8_readBit_77 : decode cX8_readBit 77 = .ok (.iload_n 2, 1) := by decide +kernel
theorem dX8_readBit_78 : decode cX8_readBit 78 = .ok (.i2l, 1) := by decide +kernel
theorem dX8_readBit_79 : decode cX8_readBit 79 = .ok (.putfield 126, 3) := by decide +kernel
theorem dX8_readBit_82 : decode cX8_readBit 82 = .ok (.goto 47, 3) := by decide +kernel
theorem dX8_readBit_85 : decode cX8_readBit 85 = .ok (.aload_n 0, 1) := by decide +kernel
theorem dX8_readBit_86 : decode cX8_readBit 86 = .ok (.aload_n 0, 1) := by decide +kernel
theorem dX8_readBit_87 : decode cX8_readBit 87 = .ok (.getfield 107, 3) := by decide +kernel
theorem dX8_readBit_90 : decode cX8_readBit 90 = .ok (.iload_n 2, 1) := by decide +kernel
theorem dX8_readBit_91 : decode cX8_readBit 91 = .ok (.i2l, 1) := by decide +kernel
theorem dX8_readBit_92 : decode cX8_readBit 92 = .ok (.bipush 16, 2) := by decide +kernel
theorem dX8_readBit_94 : decode cX8_readBit 94 = .ok (.lshl, 1) := by decide +kernel
theorem dX8_readBit_95 : decode cX8_readBit 95 = .ok (.lsub, 1) := by decide +kernel
theorem dX8_readBit_96 : decode cX8_readBit 96 = .ok (.putfield 107, 3) := by decide +kernel
theorem dX8_readBit_99 : decode cX8_readBit 99 = .ok (.aload_n 0, 1) := by decide +kernel
theorem dX8_readBit_100 : decode cX8_readBit 100 = .ok (.getfield 126, 3) := by decide +kernel
theorem dX8_readBit_103 : decode cX8_readBit 103 = .ok (.ldc2_w 132, 3) := by decide +kernel
theorem dX8_readBit_106 : decode cX8_readBit 106 = .ok (.lcmp, 1) := by decide +kernel
theorem dX8_readBit_107 : decode cX8_readBit 107 = .ok (.ifCond .lt 5, 3) := by decide +kernel
theorem dX8_readBit_110 : decode cX8_readBit 110 = .ok (.iload_n 3, 1) := by decide +kernel
theorem dX8_readBit_111 : decode cX8_readBit 111 = .ok (.ireturn, 1) := by decide +kernel
theorem dX8_readBit_112 : decode cX8_readBit 112 = .ok (.aload_n 0, 1) := by decide +kernel
theorem dX8_readBit_113 : decode cX8_readBit 113 = .ok (.getfield 126, 3) := by decide +kernel
theorem dX8_readBit_116 : decode cX8_readBit 116 = .ok (.iload_n 2, 1) := by decide +kernel
theorem dX8_readBit_117 : decode cX8_readBit 117 = .ok (.i2l, 1) := by decide +kernel
theorem dX8_readBit_118 : decode cX8_readBit 118 = .ok (.lcmp, 1) := by decide +kernel
theorem dX8_readBit_119 : decode cX8_readBit 119 = .ok (.ifCond .lt 7, 3) := by decide +kernel
theorem dX8_readBit_122 : decode cX8_readBit 122 = .ok (.iconst 1, 1) := by decide +kernel
theorem dX8_readBit_123 : decode cX8_readBit 123 = .ok (.goto 4, 3) := by decide +kernel
theorem dX8_readBit_126 : decode cX8_readBit 126 = .ok (.iconst 0, 1) := by decide +kernel
theorem dX8_readBit_127 : decode cX8_readBit 127 = .ok (.istore 4, 2) := by decide +kernel
theorem dX8_readBit_129 : decode cX8_readBit 129 = .ok (.aload_n 0, 1) := by decide +kernel
theorem dX8_readBit_130 : decode cX8_readBit 130 = .ok (.iload_n 1, 1) := by decide +kernel
theorem dX8_readBit_131 : decode cX8_readBit 131 = .ok (.iload 4, 2) := by decide +kernel
theorem dX8_readBit_133 : decode cX8_readBit 133 = .ok (.invokevirtual 137, 3) := by decide +kernel
theorem dX8_readBit_136 : decode cX8_readBit 136 = .ok (.aload_n 0, 1) := by decide +kernel
theorem dX8_readBit_137 : decode cX8_readBit 137 = .ok (.invokevirtual 190, 3) := by decide +kernel
theorem dX8_readBit_140 : decode cX8_readBit 140 = .ok (.iload 4, 2) := by decide +kernel
theorem dX8_readBit_142 : decode cX8_readBit 142 = .ok (.ifCond .eq 7, 3) := by decide +kernel
theorem dX8_readBit_145 : decode cX8_readBit 145 = .ok (.iload_n 3, 1) := by decide +kernel
theorem dX8_readBit_146 : decode cX8_readBit 146 = .ok (.goto 6, 3) := by decide +kernel
theorem dX8_readBit_149 : decode cX8_readBit 149 = .ok (.iconst 1, 1) := by decide +kernel
theorem dX8_readBit_150 : decode cX8_readBit 150 = .ok (.iload_n 3, 1) := by decide +kernel
theorem dX8_readBit_151 : decode cX8_readBit 151 = .ok (.isub, 1) := by decide +kernel
theorem dX8_readBit_152 : decode cX8_readBit 152 = .ok (.ireturn, 1) := by decide +kernel
set_option maxRecDepth 20000 in
theorem ggX8_decode_X8_forget : GoodIn wsX8_decode wsX8_forget := goodIn_r _ [22, 23, 24, 85, 86, 87, 88, 89, 90, 91, 92, 93, 94, 95, 96, 97, 98, 99, 100, 101, 102, 103, 104, 105, 106, 107, 108, 109, 110, 111, 112, 113, 114, 115] (by decide +kernel) (by decide +kernel)
set_option maxRecDepth 20000 in
theorem gX8_decode_X8_forget : GoodIn wsX8_decode (wsV RX8 159 RX8 yX8_forget wsX8_forget) := goodIn_app (goodIn_of _ (by decide +kernel)) ggX8_decode_X8_forget
set_option maxRecDepth 20000 in
theorem ggX8_decode_X8_beginCounts : GoodIn wsX8_decode wsX8_beginCounts := goodIn_r _ [28, 17, 15, 29, 85, 86, 87, 88, 89, 90, 91, 92, 93, 94, 95, 96, 97, 98, 99, 100, 101, 102, 103, 104, 105, 106, 107, 108, 109, 110, 111, 112, 113, 114, 115] (by decide +kernel) (by decide +kernel)
set_option maxRecDepth 20000 in
theorem gX8_decode_X8_beginCounts : GoodIn wsX8_decode (wsV RX8 163 RX8 yX8_beginCounts wsX8_beginCounts) := goodIn_app (goodIn_of _ (by decide +kernel)) ggX8_decode_X8_beginCounts
set_option maxRecDepth 20000 in
theorem ggX8_decode_X8_in : GoodIn wsX8_decode wsX8_in := goodIn_r _ [33, 34, 35, 85, 86, 87, 88, 89, 90, 91, 92, 93, 94, 95, 96, 97, 98, 99, 100, 101, 102, 103, 104, 105, 106, 107, 108, 109, 110, 111, 112, 113, 114, 115] (by decide +kernel) (by decide +kernel)
set_option maxRecDepth 20000 in
theorem gX8_decode_X8_in : GoodIn wsX8_decode (wsV RX8 179 RX8 yX8_in wsX8_in) := goodIn_app (goodIn_of _ (by decide +kernel)) ggX8_decode_X8_in
set_option maxRecDepth 20000 in
theorem ggX8_decode_X8_byteIn : GoodIn wsX8_decode wsX8_byteIn := goodIn_r _ [39, 6, 7, 40, 9, 8, 30, 31, 32, 21, 33, 34, 35, 85, 86, 87, 88, 89, 90, 91, 92, 93, 94, 95, 96, 97, 98, 99, 100, 101, 102, 103, 104, 105, 106, 107, 108, 109, 110, 111, 112, 113, 114, 115] (by decide +kernel) (by decide +kernel)
set_option maxRecDepth 20000 in
theorem gX8_decode_X8_byteIn : GoodIn wsX8_decode (wsV RX8 187 RX8 yX8_byteIn wsX8_byteIn) := goodIn_app (goodIn_of _ (by decide +kernel)) ggX8_decode_X8_byteIn
set_option maxRecDepth 20000 in
theorem ggX8_decode_X8_readBit : GoodIn wsX8_decode wsX8_readBit := goodIn_r _ [44, 29, 45, 24, 11, 7, 10, 46, 47, 48, 21, 49, 50, 51, 52, 53, 9, 54, 8, 36, 37, 38, 39, 6, 40, 30, 31, 32, 33, 34, 35, 85, 86, 87, 88, 89, 90, 91, 92, 93, 94, 95, 96, 97, 98, 99, 100, 101, 102, 103, 104, 105, 106, 107, 108, 109, 110, 111, 112, 113, 114, 115] (by decide +kernel) (by decide +kernel)
set_option maxRecDepth 20000 in
theorem gX8_decode_X8_readBit : GoodIn wsX8_decode (wsV RX8 193 RX8 yX8_readBit wsX8_readBit) := goodIn_app (goodIn_of _ (by decide +kernel)) ggX8_decode_X8_readBit
set_option maxRecDepth 20000 in
theorem ggX8_decode_X8_nine : GoodIn wsX8_decode wsX8_nine := goodIn_r _ [58, 59, 60, 61, 21, 62, 63, 64, 65, 66, 67, 85, 86, 87, 88, 89, 90, 91, 92, 93, 94, 95, 96, 97, 98, 99, 100, 101, 102, 103, 104, 105, 106, 107, 108, 109, 110, 111, 112, 113, 114, 115] (by decide +kernel) (by decide +kernel)
set_option maxRecDepth 20000 in
theorem gX8_decode_X8_nine : GoodIn wsX8_decode (wsV RX8 156 RX8 yX8_nine wsX8_nine) := goodIn_app (goodIn_of _ (by decide +kernel)) ggX8_decode_X8_nine
set_option maxRecDepth 20000 in
theorem ggX8_decode_X8_contextOf : GoodIn wsX8_decode wsX8_contextOf := goodIn_r _ [71, 14, 72, 73, 74, 75, 76, 77, 78, 21, 79, 3, 5, 80, 81, 82, 83, 84, 16, 12, 59, 60, 61, 62, 63, 64, 65, 66, 67, 85, 86, 87, 88, 89, 90, 91, 92, 93, 94, 95, 96, 97, 98, 99, 100, 101, 102, 103, 104, 105, 106, 107, 108, 109, 110, 111, 112, 113, 114, 115] (by decide +kernel) (by decide +kernel)
set_option maxRecDepth 20000 in
theorem gX8_decode_X8_contextOf : GoodIn wsX8_decode (wsV RX8 97 RX8 yX8_contextOf wsX8_contextOf) := goodIn_app (goodIn_of _ (by decide +kernel)) ggX8_decode_X8_contextOf
theorem dX8_decode_0 : decode cX8_decode 0 = .ok (.aload_n 0, 1) := by decide +kernel
theorem dX8_decode_1 : decode cX8_decode 1 = .ok (.aload_n 0, 1) := by decide +kernel
theorem dX8_decode_2 : decode cX8_decode 2 = .ok (.getfield 65, 3) := by decide +kernel
theorem dX8_decode_5 : decode cX8_decode 5 = .ok (.ifCond .eq 7, 3) := by decide +kernel
theorem dX8_decode_8 : decode cX8_decode 8 = .ok (.iconst 0, 1) := by decide +kernel
theorem dX8_decode_9 : decode cX8_decode 9 = .ok (.goto 4, 3) := by decide +kernel
theorem dX8_decode_12 : decode cX8_decode 12 = .ok (.iconst 1, 1) := by decide +kernel
theorem dX8_decode_13 : decode cX8_decode 13 = .ok (.putfield 48, 3) := by decide +kernel
theorem dX8_decode_16 : decode cX8_decode 16 = .ok (.aload_n 0, 1) := by decide +kernel
theorem dX8_decode_17 : decode cX8_decode 17 = .ok (.getfield 48, 3) := by decide +kernel
theorem dX8_decode_20 : decode cX8_decode 20 = .ok (.ifCond .le 5, 3) := by decide +kernel
theorem dX8_decode_23 : decode cX8_decode 23 = .ok (.iconst 0, 1) := by decide +kernel
theorem dX8_decode_24 : decode cX8_decode 24 = .ok (.ireturn, 1) := by decide +kernel
theorem dX8_decode_25 : decode cX8_decode 25 = .ok (.aload_n 0, 1) := by decide +kernel
theorem dX8_decode_26 : decode cX8_decode 26 = .ok (.iconst 1, 1) := by decide +kernel
theorem dX8_decode_27 : decode cX8_decode 27 = .ok (.putfield 87, 3) := by decide +kernel
theorem dX8_decode_30 : decode cX8_decode 30 = .ok (.aload_n 0, 1) := by decide +kernel
theorem dX8_decode_31 : decode cX8_decode 31 = .ok (.iconst 1, 1) := by decide +kernel
theorem dX8_decode_32 : decode cX8_decode 32 = .ok (.putfield 58, 3) := by decide +kernel
theorem dX8_decode_35 : decode cX8_decode 35 = .ok (.aload_n 0, 1) := by decide +kernel
theorem dX8_decode_36 : decode cX8_decode 36 = .ok (.sipush 8192, 3) := by decide +kernel
theorem dX8_decode_39 : decode cX8_decode 39 = .ok (.invokevirtual 159, 3) := by decide +kernel
theorem dX8_decode_42 : decode cX8_decode 42 = .ok (.aload_n 0, 1) := by decide +kernel
theorem dX8_decode_43 : decode cX8_decode 43 = .ok (.invokevirtual 163, 3) := by decide +kernel
theorem dX8_decode_46 : decode cX8_decode 46 = .ok (.iconst 0, 1) := by decide +kernel
theorem dX8_decode_47 : decode cX8_decode 47 = .ok (.istore_n 1, 1) := by decide +kernel
theorem dX8_decode_48 : decode cX8_decode 48 = .ok (.iload_n 1, 1) := by decide +kernel
theorem dX8_decode_49 : decode cX8_decode 49 = .ok (.sipush 1600, 3) := by decide +kernel
theorem dX8_decode_52 : decode cX8_decode 52 = .ok (.if_icmp .ge 16, 3) := by decide +kernel
theorem dX8_decode_55 : decode cX8_decode 55 = .ok (.aload_n 0, 1) := by decide +kernel
theorem dX8_decode_56 : decode cX8_decode 56 = .ok (.getfield 24, 3) := by decide +kernel
theorem dX8_decode_59 : decode cX8_decode 59 = .ok (.iload_n 1, 1) := by decide +kernel
theorem dX8_decode_60 : decode cX8_decode 60 = .ok (.iconst 0, 1) := by decide +kernel
theorem dX8_decode_61 : decode cX8_decode 61 = .ok (.bastore, 1) := by decide +kernel
theorem dX8_decode_62 : decode cX8_decode 62 = .ok (.iinc 1 1, 3) := by decide +kernel
theorem dX8_decode_65 : decode cX8_decode 65 = .ok (.goto (-17), 3) := by decide +kernel
theorem dX8_decode_68 : decode cX8_decode 68 = .ok (.aload_n 0, 1) := by decide +kernel
theorem dX8_decode_69 : decode cX8_decode 69 = .ok (.iconst 0, 1) := by decide +kernel
theorem dX8_decode_70 : decode cX8_decode 70 = .ok (.putfield 176, 3) := by decide +kernel
theorem dX8_decode_73 : decode cX8_decode 73 = .ok (.aload_n 0, 1) := by decide +kernel
theorem dX8_decode_74 : decode cX8_decode 74 = .ok (.aload_n 0, 1) := by decide +kernel
