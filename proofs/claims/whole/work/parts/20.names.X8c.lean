theorem dX8_shape_0 : decode cX8_shape 0 = .ok (.aload_n 0, 1) := by decide +kernel
theorem dX8_shape_1 : decode cX8_shape 1 = .ok (.iload_n 1, 1) := by decide +kernel
theorem dX8_shape_2 : decode cX8_shape 2 = .ok (.iconst 1, 1) := by decide +kernel
theorem dX8_shape_3 : decode cX8_shape 3 = .ok (.if_icmp .lt 29, 3) := by decide +kernel
theorem dX8_shape_6 : decode cX8_shape 6 = .ok (.iload_n 1, 1) := by decide +kernel
theorem dX8_shape_7 : decode cX8_shape 7 = .ok (.bipush 40, 2) := by decide +kernel
theorem dX8_shape_9 : decode cX8_shape 9 = .ok (.if_icmp .gt 23, 3) := by decide +kernel
theorem dX8_shape_12 : decode cX8_shape 12 = .ok (.iload_n 2, 1) := by decide +kernel
theorem dX8_shape_13 : decode cX8_shape 13 = .ok (.iconst 1, 1) := by decide +kernel
theorem dX8_shape_14 : decode cX8_shape 14 = .ok (.if_icmp .lt 18, 3) := by decide +kernel
theorem dX8_shape_17 : decode cX8_shape 17 = .ok (.iload_n 2, 1) := by decide +kernel
theorem dX8_shape_18 : decode cX8_shape 18 = .ok (.bipush 40, 2) := by decide +kernel
theorem dX8_shape_20 : decode cX8_shape 20 = .ok (.if_icmp .gt 12, 3) := by decide +kernel
theorem dX8_shape_23 : decode cX8_shape 23 = .ok (.iload_n 3, 1) := by decide +kernel
theorem dX8_shape_24 : decode cX8_shape 24 = .ok (.ifCond .lt 8, 3) := by decide +kernel
theorem dX8_shape_27 : decode cX8_shape 27 = .ok (.iload_n 3, 1) := by decide +kernel
theorem dX8_shape_28 : decode cX8_shape 28 = .ok (.iconst 1, 1) := by decide +kernel
theorem dX8_shape_29 : decode cX8_shape 29 = .ok (.if_icmp .le 7, 3) := by decide +kernel
theorem dX8_shape_32 : decode cX8_shape 32 = .ok (.iconst 1, 1) := by decide +kernel
theorem dX8_shape_33 : decode cX8_shape 33 = .ok (.goto 4, 3) := by decide +kernel
theorem dX8_shape_36 : decode cX8_shape 36 = .ok (.iconst 0, 1) := by decide +kernel
theorem dX8_shape_37 : decode cX8_shape 37 = .ok (.putfield 48, 3) := by decide +kernel
theorem dX8_shape_40 : decode cX8_shape 40 = .ok (.aload_n 0, 1) := by decide +kernel
theorem dX8_shape_41 : decode cX8_shape 41 = .ok (.getfield 48, 3) := by decide +kernel
theorem dX8_shape_44 : decode cX8_shape 44 = .ok (.ifCond .le 4, 3) := by decide +kernel
theorem dX8_shape_47 : decode cX8_shape 47 = .ok (.return_, 1) := by decide +kernel
theorem dX8_shape_48 : decode cX8_shape 48 = .ok (.aload_n 0, 1) := by decide +kernel
theorem dX8_shape_49 : decode cX8_shape 49 = .ok (.iload_n 1, 1) := by decide +kernel
theorem dX8_shape_50 : decode cX8_shape 50 = .ok (.putfield 13, 3) := by decide +kernel
theorem dX8_shape_53 : decode cX8_shape 53 = .ok (.aload_n 0, 1) := by decide +kernel
theorem dX8_shape_54 : decode cX8_shape 54 = .ok (.iload_n 2, 1) := by decide +kernel
theorem dX8_shape_55 : decode cX8_shape 55 = .ok (.putfield 17, 3) := by decide +kernel
theorem dX8_shape_58 : decode cX8_shape 58 = .ok (.aload_n 0, 1) := by decide +kernel
theorem dX8_shape_59 : decode cX8_shape 59 = .ok (.iload_n 3, 1) := by decide +kernel
theorem dX8_shape_60 : decode cX8_shape 60 = .ok (.putfield 51, 3) := by decide +kernel
theorem dX8_shape_63 : decode cX8_shape 63 = .ok (.aload_n 0, 1) := by decide +kernel
theorem dX8_shape_64 : decode cX8_shape 64 = .ok (.iload 4, 2) := by decide +kernel
theorem dX8_shape_66 : decode cX8_shape 66 = .ok (.putfield 54, 3) := by decide +kernel
theorem dX8_shape_69 : decode cX8_shape 69 = .ok (.iconst 0, 1) := by decide +kernel
theorem dX8_shape_70 : decode cX8_shape 70 = .ok (.istore 5, 2) := by decide +kernel
theorem dX8_shape_72 : decode cX8_shape 72 = .ok (.iload 5, 2) := by decide +kernel
theorem dX8_shape_74 : decode cX8_shape 74 = .ok (.sipush 1600, 3) := by decide +kernel
theorem dX8_shape_77 : decode cX8_shape 77 = .ok (.if_icmp .ge 17, 3) := by decide +kernel
theorem dX8_shape_80 : decode cX8_shape 80 = .ok (.aload_n 0, 1) := by decide +kernel
theorem dX8_shape_81 : decode cX8_shape 81 = .ok (.getfield 20, 3) := by decide +kernel
theorem dX8_shape_84 : decode cX8_shape 84 = .ok (.iload 5, 2) := by decide +kernel
theorem dX8_shape_86 : decode cX8_shape 86 = .ok (.iconst 0, 1) := by decide +kernel
theorem dX8_shape_87 : decode cX8_shape 87 = .ok (.bastore, 1) := by decide +kernel
theorem dX8_shape_88 : decode cX8_shape 88 = .ok (.iinc 5 1, 3) := by decide +kernel
theorem dX8_shape_91 : decode cX8_shape 91 = .ok (.goto (-19), 3) := by decide +kernel
theorem dX8_shape_94 : decode cX8_shape 94 = .ok (.aload_n 0, 1) := by decide +kernel
theorem dX8_shape_95 : decode cX8_shape 95 = .ok (.iconst 0, 1) := by decide +kernel
theorem dX8_shape_96 : decode cX8_shape 96 = .ok (.putfield 58, 3) := by decide +kernel
theorem dX8_shape_99 : decode cX8_shape 99 = .ok (.aload_n 0, 1) := by decide +kernel
theorem dX8_shape_100 : decode cX8_shape 100 = .ok (.iconst (-1), 1) := by decide +kernel
theorem dX8_shape_101 : decode cX8_shape 101 = .ok (.putfield 30, 3) := by decide +kernel
theorem dX8_shape_104 : decode cX8_shape 104 = .ok (.aload_n 0, 1) := by decide +kernel
theorem dX8_shape_105 : decode cX8_shape 105 = .ok (.iconst (-1), 1) := by decide +kernel
theorem dX8_shape_106 : decode cX8_shape 106 = .ok (.putfield 33, 3) := by decide +kernel
theorem dX8_shape_109 : decode cX8_shape 109 = .ok (.aload_n 0, 1) := by decide +kernel
theorem dX8_shape_110 : decode cX8_shape 110 = .ok (.iconst (-1), 1) := by decide +kernel
theorem dX8_shape_111 : decode cX8_shape 111 = .ok (.putfield 36, 3) := by decide +kernel
theorem dX8_shape_114 : decode cX8_shape 114 = .ok (.aload_n 0, 1) := by decide +kernel
theorem dX8_shape_115 : decode cX8_shape 115 = .ok (.iconst (-1), 1) := by decide +kernel
theorem dX8_shape_116 : decode cX8_shape 116 = .ok (.putfield 39, 3) := by decide +kernel
theorem dX8_shape_119 : decode cX8_shape 119 = .ok (.iconst 0, 1) := by decide +kernel
theorem dX8_shape_120 : decode cX8_shape 120 = .ok (.istore 5, 2) := by decide +kernel
theorem dX8_shape_122 : decode cX8_shape 122 = .ok (.iload 5, 2) := by decide +kernel
theorem dX8_shape_124 : decode cX8_shape 124 = .ok (.sipush 16384, 3) := by decide +kernel
theorem dX8_shape_127 : decode cX8_shape 127 = .ok (.if_icmp .ge 17, 3) := by decide +kernel
theorem dX8_shape_130 : decode cX8_shape 130 = .ok (.aload_n 0, 1) := by decide +kernel
theorem dX8_shape_131 : decode cX8_shape 131 = .ok (.getfield 42, 3) := by decide +kernel
theorem dX8_shape_134 : decode cX8_shape 134 = .ok (.iload 5, 2) := by decide +kernel
theorem dX8_shape_136 : decode cX8_shape 136 = .ok (.iconst 0, 1) := by decide +kernel
theorem dX8_shape_137 : decode cX8_shape 137 = .ok (.iastore, 1) := by decide +kernel
theorem dX8_shape_138 : decode cX8_shape 138 = .ok (.iinc 5 1, 3) := by decide +kernel
theorem dX8_shape_141 : decode cX8_shape 141 = .ok (.goto (-19), 3) := by decide +kernel
theorem dX8_shape_144 : decode cX8_shape 144 = .ok (.return_, 1) := by decide +kernel
theorem dX8_noPixel_0 : decode cX8_noPixel 0 = .ok (.iload_n 1, 1) := by decide +kernel
theorem dX8_noPixel_1 : decode cX8_noPixel 1 = .ok (.ifCond .lt 23, 3) := by decide +kernel
theorem dX8_noPixel_4 : decode cX8_noPixel 4 = .ok (.iload_n 2, 1) := by decide +kernel
theorem dX8_noPixel_5 : decode cX8_noPixel 5 = .ok (.ifCond .lt 19, 3) := by decide +kernel
theorem dX8_noPixel_8 : decode cX8_noPixel 8 = .ok (.iload_n 1, 1) := by decide +kernel
theorem dX8_noPixel_9 : decode cX8_noPixel 9 = .ok (.aload_n 0, 1) := by decide +kernel
theorem dX8_noPixel_10 : decode cX8_noPixel 10 = .ok (.getfield 13, 3) := by decide +kernel
theorem dX8_noPixel_13 : decode cX8_noPixel 13 = .ok (.if_icmp .ge 11, 3) := by decide +kernel
theorem dX8_noPixel_16 : decode cX8_noPixel 16 = .ok (.iload_n 2, 1) := by decide +kernel
theorem dX8_noPixel_17 : decode cX8_noPixel 17 = .ok (.aload_n 0, 1) := by decide +kernel
theorem dX8_noPixel_18 : decode cX8_noPixel 18 = .ok (.getfield 17, 3) := by decide +kernel
theorem dX8_noPixel_21 : decode cX8_noPixel 21 = .ok (.if_icmp .lt 7, 3) := by decide +kernel
theorem dX8_noPixel_24 : decode cX8_noPixel 24 = .ok (.iconst 1, 1) := by decide +kernel
theorem dX8_noPixel_25 : decode cX8_noPixel 25 = .ok (.goto 4, 3) := by decide +kernel
theorem dX8_noPixel_28 : decode cX8_noPixel 28 = .ok (.iconst 0, 1) := by decide +kernel
theorem dX8_noPixel_29 : decode cX8_noPixel 29 = .ok (.ireturn, 1) := by decide +kernel
set_option maxRecDepth 20000 in
theorem ggX8_put_X8_noPixel : GoodIn wsX8_put wsX8_noPixel := goodIn_r _ [7, 8, 9, 10, 11, 12, 13, 14, 15, 16, 17, 18, 19, 20, 21, 22, 23, 24, 25, 26, 27, 28, 29, 30, 31, 32, 33, 34, 35, 36, 37, 38, 39, 40] (by decide +kernel) (by decide +kernel)
set_option maxRecDepth 20000 in
theorem gX8_put_X8_noPixel : GoodIn wsX8_put (wsV RX8 61 RX8 yX8_noPixel wsX8_noPixel) := goodIn_app (goodIn_of _ (by decide +kernel)) ggX8_put_X8_noPixel
theorem dX8_put_0 : decode cX8_put 0 = .ok (.aload_n 0, 1) := by decide +kernel
theorem dX8_put_1 : decode cX8_put 1 = .ok (.aload_n 0, 1) := by decide +kernel
theorem dX8_put_2 : decode cX8_put 2 = .ok (.iload_n 1, 1) := by decide +kernel
theorem dX8_put_3 : decode cX8_put 3 = .ok (.iload_n 2, 1) := by decide +kernel
theorem dX8_put_4 : decode cX8_put 4 = .ok (.invokevirtual 61, 3) := by decide +kernel
theorem dX8_put_7 : decode cX8_put 7 = .ok (.ifCond .eq 7, 3) := by decide +kernel
theorem dX8_put_10 : decode cX8_put 10 = .ok (.iconst 1, 1) := by decide +kernel
theorem dX8_put_11 : decode cX8_put 11 = .ok (.goto 4, 3) := by decide +kernel
theorem dX8_put_14 : decode cX8_put 14 = .ok (.iconst 0, 1) := by decide +kernel
theorem dX8_put_15 : decode cX8_put 15 = .ok (.putfield 48, 3) := by decide +kernel
theorem dX8_put_18 : decode cX8_put 18 = .ok (.aload_n 0, 1) := by decide +kernel
theorem dX8_put_19 : decode cX8_put 19 = .ok (.getfield 48, 3) := by decide +kernel
theorem dX8_put_22 : decode cX8_put 22 = .ok (.ifCond .le 5, 3) := by decide +kernel
theorem dX8_put_25 : decode cX8_put 25 = .ok (.iconst 0, 1) := by decide +kernel
theorem dX8_put_26 : decode cX8_put 26 = .ok (.ireturn, 1) := by decide +kernel
theorem dX8_put_27 : decode cX8_put 27 = .ok (.aload_n 0, 1) := by decide +kernel
theorem dX8_put_28 : decode cX8_put 28 = .ok (.getfield 20, 3) := by decide +kernel
theorem dX8_put_31 : decode cX8_put 31 = .ok (.bipush 40, 2) := by decide +kernel
theorem dX8_put_33 : decode cX8_put 33 = .ok (.iload_n 2, 1) := by decide +kernel
theorem dX8_put_34 : decode cX8_put 34 = .ok (.imul, 1) := by decide +kernel
theorem dX8_put_35 : decode cX8_put 35 = .ok (.iload_n 1, 1) := by decide +kernel
theorem dX8_put_36 : decode cX8_put 36 = .ok (.iadd, 1) := by decide +kernel
theorem dX8_put_37 : decode cX8_put 37 = .ok (.baload, 1) := by decide +kernel
theorem dX8_put_38 : decode cX8_put 38 = .ok (.istore 4, 2) := by decide +kernel
theorem dX8_put_40 : decode cX8_put 40 = .ok (.aload_n 0, 1) := by decide +kernel
theorem dX8_put_41 : decode cX8_put 41 = .ok (.getfield 20, 3) := by decide +kernel
theorem dX8_put_44 : decode cX8_put 44 = .ok (.bipush 40, 2) := by decide +kernel
theorem dX8_put_46 : decode cX8_put 46 = .ok (.iload_n 2, 1) := by decide +kernel
theorem dX8_put_47 : decode cX8_put 47 = .ok (.imul, 1) := by decide +kernel
theorem dX8_put_48 : decode cX8_put 48 = .ok (.iload_n 1, 1) := by decide +kernel
theorem dX8_put_49 : decode cX8_put 49 = .ok (.iadd, 1) := by decide +kernel
theorem dX8_put_50 : decode cX8_put 50 = .ok (.iload_n 3, 1) := by decide +kernel
theorem dX8_put_51 : decode cX8_put 51 = .ok (.bastore, 1) := by decide +kernel
theorem dX8_put_52 : decode cX8_put 52 = .ok (.iload 4, 2) := by decide +kernel
theorem dX8_put_54 : decode cX8_put 54 = .ok (.ireturn, 1) := by decide +kernel
theorem dX8_whiteReference_0 : decode cX8_whiteReference 0 = .ok (.aload_n 0, 1) := by decide +kernel
theorem dX8_whiteReference_1 : decode cX8_whiteReference 1 = .ok (.iconst 1, 1) := by decide +kernel
theorem dX8_whiteReference_2 : decode cX8_whiteReference 2 = .ok (.putfield 65, 3) := by decide +kernel
theorem dX8_whiteReference_5 : decode cX8_whiteReference 5 = .ok (.aload_n 0, 1) := by decide +kernel
theorem dX8_whiteReference_6 : decode cX8_whiteReference 6 = .ok (.iload_n 1, 1) := by decide +kernel
theorem dX8_whiteReference_7 : decode cX8_whiteReference 7 = .ok (.putfield 68, 3) := by decide +kernel
theorem dX8_whiteReference_10 : decode cX8_whiteReference 10 = .ok (.aload_n 0, 1) := by decide +kernel
theorem dX8_whiteReference_11 : decode cX8_whiteReference 11 = .ok (.iload_n 2, 1) := by decide +kernel
theorem dX8_whiteReference_12 : decode cX8_whiteReference 12 = .ok (.putfield 71, 3) := by decide +kernel
theorem dX8_whiteReference_15 : decode cX8_whiteReference 15 = .ok (.aload_n 0, 1) := by decide +kernel
theorem dX8_whiteReference_16 : decode cX8_whiteReference 16 = .ok (.iconst 0, 1) := by decide +kernel
theorem dX8_whiteReference_17 : decode cX8_whiteReference 17 = .ok (.putfield 74, 3) := by decide +kernel
theorem dX8_whiteReference_20 : decode cX8_whiteReference 20 = .ok (.aload_n 0, 1) := by decide +kernel
theorem dX8_whiteReference_21 : decode cX8_whiteReference 21 = .ok (.iconst 0, 1) := by decide +kernel
theorem dX8_whiteReference_22 : decode cX8_whiteReference 22 = .ok (.putfield 77, 3) := by decide +kernel
theorem dX8_whiteReference_25 : decode cX8_whiteReference 25 = .ok (.iconst 0, 1) := by decide +kernel
theorem dX8_whiteReference_26 : decode cX8_whiteReference 26 = .ok (.istore_n 3, 1) := by decide +kernel
theorem dX8_whiteReference_27 : decode cX8_whiteReference 27 = .ok (.iload_n 3, 1) := by decide +kernel
theorem dX8_whiteReference_28 : decode cX8_whiteReference 28 = .ok (.sipush 3600, 3) := by decide +kernel
theorem dX8_whiteReference_31 : decode cX8_whiteReference 31 = .ok (.if_icmp .ge 16, 3) := by decide +kernel
theorem dX8_whiteReference_34 : decode cX8_whiteReference 34 = .ok (.aload_n 0, 1) := by decide +kernel
theorem dX8_whiteReference_35 : decode cX8_whiteReference 35 = .ok (.getfield 27, 3) := by decide +kernel
theorem dX8_whiteReference_38 : decode cX8_whiteReference 38 = .ok (.iload_n 3, 1) := by decide +kernel
theorem dX8_whiteReference_39 : decode cX8_whiteReference 39 = .ok (.iconst 0, 1) := by decide +kernel
theorem dX8_whiteReference_40 : decode cX8_whiteReference 40 = .ok (.bastore, 1) := by decide +kernel
theorem dX8_whiteReference_41 : decode cX8_whiteReference 41 = .ok (.iinc 3 1, 3) := by decide +kernel
theorem dX8_whiteReference_44 : decode cX8_whiteReference 44 = .ok (.goto (-17), 3) := by decide +kernel
theorem dX8_whiteReference_47 : decode cX8_whiteReference 47 = .ok (.return_, 1) := by decide +kernel
set_option maxRecDepth 20000 in
theorem ggX8_reference_X8_whiteReference : GoodIn wsX8_reference wsX8_whiteReference := goodIn_r _ [6, 7, 8, 9, 10, 11, 12, 13, 14, 15, 16, 17, 18, 19, 20, 21, 22, 23, 24, 25, 26, 27, 28, 29, 30, 31, 32, 33, 34, 35, 36, 37, 38, 39, 40, 41, 42, 43] (by decide +kernel) (by decide +kernel)
set_option maxRecDepth 20000 in
theorem gX8_reference_X8_whiteReference : GoodIn wsX8_reference (wsV RX8 80 RX8 yX8_whiteReference wsX8_whiteReference) := goodIn_app (goodIn_of _ (by decide +kernel)) ggX8_reference_X8_whiteReference
theorem dX8_reference_0 : decode cX8_reference 0 = .ok (.aload_n 0, 1) := by decide +kernel
theorem dX8_reference_1 : decode cX8_reference 1 = .ok (.iload_n 1, 1) := by decide +kernel
theorem dX8_reference_2 : decode cX8_reference 2 = .ok (.iconst 1, 1) := by decide +kernel
theorem dX8_reference_3 : decode cX8_reference 3 = .ok (.if_icmp .lt 20, 3) := by decide +kernel
theorem dX8_reference_6 : decode cX8_reference 6 = .ok (.iload_n 1, 1) := by decide +kernel
theorem dX8_reference_7 : decode cX8_reference 7 = .ok (.bipush 60, 2) := by decide +kernel
theorem dX8_reference_9 : decode cX8_reference 9 = .ok (.if_icmp .gt 14, 3) := by decide +kernel
theorem dX8_reference_12 : decode cX8_reference 12 = .ok (.iload_n 2, 1) := by decide +kernel
theorem dX8_reference_13 : decode cX8_reference 13 = .ok (.iconst 1, 1) := by decide +kernel
theorem dX8_reference_14 : decode cX8_reference 14 = .ok (.if_icmp .lt 9, 3) := by decide +kernel
theorem dX8_reference_17 : decode cX8_reference 17 = .ok (.iload_n 2, 1) := by decide +kernel
theorem dX8_reference_18 : decode cX8_reference 18 = .ok (.bipush 60, 2) := by decide +kernel
theorem dX8_reference_20 : decode cX8_reference 20 = .ok (.if_icmp .le 7, 3) := by decide +kernel
theorem dX8_reference_23 : decode cX8_reference 23 = .ok (.iconst 1, 1) := by decide +kernel
theorem dX8_reference_24 : decode cX8_reference 24 = .ok (.goto 4, 3) := by decide +kernel
theorem dX8_reference_27 : decode cX8_reference 27 = .ok (.iconst 0, 1) := by decide +kernel
theorem dX8_reference_28 : decode cX8_reference 28 = .ok (.putfield 48, 3) := by decide +kernel
theorem dX8_reference_31 : decode cX8_reference 31 = .ok (.aload_n 0, 1) := by decide +kernel
theorem dX8_reference_32 : decode cX8_reference 32 = .ok (.getfield 48, 3) := by decide +kernel
theorem dX8_reference_35 : decode cX8_reference 35 = .ok (.ifCond .ne 9, 3) := by decide +kernel
theorem dX8_reference_38 : decode cX8_reference 38 = .ok (.aload_n 0, 1) := by decide +kernel
theorem dX8_reference_39 : decode cX8_reference 39 = .ok (.iload_n 1, 1) := by decide +kernel
theorem dX8_reference_40 : decode cX8_reference 40 = .ok (.iload_n 2, 1) := by decide +kernel
theorem dX8_reference_41 : decode cX8_reference 41 = .ok (.invokevirtual 80, 3) := by decide +kernel
theorem dX8_reference_44 : decode cX8_reference 44 = .ok (.return_, 1) := by decide +kernel
theorem dX8_refer_0 : decode cX8_refer 0 = .ok (.aload_n 0, 1) := by decide +kernel
theorem dX8_refer_1 : decode cX8_refer 1 = .ok (.aload_n 0, 1) := by decide +kernel
theorem dX8_refer_2 : decode cX8_refer 2 = .ok (.getfield 65, 3) := by decide +kernel
theorem dX8_refer_5 : decode cX8_refer 5 = .ok (.ifCond .ne 7, 3) := by decide +kernel
theorem dX8_refer_8 : decode cX8_refer 8 = .ok (.iconst 1, 1) := by decide +kernel
theorem dX8_refer_9 : decode cX8_refer 9 = .ok (.goto 32, 3) := by decide +kernel
theorem dX8_refer_12 : decode cX8_refer 12 = .ok (.iload_n 1, 1) := by decide +kernel
theorem dX8_refer_13 : decode cX8_refer 13 = .ok (.ifCond .lt 23, 3) := by decide +kernel
theorem dX8_refer_16 : decode cX8_refer 16 = .ok (.iload_n 2, 1) := by decide +kernel
theorem dX8_refer_17 : decode cX8_refer 17 = .ok (.ifCond .lt 19, 3) := by decide +kernel
theorem dX8_refer_20 : decode cX8_refer 20 = .ok (.iload_n 1, 1) := by decide +kernel
theorem dX8_refer_21 : decode cX8_refer 21 = .ok (.aload_n 0, 1) := by decide +kernel
theorem dX8_refer_22 : decode cX8_refer 22 = .ok (.getfield 68, 3) := by decide +kernel
theorem dX8_refer_25 : decode cX8_refer 25 = .ok (.if_icmp .ge 11, 3) := by decide +kernel
theorem dX8_refer_28 : decode cX8_refer 28 = .ok (.iload_n 2, 1) := by decide +kernel
theorem dX8_refer_29 : decode cX8_refer 29 = .ok (.aload_n 0, 1) := by decide +kernel
theorem dX8_refer_30 : decode cX8_refer 30 = .ok (.getfield 71, 3) := by decide +kernel
theorem dX8_refer_33 : decode cX8_refer 33 = .ok (.if_icmp .lt 7, 3) := by decide +kernel
theorem dX8_refer_36 : decode cX8_refer 36 = .ok (.iconst 2, 1) := by decide +kernel
theorem dX8_refer_37 : decode cX8_refer 37 = .ok (.goto 4, 3) := by decide +kernel
theorem dX8_refer_40 : decode cX8_refer 40 = .ok (.iconst 0, 1) := by decide +kernel
theorem dX8_refer_41 : decode cX8_refer 41 = .ok (.putfield 48, 3) := by decide +kernel
theorem dX8_refer_44 : decode cX8_refer 44 = .ok (.aload_n 0, 1) := by decide +kernel
theorem dX8_refer_45 : decode cX8_refer 45 = .ok (.getfield 48, 3) := by decide +kernel
theorem dX8_refer_48 : decode cX8_refer 48 = .ok (.ifCond .le 5, 3) := by decide +kernel
theorem dX8_refer_51 : decode cX8_refer 51 = .ok (.iconst 0, 1) := by decide +kernel
theorem dX8_refer_52 : decode cX8_refer 52 = .ok (.ireturn, 1) := by decide +kernel
theorem dX8_refer_53 : decode cX8_refer 53 = .ok (.aload_n 0, 1) := by decide +kernel
theorem dX8_refer_54 : decode cX8_refer 54 = .ok (.getfield 27, 3) := by decide +kernel
theorem dX8_refer_57 : decode cX8_refer 57 = .ok (.bipush 60, 2) := by decide +kernel
theorem dX8_refer_59 : decode cX8_refer 59 = .ok (.iload_n 2, 1) := by decide +kernel
theorem dX8_refer_60 : decode cX8_refer 60 = .ok (.imul, 1) := by decide +kernel
theorem dX8_refer_61 : decode cX8_refer 61 = .ok (.iload_n 1, 1) := by decide +kernel
theorem dX8_refer_62 : decode cX8_refer 62 = .ok (.iadd, 1) := by decide +kernel
theorem dX8_refer_63 : decode cX8_refer 63 = .ok (.baload, 1) := by decide +kernel
theorem dX8_refer_64 : decode cX8_refer 64 = .ok (.istore 4, 2) := by decide +kernel
theorem dX8_refer_66 : decode cX8_refer 66 = .ok (.aload_n 0, 1) := by decide +kernel
theorem dX8_refer_67 : decode cX8_refer 67 = .ok (.getfield 27, 3) := by decide +kernel
theorem dX8_refer_70 : decode cX8_refer 70 = .ok (.bipush 60, 2) := by decide +kernel
theorem dX8_refer_72 : decode cX8_refer 72 = .ok (.iload_n 2, 1) := by decide +kernel
theorem dX8_refer_73 : decode cX8_refer 73 = .ok (.imul, 1) := by decide +kernel
theorem dX8_refer_74 : decode cX8_refer 74 = .ok (.iload_n 1, 1) := by decide +kernel
theorem dX8_refer_75 : decode cX8_refer 75 = .ok (.iadd, 1) := by decide +kernel
theorem dX8_refer_76 : decode cX8_refer 76 = .ok (.iload_n 3, 1) := by decide +kernel
theorem dX8_refer_77 : decode cX8_refer 77 = .ok (.bastore, 1) := by decide +kernel
theorem dX8_refer_78 : decode cX8_refer 78 = .ok (.iload 4, 2) := by decide +kernel
theorem dX8_refer_80 : decode cX8_refer 80 = .ok (.ireturn, 1) := by decide +kernel
theorem dX8_offset_0 : decode cX8_offset 0 = .ok (.aload_n 0, 1) := by decide +kernel
theorem dX8_offset_1 : decode cX8_offset 1 = .ok (.aload_n 0, 1) := by decide +kernel
theorem dX8_offset_2 : decode cX8_offset 2 = .ok (.getfield 65, 3) := by decide +kernel
theorem dX8_offset_5 : decode cX8_offset 5 = .ok (.ifCond .ne 7, 3) := by decide +kernel
theorem dX8_offset_8 : decode cX8_offset 8 = .ok (.iconst 1, 1) := by decide +kernel
theorem dX8_offset_9 : decode cX8_offset 9 = .ok (.goto 32, 3) := by decide +kernel
theorem dX8_offset_12 : decode cX8_offset 12 = .ok (.iload_n 1, 1) := by decide +kernel
theorem dX8_offset_13 : decode cX8_offset 13 = .ok (.bipush (-20), 2) := by decide +kernel
theorem dX8_offset_15 : decode cX8_offset 15 = .ok (.if_icmp .lt 21, 3) := by decide +kernel
theorem dX8_offset_18 : decode cX8_offset 18 = .ok (.iload_n 1, 1) := by decide +kernel
theorem dX8_offset_19 : decode cX8_offset 19 = .ok (.bipush 20, 2) := by decide +kernel
theorem dX8_offset_21 : decode cX8_offset 21 = .ok (.if_icmp .gt 15, 3) := by decide +kernel
theorem dX8_offset_24 : decode cX8_offset 24 = .ok (.iload_n 2, 1) := by decide +kernel
theorem dX8_offset_25 : decode cX8_offset 25 = .ok (.bipush (-20), 2) := by decide +kernel
theorem dX8_offset_27 : decode cX8_offset 27 = .ok (.if_icmp .lt 9, 3) := by decide +kernel
theorem dX8_offset_30 : decode cX8_offset 30 = .ok (.iload_n 2, 1) := by decide +kernel
theorem dX8_offset_31 : decode cX8_offset 31 = .ok (.bipush 20, 2) := by decide +kernel
theorem dX8_offset_33 : decode cX8_offset 33 = .ok (.if_icmp .le 7, 3) := by decide +kernel
theorem dX8_offset_36 : decode cX8_offset 36 = .ok (.iconst 2, 1) := by decide +kernel
theorem dX8_offset_37 : decode cX8_offset 37 = .ok (.goto 4, 3) := by decide +kernel
theorem dX8_offset_40 : decode cX8_offset 40 = .ok (.iconst 0, 1) := by decide +kernel
theorem dX8_offset_41 : decode cX8_offset 41 = .ok (.putfield 48, 3) := by decide +kernel
theorem dX8_offset_44 : decode cX8_offset 44 = .ok (.aload_n 0, 1) := by decide +kernel
theorem dX8_offset_45 : decode cX8_offset 45 = .ok (.getfield 48, 3) := by decide +kernel
theorem dX8_offset_48 : decode cX8_offset 48 = .ok (.ifCond .ne 13, 3) := by decide +kernel
theorem dX8_offset_51 : decode cX8_offset 51 = .ok (.aload_n 0, 1) := by decide +kernel
theorem dX8_offset_52 : decode cX8_offset 52 = .ok (.iload_n 1, 1) := by decide +kernel
theorem dX8_offset_53 : decode cX8_offset 53 = .ok (.putfield 74, 3) := by decide +kernel
theorem dX8_offset_56 : decode cX8_offset 56 = .ok (.aload_n 0, 1) := by decide +kernel
theorem dX8_offset_57 : decode cX8_offset 57 = .ok (.iload_n 2, 1) := by decide +kernel
theorem dX8_offset_58 : decode cX8_offset 58 = .ok (.putfield 77, 3) := by decide +kernel
theorem dX8_offset_61 : decode cX8_offset 61 = .ok (.return_, 1) := by decide +kernel
theorem dX8_adaptive_0 : decode cX8_adaptive 0 = .ok (.iload_n 2, 1) := by decide +kernel
theorem dX8_adaptive_1 : decode cX8_adaptive 1 = .ok (.bipush (-16), 2) := by decide +kernel
theorem dX8_adaptive_3 : decode cX8_adaptive 3 = .ok (.if_icmp .lt 56, 3) := by decide +kernel
theorem dX8_adaptive_6 : decode cX8_adaptive 6 = .ok (.iload_n 3, 1) := by decide +kernel
theorem dX8_adaptive_7 : decode cX8_adaptive 7 = .ok (.bipush (-16), 2) := by decide +kernel
theorem dX8_adaptive_9 : decode cX8_adaptive 9 = .ok (.if_icmp .lt 50, 3) := by decide +kernel
theorem dX8_adaptive_12 : decode cX8_adaptive 12 = .ok (.iload_n 1, 1) := by decide +kernel
theorem dX8_adaptive_13 : decode cX8_adaptive 13 = .ok (.ifCond .ne 25, 3) := by decide +kernel
theorem dX8_adaptive_16 : decode cX8_adaptive 16 = .ok (.iload_n 3, 1) := by decide +kernel
theorem dX8_adaptive_17 : decode cX8_adaptive 17 = .ok (.ifCond .ge 9, 3) := by decide +kernel
theorem dX8_adaptive_20 : decode cX8_adaptive 20 = .ok (.iload_n 2, 1) := by decide +kernel
theorem dX8_adaptive_21 : decode cX8_adaptive 21 = .ok (.bipush 15, 2) := by decide +kernel
theorem dX8_adaptive_23 : decode cX8_adaptive 23 = .ok (.if_icmp .le 32, 3) := by decide +kernel
theorem dX8_adaptive_26 : decode cX8_adaptive 26 = .ok (.iload_n 3, 1) := by decide +kernel
theorem dX8_adaptive_27 : decode cX8_adaptive 27 = .ok (.ifCond .ne 32, 3) := by decide +kernel
theorem dX8_adaptive_30 : decode cX8_adaptive 30 = .ok (.iload_n 2, 1) := by decide +kernel
theorem dX8_adaptive_31 : decode cX8_adaptive 31 = .ok (.iconst (-1), 1) := by decide +kernel
theorem dX8_adaptive_32 : decode cX8_adaptive 32 = .ok (.if_icmp .gt 27, 3) := by decide +kernel
theorem dX8_adaptive_35 : decode cX8_adaptive 35 = .ok (.goto 20, 3) := by decide +kernel
theorem dX8_adaptive_38 : decode cX8_adaptive 38 = .ok (.iload_n 1, 1) := by decide +kernel
theorem dX8_adaptive_39 : decode cX8_adaptive 39 = .ok (.iconst 1, 1) := by decide +kernel
theorem dX8_adaptive_40 : decode cX8_adaptive 40 = .ok (.if_icmp .ne 19, 3) := by decide +kernel
theorem dX8_adaptive_43 : decode cX8_adaptive 43 = .ok (.iload_n 2, 1) := by decide +kernel
theorem dX8_adaptive_44 : decode cX8_adaptive 44 = .ok (.bipush 15, 2) := by decide +kernel
theorem dX8_adaptive_46 : decode cX8_adaptive 46 = .ok (.if_icmp .gt 13, 3) := by decide +kernel
theorem dX8_adaptive_49 : decode cX8_adaptive 49 = .ok (.iload_n 3, 1) := by decide +kernel
theorem dX8_adaptive_50 : decode cX8_adaptive 50 = .ok (.bipush 15, 2) := by decide +kernel
theorem dX8_adaptive_52 : decode cX8_adaptive 52 = .ok (.if_icmp .gt 7, 3) := by decide +kernel
theorem dX8_adaptive_55 : decode cX8_adaptive 55 = .ok (.iconst 1, 1) := by decide +kernel
theorem dX8_adaptive_56 : decode cX8_adaptive 56 = .ok (.goto 4, 3) := by decide +kernel
theorem dX8_adaptive_59 : decode cX8_adaptive 59 = .ok (.iconst 0, 1) := by decide +kernel
theorem dX8_adaptive_60 : decode cX8_adaptive 60 = .ok (.istore 4, 2) := by decide +kernel
theorem dX8_adaptive_62 : decode cX8_adaptive 62 = .ok (.aload_n 0, 1) := by decide +kernel
theorem dX8_adaptive_63 : decode cX8_adaptive 63 = .ok (.iload 4, 2) := by decide +kernel
theorem dX8_adaptive_65 : decode cX8_adaptive 65 = .ok (.ifCond .eq 7, 3) := by decide +kernel
theorem dX8_adaptive_68 : decode cX8_adaptive 68 = .ok (.iconst 0, 1) := by decide +kernel
theorem dX8_adaptive_69 : decode cX8_adaptive 69 = .ok (.goto 4, 3) := by decide +kernel
theorem dX8_adaptive_72 : decode cX8_adaptive 72 = .ok (.iconst 1, 1) := by decide +kernel
theorem dX8_adaptive_73 : decode cX8_adaptive 73 = .ok (.putfield 48, 3) := by decide +kernel
theorem dX8_adaptive_76 : decode cX8_adaptive 76 = .ok (.aload_n 0, 1) := by decide +kernel
theorem dX8_adaptive_77 : decode cX8_adaptive 77 = .ok (.getfield 48, 3) := by decide +kernel
theorem dX8_adaptive_80 : decode cX8_adaptive 80 = .ok (.ifCond .le 4, 3) := by decide +kernel
theorem dX8_adaptive_83 : decode cX8_adaptive 83 = .ok (.return_, 1) := by decide +kernel
theorem dX8_adaptive_84 : decode cX8_adaptive 84 = .ok (.iload_n 1, 1) := by decide +kernel
theorem dX8_adaptive_85 : decode cX8_adaptive 85 = .ok (.ifCond .ne 16, 3) := by decide +kernel
theorem dX8_adaptive_88 : decode cX8_adaptive 88 = .ok (.aload_n 0, 1) := by decide +kernel
theorem dX8_adaptive_89 : decode cX8_adaptive 89 = .ok (.iload_n 2, 1) := by decide +kernel
theorem dX8_adaptive_90 : decode cX8_adaptive 90 = .ok (.putfield 30, 3) := by decide +kernel
theorem dX8_adaptive_93 : decode cX8_adaptive 93 = .ok (.aload_n 0, 1) := by decide +kernel
theorem dX8_adaptive_94 : decode cX8_adaptive 94 = .ok (.iload_n 3, 1) := by decide +kernel
theorem dX8_adaptive_95 : decode cX8_adaptive 95 = .ok (.putfield 33, 3) := by decide +kernel
theorem dX8_adaptive_98 : decode cX8_adaptive 98 = .ok (.goto 13, 3) := by decide +kernel
theorem dX8_adaptive_101 : decode cX8_adaptive 101 = .ok (.aload_n 0, 1) := by decide +kernel
theorem dX8_adaptive_102 : decode cX8_adaptive 102 = .ok (.iload_n 2, 1) := by decide +kernel
theorem dX8_adaptive_103 : decode cX8_adaptive 103 = .ok (.putfield 36, 3) := by decide +kernel
theorem dX8_adaptive_106 : decode cX8_adaptive 106 = .ok (.aload_n 0, 1) := by decide +kernel
theorem dX8_adaptive_107 : decode cX8_adaptive 107 = .ok (.iload_n 3, 1) := by decide +kernel
theorem dX8_adaptive_108 : decode cX8_adaptive 108 = .ok (.putfield 39, 3) := by decide +kernel
theorem dX8_adaptive_111 : decode cX8_adaptive 111 = .ok (.return_, 1) := by decide +kernel
theorem dX8_keep_0 : decode cX8_keep 0 = .ok (.aload_n 0, 1) := by decide +kernel
theorem dX8_keep_1 : decode cX8_keep 1 = .ok (.iconst 0, 1) := by decide +kernel
theorem dX8_keep_2 : decode cX8_keep 2 = .ok (.putfield 48, 3) := by decide +kernel
theorem dX8_keep_5 : decode cX8_keep 5 = .ok (.aload_n 0, 1) := by decide +kernel
theorem dX8_keep_6 : decode cX8_keep 6 = .ok (.iload_n 1, 1) := by decide +kernel
theorem dX8_keep_7 : decode cX8_keep 7 = .ok (.putfield 84, 3) := by decide +kernel
theorem dX8_keep_10 : decode cX8_keep 10 = .ok (.return_, 1) := by decide +kernel
set_option maxRecDepth 20000 in
theorem ggX8_pixel_X8_noPixel : GoodIn wsX8_pixel wsX8_noPixel := goodIn_r _ [8, 9, 10, 11, 12, 13, 14, 15, 16, 17, 18, 19, 20, 21, 22, 23, 24, 25, 26, 27, 28, 29, 30, 31, 32, 33, 34, 35, 36, 37, 38, 39, 40, 41] (by decide +kernel) (by decide +kernel)
set_option maxRecDepth 20000 in
theorem gX8_pixel_X8_noPixel : GoodIn wsX8_pixel (wsV RX8 61 RX8 yX8_noPixel wsX8_noPixel) := goodIn_app (goodIn_of _ (by decide +kernel)) ggX8_pixel_X8_noPixel
theorem dX8_pixel_0 : decode cX8_pixel 0 = .ok (.aload_n 0, 1) := by decide +kernel
theorem dX8_pixel_1 : decode cX8_pixel 1 = .ok (.iload_n 1, 1) := by decide +kernel
theorem dX8_pixel_2 : decode cX8_pixel 2 = .ok (.iload_n 2, 1) := by decide +kernel
theorem dX8_pixel_3 : decode cX8_pixel 3 = .ok (.invokevirtual 61, 3) := by decide +kernel
theorem dX8_pixel_6 : decode cX8_pixel 6 = .ok (.ifCond .eq 5, 3) := by decide +kernel
theorem dX8_pixel_9 : decode cX8_pixel 9 = .ok (.iconst 0, 1) := by decide +kernel
theorem dX8_pixel_10 : decode cX8_pixel 10 = .ok (.ireturn, 1) := by decide +kernel
theorem dX8_pixel_11 : decode cX8_pixel 11 = .ok (.aload_n 0, 1) := by decide +kernel
theorem dX8_pixel_12 : decode cX8_pixel 12 = .ok (.getfield 87, 3) := by decide +kernel
theorem dX8_pixel_15 : decode cX8_pixel 15 = .ok (.ifCond .eq 20, 3) := by decide +kernel
theorem dX8_pixel_18 : decode cX8_pixel 18 = .ok (.aload_n 0, 1) := by decide +kernel
theorem dX8_pixel_19 : decode cX8_pixel 19 = .ok (.getfield 24, 3) := by decide +kernel
theorem dX8_pixel_22 : decode cX8_pixel 22 = .ok (.bipush 40, 2) := by decide +kernel
theorem dX8_pixel_24 : decode cX8_pixel 24 = .ok (.iload_n 2, 1) := by decide +kernel
theorem dX8_pixel_25 : decode cX8_pixel 25 = .ok (.imul, 1) := by decide +kernel
theorem dX8_pixel_26 : decode cX8_pixel 26 = .ok (.iload_n 1, 1) := by decide +kernel
theorem dX8_pixel_27 : decode cX8_pixel 27 = .ok (.iadd, 1) := by decide +kernel
theorem dX8_pixel_28 : decode cX8_pixel 28 = .ok (.baload, 1) := by decide +kernel
theorem dX8_pixel_29 : decode cX8_pixel 29 = .ok (.ifCond .eq 24, 3) := by decide +kernel
theorem dX8_pixel_32 : decode cX8_pixel 32 = .ok (.goto 17, 3) := by decide +kernel
theorem dX8_pixel_35 : decode cX8_pixel 35 = .ok (.aload_n 0, 1) := by decide +kernel
theorem dX8_pixel_36 : decode cX8_pixel 36 = .ok (.getfield 20, 3) := by decide +kernel
theorem dX8_pixel_39 : decode cX8_pixel 39 = .ok (.bipush 40, 2) := by decide +kernel
theorem dX8_pixel_41 : decode cX8_pixel 41 = .ok (.iload_n 2, 1) := by decide +kernel
theorem dX8_pixel_42 : decode cX8_pixel 42 = .ok (.imul, 1) := by decide +kernel
theorem dX8_pixel_43 : decode cX8_pixel 43 = .ok (.iload_n 1, 1) := by decide +kernel
theorem dX8_pixel_44 : decode cX8_pixel 44 = .ok (.iadd, 1) := by decide +kernel
theorem dX8_pixel_45 : decode cX8_pixel 45 = .ok (.baload, 1) := by decide +kernel
theorem dX8_pixel_46 : decode cX8_pixel 46 = .ok (.ifCond .eq 7, 3) := by decide +kernel
theorem dX8_pixel_49 : decode cX8_pixel 49 = .ok (.iconst 1, 1) := by decide +kernel
theorem dX8_pixel_50 : decode cX8_pixel 50 = .ok (.goto 4, 3) := by decide +kernel
theorem dX8_pixel_53 : decode cX8_pixel 53 = .ok (.iconst 0, 1) := by decide +kernel
theorem dX8_pixel_54 : decode cX8_pixel 54 = .ok (.ireturn, 1) := by decide +kernel
theorem dX8_referred_0 : decode cX8_referred 0 = .ok (.iload_n 1, 1) := by decide +kernel
theorem dX8_referred_1 : decode cX8_referred 1 = .ok (.aload_n 0, 1) := by decide +kernel
theorem dX8_referred_2 : decode cX8_referred 2 = .ok (.getfield 74, 3) := by decide +kernel
theorem dX8_referred_5 : decode cX8_referred 5 = .ok (.isub, 1) := by decide +kernel
theorem dX8_referred_6 : decode cX8_referred 6 = .ok (.istore_n 3, 1) := by decide +kernel
theorem dX8_referred_7 : decode cX8_referred 7 = .ok (.iload_n 2, 1) := by decide +kernel
theorem dX8_referred_8 : decode cX8_referred 8 = .ok (.aload_n 0, 1) := by decide +kernel
theorem dX8_referred_9 : decode cX8_referred 9 = .ok (.getfield 77, 3) := by decide +kernel
theorem dX8_referred_12 : decode cX8_referred 12 = .ok (.isub, 1) := by decide +kernel
theorem dX8_referred_13 : decode cX8_referred 13 = .ok (.istore 4, 2) := by decide +kernel
theorem dX8_referred_15 : decode cX8_referred 15 = .ok (.iload_n 3, 1) := by decide +kernel
theorem dX8_referred_16 : decode cX8_referred 16 = .ok (.ifCond .lt 25, 3) := by decide +kernel
theorem dX8_referred_19 : decode cX8_referred 19 = .ok (.iload 4, 2) := by decide +kernel
theorem dX8_referred_21 : decode cX8_referred 21 = .ok (.ifCond .lt 20, 3) := by decide +kernel
theorem dX8_referred_24 : decode cX8_referred 24 = .ok (.iload_n 3, 1) := by decide +kernel
theorem dX8_referred_25 : decode cX8_referred 25 = .ok (.aload_n 0, 1) := by decide +kernel
theorem dX8_referred_26 : decode cX8_referred 26 = .ok (.getfield 68, 3) := by decide +kernel
theorem dX8_referred_29 : decode cX8_referred 29 = .ok (.if_icmp .ge 12, 3) := by decide +kernel
theorem dX8_referred_32 : decode cX8_referred 32 = .ok (.iload 4, 2) := by decide +kernel
theorem dX8_referred_34 : decode cX8_referred 34 = .ok (.aload_n 0, 1) := by decide +kernel
theorem dX8_referred_35 : decode cX8_referred 35 = .ok (.getfield 71, 3) := by decide +kernel
theorem dX8_referred_38 : decode cX8_referred 38 = .ok (.if_icmp .lt 7, 3) := by decide +kernel
theorem dX8_referred_41 : decode cX8_referred 41 = .ok (.iconst 0, 1) := by decide +kernel
theorem dX8_referred_42 : decode cX8_referred 42 = .ok (.goto 23, 3) := by decide +kernel
theorem dX8_referred_45 : decode cX8_referred 45 = .ok (.aload_n 0, 1) := by decide +kernel
theorem dX8_referred_46 : decode cX8_referred 46 = .ok (.getfield 27, 3) := by decide +kernel
theorem dX8_referred_49 : decode cX8_referred 49 = .ok (.bipush 60, 2) := by decide +kernel
theorem dX8_referred_51 : decode cX8_referred 51 = .ok (.iload 4, 2) := by decide +kernel
theorem dX8_referred_53 : decode cX8_referred 53 = .ok (.imul, 1) := by decide +kernel
theorem dX8_referred_54 : decode cX8_referred 54 = .ok (.iload_n 3, 1) := by decide +kernel
theorem dX8_referred_55 : decode cX8_referred 55 = .ok (.iadd, 1) := by decide +kernel
theorem dX8_referred_56 : decode cX8_referred 56 = .ok (.baload, 1) := by decide +kernel
theorem dX8_referred_57 : decode cX8_referred 57 = .ok (.ifCond .eq 7, 3) := by decide +kernel
theorem dX8_referred_60 : decode cX8_referred 60 = .ok (.iconst 1, 1) := by decide +kernel
