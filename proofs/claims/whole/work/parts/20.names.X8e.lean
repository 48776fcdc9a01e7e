set_option maxRecDepth 20000 in
theorem gX8_renewWriting_X8_byteOut : GoodIn wsX8_renewWriting (wsV RX8 129 RX8 yX8_byteOut wsX8_byteOut) := goodIn_app (goodIn_of _ (by decide +kernel)) ggX8_renewWriting_X8_byteOut
theorem dX8_renewWriting_0 : decode cX8_renewWriting 0 = .ok (.iconst 1, 1) := by decide +kernel
theorem dX8_renewWriting_1 : decode cX8_renewWriting 1 = .ok (.istore_n 1, 1) := by decide +kernel
theorem dX8_renewWriting_2 : decode cX8_renewWriting 2 = .ok (.iload_n 1, 1) := by decide +kernel
theorem dX8_renewWriting_3 : decode cX8_renewWriting 3 = .ok (.ifCond .eq 68, 3) := by decide +kernel
theorem dX8_renewWriting_6 : decode cX8_renewWriting 6 = .ok (.aload_n 0, 1) := by decide +kernel
theorem dX8_renewWriting_7 : decode cX8_renewWriting 7 = .ok (.ldc2_w 124, 3) := by decide +kernel
theorem dX8_renewWriting_10 : decode cX8_renewWriting 10 = .ok (.aload_n 0, 1) := by decide +kernel
theorem dX8_renewWriting_11 : decode cX8_renewWriting 11 = .ok (.getfield 126, 3) := by decide +kernel
theorem dX8_renewWriting_14 : decode cX8_renewWriting 14 = .ok (.lmul, 1) := by decide +kernel
theorem dX8_renewWriting_15 : decode cX8_renewWriting 15 = .ok (.putfield 126, 3) := by decide +kernel
theorem dX8_renewWriting_18 : decode cX8_renewWriting 18 = .ok (.aload_n 0, 1) := by decide +kernel
theorem dX8_renewWriting_19 : decode cX8_renewWriting 19 = .ok (.ldc2_w 124, 3) := by decide +kernel
theorem dX8_renewWriting_22 : decode cX8_renewWriting 22 = .ok (.aload_n 0, 1) := by decide +kernel
theorem dX8_renewWriting_23 : decode cX8_renewWriting 23 = .ok (.getfield 107, 3) := by decide +kernel
theorem dX8_renewWriting_26 : decode cX8_renewWriting 26 = .ok (.lmul, 1) := by decide +kernel
theorem dX8_renewWriting_27 : decode cX8_renewWriting 27 = .ok (.putfield 107, 3) := by decide +kernel
theorem dX8_renewWriting_30 : decode cX8_renewWriting 30 = .ok (.aload_n 0, 1) := by decide +kernel
theorem dX8_renewWriting_31 : decode cX8_renewWriting 31 = .ok (.dup, 1) := by decide +kernel
theorem dX8_renewWriting_32 : decode cX8_renewWriting 32 = .ok (.getfield 119, 3) := by decide +kernel
theorem dX8_renewWriting_35 : decode cX8_renewWriting 35 = .ok (.iconst 1, 1) := by decide +kernel
theorem dX8_renewWriting_36 : decode cX8_renewWriting 36 = .ok (.isub, 1) := by decide +kernel
theorem dX8_renewWriting_37 : decode cX8_renewWriting 37 = .ok (.putfield 119, 3) := by decide +kernel
theorem dX8_renewWriting_40 : decode cX8_renewWriting 40 = .ok (.aload_n 0, 1) := by decide +kernel
theorem dX8_renewWriting_41 : decode cX8_renewWriting 41 = .ok (.getfield 119, 3) := by decide +kernel
theorem dX8_renewWriting_44 : decode cX8_renewWriting 44 = .ok (.ifCond .ne 7, 3) := by decide +kernel
theorem dX8_renewWriting_47 : decode cX8_renewWriting 47 = .ok (.aload_n 0, 1) := by decide +kernel
theorem dX8_renewWriting_48 : decode cX8_renewWriting 48 = .ok (.invokevirtual 129, 3) := by decide +kernel
theorem dX8_renewWriting_51 : decode cX8_renewWriting 51 = .ok (.aload_n 0, 1) := by decide +kernel
theorem dX8_renewWriting_52 : decode cX8_renewWriting 52 = .ok (.getfield 126, 3) := by decide +kernel
theorem dX8_renewWriting_55 : decode cX8_renewWriting 55 = .ok (.ldc2_w 132, 3) := by decide +kernel
theorem dX8_renewWriting_58 : decode cX8_renewWriting 58 = .ok (.lcmp, 1) := by decide +kernel
theorem dX8_renewWriting_59 : decode cX8_renewWriting 59 = .ok (.ifCond .ge 7, 3) := by decide +kernel
theorem dX8_renewWriting_62 : decode cX8_renewWriting 62 = .ok (.iconst 1, 1) := by decide +kernel
theorem dX8_renewWriting_63 : decode cX8_renewWriting 63 = .ok (.goto 4, 3) := by decide +kernel
theorem dX8_renewWriting_66 : decode cX8_renewWriting 66 = .ok (.iconst 0, 1) := by decide +kernel
theorem dX8_renewWriting_67 : decode cX8_renewWriting 67 = .ok (.istore_n 1, 1) := by decide +kernel
theorem dX8_renewWriting_68 : decode cX8_renewWriting 68 = .ok (.goto (-66), 3) := by decide +kernel
theorem dX8_renewWriting_71 : decode cX8_renewWriting 71 = .ok (.return_, 1) := by decide +kernel
theorem dX8_step_0 : decode cX8_step 0 = .ok (.aload_n 0, 1) := by decide +kernel
theorem dX8_step_1 : decode cX8_step 1 = .ok (.getfield 42, 3) := by decide +kernel
theorem dX8_step_4 : decode cX8_step 4 = .ok (.iload_n 1, 1) := by decide +kernel
theorem dX8_step_5 : decode cX8_step 5 = .ok (.iaload, 1) := by decide +kernel
theorem dX8_step_6 : decode cX8_step 6 = .ok (.iconst 1, 1) := by decide +kernel
theorem dX8_step_7 : decode cX8_step 7 = .ok (.ishr, 1) := by decide +kernel
theorem dX8_step_8 : decode cX8_step 8 = .ok (.istore_n 3, 1) := by decide +kernel
theorem dX8_step_9 : decode cX8_step 9 = .ok (.aload_n 0, 1) := by decide +kernel
theorem dX8_step_10 : decode cX8_step 10 = .ok (.getfield 42, 3) := by decide +kernel
theorem dX8_step_13 : decode cX8_step 13 = .ok (.iload_n 1, 1) := by decide +kernel
theorem dX8_step_14 : decode cX8_step 14 = .ok (.iaload, 1) := by decide +kernel
theorem dX8_step_15 : decode cX8_step 15 = .ok (.iconst 1, 1) := by decide +kernel
theorem dX8_step_16 : decode cX8_step 16 = .ok (.iand, 1) := by decide +kernel
theorem dX8_step_17 : decode cX8_step 17 = .ok (.istore 4, 2) := by decide +kernel
theorem dX8_step_19 : decode cX8_step 19 = .ok (.iload_n 2, 1) := by decide +kernel
theorem dX8_step_20 : decode cX8_step 20 = .ok (.ifCond .eq 27, 3) := by decide +kernel
theorem dX8_step_23 : decode cX8_step 23 = .ok (.aload_n 0, 1) := by decide +kernel
theorem dX8_step_24 : decode cX8_step 24 = .ok (.getfield 42, 3) := by decide +kernel
theorem dX8_step_27 : decode cX8_step 27 = .ok (.iload_n 1, 1) := by decide +kernel
theorem dX8_step_28 : decode cX8_step 28 = .ok (.aload_n 0, 1) := by decide +kernel
theorem dX8_step_29 : decode cX8_step 29 = .ok (.getfield 7, 3) := by decide +kernel
theorem dX8_step_32 : decode cX8_step 32 = .ok (.iconst 4, 1) := by decide +kernel
theorem dX8_step_33 : decode cX8_step 33 = .ok (.iload_n 3, 1) := by decide +kernel
theorem dX8_step_34 : decode cX8_step 34 = .ok (.imul, 1) := by decide +kernel
theorem dX8_step_35 : decode cX8_step 35 = .ok (.iconst 1, 1) := by decide +kernel
theorem dX8_step_36 : decode cX8_step 36 = .ok (.iadd, 1) := by decide +kernel
theorem dX8_step_37 : decode cX8_step 37 = .ok (.iaload, 1) := by decide +kernel
theorem dX8_step_38 : decode cX8_step 38 = .ok (.iconst 1, 1) := by decide +kernel
theorem dX8_step_39 : decode cX8_step 39 = .ok (.ishl, 1) := by decide +kernel
theorem dX8_step_40 : decode cX8_step 40 = .ok (.iload 4, 2) := by decide +kernel
theorem dX8_step_42 : decode cX8_step 42 = .ok (.ior, 1) := by decide +kernel
theorem dX8_step_43 : decode cX8_step 43 = .ok (.iastore, 1) := by decide +kernel
theorem dX8_step_44 : decode cX8_step 44 = .ok (.goto 45, 3) := by decide +kernel
theorem dX8_step_47 : decode cX8_step 47 = .ok (.aload_n 0, 1) := by decide +kernel
theorem dX8_step_48 : decode cX8_step 48 = .ok (.getfield 42, 3) := by decide +kernel
theorem dX8_step_51 : decode cX8_step 51 = .ok (.iload_n 1, 1) := by decide +kernel
theorem dX8_step_52 : decode cX8_step 52 = .ok (.aload_n 0, 1) := by decide +kernel
theorem dX8_step_53 : decode cX8_step 53 = .ok (.getfield 7, 3) := by decide +kernel
theorem dX8_step_56 : decode cX8_step 56 = .ok (.iconst 4, 1) := by decide +kernel
theorem dX8_step_57 : decode cX8_step 57 = .ok (.iload_n 3, 1) := by decide +kernel
theorem dX8_step_58 : decode cX8_step 58 = .ok (.imul, 1) := by decide +kernel
theorem dX8_step_59 : decode cX8_step 59 = .ok (.iconst 2, 1) := by decide +kernel
theorem dX8_step_60 : decode cX8_step 60 = .ok (.iadd, 1) := by decide +kernel
theorem dX8_step_61 : decode cX8_step 61 = .ok (.iaload, 1) := by decide +kernel
theorem dX8_step_62 : decode cX8_step 62 = .ok (.iconst 1, 1) := by decide +kernel
theorem dX8_step_63 : decode cX8_step 63 = .ok (.ishl, 1) := by decide +kernel
theorem dX8_step_64 : decode cX8_step 64 = .ok (.aload_n 0, 1) := by decide +kernel
theorem dX8_step_65 : decode cX8_step 65 = .ok (.getfield 7, 3) := by decide +kernel
theorem dX8_step_68 : decode cX8_step 68 = .ok (.iconst 4, 1) := by decide +kernel
theorem dX8_step_69 : decode cX8_step 69 = .ok (.iload_n 3, 1) := by decide +kernel
theorem dX8_step_70 : decode cX8_step 70 = .ok (.imul, 1) := by decide +kernel
theorem dX8_step_71 : decode cX8_step 71 = .ok (.iconst 3, 1) := by decide +kernel
theorem dX8_step_72 : decode cX8_step 72 = .ok (.iadd, 1) := by decide +kernel
theorem dX8_step_73 : decode cX8_step 73 = .ok (.iaload, 1) := by decide +kernel
theorem dX8_step_74 : decode cX8_step 74 = .ok (.iconst 1, 1) := by decide +kernel
theorem dX8_step_75 : decode cX8_step 75 = .ok (.if_icmp .ne 10, 3) := by decide +kernel
theorem dX8_step_78 : decode cX8_step 78 = .ok (.iconst 1, 1) := by decide +kernel
theorem dX8_step_79 : decode cX8_step 79 = .ok (.iload 4, 2) := by decide +kernel
theorem dX8_step_81 : decode cX8_step 81 = .ok (.isub, 1) := by decide +kernel
theorem dX8_step_82 : decode cX8_step 82 = .ok (.goto 5, 3) := by decide +kernel
theorem dX8_step_85 : decode cX8_step 85 = .ok (.iload 4, 2) := by decide +kernel
theorem dX8_step_87 : decode cX8_step 87 = .ok (.ior, 1) := by decide +kernel
theorem dX8_step_88 : decode cX8_step 88 = .ok (.iastore, 1) := by decide +kernel
theorem dX8_step_89 : decode cX8_step 89 = .ok (.return_, 1) := by decide +kernel
set_option maxRecDepth 20000 in
theorem ggX8_write_X8_step : GoodIn wsX8_write wsX8_step := goodIn_r _ [11, 3, 2, 35, 36, 37, 38, 39, 40, 41, 42, 43, 44, 45, 46, 47, 48, 49, 50, 51, 52, 53, 54, 55, 56, 57, 58, 59, 60, 61, 62, 63, 64, 65] (by decide +kernel) (by decide +kernel)
set_option maxRecDepth 20000 in
theorem gX8_write_X8_step : GoodIn wsX8_write (wsV RX8 137 RX8 yX8_step wsX8_step) := goodIn_app (goodIn_of _ (by decide +kernel)) ggX8_write_X8_step
set_option maxRecDepth 20000 in
theorem ggX8_write_X8_renewWriting : GoodIn wsX8_write wsX8_renewWriting := goodIn_r _ [15, 16, 4, 6, 17, 5, 18, 19, 20, 10, 21, 22, 23, 24, 25, 26, 27, 28, 29, 30, 31, 32, 33, 34, 35, 36, 37, 38, 39, 40, 41, 42, 43, 44, 45, 46, 47, 48, 49, 50, 51, 52, 53, 54, 55, 56, 57, 58, 59, 60, 61, 62, 63, 64, 65] (by decide +kernel) (by decide +kernel)
set_option maxRecDepth 20000 in
theorem gX8_write_X8_renewWriting : GoodIn wsX8_write (wsV RX8 141 RX8 yX8_renewWriting wsX8_renewWriting) := goodIn_app (goodIn_of _ (by decide +kernel)) ggX8_write_X8_renewWriting
theorem dX8_write_0 : decode cX8_write 0 = .ok (.aload_n 0, 1) := by decide +kernel
theorem dX8_write_1 : decode cX8_write 1 = .ok (.dup, 1) := by decide +kernel
theorem dX8_write_2 : decode cX8_write 2 = .ok (.getfield 134, 3) := by decide +kernel
theorem dX8_write_5 : decode cX8_write 5 = .ok (.iconst 1, 1) := by decide +kernel
theorem dX8_write_6 : decode cX8_write 6 = .ok (.iadd, 1) := by decide +kernel
theorem dX8_write_7 : decode cX8_write 7 = .ok (.putfield 134, 3) := by decide +kernel
theorem dX8_write_10 : decode cX8_write 10 = .ok (.aload_n 0, 1) := by decide +kernel
theorem dX8_write_11 : decode cX8_write 11 = .ok (.getfield 7, 3) := by decide +kernel
theorem dX8_write_14 : decode cX8_write 14 = .ok (.iconst 4, 1) := by decide +kernel
theorem dX8_write_15 : decode cX8_write 15 = .ok (.aload_n 0, 1) := by decide +kernel
theorem dX8_write_16 : decode cX8_write 16 = .ok (.getfield 42, 3) := by decide +kernel
theorem dX8_write_19 : decode cX8_write 19 = .ok (.iload_n 1, 1) := by decide +kernel
theorem dX8_write_20 : decode cX8_write 20 = .ok (.iaload, 1) := by decide +kernel
theorem dX8_write_21 : decode cX8_write 21 = .ok (.iconst 1, 1) := by decide +kernel
theorem dX8_write_22 : decode cX8_write 22 = .ok (.ishr, 1) := by decide +kernel
theorem dX8_write_23 : decode cX8_write 23 = .ok (.imul, 1) := by decide +kernel
theorem dX8_write_24 : decode cX8_write 24 = .ok (.iaload, 1) := by decide +kernel
theorem dX8_write_25 : decode cX8_write 25 = .ok (.istore_n 3, 1) := by decide +kernel
theorem dX8_write_26 : decode cX8_write 26 = .ok (.iload_n 2, 1) := by decide +kernel
theorem dX8_write_27 : decode cX8_write 27 = .ok (.aload_n 0, 1) := by decide +kernel
theorem dX8_write_28 : decode cX8_write 28 = .ok (.getfield 42, 3) := by decide +kernel
theorem dX8_write_31 : decode cX8_write 31 = .ok (.iload_n 1, 1) := by decide +kernel
theorem dX8_write_32 : decode cX8_write 32 = .ok (.iaload, 1) := by decide +kernel
theorem dX8_write_33 : decode cX8_write 33 = .ok (.iconst 1, 1) := by decide +kernel
theorem dX8_write_34 : decode cX8_write 34 = .ok (.iand, 1) := by decide +kernel
theorem dX8_write_35 : decode cX8_write 35 = .ok (.if_icmp .ne 7, 3) := by decide +kernel
theorem dX8_write_38 : decode cX8_write 38 = .ok (.iconst 1, 1) := by decide +kernel
theorem dX8_write_39 : decode cX8_write 39 = .ok (.goto 4, 3) := by decide +kernel
theorem dX8_write_42 : decode cX8_write 42 = .ok (.iconst 0, 1) := by decide +kernel
theorem dX8_write_43 : decode cX8_write 43 = .ok (.istore 4, 2) := by decide +kernel
theorem dX8_write_45 : decode cX8_write 45 = .ok (.aload_n 0, 1) := by decide +kernel
theorem dX8_write_46 : decode cX8_write 46 = .ok (.aload_n 0, 1) := by decide +kernel
theorem dX8_write_47 : decode cX8_write 47 = .ok (.getfield 126, 3) := by decide +kernel
theorem dX8_write_50 : decode cX8_write 50 = .ok (.iload_n 3, 1) := by decide +kernel
theorem dX8_write_51 : decode cX8_write 51 = .ok (.i2l, 1) := by decide +kernel
theorem dX8_write_52 : decode cX8_write 52 = .ok (.lsub, 1) := by decide +kernel
theorem dX8_write_53 : decode cX8_write 53 = .ok (.putfield 126, 3) := by decide +kernel
theorem dX8_write_56 : decode cX8_write 56 = .ok (.iload 4, 2) := by decide +kernel
theorem dX8_write_58 : decode cX8_write 58 = .ok (.ifCond .eq 26, 3) := by decide +kernel
theorem dX8_write_61 : decode cX8_write 61 = .ok (.aload_n 0, 1) := by decide +kernel
theorem dX8_write_62 : decode cX8_write 62 = .ok (.getfield 126, 3) := by decide +kernel
theorem dX8_write_65 : decode cX8_write 65 = .ok (.ldc2_w 132, 3) := by decide +kernel
theorem dX8_write_68 : decode cX8_write 68 = .ok (.lcmp, 1) := by decide +kernel
theorem dX8_write_69 : decode cX8_write 69 = .ok (.ifCond .lt 15, 3) := by decide +kernel
theorem dX8_write_72 : decode cX8_write 72 = .ok (.aload_n 0, 1) := by decide +kernel
theorem dX8_write_73 : decode cX8_write 73 = .ok (.aload_n 0, 1) := by decide +kernel
theorem dX8_write_74 : decode cX8_write 74 = .ok (.getfield 107, 3) := by decide +kernel
theorem dX8_write_77 : decode cX8_write 77 = .ok (.iload_n 3, 1) := by decide +kernel
theorem dX8_write_78 : decode cX8_write 78 = .ok (.i2l, 1) := by decide +kernel
theorem dX8_write_79 : decode cX8_write 79 = .ok (.ladd, 1) := by decide +kernel
theorem dX8_write_80 : decode cX8_write 80 = .ok (.putfield 107, 3) := by decide +kernel
theorem dX8_write_83 : decode cX8_write 83 = .ok (.return_, 1) := by decide +kernel
theorem dX8_write_84 : decode cX8_write 84 = .ok (.aload_n 0, 1) := by decide +kernel
theorem dX8_write_85 : decode cX8_write 85 = .ok (.getfield 126, 3) := by decide +kernel
theorem dX8_write_88 : decode cX8_write 88 = .ok (.iload_n 3, 1) := by decide +kernel
theorem dX8_write_89 : decode cX8_write 89 = .ok (.i2l, 1) := by decide +kernel
theorem dX8_write_90 : decode cX8_write 90 = .ok (.lcmp, 1) := by decide +kernel
theorem dX8_write_91 : decode cX8_write 91 = .ok (.ifCond .ge 7, 3) := by decide +kernel
theorem dX8_write_94 : decode cX8_write 94 = .ok (.iconst 1, 1) := by decide +kernel
theorem dX8_write_95 : decode cX8_write 95 = .ok (.goto 4, 3) := by decide +kernel
theorem dX8_write_98 : decode cX8_write 98 = .ok (.iconst 0, 1) := by decide +kernel
theorem dX8_write_99 : decode cX8_write 99 = .ok (.istore 5, 2) := by decide +kernel
theorem dX8_write_101 : decode cX8_write 101 = .ok (.iload 4, 2) := by decide +kernel
theorem dX8_write_103 : decode cX8_write 103 = .ok (.iload 5, 2) := by decide +kernel
theorem dX8_write_105 : decode cX8_write 105 = .ok (.if_icmp .ne 12, 3) := by decide +kernel
theorem dX8_write_108 : decode cX8_write 108 = .ok (.aload_n 0, 1) := by decide +kernel
theorem dX8_write_109 : decode cX8_write 109 = .ok (.iload_n 3, 1) := by decide +kernel
theorem dX8_write_110 : decode cX8_write 110 = .ok (.i2l, 1) := by decide +kernel
theorem dX8_write_111 : decode cX8_write 111 = .ok (.putfield 126, 3) := by decide +kernel
theorem dX8_write_114 : decode cX8_write 114 = .ok (.goto 14, 3) := by decide +kernel
theorem dX8_write_117 : decode cX8_write 117 = .ok (.aload_n 0, 1) := by decide +kernel
theorem dX8_write_118 : decode cX8_write 118 = .ok (.aload_n 0, 1) := by decide +kernel
theorem dX8_write_119 : decode cX8_write 119 = .ok (.getfield 107, 3) := by decide +kernel
theorem dX8_write_122 : decode cX8_write 122 = .ok (.iload_n 3, 1) := by decide +kernel
theorem dX8_write_123 : decode cX8_write 123 = .ok (.i2l, 1) := by decide +kernel
theorem dX8_write_124 : decode cX8_write 124 = .ok (.ladd, 1) := by decide +kernel
theorem dX8_write_125 : decode cX8_write 125 = .ok (.putfield 107, 3) := by decide +kernel
theorem dX8_write_128 : decode cX8_write 128 = .ok (.aload_n 0, 1) := by decide +kernel
theorem dX8_write_129 : decode cX8_write 129 = .ok (.iload_n 1, 1) := by decide +kernel
theorem dX8_write_130 : decode cX8_write 130 = .ok (.iload 4, 2) := by decide +kernel
theorem dX8_write_132 : decode cX8_write 132 = .ok (.invokevirtual 137, 3) := by decide +kernel
theorem dX8_write_135 : decode cX8_write 135 = .ok (.aload_n 0, 1) := by decide +kernel
theorem dX8_write_136 : decode cX8_write 136 = .ok (.invokevirtual 141, 3) := by decide +kernel
theorem dX8_write_139 : decode cX8_write 139 = .ok (.return_, 1) := by decide +kernel
set_option maxRecDepth 20000 in
theorem ggX8_endWriting_X8_byteOut : GoodIn wsX8_endWriting wsX8_byteOut := goodIn_r _ [12, 1, 13, 14, 15, 16, 5, 17, 18, 19, 20, 11, 21, 22, 23, 24, 25, 26, 27, 28, 29, 30, 31, 32, 33, 34, 35, 36, 37, 38, 39, 40, 41, 42, 43, 44, 45, 46, 47, 48, 49, 50, 51, 52, 53, 54, 55, 56] (by decide +kernel) (by decide +kernel)
set_option maxRecDepth 20000 in
theorem gX8_endWriting_X8_byteOut : GoodIn wsX8_endWriting (wsV RX8 129 RX8 yX8_byteOut wsX8_byteOut) := goodIn_app (goodIn_of _ (by decide +kernel)) ggX8_endWriting_X8_byteOut
set_option maxRecDepth 20000 in
theorem ggX8_endWriting_X8_last : GoodIn wsX8_endWriting wsX8_last := goodIn_r _ [21, 15, 14, 26, 27, 28, 29, 30, 31, 32, 33, 34, 35, 36, 37, 38, 39, 40, 41, 42, 43, 44, 45, 46, 47, 48, 49, 50, 51, 52, 53, 54, 55, 56] (by decide +kernel) (by decide +kernel)
set_option maxRecDepth 20000 in
theorem gX8_endWriting_X8_last : GoodIn wsX8_endWriting (wsV RX8 103 RX8 yX8_last wsX8_last) := goodIn_app (goodIn_of _ (by decide +kernel)) ggX8_endWriting_X8_last
set_option maxRecDepth 20000 in
theorem ggX8_endWriting_X8_out : GoodIn wsX8_endWriting wsX8_out := goodIn_r _ [25, 14, 15, 26, 27, 28, 29, 30, 31, 32, 33, 34, 35, 36, 37, 38, 39, 40, 41, 42, 43, 44, 45, 46, 47, 48, 49, 50, 51, 52, 53, 54, 55, 56] (by decide +kernel) (by decide +kernel)
set_option maxRecDepth 20000 in
theorem gX8_endWriting_X8_out : GoodIn wsX8_endWriting (wsV RX8 113 RX8 yX8_out wsX8_out) := goodIn_app (goodIn_of _ (by decide +kernel)) ggX8_endWriting_X8_out
theorem dX8_endWriting_0 : decode cX8_endWriting 0 = .ok (.aload_n 0, 1) := by decide +kernel
theorem dX8_endWriting_1 : decode cX8_endWriting 1 = .ok (.getfield 107, 3) := by decide +kernel
theorem dX8_endWriting_4 : decode cX8_endWriting 4 = .ok (.aload_n 0, 1) := by decide +kernel
theorem dX8_endWriting_5 : decode cX8_endWriting 5 = .ok (.getfield 126, 3) := by decide +kernel
theorem dX8_endWriting_8 : decode cX8_endWriting 8 = .ok (.ladd, 1) := by decide +kernel
theorem dX8_endWriting_9 : decode cX8_endWriting 9 = .ok (.lstore_n 1, 1) := by decide +kernel
theorem dX8_endWriting_10 : decode cX8_endWriting 10 = .ok (.aload_n 0, 1) := by decide +kernel
theorem dX8_endWriting_11 : decode cX8_endWriting 11 = .ok (.aload_n 0, 1) := by decide +kernel
theorem dX8_endWriting_12 : decode cX8_endWriting 12 = .ok (.getfield 107, 3) := by decide +kernel
theorem dX8_endWriting_15 : decode cX8_endWriting 15 = .ok (.ldc2_w 144, 3) := by decide +kernel
theorem dX8_endWriting_18 : decode cX8_endWriting 18 = .ok (.lor, 1) := by decide +kernel
theorem dX8_endWriting_19 : decode cX8_endWriting 19 = .ok (.putfield 107, 3) := by decide +kernel
theorem dX8_endWriting_22 : decode cX8_endWriting 22 = .ok (.aload_n 0, 1) := by decide +kernel
theorem dX8_endWriting_23 : decode cX8_endWriting 23 = .ok (.aload_n 0, 1) := by decide +kernel
theorem dX8_endWriting_24 : decode cX8_endWriting 24 = .ok (.getfield 107, 3) := by decide +kernel
theorem dX8_endWriting_27 : decode cX8_endWriting 27 = .ok (.lload_n 1, 1) := by decide +kernel
theorem dX8_endWriting_28 : decode cX8_endWriting 28 = .ok (.lcmp, 1) := by decide +kernel
theorem dX8_endWriting_29 : decode cX8_endWriting 29 = .ok (.ifCond .lt 14, 3) := by decide +kernel
theorem dX8_endWriting_32 : decode cX8_endWriting 32 = .ok (.aload_n 0, 1) := by decide +kernel
theorem dX8_endWriting_33 : decode cX8_endWriting 33 = .ok (.getfield 107, 3) := by decide +kernel
theorem dX8_endWriting_36 : decode cX8_endWriting 36 = .ok (.ldc2_w 132, 3) := by decide +kernel
theorem dX8_endWriting_39 : decode cX8_endWriting 39 = .ok (.lsub, 1) := by decide +kernel
theorem dX8_endWriting_40 : decode cX8_endWriting 40 = .ok (.goto 7, 3) := by decide +kernel
theorem dX8_endWriting_43 : decode cX8_endWriting 43 = .ok (.aload_n 0, 1) := by decide +kernel
theorem dX8_endWriting_44 : decode cX8_endWriting 44 = .ok (.getfield 107, 3) := by decide +kernel
theorem dX8_endWriting_47 : decode cX8_endWriting 47 = .ok (.putfield 107, 3) := by decide +kernel
theorem dX8_endWriting_50 : decode cX8_endWriting 50 = .ok (.aload_n 0, 1) := by decide +kernel
theorem dX8_endWriting_51 : decode cX8_endWriting 51 = .ok (.aload_n 0, 1) := by decide +kernel
theorem dX8_endWriting_52 : decode cX8_endWriting 52 = .ok (.getfield 107, 3) := by decide +kernel
theorem dX8_endWriting_55 : decode cX8_endWriting 55 = .ok (.aload_n 0, 1) := by decide +kernel
theorem dX8_endWriting_56 : decode cX8_endWriting 56 = .ok (.getfield 119, 3) := by decide +kernel
theorem dX8_endWriting_59 : decode cX8_endWriting 59 = .ok (.lshl, 1) := by decide +kernel
theorem dX8_endWriting_60 : decode cX8_endWriting 60 = .ok (.putfield 107, 3) := by decide +kernel
theorem dX8_endWriting_63 : decode cX8_endWriting 63 = .ok (.aload_n 0, 1) := by decide +kernel
theorem dX8_endWriting_64 : decode cX8_endWriting 64 = .ok (.invokevirtual 129, 3) := by decide +kernel
theorem dX8_endWriting_67 : decode cX8_endWriting 67 = .ok (.aload_n 0, 1) := by decide +kernel
theorem dX8_endWriting_68 : decode cX8_endWriting 68 = .ok (.aload_n 0, 1) := by decide +kernel
theorem dX8_endWriting_69 : decode cX8_endWriting 69 = .ok (.getfield 107, 3) := by decide +kernel
theorem dX8_endWriting_72 : decode cX8_endWriting 72 = .ok (.aload_n 0, 1) := by decide +kernel
theorem dX8_endWriting_73 : decode cX8_endWriting 73 = .ok (.getfield 119, 3) := by decide +kernel
theorem dX8_endWriting_76 : decode cX8_endWriting 76 = .ok (.lshl, 1) := by decide +kernel
theorem dX8_endWriting_77 : decode cX8_endWriting 77 = .ok (.putfield 107, 3) := by decide +kernel
theorem dX8_endWriting_80 : decode cX8_endWriting 80 = .ok (.aload_n 0, 1) := by decide +kernel
theorem dX8_endWriting_81 : decode cX8_endWriting 81 = .ok (.invokevirtual 129, 3) := by decide +kernel
theorem dX8_endWriting_84 : decode cX8_endWriting 84 = .ok (.aload_n 0, 1) := by decide +kernel
theorem dX8_endWriting_85 : decode cX8_endWriting 85 = .ok (.invokevirtual 103, 3) := by decide +kernel
theorem dX8_endWriting_88 : decode cX8_endWriting 88 = .ok (.sipush 255, 3) := by decide +kernel
theorem dX8_endWriting_91 : decode cX8_endWriting 91 = .ok (.if_icmp .eq 10, 3) := by decide +kernel
theorem dX8_endWriting_94 : decode cX8_endWriting 94 = .ok (.aload_n 0, 1) := by decide +kernel
theorem dX8_endWriting_95 : decode cX8_endWriting 95 = .ok (.ldc2_w 146, 3) := by decide +kernel
theorem dX8_endWriting_98 : decode cX8_endWriting 98 = .ok (.invokevirtual 113, 3) := by decide +kernel
theorem dX8_endWriting_101 : decode cX8_endWriting 101 = .ok (.aload_n 0, 1) := by decide +kernel
theorem dX8_endWriting_102 : decode cX8_endWriting 102 = .ok (.ldc2_w 148, 3) := by decide +kernel
theorem dX8_endWriting_105 : decode cX8_endWriting 105 = .ok (.invokevirtual 113, 3) := by decide +kernel
theorem dX8_endWriting_108 : decode cX8_endWriting 108 = .ok (.return_, 1) := by decide +kernel
theorem dX8_beginCounts_0 : decode cX8_beginCounts 0 = .ok (.aload_n 0, 1) := by decide +kernel
theorem dX8_beginCounts_1 : decode cX8_beginCounts 1 = .ok (.iconst 0, 1) := by decide +kernel
theorem dX8_beginCounts_2 : decode cX8_beginCounts 2 = .ok (.putfield 150, 3) := by decide +kernel
theorem dX8_beginCounts_5 : decode cX8_beginCounts 5 = .ok (.aload_n 0, 1) := by decide +kernel
theorem dX8_beginCounts_6 : decode cX8_beginCounts 6 = .ok (.iconst 0, 1) := by decide +kernel
theorem dX8_beginCounts_7 : decode cX8_beginCounts 7 = .ok (.putfield 153, 3) := by decide +kernel
theorem dX8_beginCounts_10 : decode cX8_beginCounts 10 = .ok (.aload_n 0, 1) := by decide +kernel
theorem dX8_beginCounts_11 : decode cX8_beginCounts 11 = .ok (.iconst 0, 1) := by decide +kernel
theorem dX8_beginCounts_12 : decode cX8_beginCounts 12 = .ok (.putfield 134, 3) := by decide +kernel
theorem dX8_beginCounts_15 : decode cX8_beginCounts 15 = .ok (.return_, 1) := by decide +kernel
theorem dX8_forget_0 : decode cX8_forget 0 = .ok (.iconst 0, 1) := by decide +kernel
theorem dX8_forget_1 : decode cX8_forget 1 = .ok (.istore_n 2, 1) := by decide +kernel
theorem dX8_forget_2 : decode cX8_forget 2 = .ok (.iload_n 2, 1) := by decide +kernel
theorem dX8_forget_3 : decode cX8_forget 3 = .ok (.sipush 8192, 3) := by decide +kernel
theorem dX8_forget_6 : decode cX8_forget 6 = .ok (.if_icmp .ge 25, 3) := by decide +kernel
theorem dX8_forget_9 : decode cX8_forget 9 = .ok (.aload_n 0, 1) := by decide +kernel
theorem dX8_forget_10 : decode cX8_forget 10 = .ok (.getfield 84, 3) := by decide +kernel
theorem dX8_forget_13 : decode cX8_forget 13 = .ok (.ifCond .ne 18, 3) := by decide +kernel
theorem dX8_forget_16 : decode cX8_forget 16 = .ok (.aload_n 0, 1) := by decide +kernel
theorem dX8_forget_17 : decode cX8_forget 17 = .ok (.getfield 42, 3) := by decide +kernel
theorem dX8_forget_20 : decode cX8_forget 20 = .ok (.iload_n 1, 1) := by decide +kernel
theorem dX8_forget_21 : decode cX8_forget 21 = .ok (.iload_n 2, 1) := by decide +kernel
theorem dX8_forget_22 : decode cX8_forget 22 = .ok (.iadd, 1) := by decide +kernel
theorem dX8_forget_23 : decode cX8_forget 23 = .ok (.iconst 0, 1) := by decide +kernel
theorem dX8_forget_24 : decode cX8_forget 24 = .ok (.iastore, 1) := by decide +kernel
theorem dX8_forget_25 : decode cX8_forget 25 = .ok (.iinc 2 1, 3) := by decide +kernel
theorem dX8_forget_28 : decode cX8_forget 28 = .ok (.goto (-26), 3) := by decide +kernel
theorem dX8_forget_31 : decode cX8_forget 31 = .ok (.return_, 1) := by decide +kernel
set_option maxRecDepth 20000 in
theorem ggX8_couldBeTypical_X8_nine : GoodIn wsX8_couldBeTypical wsX8_nine := goodIn_r _ [6, 7, 8, 9, 5, 10, 11, 12, 13, 14, 15, 28, 29, 30, 31, 32, 33, 34, 35, 36, 37, 38, 39, 40, 41, 42, 43, 44, 45, 46, 47, 48, 49, 50, 51, 52, 53, 54, 55, 56, 57, 58] (by decide +kernel) (by decide +kernel)
set_option maxRecDepth 20000 in
theorem gX8_couldBeTypical_X8_nine : GoodIn wsX8_couldBeTypical (wsV RX8 156 RX8 yX8_nine wsX8_nine) := goodIn_app (goodIn_of _ (by decide +kernel)) ggX8_couldBeTypical_X8_nine
set_option maxRecDepth 20000 in
theorem ggX8_couldBeTypical_X8_pixel : GoodIn wsX8_couldBeTypical wsX8_pixel := goodIn_r _ [19, 20, 21, 22, 23, 24, 25, 5, 26, 1, 27, 28, 29, 30, 31, 32, 33, 34, 35, 36, 37, 38, 39, 40, 41, 42, 43, 44, 45, 46, 47, 48, 49, 50, 51, 52, 53, 54, 55, 56, 57, 58] (by decide +kernel) (by decide +kernel)
set_option maxRecDepth 20000 in
theorem gX8_couldBeTypical_X8_pixel : GoodIn wsX8_couldBeTypical (wsV RX8 90 RX8 yX8_pixel wsX8_pixel) := goodIn_app (goodIn_of _ (by decide +kernel)) ggX8_couldBeTypical_X8_pixel
theorem dX8_couldBeTypical_0 : decode cX8_couldBeTypical 0 = .ok (.iconst 0, 1) := by decide +kernel
theorem dX8_couldBeTypical_1 : decode cX8_couldBeTypical 1 = .ok (.istore_n 2, 1) := by decide +kernel
theorem dX8_couldBeTypical_2 : decode cX8_couldBeTypical 2 = .ok (.iload_n 2, 1) := by decide +kernel
theorem dX8_couldBeTypical_3 : decode cX8_couldBeTypical 3 = .ok (.aload_n 0, 1) := by decide +kernel
theorem dX8_couldBeTypical_4 : decode cX8_couldBeTypical 4 = .ok (.getfield 13, 3) := by decide +kernel
theorem dX8_couldBeTypical_7 : decode cX8_couldBeTypical 7 = .ok (.if_icmp .ge 32, 3) := by decide +kernel
theorem dX8_couldBeTypical_10 : decode cX8_couldBeTypical 10 = .ok (.aload_n 0, 1) := by decide +kernel
theorem dX8_couldBeTypical_11 : decode cX8_couldBeTypical 11 = .ok (.iload_n 2, 1) := by decide +kernel
theorem dX8_couldBeTypical_12 : decode cX8_couldBeTypical 12 = .ok (.iload_n 1, 1) := by decide +kernel
theorem dX8_couldBeTypical_13 : decode cX8_couldBeTypical 13 = .ok (.invokevirtual 156, 3) := by decide +kernel
theorem dX8_couldBeTypical_16 : decode cX8_couldBeTypical 16 = .ok (.istore_n 3, 1) := by decide +kernel
theorem dX8_couldBeTypical_17 : decode cX8_couldBeTypical 17 = .ok (.iload_n 3, 1) := by decide +kernel
theorem dX8_couldBeTypical_18 : decode cX8_couldBeTypical 18 = .ok (.ifCond .lt 15, 3) := by decide +kernel
theorem dX8_couldBeTypical_21 : decode cX8_couldBeTypical 21 = .ok (.iload_n 3, 1) := by decide +kernel
theorem dX8_couldBeTypical_22 : decode cX8_couldBeTypical 22 = .ok (.aload_n 0, 1) := by decide +kernel
theorem dX8_couldBeTypical_23 : decode cX8_couldBeTypical 23 = .ok (.iload_n 2, 1) := by decide +kernel
theorem dX8_couldBeTypical_24 : decode cX8_couldBeTypical 24 = .ok (.iload_n 1, 1) := by decide +kernel
theorem dX8_couldBeTypical_25 : decode cX8_couldBeTypical 25 = .ok (.invokevirtual 90, 3) := by decide +kernel
theorem dX8_couldBeTypical_28 : decode cX8_couldBeTypical 28 = .ok (.if_icmp .eq 5, 3) := by decide +kernel
theorem dX8_couldBeTypical_31 : decode cX8_couldBeTypical 31 = .ok (.iconst 0, 1) := by decide +kernel
theorem dX8_couldBeTypical_32 : decode cX8_couldBeTypical 32 = .ok (.ireturn, 1) := by decide +kernel
theorem dX8_couldBeTypical_33 : decode cX8_couldBeTypical 33 = .ok (.iinc 2 1, 3) := by decide +kernel
theorem dX8_couldBeTypical_36 : decode cX8_couldBeTypical 36 = .ok (.goto (-34), 3) := by decide +kernel
theorem dX8_couldBeTypical_39 : decode cX8_couldBeTypical 39 = .ok (.iconst 1, 1) := by decide +kernel
theorem dX8_couldBeTypical_40 : decode cX8_couldBeTypical 40 = .ok (.ireturn, 1) := by decide +kernel
set_option maxRecDepth 20000 in
theorem ggX8_encode_X8_forget : GoodIn wsX8_encode wsX8_forget := goodIn_r _ [19, 20, 21, 99, 100, 101, 102, 103, 104, 105, 106, 107, 108, 109, 110, 111, 112, 113, 114, 115, 116, 117, 118, 119, 120, 121, 122, 123, 124, 125, 126, 127, 128, 129] (by decide +kernel) (by decide +kernel)
set_option maxRecDepth 20000 in
theorem gX8_encode_X8_forget : GoodIn wsX8_encode (wsV RX8 159 RX8 yX8_forget wsX8_forget) := goodIn_app (goodIn_of _ (by decide +kernel)) ggX8_encode_X8_forget
set_option maxRecDepth 20000 in
theorem ggX8_encode_X8_beginCounts : GoodIn wsX8_encode wsX8_beginCounts := goodIn_r _ [25, 14, 12, 26, 99, 100, 101, 102, 103, 104, 105, 106, 107, 108, 109, 110, 111, 112, 113, 114, 115, 116, 117, 118, 119, 120, 121, 122, 123, 124, 125, 126, 127, 128, 129] (by decide +kernel) (by decide +kernel)
set_option maxRecDepth 20000 in
theorem gX8_encode_X8_beginCounts : GoodIn wsX8_encode (wsV RX8 163 RX8 yX8_beginCounts wsX8_beginCounts) := goodIn_app (goodIn_of _ (by decide +kernel)) ggX8_encode_X8_beginCounts
set_option maxRecDepth 20000 in
theorem ggX8_encode_X8_couldBeTypical : GoodIn wsX8_encode wsX8_couldBeTypical := goodIn_r _ [30, 13, 31, 32, 33, 18, 34, 35, 36, 37, 38, 39, 40, 41, 42, 43, 44, 45, 46, 47, 3, 48, 49, 50, 51, 52, 53, 9, 99, 100, 101, 102, 103, 104, 105, 106, 107, 108, 109, 110, 111, 112, 113, 114, 115, 116, 117, 118, 119, 120, 121, 122, 123, 124, 125, 126, 127, 128, 129] (by decide +kernel) (by decide +kernel)
set_option maxRecDepth 20000 in
theorem gX8_encode_X8_couldBeTypical : GoodIn wsX8_encode (wsV RX8 166 RX8 yX8_couldBeTypical wsX8_couldBeTypical) := goodIn_app (goodIn_of _ (by decide +kernel)) ggX8_encode_X8_couldBeTypical
set_option maxRecDepth 20000 in
theorem ggX8_encode_X8_write : GoodIn wsX8_encode wsX8_write := goodIn_r _ [57, 26, 58, 21, 6, 5, 7, 59, 60, 61, 18, 62, 63, 64, 65, 66, 67, 8, 68, 69, 70, 71, 72, 73, 4, 74, 75, 76, 77, 78, 79, 80, 81, 82, 83, 99, 100, 101, 102, 103, 104, 105, 106, 107, 108, 109, 110, 111, 112, 113, 114, 115, 116, 117, 118, 119, 120, 121, 122, 123, 124, 125, 126, 127, 128, 129] (by decide +kernel) (by decide +kernel)
set_option maxRecDepth 20000 in
theorem gX8_encode_X8_write : GoodIn wsX8_encode (wsV RX8 170 RX8 yX8_write wsX8_write) := goodIn_app (goodIn_of _ (by decide +kernel)) ggX8_encode_X8_write
set_option maxRecDepth 20000 in
theorem ggX8_encode_X8_nine : GoodIn wsX8_encode wsX8_nine := goodIn_r _ [34, 35, 36, 37, 18, 38, 39, 40, 41, 42, 43, 99, 100, 101, 102, 103, 104, 105, 106, 107, 108, 109, 110, 111, 112, 113, 114, 115, 116, 117, 118, 119, 120, 121, 122, 123, 124, 125, 126, 127, 128, 129] (by decide +kernel) (by decide +kernel)
set_option maxRecDepth 20000 in
theorem gX8_encode_X8_nine : GoodIn wsX8_encode (wsV RX8 156 RX8 yX8_nine wsX8_nine) := goodIn_app (goodIn_of _ (by decide +kernel)) ggX8_encode_X8_nine
set_option maxRecDepth 20000 in
theorem ggX8_encode_X8_contextOf : GoodIn wsX8_encode wsX8_contextOf := goodIn_r _ [87, 11, 88, 89, 90, 91, 44, 45, 46, 18, 47, 3, 48, 49, 50, 51, 52, 53, 13, 9, 35, 36, 37, 38, 39, 40, 41, 42, 43, 99, 100, 101, 102, 103, 104, 105, 106, 107, 108, 109, 110, 111, 112, 113, 114, 115, 116, 117, 118, 119, 120, 121, 122, 123, 124, 125, 126, 127, 128, 129] (by decide +kernel) (by decide +kernel)
set_option maxRecDepth 20000 in
theorem gX8_encode_X8_contextOf : GoodIn wsX8_encode (wsV RX8 97 RX8 yX8_contextOf wsX8_contextOf) := goodIn_app (goodIn_of _ (by decide +kernel)) ggX8_encode_X8_contextOf
set_option maxRecDepth 20000 in
theorem ggX8_encode_X8_pixel : GoodIn wsX8_encode wsX8_pixel := goodIn_r _ [47, 3, 48, 49, 50, 51, 52, 18, 53, 13, 9, 99, 100, 101, 102, 103, 104, 105, 106, 107, 108, 109, 110, 111, 112, 113, 114, 115, 116, 117, 118, 119, 120, 121, 122, 123, 124, 125, 126, 127, 128, 129] (by decide +kernel) (by decide +kernel)
set_option maxRecDepth 20000 in
theorem gX8_encode_X8_pixel : GoodIn wsX8_encode (wsV RX8 90 RX8 yX8_pixel wsX8_pixel) := goodIn_app (goodIn_of _ (by decide +kernel)) ggX8_encode_X8_pixel
set_option maxRecDepth 20000 in
theorem ggX8_encode_X8_endWriting : GoodIn wsX8_encode wsX8_endWriting := goodIn_r _ [95, 7, 6, 96, 5, 8, 97, 98, 68, 69, 70, 18, 71, 72, 73, 4, 74, 75, 76, 77, 78, 79, 80, 81, 82, 83, 99, 100, 101, 102, 103, 104, 105, 106, 107, 108, 109, 110, 111, 112, 113, 114, 115, 116, 117, 118, 119, 120, 121, 122, 123, 124, 125, 126, 127, 128, 129] (by decide +kernel) (by decide +kernel)
set_option maxRecDepth 20000 in
theorem gX8_encode_X8_endWriting : GoodIn wsX8_encode (wsV RX8 173 RX8 yX8_endWriting wsX8_endWriting) := goodIn_app (goodIn_of _ (by decide +kernel)) ggX8_encode_X8_endWriting
theorem dX8_encode_0 : decode cX8_encode 0 = .ok (.aload_n 0, 1) := by decide +kernel
theorem dX8_encode_1 : decode cX8_encode 1 = .ok (.aload_n 0, 1) := by decide +kernel
theorem dX8_encode_2 : decode cX8_encode 2 = .ok (.getfield 65, 3) := by decide +kernel
theorem dX8_encode_5 : decode cX8_encode 5 = .ok (.ifCond .eq 7, 3) := by decide +kernel
theorem dX8_encode_8 : decode cX8_encode 8 = .ok (.iconst 0, 1) := by decide +kernel
theorem dX8_encode_9 : decode cX8_encode 9 = .ok (.goto 4, 3) := by decide +kernel
theorem dX8_encode_12 : decode cX8_encode 12 = .ok (.iconst 1, 1) := by decide +kernel
theorem dX8_encode_13 : decode cX8_encode 13 = .ok (.putfield 48, 3) := by decide +kernel
theorem dX8_encode_16 : decode cX8_encode 16 = .ok (.aload_n 0, 1) := by decide +kernel
theorem dX8_encode_17 : decode cX8_encode 17 = .ok (.getfield 48, 3) := by decide +kernel
theorem dX8_encode_20 : decode cX8_encode 20 = .ok (.ifCond .le 5, 3) := by decide +kernel
theorem dX8_encode_23 : decode cX8_encode 23 = .ok (.iconst 0, 1) := by decide +kernel
theorem dX8_encode_24 : decode cX8_encode 24 = .ok (.ireturn, 1) := by decide +kernel
theorem dX8_encode_25 : decode cX8_encode 25 = .ok (.aload_n 0, 1) := by decide +kernel
theorem dX8_encode_26 : decode cX8_encode 26 = .ok (.iconst 0, 1) := by decide +kernel
theorem dX8_encode_27 : decode cX8_encode 27 = .ok (.putfield 87, 3) := by decide +kernel
theorem dX8_encode_30 : decode cX8_encode 30 = .ok (.aload_n 0, 1) := by decide +kernel
theorem dX8_encode_31 : decode cX8_encode 31 = .ok (.iconst 0, 1) := by decide +kernel
theorem dX8_encode_32 : decode cX8_encode 32 = .ok (.invokevirtual 159, 3) := by decide +kernel
theorem dX8_encode_35 : decode cX8_encode 35 = .ok (.aload_n 0, 1) := by decide +kernel
theorem dX8_encode_36 : decode cX8_encode 36 = .ok (.invokevirtual 163, 3) := by decide +kernel
theorem dX8_encode_39 : decode cX8_encode 39 = .ok (.aload_n 0, 1) := by decide +kernel
theorem dX8_encode_40 : decode cX8_encode 40 = .ok (.iconst 0, 1) := by decide +kernel
theorem dX8_encode_41 : decode cX8_encode 41 = .ok (.putfield 100, 3) := by decide +kernel
theorem dX8_encode_44 : decode cX8_encode 44 = .ok (.aload_n 0, 1) := by decide +kernel
theorem dX8_encode_45 : decode cX8_encode 45 = .ok (.ldc2_w 132, 3) := by decide +kernel
theorem dX8_encode_48 : decode cX8_encode 48 = .ok (.putfield 126, 3) := by decide +kernel
theorem dX8_encode_51 : decode cX8_encode 51 = .ok (.aload_n 0, 1) := by decide +kernel
theorem dX8_encode_52 : decode cX8_encode 52 = .ok (.lconst 0, 1) := by decide +kernel
theorem dX8_encode_53 : decode cX8_encode 53 = .ok (.putfield 107, 3) := by decide +kernel
theorem dX8_encode_56 : decode cX8_encode 56 = .ok (.aload_n 0, 1) := by decide +kernel
theorem dX8_encode_57 : decode cX8_encode 57 = .ok (.bipush 12, 2) := by decide +kernel
theorem dX8_encode_59 : decode cX8_encode 59 = .ok (.putfield 119, 3) := by decide +kernel
theorem dX8_encode_62 : decode cX8_encode 62 = .ok (.iconst 0, 1) := by decide +kernel
theorem dX8_encode_63 : decode cX8_encode 63 = .ok (.istore_n 1, 1) := by decide +kernel
theorem dX8_encode_64 : decode cX8_encode 64 = .ok (.iconst 0, 1) := by decide +kernel
theorem dX8_encode_65 : decode cX8_encode 65 = .ok (.istore_n 2, 1) := by decide +kernel
theorem dX8_encode_66 : decode cX8_encode 66 = .ok (.iload_n 2, 1) := by decide +kernel
theorem dX8_encode_67 : decode cX8_encode 67 = .ok (.aload_n 0, 1) := by decide +kernel
theorem dX8_encode_68 : decode cX8_encode 68 = .ok (.getfield 17, 3) := by decide +kernel
theorem dX8_encode_71 : decode cX8_encode 71 = .ok (.if_icmp .ge 131, 3) := by decide +kernel
theorem dX8_encode_74 : decode cX8_encode 74 = .ok (.aload_n 0, 1) := by decide +kernel
theorem dX8_encode_75 : decode cX8_encode 75 = .ok (.getfield 54, 3) := by decide +kernel
theorem dX8_encode_78 : decode cX8_encode 78 = .ok (.ifCond .eq 60, 3) := by decide +kernel
theorem dX8_encode_81 : decode cX8_encode 81 = .ok (.aload_n 0, 1) := by decide +kernel
theorem dX8_encode_82 : decode cX8_encode 82 = .ok (.iload_n 2, 1) := by decide +kernel
theorem dX8_encode_83 : decode cX8_encode 83 = .ok (.invokevirtual 166, 3) := by decide +kernel
theorem dX8_encode_86 : decode cX8_encode 86 = .ok (.istore_n 3, 1) := by decide +kernel
theorem dX8_encode_87 : decode cX8_encode 87 = .ok (.aload_n 0, 1) := by decide +kernel
theorem dX8_encode_88 : decode cX8_encode 88 = .ok (.aload_n 0, 1) := by decide +kernel
theorem dX8_encode_89 : decode cX8_encode 89 = .ok (.getfield 51, 3) := by decide +kernel
theorem dX8_encode_92 : decode cX8_encode 92 = .ok (.ifCond .ne 8, 3) := by decide +kernel
theorem dX8_encode_95 : decode cX8_encode 95 = .ok (.bipush 16, 2) := by decide +kernel
theorem dX8_encode_97 : decode cX8_encode 97 = .ok (.goto 5, 3) := by decide +kernel
theorem dX8_encode_100 : decode cX8_encode 100 = .ok (.bipush 8, 2) := by decide +kernel
theorem dX8_encode_102 : decode cX8_encode 102 = .ok (.iload_n 3, 1) := by decide +kernel
theorem dX8_encode_103 : decode cX8_encode 103 = .ok (.iload_n 1, 1) := by decide +kernel
theorem dX8_encode_104 : decode cX8_encode 104 = .ok (.if_icmp .eq 7, 3) := by decide +kernel
theorem dX8_encode_107 : decode cX8_encode 107 = .ok (.iconst 1, 1) := by decide +kernel
theorem dX8_encode_108 : decode cX8_encode 108 = .ok (.goto 4, 3) := by decide +kernel
theorem dX8_encode_111 : decode cX8_encode 111 = .ok (.iconst 0, 1) := by decide +kernel
theorem dX8_encode_112 : decode cX8_encode 112 = .ok (.invokevirtual 170, 3) := by decide +kernel
theorem dX8_encode_115 : decode cX8_encode 115 = .ok (.iload_n 3, 1) := by decide +kernel
theorem dX8_encode_116 : decode cX8_encode 116 = .ok (.istore_n 1, 1) := by decide +kernel
theorem dX8_encode_117 : decode cX8_encode 117 = .ok (.aload_n 0, 1) := by decide +kernel
theorem dX8_encode_118 : decode cX8_encode 118 = .ok (.iload_n 3, 1) := by decide +kernel
theorem dX8_encode_119 : decode cX8_encode 119 = .ok (.ifCond .eq 12, 3) := by decide +kernel
theorem dX8_encode_122 : decode cX8_encode 122 = .ok (.aload_n 0, 1) := by decide +kernel
theorem dX8_encode_123 : decode cX8_encode 123 = .ok (.getfield 153, 3) := by decide +kernel
theorem dX8_encode_126 : decode cX8_encode 126 = .ok (.iconst 1, 1) := by decide +kernel
theorem dX8_encode_127 : decode cX8_encode 127 = .ok (.iadd, 1) := by decide +kernel
theorem dX8_encode_128 : decode cX8_encode 128 = .ok (.goto 7, 3) := by decide +kernel
theorem dX8_encode_131 : decode cX8_encode 131 = .ok (.aload_n 0, 1) := by decide +kernel
theorem dX8_encode_132 : decode cX8_encode 132 = .ok (.getfield 153, 3) := by decide +kernel
theorem dX8_encode_135 : decode cX8_encode 135 = .ok (.putfield 153, 3) := by decide +kernel
