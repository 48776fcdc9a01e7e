set_option maxRecDepth 20000 in
theorem ggX7_init_X1_init : GoodIn wsX7_init wsX1_init := goodIn_r _ [33, 34, 2, 3, 35, 36, 37, 38, 39, 97, 98, 99, 100] (by decide +kernel) (by decide +kernel)
set_option maxRecDepth 20000 in
theorem gX7_init_X1_init_n11 : GoodIn wsX7_init (wsX1_init) := ggX7_init_X1_init
set_option maxRecDepth 20000 in
theorem ggX7_init_X5_init : GoodIn wsX7_init wsX5_init := goodIn_r _ [41, 42, 2, 3, 43, 5, 6, 44, 45, 46, 47, 48, 49, 50, 51, 32, 33, 34, 35, 36, 37, 38, 39, 97, 98, 99, 100, 114, 115, 116, 117, 118, 119, 120, 121] (by decide +kernel) (by decide +kernel)
set_option maxRecDepth 20000 in
theorem gX7_init_X5_init_n23 : GoodIn wsX7_init (wsX5_init) := ggX7_init_X5_init
set_option maxRecDepth 20000 in
theorem ggX7_init_X2_init : GoodIn wsX7_init wsX2_init := goodIn_r _ [53, 54, 2, 3, 38, 55, 56, 122, 123] (by decide +kernel) (by decide +kernel)
set_option maxRecDepth 20000 in
theorem gX7_init_X2_init_n30 : GoodIn wsX7_init (wsX2_init) := ggX7_init_X2_init
set_option maxRecDepth 20000 in
theorem ggX7_init_X6_init : GoodIn wsX7_init wsX6_init := goodIn_r _ [58, 59, 60, 61, 62, 63, 64, 65, 66, 67, 68, 69, 70, 71, 2, 3, 72, 73, 74, 38, 75, 135, 124, 125, 126, 127, 128] (by decide +kernel) (by decide +kernel)
set_option maxRecDepth 20000 in
theorem gX7_init_X6_init_n37 : GoodIn wsX7_init (wsX6_init) := ggX7_init_X6_init
set_option maxRecDepth 20000 in
theorem ggX7_init_X3_init : GoodIn wsX7_init wsX3_init := goodIn_r _ [77, 78, 60, 61, 79, 80, 81, 82, 83, 84, 85, 68, 69, 70, 71, 2, 3, 72, 73, 74, 38, 75, 135, 129, 130, 131, 132, 133, 134] (by decide +kernel) (by decide +kernel)
set_option maxRecDepth 20000 in
theorem gX7_init_X3_init_n46 : GoodIn wsX7_init (wsX3_init) := ggX7_init_X3_init
set_option maxRecDepth 20000 in
theorem ggX7_init_X1_whiten : GoodIn wsX7_init wsX1_whiten := goodIn_r _ [88, 37, 89, 90, 91, 92, 35, 36, 39, 93, 94, 95, 96, 97, 98, 99, 100] (by decide +kernel) (by decide +kernel)
set_option maxRecDepth 20000 in
theorem gX7_init_X1_whiten_n74 : GoodIn wsX7_init (wsX1_whiten) := ggX7_init_X1_whiten
theorem dX7_init_0 : decode cX7_init 0 = .ok (.aload_n 0, 1) := by decide +kernel
theorem dX7_init_1 : decode cX7_init 1 = .ok (.invokespecial 1, 3) := by decide +kernel
theorem dX7_init_4 : decode cX7_init 4 = .ok (.aload_n 0, 1) := by decide +kernel
theorem dX7_init_5 : decode cX7_init 5 = .ok (.new 7, 3) := by decide +kernel
theorem dX7_init_8 : decode cX7_init 8 = .ok (.dup, 1) := by decide +kernel
theorem dX7_init_9 : decode cX7_init 9 = .ok (.bipush 40, 2) := by decide +kernel
theorem dX7_init_11 : decode cX7_init 11 = .ok (.invokespecial 11, 3) := by decide +kernel
theorem dX7_init_14 : decode cX7_init 14 = .ok (.putfield 14, 3) := by decide +kernel
theorem dX7_init_17 : decode cX7_init 17 = .ok (.aload_n 0, 1) := by decide +kernel
theorem dX7_init_18 : decode cX7_init 18 = .ok (.new 7, 3) := by decide +kernel
theorem dX7_init_21 : decode cX7_init 21 = .ok (.dup, 1) := by decide +kernel
theorem dX7_init_22 : decode cX7_init 22 = .ok (.bipush 40, 2) := by decide +kernel
theorem dX7_init_24 : decode cX7_init 24 = .ok (.invokespecial 11, 3) := by decide +kernel
theorem dX7_init_27 : decode cX7_init 27 = .ok (.putfield 18, 3) := by decide +kernel
theorem dX7_init_30 : decode cX7_init 30 = .ok (.aload_n 0, 1) := by decide +kernel
theorem dX7_init_31 : decode cX7_init 31 = .ok (.new 21, 3) := by decide +kernel
theorem dX7_init_34 : decode cX7_init 34 = .ok (.dup, 1) := by decide +kernel
theorem dX7_init_35 : decode cX7_init 35 = .ok (.invokespecial 23, 3) := by decide +kernel
theorem dX7_init_38 : decode cX7_init 38 = .ok (.putfield 24, 3) := by decide +kernel
theorem dX7_init_41 : decode cX7_init 41 = .ok (.aload_n 0, 1) := by decide +kernel
theorem dX7_init_42 : decode cX7_init 42 = .ok (.new 28, 3) := by decide +kernel
theorem dX7_init_45 : decode cX7_init 45 = .ok (.dup, 1) := by decide +kernel
theorem dX7_init_46 : decode cX7_init 46 = .ok (.invokespecial 30, 3) := by decide +kernel
theorem dX7_init_49 : decode cX7_init 49 = .ok (.putfield 31, 3) := by decide +kernel
theorem dX7_init_52 : decode cX7_init 52 = .ok (.aload_n 0, 1) := by decide +kernel
theorem dX7_init_53 : decode cX7_init 53 = .ok (.new 35, 3) := by decide +kernel
theorem dX7_init_56 : decode cX7_init 56 = .ok (.dup, 1) := by decide +kernel
theorem dX7_init_57 : decode cX7_init 57 = .ok (.aload_n 0, 1) := by decide +kernel
theorem dX7_init_58 : decode cX7_init 58 = .ok (.getfield 31, 3) := by decide +kernel
theorem dX7_init_61 : decode cX7_init 61 = .ok (.invokespecial 37, 3) := by decide +kernel
theorem dX7_init_64 : decode cX7_init 64 = .ok (.putfield 40, 3) := by decide +kernel
theorem dX7_init_67 : decode cX7_init 67 = .ok (.aload_n 0, 1) := by decide +kernel
theorem dX7_init_68 : decode cX7_init 68 = .ok (.new 44, 3) := by decide +kernel
theorem dX7_init_71 : decode cX7_init 71 = .ok (.dup, 1) := by decide +kernel
theorem dX7_init_72 : decode cX7_init 72 = .ok (.aload_n 0, 1) := by decide +kernel
theorem dX7_init_73 : decode cX7_init 73 = .ok (.getfield 31, 3) := by decide +kernel
theorem dX7_init_76 : decode cX7_init 76 = .ok (.invokespecial 46, 3) := by decide +kernel
theorem dX7_init_79 : decode cX7_init 79 = .ok (.putfield 47, 3) := by decide +kernel
theorem dX7_init_82 : decode cX7_init 82 = .ok (.aload_n 0, 1) := by decide +kernel
theorem dX7_init_83 : decode cX7_init 83 = .ok (.iconst 0, 1) := by decide +kernel
theorem dX7_init_84 : decode cX7_init 84 = .ok (.putfield 51, 3) := by decide +kernel
theorem dX7_init_87 : decode cX7_init 87 = .ok (.aload_n 0, 1) := by decide +kernel
theorem dX7_init_88 : decode cX7_init 88 = .ok (.iconst 0, 1) := by decide +kernel
theorem dX7_init_89 : decode cX7_init 89 = .ok (.putfield 55, 3) := by decide +kernel
theorem dX7_init_92 : decode cX7_init 92 = .ok (.aload_n 0, 1) := by decide +kernel
theorem dX7_init_93 : decode cX7_init 93 = .ok (.iconst 0, 1) := by decide +kernel
theorem dX7_init_94 : decode cX7_init 94 = .ok (.putfield 58, 3) := by decide +kernel
theorem dX7_init_97 : decode cX7_init 97 = .ok (.aload_n 0, 1) := by decide +kernel
theorem dX7_init_98 : decode cX7_init 98 = .ok (.iconst 0, 1) := by decide +kernel
theorem dX7_init_99 : decode cX7_init 99 = .ok (.putfield 61, 3) := by decide +kernel
theorem dX7_init_102 : decode cX7_init 102 = .ok (.aload_n 0, 1) := by decide +kernel
theorem dX7_init_103 : decode cX7_init 103 = .ok (.iconst 0, 1) := by decide +kernel
theorem dX7_init_104 : decode cX7_init 104 = .ok (.putfield 64, 3) := by decide +kernel
theorem dX7_init_107 : decode cX7_init 107 = .ok (.aload_n 0, 1) := by decide +kernel
theorem dX7_init_108 : decode cX7_init 108 = .ok (.iconst 0, 1) := by decide +kernel
theorem dX7_init_109 : decode cX7_init 109 = .ok (.putfield 68, 3) := by decide +kernel
theorem dX7_init_112 : decode cX7_init 112 = .ok (.aload_n 0, 1) := by decide +kernel
theorem dX7_init_113 : decode cX7_init 113 = .ok (.iconst 0, 1) := by decide +kernel
theorem dX7_init_114 : decode cX7_init 114 = .ok (.putfield 71, 3) := by decide +kernel
theorem dX7_init_117 : decode cX7_init 117 = .ok (.aload_n 0, 1) := by decide +kernel
theorem dX7_init_118 : decode cX7_init 118 = .ok (.getfield 14, 3) := by decide +kernel
theorem dX7_init_121 : decode cX7_init 121 = .ok (.bipush 8, 2) := by decide +kernel
theorem dX7_init_123 : decode cX7_init 123 = .ok (.bipush 8, 2) := by decide +kernel
theorem dX7_init_125 : decode cX7_init 125 = .ok (.invokevirtual 74, 3) := by decide +kernel
theorem dX7_init_128 : decode cX7_init 128 = .ok (.return_, 1) := by decide +kernel
set_option maxRecDepth 20000 in
theorem ggX7_shape_X7_isWithin : GoodIn wsX7_shape wsX7_isWithin := goodIn_r _ [12] (by decide +kernel) (by decide +kernel)
set_option maxRecDepth 20000 in
theorem gX7_shape_X7_isWithin : GoodIn wsX7_shape (va_wsS RX7 78 yX7_isWithin wsX7_isWithin) := goodIn_app (goodIn_of _ (by decide +kernel)) ggX7_shape_X7_isWithin
set_option maxRecDepth 20000 in
theorem ggX7_shape_X1_whiten : GoodIn wsX7_shape wsX1_whiten := goodIn_r _ [16, 17, 18, 19, 20, 21, 22, 23, 24, 25, 26, 27, 28, 76, 77, 78, 79] (by decide +kernel) (by decide +kernel)
set_option maxRecDepth 20000 in
theorem gX7_shape_X1_whiten_n74 : GoodIn wsX7_shape (wsX1_whiten) := ggX7_shape_X1_whiten
set_option maxRecDepth 20000 in
theorem ggX7_shape_X5_begin : GoodIn wsX7_shape wsX5_begin := goodIn_r _ [32, 33, 34, 35, 36, 30, 37, 38, 39, 40, 41, 42, 43, 44, 45, 80, 81, 82, 83, 84, 85, 86, 87] (by decide +kernel) (by decide +kernel)
set_option maxRecDepth 20000 in
theorem gX7_shape_X5_begin_n91 : GoodIn wsX7_shape (wsX5_begin) := ggX7_shape_X5_begin
set_option maxRecDepth 20000 in
theorem ggX7_shape_X4_forget : GoodIn wsX7_shape wsX4_forget := goodIn_r _ [49, 50, 51, 26, 27, 28, 88] (by decide +kernel) (by decide +kernel)
set_option maxRecDepth 20000 in
theorem gX7_shape_X4_forget_n98 : GoodIn wsX7_shape (wsX4_forget) := ggX7_shape_X4_forget
theorem dX7_shape_0 : decode cX7_shape 0 = .ok (.iload_n 1, 1) := by decide +kernel
theorem dX7_shape_1 : decode cX7_shape 1 = .ok (.iconst 1, 1) := by decide +kernel
theorem dX7_shape_2 : decode cX7_shape 2 = .ok (.bipush 40, 2) := by decide +kernel
theorem dX7_shape_4 : decode cX7_shape 4 = .ok (.invokestatic 78, 3) := by decide +kernel
theorem dX7_shape_7 : decode cX7_shape 7 = .ok (.ifCond .eq 13, 3) := by decide +kernel
theorem dX7_shape_10 : decode cX7_shape 10 = .ok (.iload_n 2, 1) := by decide +kernel
theorem dX7_shape_11 : decode cX7_shape 11 = .ok (.iconst 1, 1) := by decide +kernel
theorem dX7_shape_12 : decode cX7_shape 12 = .ok (.bipush 40, 2) := by decide +kernel
theorem dX7_shape_14 : decode cX7_shape 14 = .ok (.invokestatic 78, 3) := by decide +kernel
theorem dX7_shape_17 : decode cX7_shape 17 = .ok (.ifCond .ne 13, 3) := by decide +kernel
theorem dX7_shape_20 : decode cX7_shape 20 = .ok (.new 82, 3) := by decide +kernel
theorem dX7_shape_23 : decode cX7_shape 23 = .ok (.dup, 1) := by decide +kernel
theorem dX7_shape_24 : decode cX7_shape 24 = .ok (.ldc 84, 2) := by decide +kernel
theorem dX7_shape_26 : decode cX7_shape 26 = .ok (.invokespecial 86, 3) := by decide +kernel
theorem dX7_shape_29 : decode cX7_shape 29 = .ok (.athrow, 1) := by decide +kernel
theorem dX7_shape_30 : decode cX7_shape 30 = .ok (.iload_n 3, 1) := by decide +kernel
theorem dX7_shape_31 : decode cX7_shape 31 = .ok (.iconst 0, 1) := by decide +kernel
theorem dX7_shape_32 : decode cX7_shape 32 = .ok (.iconst 1, 1) := by decide +kernel
theorem dX7_shape_33 : decode cX7_shape 33 = .ok (.invokestatic 78, 3) := by decide +kernel
theorem dX7_shape_36 : decode cX7_shape 36 = .ok (.ifCond .ne 13, 3) := by decide +kernel
theorem dX7_shape_39 : decode cX7_shape 39 = .ok (.new 82, 3) := by decide +kernel
theorem dX7_shape_42 : decode cX7_shape 42 = .ok (.dup, 1) := by decide +kernel
theorem dX7_shape_43 : decode cX7_shape 43 = .ok (.ldc 89, 2) := by decide +kernel
theorem dX7_shape_45 : decode cX7_shape 45 = .ok (.invokespecial 86, 3) := by decide +kernel
theorem dX7_shape_48 : decode cX7_shape 48 = .ok (.athrow, 1) := by decide +kernel
theorem dX7_shape_49 : decode cX7_shape 49 = .ok (.aload_n 0, 1) := by decide +kernel
theorem dX7_shape_50 : decode cX7_shape 50 = .ok (.getfield 14, 3) := by decide +kernel
theorem dX7_shape_53 : decode cX7_shape 53 = .ok (.iload_n 1, 1) := by decide +kernel
theorem dX7_shape_54 : decode cX7_shape 54 = .ok (.iload_n 2, 1) := by decide +kernel
theorem dX7_shape_55 : decode cX7_shape 55 = .ok (.invokevirtual 74, 3) := by decide +kernel
theorem dX7_shape_58 : decode cX7_shape 58 = .ok (.aload_n 0, 1) := by decide +kernel
theorem dX7_shape_59 : decode cX7_shape 59 = .ok (.getfield 24, 3) := by decide +kernel
theorem dX7_shape_62 : decode cX7_shape 62 = .ok (.iload_n 3, 1) := by decide +kernel
theorem dX7_shape_63 : decode cX7_shape 63 = .ok (.invokevirtual 91, 3) := by decide +kernel
theorem dX7_shape_66 : decode cX7_shape 66 = .ok (.aload_n 0, 1) := by decide +kernel
theorem dX7_shape_67 : decode cX7_shape 67 = .ok (.iload 4, 2) := by decide +kernel
theorem dX7_shape_69 : decode cX7_shape 69 = .ok (.putfield 51, 3) := by decide +kernel
theorem dX7_shape_72 : decode cX7_shape 72 = .ok (.aload_n 0, 1) := by decide +kernel
theorem dX7_shape_73 : decode cX7_shape 73 = .ok (.getfield 40, 3) := by decide +kernel
theorem dX7_shape_76 : decode cX7_shape 76 = .ok (.getfield 94, 3) := by decide +kernel
theorem dX7_shape_79 : decode cX7_shape 79 = .ok (.invokevirtual 98, 3) := by decide +kernel
theorem dX7_shape_82 : decode cX7_shape 82 = .ok (.aload_n 0, 1) := by decide +kernel
theorem dX7_shape_83 : decode cX7_shape 83 = .ok (.getfield 47, 3) := by decide +kernel
theorem dX7_shape_86 : decode cX7_shape 86 = .ok (.getfield 103, 3) := by decide +kernel
theorem dX7_shape_89 : decode cX7_shape 89 = .ok (.invokevirtual 98, 3) := by decide +kernel
theorem dX7_shape_92 : decode cX7_shape 92 = .ok (.aload_n 0, 1) := by decide +kernel
theorem dX7_shape_93 : decode cX7_shape 93 = .ok (.iconst 0, 1) := by decide +kernel
theorem dX7_shape_94 : decode cX7_shape 94 = .ok (.putfield 61, 3) := by decide +kernel
theorem dX7_shape_97 : decode cX7_shape 97 = .ok (.return_, 1) := by decide +kernel
set_option maxRecDepth 20000 in
theorem ggX7_put_X1_holds : GoodIn wsX7_put wsX1_holds := goodIn_r _ [7, 8, 9, 32, 33, 34, 35] (by decide +kernel) (by decide +kernel)
set_option maxRecDepth 20000 in
theorem gX7_put_X1_holds_n104 : GoodIn wsX7_put (wsX1_holds) := ggX7_put_X1_holds
set_option maxRecDepth 20000 in
theorem ggX7_put_X1_pixel : GoodIn wsX7_put wsX1_pixel := goodIn_r _ [12, 8, 9, 13, 14, 32, 33, 34, 35] (by decide +kernel) (by decide +kernel)
set_option maxRecDepth 20000 in
theorem gX7_put_X1_pixel_n113 : GoodIn wsX7_put (wsX1_pixel) := ggX7_put_X1_pixel
set_option maxRecDepth 20000 in
theorem ggX7_put_X1_paint : GoodIn wsX7_put wsX1_paint := goodIn_r _ [17, 13, 14, 18, 4, 6, 5, 7, 8, 9, 32, 33, 34, 35] (by decide +kernel) (by decide +kernel)
set_option maxRecDepth 20000 in
theorem gX7_put_X1_paint_n117 : GoodIn wsX7_put (wsX1_paint) := ggX7_put_X1_paint
theorem dX7_put_0 : decode cX7_put 0 = .ok (.aload_n 0, 1) := by decide +kernel
theorem dX7_put_1 : decode cX7_put 1 = .ok (.getfield 14, 3) := by decide +kernel
theorem dX7_put_4 : decode cX7_put 4 = .ok (.iload_n 1, 1) := by decide +kernel
theorem dX7_put_5 : decode cX7_put 5 = .ok (.iload_n 2, 1) := by decide +kernel
theorem dX7_put_6 : decode cX7_put 6 = .ok (.invokevirtual 104, 3) := by decide +kernel
theorem dX7_put_9 : decode cX7_put 9 = .ok (.ifCond .ne 13, 3) := by decide +kernel
theorem dX7_put_12 : decode cX7_put 12 = .ok (.new 108, 3) := by decide +kernel
theorem dX7_put_15 : decode cX7_put 15 = .ok (.dup, 1) := by decide +kernel
theorem dX7_put_16 : decode cX7_put 16 = .ok (.ldc 110, 2) := by decide +kernel
theorem dX7_put_18 : decode cX7_put 18 = .ok (.invokespecial 112, 3) := by decide +kernel
theorem dX7_put_21 : decode cX7_put 21 = .ok (.athrow, 1) := by decide +kernel
theorem dX7_put_22 : decode cX7_put 22 = .ok (.aload_n 0, 1) := by decide +kernel
theorem dX7_put_23 : decode cX7_put 23 = .ok (.getfield 14, 3) := by decide +kernel
theorem dX7_put_26 : decode cX7_put 26 = .ok (.iload_n 1, 1) := by decide +kernel
theorem dX7_put_27 : decode cX7_put 27 = .ok (.iload_n 2, 1) := by decide +kernel
theorem dX7_put_28 : decode cX7_put 28 = .ok (.invokevirtual 113, 3) := by decide +kernel
theorem dX7_put_31 : decode cX7_put 31 = .ok (.iconst 1, 1) := by decide +kernel
theorem dX7_put_32 : decode cX7_put 32 = .ok (.if_icmp .ne 7, 3) := by decide +kernel
theorem dX7_put_35 : decode cX7_put 35 = .ok (.iconst 1, 1) := by decide +kernel
theorem dX7_put_36 : decode cX7_put 36 = .ok (.goto 4, 3) := by decide +kernel
theorem dX7_put_39 : decode cX7_put 39 = .ok (.iconst 0, 1) := by decide +kernel
theorem dX7_put_40 : decode cX7_put 40 = .ok (.istore 4, 2) := by decide +kernel
theorem dX7_put_42 : decode cX7_put 42 = .ok (.aload_n 0, 1) := by decide +kernel
theorem dX7_put_43 : decode cX7_put 43 = .ok (.getfield 14, 3) := by decide +kernel
theorem dX7_put_46 : decode cX7_put 46 = .ok (.iload_n 1, 1) := by decide +kernel
theorem dX7_put_47 : decode cX7_put 47 = .ok (.iload_n 2, 1) := by decide +kernel
theorem dX7_put_48 : decode cX7_put 48 = .ok (.iload_n 3, 1) := by decide +kernel
theorem dX7_put_49 : decode cX7_put 49 = .ok (.ifCond .eq 7, 3) := by decide +kernel
theorem dX7_put_52 : decode cX7_put 52 = .ok (.iconst 1, 1) := by decide +kernel
theorem dX7_put_53 : decode cX7_put 53 = .ok (.goto 4, 3) := by decide +kernel
theorem dX7_put_56 : decode cX7_put 56 = .ok (.iconst 0, 1) := by decide +kernel
theorem dX7_put_57 : decode cX7_put 57 = .ok (.invokevirtual 117, 3) := by decide +kernel
theorem dX7_put_60 : decode cX7_put 60 = .ok (.iload 4, 2) := by decide +kernel
theorem dX7_put_62 : decode cX7_put 62 = .ok (.ireturn, 1) := by decide +kernel
set_option maxRecDepth 20000 in
theorem ggX7_reference_X7_isWithin : GoodIn wsX7_reference wsX7_isWithin := goodIn_r _ [8] (by decide +kernel) (by decide +kernel)
set_option maxRecDepth 20000 in
theorem gX7_reference_X7_isWithin : GoodIn wsX7_reference (va_wsS RX7 78 yX7_isWithin wsX7_isWithin) := goodIn_app (goodIn_of _ (by decide +kernel)) ggX7_reference_X7_isWithin
set_option maxRecDepth 20000 in
theorem ggX7_reference_X1_whiten : GoodIn wsX7_reference wsX1_whiten := goodIn_r _ [12, 13, 14, 15, 16, 17, 18, 19, 20, 21, 22, 23, 24, 52, 53, 54, 55] (by decide +kernel) (by decide +kernel)
set_option maxRecDepth 20000 in
theorem gX7_reference_X1_whiten_n74 : GoodIn wsX7_reference (wsX1_whiten) := ggX7_reference_X1_whiten
set_option maxRecDepth 20000 in
theorem ggX7_reference_X5_move : GoodIn wsX7_reference wsX5_move := goodIn_r _ [28, 29, 30, 44, 45, 46, 47, 48, 49, 50, 51] (by decide +kernel) (by decide +kernel)
set_option maxRecDepth 20000 in
theorem gX7_reference_X5_move_n126 : GoodIn wsX7_reference (wsX5_move) := ggX7_reference_X5_move
theorem dX7_reference_0 : decode cX7_reference 0 = .ok (.iload_n 1, 1) := by decide +kernel
theorem dX7_reference_1 : decode cX7_reference 1 = .ok (.iconst 1, 1) := by decide +kernel
theorem dX7_reference_2 : decode cX7_reference 2 = .ok (.bipush 60, 2) := by decide +kernel
theorem dX7_reference_4 : decode cX7_reference 4 = .ok (.invokestatic 78, 3) := by decide +kernel
theorem dX7_reference_7 : decode cX7_reference 7 = .ok (.ifCond .eq 13, 3) := by decide +kernel
theorem dX7_reference_10 : decode cX7_reference 10 = .ok (.iload_n 2, 1) := by decide +kernel
theorem dX7_reference_11 : decode cX7_reference 11 = .ok (.iconst 1, 1) := by decide +kernel
theorem dX7_reference_12 : decode cX7_reference 12 = .ok (.bipush 60, 2) := by decide +kernel
theorem dX7_reference_14 : decode cX7_reference 14 = .ok (.invokestatic 78, 3) := by decide +kernel
theorem dX7_reference_17 : decode cX7_reference 17 = .ok (.ifCond .ne 13, 3) := by decide +kernel
theorem dX7_reference_20 : decode cX7_reference 20 = .ok (.new 82, 3) := by decide +kernel
theorem dX7_reference_23 : decode cX7_reference 23 = .ok (.dup, 1) := by decide +kernel
theorem dX7_reference_24 : decode cX7_reference 24 = .ok (.ldc 121, 2) := by decide +kernel
theorem dX7_reference_26 : decode cX7_reference 26 = .ok (.invokespecial 86, 3) := by decide +kernel
theorem dX7_reference_29 : decode cX7_reference 29 = .ok (.athrow, 1) := by decide +kernel
theorem dX7_reference_30 : decode cX7_reference 30 = .ok (.aload_n 0, 1) := by decide +kernel
theorem dX7_reference_31 : decode cX7_reference 31 = .ok (.getfield 24, 3) := by decide +kernel
theorem dX7_reference_34 : decode cX7_reference 34 = .ok (.getfield 123, 3) := by decide +kernel
theorem dX7_reference_37 : decode cX7_reference 37 = .ok (.iload_n 1, 1) := by decide +kernel
theorem dX7_reference_38 : decode cX7_reference 38 = .ok (.iload_n 2, 1) := by decide +kernel
theorem dX7_reference_39 : decode cX7_reference 39 = .ok (.invokevirtual 74, 3) := by decide +kernel
theorem dX7_reference_42 : decode cX7_reference 42 = .ok (.aload_n 0, 1) := by decide +kernel
theorem dX7_reference_43 : decode cX7_reference 43 = .ok (.getfield 24, 3) := by decide +kernel
theorem dX7_reference_46 : decode cX7_reference 46 = .ok (.iconst 0, 1) := by decide +kernel
theorem dX7_reference_47 : decode cX7_reference 47 = .ok (.iconst 0, 1) := by decide +kernel
theorem dX7_reference_48 : decode cX7_reference 48 = .ok (.invokevirtual 126, 3) := by decide +kernel
theorem dX7_reference_51 : decode cX7_reference 51 = .ok (.aload_n 0, 1) := by decide +kernel
theorem dX7_reference_52 : decode cX7_reference 52 = .ok (.iconst 1, 1) := by decide +kernel
theorem dX7_reference_53 : decode cX7_reference 53 = .ok (.putfield 58, 3) := by decide +kernel
theorem dX7_reference_56 : decode cX7_reference 56 = .ok (.return_, 1) := by decide +kernel
set_option maxRecDepth 20000 in
theorem ggX7_refer_X7_requireReference : GoodIn wsX7_refer wsX7_requireReference := goodIn_ca (goodIn_r _ [8, 9, 10, 11, 27, 28, 29, 30, 31, 32, 33, 34, 35, 36, 37, 38, 39] (by decide +kernel) (by decide +kernel)) (goodIn_sub (fun _ h => List.mem_cons_of_mem _ (List.mem_append_right _ h)) (by decide +kernel))
set_option maxRecDepth 20000 in
theorem gX7_refer_X7_requireReference : GoodIn wsX7_refer (wsV RX7 129 RX7 yX7_requireReference wsX7_requireReference) := goodIn_app (goodIn_of _ (by decide +kernel)) ggX7_refer_X7_requireReference
set_option maxRecDepth 20000 in
theorem ggX7_refer_X1_holds : GoodIn wsX7_refer wsX1_holds := goodIn_r _ [15, 16, 17, 48, 49, 50, 51] (by decide +kernel) (by decide +kernel)
set_option maxRecDepth 20000 in
theorem gX7_refer_X1_holds_n104 : GoodIn wsX7_refer (wsX1_holds) := ggX7_refer_X1_holds
set_option maxRecDepth 20000 in
theorem ggX7_refer_X1_pixel : GoodIn wsX7_refer wsX1_pixel := goodIn_r _ [20, 16, 17, 21, 22, 48, 49, 50, 51] (by decide +kernel) (by decide +kernel)
set_option maxRecDepth 20000 in
theorem gX7_refer_X1_pixel_n113 : GoodIn wsX7_refer (wsX1_pixel) := ggX7_refer_X1_pixel
set_option maxRecDepth 20000 in
theorem ggX7_refer_X1_paint : GoodIn wsX7_refer wsX1_paint := goodIn_r _ [25, 21, 22, 26, 12, 14, 13, 15, 16, 17, 48, 49, 50, 51] (by decide +kernel) (by decide +kernel)
set_option maxRecDepth 20000 in
theorem gX7_refer_X1_paint_n117 : GoodIn wsX7_refer (wsX1_paint) := ggX7_refer_X1_paint
theorem dX7_refer_0 : decode cX7_refer 0 = .ok (.aload_n 0, 1) := by decide +kernel
theorem dX7_refer_1 : decode cX7_refer 1 = .ok (.invokevirtual 129, 3) := by decide +kernel
theorem dX7_refer_4 : decode cX7_refer 4 = .ok (.aload_n 0, 1) := by decide +kernel
theorem dX7_refer_5 : decode cX7_refer 5 = .ok (.getfield 24, 3) := by decide +kernel
theorem dX7_refer_8 : decode cX7_refer 8 = .ok (.getfield 123, 3) := by decide +kernel
theorem dX7_refer_11 : decode cX7_refer 11 = .ok (.iload_n 1, 1) := by decide +kernel
theorem dX7_refer_12 : decode cX7_refer 12 = .ok (.iload_n 2, 1) := by decide +kernel
theorem dX7_refer_13 : decode cX7_refer 13 = .ok (.invokevirtual 104, 3) := by decide +kernel
theorem dX7_refer_16 : decode cX7_refer 16 = .ok (.ifCond .ne 13, 3) := by decide +kernel
theorem dX7_refer_19 : decode cX7_refer 19 = .ok (.new 108, 3) := by decide +kernel
theorem dX7_refer_22 : decode cX7_refer 22 = .ok (.dup, 1) := by decide +kernel
theorem dX7_refer_23 : decode cX7_refer 23 = .ok (.ldc 132, 2) := by decide +kernel
theorem dX7_refer_25 : decode cX7_refer 25 = .ok (.invokespecial 112, 3) := by decide +kernel
theorem dX7_refer_28 : decode cX7_refer 28 = .ok (.athrow, 1) := by decide +kernel
theorem dX7_refer_29 : decode cX7_refer 29 = .ok (.aload_n 0, 1) := by decide +kernel
theorem dX7_refer_30 : decode cX7_refer 30 = .ok (.getfield 24, 3) := by decide +kernel
theorem dX7_refer_33 : decode cX7_refer 33 = .ok (.getfield 123, 3) := by decide +kernel
theorem dX7_refer_36 : decode cX7_refer 36 = .ok (.iload_n 1, 1) := by decide +kernel
theorem dX7_refer_37 : decode cX7_refer 37 = .ok (.iload_n 2, 1) := by decide +kernel
theorem dX7_refer_38 : decode cX7_refer 38 = .ok (.invokevirtual 113, 3) := by decide +kernel
theorem dX7_refer_41 : decode cX7_refer 41 = .ok (.iconst 1, 1) := by decide +kernel
theorem dX7_refer_42 : decode cX7_refer 42 = .ok (.if_icmp .ne 7, 3) := by decide +kernel
theorem dX7_refer_45 : decode cX7_refer 45 = .ok (.iconst 1, 1) := by decide +kernel
theorem dX7_refer_46 : decode cX7_refer 46 = .ok (.goto 4, 3) := by decide +kernel
theorem dX7_refer_49 : decode cX7_refer 49 = .ok (.iconst 0, 1) := by decide +kernel
theorem dX7_refer_50 : decode cX7_refer 50 = .ok (.istore 4, 2) := by decide +kernel
theorem dX7_refer_52 : decode cX7_refer 52 = .ok (.aload_n 0, 1) := by decide +kernel
theorem dX7_refer_53 : decode cX7_refer 53 = .ok (.getfield 24, 3) := by decide +kernel
theorem dX7_refer_56 : decode cX7_refer 56 = .ok (.getfield 123, 3) := by decide +kernel
theorem dX7_refer_59 : decode cX7_refer 59 = .ok (.iload_n 1, 1) := by decide +kernel
theorem dX7_refer_60 : decode cX7_refer 60 = .ok (.iload_n 2, 1) := by decide +kernel
theorem dX7_refer_61 : decode cX7_refer 61 = .ok (.iload_n 3, 1) := by decide +kernel
theorem dX7_refer_62 : decode cX7_refer 62 = .ok (.ifCond .eq 7, 3) := by decide +kernel
theorem dX7_refer_65 : decode cX7_refer 65 = .ok (.iconst 1, 1) := by decide +kernel
theorem dX7_refer_66 : decode cX7_refer 66 = .ok (.goto 4, 3) := by decide +kernel
theorem dX7_refer_69 : decode cX7_refer 69 = .ok (.iconst 0, 1) := by decide +kernel
theorem dX7_refer_70 : decode cX7_refer 70 = .ok (.invokevirtual 117, 3) := by decide +kernel
theorem dX7_refer_73 : decode cX7_refer 73 = .ok (.iload 4, 2) := by decide +kernel
theorem dX7_refer_75 : decode cX7_refer 75 = .ok (.ireturn, 1) := by decide +kernel
set_option maxRecDepth 20000 in
theorem ggX7_offset_X7_requireReference : GoodIn wsX7_offset wsX7_requireReference := goodIn_ca (goodIn_r _ [8, 9, 10, 11, 21, 22, 23, 24, 25, 26, 27, 28, 29, 30, 31, 32, 33] (by decide +kernel) (by decide +kernel)) (goodIn_sub (fun _ h => List.mem_cons_of_mem _ (List.mem_append_right _ h)) (by decide +kernel))
set_option maxRecDepth 20000 in
theorem gX7_offset_X7_requireReference : GoodIn wsX7_offset (wsV RX7 129 RX7 yX7_requireReference wsX7_requireReference) := goodIn_app (goodIn_of _ (by decide +kernel)) ggX7_offset_X7_requireReference
set_option maxRecDepth 20000 in
theorem ggX7_offset_X7_isWithin : GoodIn wsX7_offset wsX7_isWithin := goodIn_r _ [14] (by decide +kernel) (by decide +kernel)
set_option maxRecDepth 20000 in
theorem gX7_offset_X7_isWithin : GoodIn wsX7_offset (va_wsS RX7 78 yX7_isWithin wsX7_isWithin) := goodIn_app (goodIn_of _ (by decide +kernel)) ggX7_offset_X7_isWithin
set_option maxRecDepth 20000 in
theorem ggX7_offset_X5_move : GoodIn wsX7_offset wsX5_move := goodIn_r _ [18, 19, 20, 34, 35, 36, 37, 38, 39, 40, 41] (by decide +kernel) (by decide +kernel)
set_option maxRecDepth 20000 in
theorem gX7_offset_X5_move_n126 : GoodIn wsX7_offset (wsX5_move) := ggX7_offset_X5_move
theorem dX7_offset_0 : decode cX7_offset 0 = .ok (.aload_n 0, 1) := by decide +kernel
theorem dX7_offset_1 : decode cX7_offset 1 = .ok (.invokevirtual 129, 3) := by decide +kernel
theorem dX7_offset_4 : decode cX7_offset 4 = .ok (.iload_n 1, 1) := by decide +kernel
theorem dX7_offset_5 : decode cX7_offset 5 = .ok (.bipush (-20), 2) := by decide +kernel
theorem dX7_offset_7 : decode cX7_offset 7 = .ok (.bipush 20, 2) := by decide +kernel
theorem dX7_offset_9 : decode cX7_offset 9 = .ok (.invokestatic 78, 3) := by decide +kernel
theorem dX7_offset_12 : decode cX7_offset 12 = .ok (.ifCond .eq 14, 3) := by decide +kernel
theorem dX7_offset_15 : decode cX7_offset 15 = .ok (.iload_n 2, 1) := by decide +kernel
theorem dX7_offset_16 : decode cX7_offset 16 = .ok (.bipush (-20), 2) := by decide +kernel
theorem dX7_offset_18 : decode cX7_offset 18 = .ok (.bipush 20, 2) := by decide +kernel
theorem dX7_offset_20 : decode cX7_offset 20 = .ok (.invokestatic 78, 3) := by decide +kernel
theorem dX7_offset_23 : decode cX7_offset 23 = .ok (.ifCond .ne 13, 3) := by decide +kernel
theorem dX7_offset_26 : decode cX7_offset 26 = .ok (.new 82, 3) := by decide +kernel
theorem dX7_offset_29 : decode cX7_offset 29 = .ok (.dup, 1) := by decide +kernel
theorem dX7_offset_30 : decode cX7_offset 30 = .ok (.ldc 134, 2) := by decide +kernel
theorem dX7_offset_32 : decode cX7_offset 32 = .ok (.invokespecial 86, 3) := by decide +kernel
theorem dX7_offset_35 : decode cX7_offset 35 = .ok (.athrow, 1) := by decide +kernel
theorem dX7_offset_36 : decode cX7_offset 36 = .ok (.aload_n 0, 1) := by decide +kernel
theorem dX7_offset_37 : decode cX7_offset 37 = .ok (.getfield 24, 3) := by decide +kernel
theorem dX7_offset_40 : decode cX7_offset 40 = .ok (.iload_n 1, 1) := by decide +kernel
theorem dX7_offset_41 : decode cX7_offset 41 = .ok (.iload_n 2, 1) := by decide +kernel
theorem dX7_offset_42 : decode cX7_offset 42 = .ok (.invokevirtual 126, 3) := by decide +kernel
theorem dX7_offset_45 : decode cX7_offset 45 = .ok (.return_, 1) := by decide +kernel
set_option maxRecDepth 20000 in
theorem ggX7_adaptive_X7_isWithin : GoodIn wsX7_adaptive wsX7_isWithin := goodIn_r _ [7] (by decide +kernel) (by decide +kernel)
set_option maxRecDepth 20000 in
theorem gX7_adaptive_X7_isWithin : GoodIn wsX7_adaptive (va_wsS RX7 78 yX7_isWithin wsX7_isWithin) := goodIn_app (goodIn_of _ (by decide +kernel)) ggX7_adaptive_X7_isWithin
set_option maxRecDepth 20000 in
theorem ggX7_adaptive_X7_canBePlace0 : GoodIn wsX7_adaptive wsX7_canBePlace0 := goodIn_r _ [10, 4, 5, 6, 7] (by decide +kernel) (by decide +kernel)
set_option maxRecDepth 20000 in
theorem gX7_adaptive_X7_canBePlace0 : GoodIn wsX7_adaptive (va_wsS RX7 138 yX7_canBePlace0 wsX7_canBePlace0) := goodIn_app (goodIn_of _ (by decide +kernel)) ggX7_adaptive_X7_canBePlace0
set_option maxRecDepth 20000 in
theorem ggX7_adaptive_X7_canBePlace1 : GoodIn wsX7_adaptive wsX7_canBePlace1 := goodIn_r _ [13, 4, 5, 6, 7] (by decide +kernel) (by decide +kernel)
set_option maxRecDepth 20000 in
theorem gX7_adaptive_X7_canBePlace1 : GoodIn wsX7_adaptive (va_wsS RX7 141 yX7_canBePlace1 wsX7_canBePlace1) := goodIn_app (goodIn_of _ (by decide +kernel)) ggX7_adaptive_X7_canBePlace1
set_option maxRecDepth 20000 in
theorem ggX7_adaptive_X5_setPlace0 : GoodIn wsX7_adaptive wsX5_setPlace0 := goodIn_r _ [17, 18, 19, 38, 39, 40, 41, 42, 43, 44, 45] (by decide +kernel) (by decide +kernel)
set_option maxRecDepth 20000 in
theorem gX7_adaptive_X5_setPlace0_n146 : GoodIn wsX7_adaptive (wsX5_setPlace0) := ggX7_adaptive_X5_setPlace0
set_option maxRecDepth 20000 in
theorem ggX7_adaptive_X5_setPlace1 : GoodIn wsX7_adaptive wsX5_setPlace1 := goodIn_r _ [22, 23, 24, 38, 39, 40, 41, 42, 43, 44, 45] (by decide +kernel) (by decide +kernel)
set_option maxRecDepth 20000 in
theorem gX7_adaptive_X5_setPlace1_n149 : GoodIn wsX7_adaptive (wsX5_setPlace1) := ggX7_adaptive_X5_setPlace1
theorem dX7_adaptive_0 : decode cX7_adaptive 0 = .ok (.iload_n 1, 1) := by decide +kernel
theorem dX7_adaptive_1 : decode cX7_adaptive 1 = .ok (.iconst 0, 1) := by decide +kernel
theorem dX7_adaptive_2 : decode cX7_adaptive 2 = .ok (.iconst 1, 1) := by decide +kernel
theorem dX7_adaptive_3 : decode cX7_adaptive 3 = .ok (.invokestatic 78, 3) := by decide +kernel
theorem dX7_adaptive_6 : decode cX7_adaptive 6 = .ok (.ifCond .ne 13, 3) := by decide +kernel
theorem dX7_adaptive_9 : decode cX7_adaptive 9 = .ok (.new 82, 3) := by decide +kernel
theorem dX7_adaptive_12 : decode cX7_adaptive 12 = .ok (.dup, 1) := by decide +kernel
theorem dX7_adaptive_13 : decode cX7_adaptive 13 = .ok (.ldc 136, 2) := by decide +kernel
theorem dX7_adaptive_15 : decode cX7_adaptive 15 = .ok (.invokespecial 86, 3) := by decide +kernel
theorem dX7_adaptive_18 : decode cX7_adaptive 18 = .ok (.athrow, 1) := by decide +kernel
theorem dX7_adaptive_19 : decode cX7_adaptive 19 = .ok (.iload_n 1, 1) := by decide +kernel
theorem dX7_adaptive_20 : decode cX7_adaptive 20 = .ok (.ifCond .ne 14, 3) := by decide +kernel
theorem dX7_adaptive_23 : decode cX7_adaptive 23 = .ok (.iload_n 2, 1) := by decide +kernel
theorem dX7_adaptive_24 : decode cX7_adaptive 24 = .ok (.iload_n 3, 1) := by decide +kernel
theorem dX7_adaptive_25 : decode cX7_adaptive 25 = .ok (.invokestatic 138, 3) := by decide +kernel
theorem dX7_adaptive_28 : decode cX7_adaptive 28 = .ok (.ifCond .ne 24, 3) := by decide +kernel
theorem dX7_adaptive_31 : decode cX7_adaptive 31 = .ok (.goto 11, 3) := by decide +kernel
theorem dX7_adaptive_34 : decode cX7_adaptive 34 = .ok (.iload_n 2, 1) := by decide +kernel
theorem dX7_adaptive_35 : decode cX7_adaptive 35 = .ok (.iload_n 3, 1) := by decide +kernel
theorem dX7_adaptive_36 : decode cX7_adaptive 36 = .ok (.invokestatic 141, 3) := by decide +kernel
theorem dX7_adaptive_39 : decode cX7_adaptive 39 = .ok (.ifCond .ne 13, 3) := by decide +kernel
theorem dX7_adaptive_42 : decode cX7_adaptive 42 = .ok (.new 82, 3) := by decide +kernel
theorem dX7_adaptive_45 : decode cX7_adaptive 45 = .ok (.dup, 1) := by decide +kernel
theorem dX7_adaptive_46 : decode cX7_adaptive 46 = .ok (.ldc 144, 2) := by decide +kernel
theorem dX7_adaptive_48 : decode cX7_adaptive 48 = .ok (.invokespecial 86, 3) := by decide +kernel
theorem dX7_adaptive_51 : decode cX7_adaptive 51 = .ok (.athrow, 1) := by decide +kernel
theorem dX7_adaptive_52 : decode cX7_adaptive 52 = .ok (.iload_n 1, 1) := by decide +kernel
theorem dX7_adaptive_53 : decode cX7_adaptive 53 = .ok (.ifCond .ne 15, 3) := by decide +kernel
theorem dX7_adaptive_56 : decode cX7_adaptive 56 = .ok (.aload_n 0, 1) := by decide +kernel
theorem dX7_adaptive_57 : decode cX7_adaptive 57 = .ok (.getfield 24, 3) := by decide +kernel
theorem dX7_adaptive_60 : decode cX7_adaptive 60 = .ok (.iload_n 2, 1) := by decide +kernel
theorem dX7_adaptive_61 : decode cX7_adaptive 61 = .ok (.iload_n 3, 1) := by decide +kernel
theorem dX7_adaptive_62 : decode cX7_adaptive 62 = .ok (.invokevirtual 146, 3) := by decide +kernel
theorem dX7_adaptive_65 : decode cX7_adaptive 65 = .ok (.goto 12, 3) := by decide +kernel
theorem dX7_adaptive_68 : decode cX7_adaptive 68 = .ok (.aload_n 0, 1) := by decide +kernel
theorem dX7_adaptive_69 : decode cX7_adaptive 69 = .ok (.getfield 24, 3) := by decide +kernel
theorem dX7_adaptive_72 : decode cX7_adaptive 72 = .ok (.iload_n 2, 1) := by decide +kernel
theorem dX7_adaptive_73 : decode cX7_adaptive 73 = .ok (.iload_n 3, 1) := by decide +kernel
theorem dX7_adaptive_74 : decode cX7_adaptive 74 = .ok (.invokevirtual 149, 3) := by decide +kernel
theorem dX7_adaptive_77 : decode cX7_adaptive 77 = .ok (.return_, 1) := by decide +kernel
theorem dX7_keep_0 : decode cX7_keep 0 = .ok (.aload_n 0, 1) := by decide +kernel
theorem dX7_keep_1 : decode cX7_keep 1 = .ok (.iload_n 1, 1) := by decide +kernel
theorem dX7_keep_2 : decode cX7_keep 2 = .ok (.putfield 55, 3) := by decide +kernel
theorem dX7_keep_5 : decode cX7_keep 5 = .ok (.return_, 1) := by decide +kernel
set_option maxRecDepth 20000 in
theorem ggX7_encode_X7_requireReference : GoodIn wsX7_encode wsX7_requireReference := goodIn_ca (goodIn_r _ [9, 10, 11, 12, 172, 173, 174, 175, 176, 177, 178, 179, 180, 181, 182, 183, 184] (by decide +kernel) (by decide +kernel)) (goodIn_sub (fun _ h => List.mem_cons_of_mem _ (List.mem_append_right _ h)) (by decide +kernel))
set_option maxRecDepth 20000 in
theorem gX7_encode_X7_requireReference : GoodIn wsX7_encode (wsV RX7 129 RX7 yX7_requireReference wsX7_requireReference) := goodIn_app (goodIn_of _ (by decide +kernel)) ggX7_encode_X7_requireReference
set_option maxRecDepth 20000 in
theorem ggX7_encode_X4_forget : GoodIn wsX7_encode wsX4_forget := goodIn_r _ [16, 17, 18, 19, 20, 21, 190] (by decide +kernel) (by decide +kernel)
set_option maxRecDepth 20000 in
theorem gX7_encode_X4_forget_n98 : GoodIn wsX7_encode (wsX4_forget) := ggX7_encode_X4_forget
set_option maxRecDepth 20000 in
theorem ggX7_encode_X6_begin : GoodIn wsX7_encode wsX6_begin := goodIn_r _ [25, 26, 27, 28, 29, 30, 31, 32, 33, 34, 35, 185, 186, 187, 188, 189, 191, 192] (by decide +kernel) (by decide +kernel)
set_option maxRecDepth 20000 in
theorem gX7_encode_X6_begin_n152 : GoodIn wsX7_encode (wsX6_begin) := ggX7_encode_X6_begin
set_option maxRecDepth 20000 in
theorem ggX7_encode_X7_codePicture : GoodIn wsX7_encode wsX7_codePicture := goodIn_r _ [39, 40, 41, 42, 43, 44, 45, 46, 47, 48, 49, 50, 51, 52, 53, 54, 55, 56, 57, 58, 59, 60, 61, 62, 63, 64, 65, 66, 67, 68, 69, 70, 71, 72, 73, 74, 75, 76, 77, 78, 79, 80, 81, 82, 14, 83, 84, 85, 86, 87, 88, 17, 89, 90, 91, 92, 93, 94, 95, 96, 97, 98, 99, 100, 101, 102, 103, 104, 105, 106, 107, 108, 109, 110, 111, 112, 32, 113, 114, 35, 115, 116, 117, 23, 118, 119, 28, 27, 29, 120, 121, 122, 123, 30, 124, 125, 126, 127, 26, 128, 129, 130, 131, 132, 133, 134, 135, 136, 137, 138, 139, 140, 141, 8, 142, 143, 144, 145, 146, 147, 148, 149, 150, 151, 152, 153, 154, 155, 156, 157, 158, 159, 160, 161, 162, 163, 164, 172, 173, 174, 175, 176, 177, 178, 179, 180, 181, 182, 183, 184, 193, 194, 195, 196, 197, 198, 199, 200, 201, 202, 203, 204, 205, 206, 207, 208, 209, 210, 190, 191, 192, 185, 186, 187, 188, 189] (by decide +kernel) (by decide +kernel)
set_option maxRecDepth 20000 in
theorem gX7_encode_X7_codePicture : GoodIn wsX7_encode (wsV RX7 154 RX7 yX7_codePicture wsX7_codePicture) := goodIn_app (goodIn_of _ (by decide +kernel)) ggX7_encode_X7_codePicture
set_option maxRecDepth 20000 in
theorem ggX7_encode_X6_finish : GoodIn wsX7_encode wsX6_finish := goodIn_r _ [167, 29, 28, 168, 27, 30, 26, 124, 125, 126, 23, 127, 128, 129, 32, 130, 131, 35, 132, 112, 113, 114, 115, 133, 134, 135, 136, 137, 138, 185, 186, 187, 188, 189, 191, 192] (by decide +kernel) (by decide +kernel)
set_option maxRecDepth 20000 in
theorem gX7_encode_X6_finish_n158 : GoodIn wsX7_encode (wsX6_finish) := ggX7_encode_X6_finish
set_option maxRecDepth 20000 in
theorem ggX7_encode_X2_count : GoodIn wsX7_encode wsX2_count := goodIn_r _ [171, 35, 191, 192] (by decide +kernel) (by decide +kernel)
set_option maxRecDepth 20000 in
theorem gX7_encode_X2_count_n161 : GoodIn wsX7_encode (wsX2_count) := ggX7_encode_X2_count
theorem dX7_encode_0 : decode cX7_encode 0 = .ok (.aload_n 0, 1) := by decide +kernel
theorem dX7_encode_1 : decode cX7_encode 1 = .ok (.invokevirtual 129, 3) := by decide +kernel
theorem dX7_encode_4 : decode cX7_encode 4 = .ok (.aload_n 0, 1) := by decide +kernel
theorem dX7_encode_5 : decode cX7_encode 5 = .ok (.getfield 55, 3) := by decide +kernel
theorem dX7_encode_8 : decode cX7_encode 8 = .ok (.ifCond .ne 13, 3) := by decide +kernel
theorem dX7_encode_11 : decode cX7_encode 11 = .ok (.aload_n 0, 1) := by decide +kernel
theorem dX7_encode_12 : decode cX7_encode 12 = .ok (.getfield 40, 3) := by decide +kernel
theorem dX7_encode_15 : decode cX7_encode 15 = .ok (.getfield 94, 3) := by decide +kernel
theorem dX7_encode_18 : decode cX7_encode 18 = .ok (.invokevirtual 98, 3) := by decide +kernel
theorem dX7_encode_21 : decode cX7_encode 21 = .ok (.aload_n 0, 1) := by decide +kernel
theorem dX7_encode_22 : decode cX7_encode 22 = .ok (.getfield 40, 3) := by decide +kernel
theorem dX7_encode_25 : decode cX7_encode 25 = .ok (.invokevirtual 152, 3) := by decide +kernel
theorem dX7_encode_28 : decode cX7_encode 28 = .ok (.aload_n 0, 1) := by decide +kernel
theorem dX7_encode_29 : decode cX7_encode 29 = .ok (.aload_n 0, 1) := by decide +kernel
theorem dX7_encode_30 : decode cX7_encode 30 = .ok (.getfield 40, 3) := by decide +kernel
theorem dX7_encode_33 : decode cX7_encode 33 = .ok (.aload_n 0, 1) := by decide +kernel
theorem dX7_encode_34 : decode cX7_encode 34 = .ok (.getfield 14, 3) := by decide +kernel
theorem dX7_encode_37 : decode cX7_encode 37 = .ok (.invokevirtual 154, 3) := by decide +kernel
theorem dX7_encode_40 : decode cX7_encode 40 = .ok (.aload_n 0, 1) := by decide +kernel
theorem dX7_encode_41 : decode cX7_encode 41 = .ok (.getfield 40, 3) := by decide +kernel
theorem dX7_encode_44 : decode cX7_encode 44 = .ok (.invokevirtual 158, 3) := by decide +kernel
theorem dX7_encode_47 : decode cX7_encode 47 = .ok (.aload_n 0, 1) := by decide +kernel
theorem dX7_encode_48 : decode cX7_encode 48 = .ok (.getfield 31, 3) := by decide +kernel
theorem dX7_encode_51 : decode cX7_encode 51 = .ok (.invokevirtual 161, 3) := by decide +kernel
theorem dX7_encode_54 : decode cX7_encode 54 = .ok (.ireturn, 1) := by decide +kernel
set_option maxRecDepth 20000 in
theorem ggX7_feed_X7_isWithin : GoodIn wsX7_feed wsX7_isWithin := goodIn_r _ [7] (by decide +kernel) (by decide +kernel)
set_option maxRecDepth 20000 in
theorem gX7_feed_X7_isWithin : GoodIn wsX7_feed (va_wsS RX7 78 yX7_isWithin wsX7_isWithin) := goodIn_app (goodIn_of _ (by decide +kernel)) ggX7_feed_X7_isWithin
set_option maxRecDepth 20000 in
theorem ggX7_feed_X2_hasRoomFor : GoodIn wsX7_feed wsX2_hasRoomFor := goodIn_r _ [11, 12, 33, 34] (by decide +kernel) (by decide +kernel)
set_option maxRecDepth 20000 in
theorem gX7_feed_X2_hasRoomFor_n167 : GoodIn wsX7_feed (wsX2_hasRoomFor) := ggX7_feed_X2_hasRoomFor
set_option maxRecDepth 20000 in
theorem ggX7_feed_X2_append : GoodIn wsX7_feed wsX2_append := goodIn_r _ [15, 12, 16, 33, 34] (by decide +kernel) (by decide +kernel)
set_option maxRecDepth 20000 in
theorem gX7_feed_X2_append_n171 : GoodIn wsX7_feed (wsX2_append) := ggX7_feed_X2_append
set_option maxRecDepth 20000 in
theorem ggX7_feed_X2_count : GoodIn wsX7_feed wsX2_count := goodIn_r _ [19, 12, 33, 34] (by decide +kernel) (by decide +kernel)
set_option maxRecDepth 20000 in
theorem gX7_feed_X2_count_n161 : GoodIn wsX7_feed (wsX2_count) := ggX7_feed_X2_count
theorem dX7_feed_0 : decode cX7_feed 0 = .ok (.iload_n 1, 1) := by decide +kernel
theorem dX7_feed_1 : decode cX7_feed 1 = .ok (.iconst 1, 1) := by decide +kernel
theorem dX7_feed_2 : decode cX7_feed 2 = .ok (.bipush 8, 2) := by decide +kernel
theorem dX7_feed_4 : decode cX7_feed 4 = .ok (.invokestatic 78, 3) := by decide +kernel
theorem dX7_feed_7 : decode cX7_feed 7 = .ok (.ifCond .ne 13, 3) := by decide +kernel
theorem dX7_feed_10 : decode cX7_feed 10 = .ok (.new 82, 3) := by decide +kernel
theorem dX7_feed_13 : decode cX7_feed 13 = .ok (.dup, 1) := by decide +kernel
theorem dX7_feed_14 : decode cX7_feed 14 = .ok (.ldc 165, 2) := by decide +kernel
theorem dX7_feed_16 : decode cX7_feed 16 = .ok (.invokespecial 86, 3) := by decide +kernel
theorem dX7_feed_19 : decode cX7_feed 19 = .ok (.athrow, 1) := by decide +kernel
theorem dX7_feed_20 : decode cX7_feed 20 = .ok (.aload_n 0, 1) := by decide +kernel
theorem dX7_feed_21 : decode cX7_feed 21 = .ok (.getfield 31, 3) := by decide +kernel
theorem dX7_feed_24 : decode cX7_feed 24 = .ok (.iload_n 1, 1) := by decide +kernel
theorem dX7_feed_25 : decode cX7_feed 25 = .ok (.invokevirtual 167, 3) := by decide +kernel
theorem dX7_feed_28 : decode cX7_feed 28 = .ok (.ifCond .ne 5, 3) := by decide +kernel
