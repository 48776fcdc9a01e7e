set_option maxRecDepth 20000 in
theorem ggX3_init_X0_init : GoodIn wsX3_init wsX0_init := goodIn_r _ [13, 14, 15, 16] (by decide +kernel) (by decide +kernel)
set_option maxRecDepth 20000 in
theorem gX3_init_X0_init_n1 : GoodIn wsX3_init (wsX0_init) := ggX3_init_X0_init
set_option maxRecDepth 20000 in
theorem ggX3_init_X4_init : GoodIn wsX3_init wsX4_init := goodIn_r _ [18, 19, 15, 16, 20, 21, 22] (by decide +kernel) (by decide +kernel)
set_option maxRecDepth 20000 in
theorem gX3_init_X4_init_n9 : GoodIn wsX3_init (wsX4_init) := ggX3_init_X4_init
theorem dX3_init_0 : decode cX3_init 0 = .ok (.aload_n 0, 1) := by decide +kernel
theorem dX3_init_1 : decode cX3_init 1 = .ok (.invokespecial 1, 3) := by decide +kernel
theorem dX3_init_4 : decode cX3_init 4 = .ok (.aload_n 0, 1) := by decide +kernel
theorem dX3_init_5 : decode cX3_init 5 = .ok (.new 7, 3) := by decide +kernel
theorem dX3_init_8 : decode cX3_init 8 = .ok (.dup, 1) := by decide +kernel
theorem dX3_init_9 : decode cX3_init 9 = .ok (.invokespecial 9, 3) := by decide +kernel
theorem dX3_init_12 : decode cX3_init 12 = .ok (.putfield 10, 3) := by decide +kernel
theorem dX3_init_15 : decode cX3_init 15 = .ok (.aload_n 0, 1) := by decide +kernel
theorem dX3_init_16 : decode cX3_init 16 = .ok (.ldc 16, 2) := by decide +kernel
theorem dX3_init_18 : decode cX3_init 18 = .ok (.putfield 17, 3) := by decide +kernel
theorem dX3_init_21 : decode cX3_init 21 = .ok (.aload_n 0, 1) := by decide +kernel
theorem dX3_init_22 : decode cX3_init 22 = .ok (.lconst 0, 1) := by decide +kernel
theorem dX3_init_23 : decode cX3_init 23 = .ok (.putfield 21, 3) := by decide +kernel
theorem dX3_init_26 : decode cX3_init 26 = .ok (.aload_n 0, 1) := by decide +kernel
theorem dX3_init_27 : decode cX3_init 27 = .ok (.iconst 0, 1) := by decide +kernel
theorem dX3_init_28 : decode cX3_init 28 = .ok (.putfield 25, 3) := by decide +kernel
theorem dX3_init_31 : decode cX3_init 31 = .ok (.aload_n 0, 1) := by decide +kernel
theorem dX3_init_32 : decode cX3_init 32 = .ok (.iconst 0, 1) := by decide +kernel
theorem dX3_init_33 : decode cX3_init 33 = .ok (.putfield 28, 3) := by decide +kernel
theorem dX3_init_36 : decode cX3_init 36 = .ok (.aload_n 0, 1) := by decide +kernel
theorem dX3_init_37 : decode cX3_init 37 = .ok (.aload_n 1, 1) := by decide +kernel
theorem dX3_init_38 : decode cX3_init 38 = .ok (.putfield 31, 3) := by decide +kernel
theorem dX3_init_41 : decode cX3_init 41 = .ok (.return_, 1) := by decide +kernel
set_option maxRecDepth 20000 in
theorem ggX3_begin_X2_valueOr : GoodIn wsX3_begin wsX2_valueOr := goodIn_r _ [11, 12, 13, 26, 27] (by decide +kernel) (by decide +kernel)
set_option maxRecDepth 20000 in
theorem gX3_begin_X2_valueOr_n35 : GoodIn wsX3_begin (wsX2_valueOr) := ggX3_begin_X2_valueOr
set_option maxRecDepth 20000 in
theorem ggX3_begin_X3_fetchByte : GoodIn wsX3_begin wsX3_fetchByte := goodIn_r _ [18, 2, 1, 3, 19, 5, 4, 8, 9, 10, 11, 12, 13, 20, 21, 22, 23, 24, 25, 26, 27] (by decide +kernel) (by decide +kernel)
set_option maxRecDepth 20000 in
theorem gX3_begin_X3_fetchByte : GoodIn wsX3_begin (wsV RX3 41 RX3 yX3_fetchByte wsX3_fetchByte) := goodIn_app (goodIn_of _ (by decide +kernel)) ggX3_begin_X3_fetchByte
theorem dX3_begin_0 : decode cX3_begin 0 = .ok (.aload_n 0, 1) := by decide +kernel
theorem dX3_begin_1 : decode cX3_begin 1 = .ok (.iconst 0, 1) := by decide +kernel
theorem dX3_begin_2 : decode cX3_begin 2 = .ok (.putfield 28, 3) := by decide +kernel
theorem dX3_begin_5 : decode cX3_begin 5 = .ok (.aload_n 0, 1) := by decide +kernel
theorem dX3_begin_6 : decode cX3_begin 6 = .ok (.aload_n 0, 1) := by decide +kernel
theorem dX3_begin_7 : decode cX3_begin 7 = .ok (.getfield 31, 3) := by decide +kernel
theorem dX3_begin_10 : decode cX3_begin 10 = .ok (.iconst 0, 1) := by decide +kernel
theorem dX3_begin_11 : decode cX3_begin 11 = .ok (.sipush 255, 3) := by decide +kernel
theorem dX3_begin_14 : decode cX3_begin 14 = .ok (.invokevirtual 35, 3) := by decide +kernel
theorem dX3_begin_17 : decode cX3_begin 17 = .ok (.i2l, 1) := by decide +kernel
theorem dX3_begin_18 : decode cX3_begin 18 = .ok (.bipush 16, 2) := by decide +kernel
theorem dX3_begin_20 : decode cX3_begin 20 = .ok (.lshl, 1) := by decide +kernel
theorem dX3_begin_21 : decode cX3_begin 21 = .ok (.putfield 21, 3) := by decide +kernel
theorem dX3_begin_24 : decode cX3_begin 24 = .ok (.aload_n 0, 1) := by decide +kernel
theorem dX3_begin_25 : decode cX3_begin 25 = .ok (.invokevirtual 41, 3) := by decide +kernel
theorem dX3_begin_28 : decode cX3_begin 28 = .ok (.aload_n 0, 1) := by decide +kernel
theorem dX3_begin_29 : decode cX3_begin 29 = .ok (.aload_n 0, 1) := by decide +kernel
theorem dX3_begin_30 : decode cX3_begin 30 = .ok (.getfield 21, 3) := by decide +kernel
theorem dX3_begin_33 : decode cX3_begin 33 = .ok (.bipush 7, 2) := by decide +kernel
theorem dX3_begin_35 : decode cX3_begin 35 = .ok (.lshl, 1) := by decide +kernel
theorem dX3_begin_36 : decode cX3_begin 36 = .ok (.ldc2_w 44, 3) := by decide +kernel
theorem dX3_begin_39 : decode cX3_begin 39 = .ok (.land, 1) := by decide +kernel
theorem dX3_begin_40 : decode cX3_begin 40 = .ok (.putfield 21, 3) := by decide +kernel
theorem dX3_begin_43 : decode cX3_begin 43 = .ok (.aload_n 0, 1) := by decide +kernel
theorem dX3_begin_44 : decode cX3_begin 44 = .ok (.dup, 1) := by decide +kernel
theorem dX3_begin_45 : decode cX3_begin 45 = .ok (.getfield 25, 3) := by decide +kernel
theorem dX3_begin_48 : decode cX3_begin 48 = .ok (.bipush 7, 2) := by decide +kernel
theorem dX3_begin_50 : decode cX3_begin 50 = .ok (.isub, 1) := by decide +kernel
theorem dX3_begin_51 : decode cX3_begin 51 = .ok (.putfield 25, 3) := by decide +kernel
theorem dX3_begin_54 : decode cX3_begin 54 = .ok (.aload_n 0, 1) := by decide +kernel
theorem dX3_begin_55 : decode cX3_begin 55 = .ok (.ldc 16, 2) := by decide +kernel
theorem dX3_begin_57 : decode cX3_begin 57 = .ok (.putfield 17, 3) := by decide +kernel
theorem dX3_begin_60 : decode cX3_begin 60 = .ok (.return_, 1) := by decide +kernel
set_option maxRecDepth 20000 in
theorem ggX3_pass_X4_shareOf : GoodIn wsX3_pass wsX4_shareOf := goodIn_r _ [8, 9, 10, 11, 6, 12, 13, 14, 15, 16, 17, 50] (by decide +kernel) (by decide +kernel)
set_option maxRecDepth 20000 in
theorem gX3_pass_X4_shareOf_n46 : GoodIn wsX3_pass (wsX4_shareOf) := ggX3_pass_X4_shareOf
set_option maxRecDepth 20000 in
theorem ggX3_pass_X4_likelyOf : GoodIn wsX3_pass wsX4_likelyOf := goodIn_r _ [20, 9, 10, 11, 6, 12, 13, 50] (by decide +kernel) (by decide +kernel)
set_option maxRecDepth 20000 in
theorem gX3_pass_X4_likelyOf_n50 : GoodIn wsX3_pass (wsX4_likelyOf) := ggX3_pass_X4_likelyOf
set_option maxRecDepth 20000 in
theorem ggX3_pass_X4_advance : GoodIn wsX3_pass wsX4_advance := goodIn_r _ [23, 13, 14, 15, 6, 16, 17, 50] (by decide +kernel) (by decide +kernel)
set_option maxRecDepth 20000 in
theorem gX3_pass_X4_advance_n53 : GoodIn wsX3_pass (wsX4_advance) := ggX3_pass_X4_advance
set_option maxRecDepth 20000 in
theorem ggX3_pass_X3_renew : GoodIn wsX3_pass wsX3_renew := goodIn_r _ [28, 29, 2, 3, 30, 4, 31, 32, 33, 27, 34, 35, 36, 37, 38, 39, 40, 41, 42, 43, 44, 45, 46, 47, 48, 49, 51, 52] (by decide +kernel) (by decide +kernel)
set_option maxRecDepth 20000 in
theorem gX3_pass_X3_renew : GoodIn wsX3_pass (wsV RX3 57 RX3 yX3_renew wsX3_renew) := goodIn_app (goodIn_of _ (by decide +kernel)) ggX3_pass_X3_renew
theorem dX3_pass_0 : decode cX3_pass 0 = .ok (.aload_n 0, 1) := by decide +kernel
theorem dX3_pass_1 : decode cX3_pass 1 = .ok (.getfield 10, 3) := by decide +kernel
theorem dX3_pass_4 : decode cX3_pass 4 = .ok (.iload_n 1, 1) := by decide +kernel
theorem dX3_pass_5 : decode cX3_pass 5 = .ok (.invokevirtual 46, 3) := by decide +kernel
theorem dX3_pass_8 : decode cX3_pass 8 = .ok (.istore_n 3, 1) := by decide +kernel
theorem dX3_pass_9 : decode cX3_pass 9 = .ok (.aload_n 0, 1) := by decide +kernel
theorem dX3_pass_10 : decode cX3_pass 10 = .ok (.getfield 10, 3) := by decide +kernel
theorem dX3_pass_13 : decode cX3_pass 13 = .ok (.iload_n 1, 1) := by decide +kernel
theorem dX3_pass_14 : decode cX3_pass 14 = .ok (.invokevirtual 50, 3) := by decide +kernel
theorem dX3_pass_17 : decode cX3_pass 17 = .ok (.istore 4, 2) := by decide +kernel
theorem dX3_pass_19 : decode cX3_pass 19 = .ok (.iload_n 3, 1) := by decide +kernel
theorem dX3_pass_20 : decode cX3_pass 20 = .ok (.i2l, 1) := by decide +kernel
theorem dX3_pass_21 : decode cX3_pass 21 = .ok (.bipush 16, 2) := by decide +kernel
theorem dX3_pass_23 : decode cX3_pass 23 = .ok (.lshl, 1) := by decide +kernel
theorem dX3_pass_24 : decode cX3_pass 24 = .ok (.lstore 5, 2) := by decide +kernel
theorem dX3_pass_26 : decode cX3_pass 26 = .ok (.aload_n 0, 1) := by decide +kernel
theorem dX3_pass_27 : decode cX3_pass 27 = .ok (.dup, 1) := by decide +kernel
theorem dX3_pass_28 : decode cX3_pass 28 = .ok (.getfield 17, 3) := by decide +kernel
theorem dX3_pass_31 : decode cX3_pass 31 = .ok (.iload_n 3, 1) := by decide +kernel
theorem dX3_pass_32 : decode cX3_pass 32 = .ok (.isub, 1) := by decide +kernel
theorem dX3_pass_33 : decode cX3_pass 33 = .ok (.putfield 17, 3) := by decide +kernel
theorem dX3_pass_36 : decode cX3_pass 36 = .ok (.aload_n 0, 1) := by decide +kernel
theorem dX3_pass_37 : decode cX3_pass 37 = .ok (.getfield 21, 3) := by decide +kernel
theorem dX3_pass_40 : decode cX3_pass 40 = .ok (.lload 5, 2) := by decide +kernel
theorem dX3_pass_42 : decode cX3_pass 42 = .ok (.lcmp, 1) := by decide +kernel
theorem dX3_pass_43 : decode cX3_pass 43 = .ok (.ifCond .ge 26, 3) := by decide +kernel
theorem dX3_pass_46 : decode cX3_pass 46 = .ok (.aload_n 0, 1) := by decide +kernel
theorem dX3_pass_47 : decode cX3_pass 47 = .ok (.getfield 17, 3) := by decide +kernel
theorem dX3_pass_50 : decode cX3_pass 50 = .ok (.iload_n 3, 1) := by decide +kernel
theorem dX3_pass_51 : decode cX3_pass 51 = .ok (.if_icmp .ge 7, 3) := by decide +kernel
theorem dX3_pass_54 : decode cX3_pass 54 = .ok (.iconst 1, 1) := by decide +kernel
theorem dX3_pass_55 : decode cX3_pass 55 = .ok (.goto 4, 3) := by decide +kernel
theorem dX3_pass_58 : decode cX3_pass 58 = .ok (.iconst 0, 1) := by decide +kernel
theorem dX3_pass_59 : decode cX3_pass 59 = .ok (.istore 7, 2) := by decide +kernel
theorem dX3_pass_61 : decode cX3_pass 61 = .ok (.aload_n 0, 1) := by decide +kernel
theorem dX3_pass_62 : decode cX3_pass 62 = .ok (.iload_n 3, 1) := by decide +kernel
theorem dX3_pass_63 : decode cX3_pass 63 = .ok (.putfield 17, 3) := by decide +kernel
theorem dX3_pass_66 : decode cX3_pass 66 = .ok (.goto 41, 3) := by decide +kernel
theorem dX3_pass_69 : decode cX3_pass 69 = .ok (.aload_n 0, 1) := by decide +kernel
theorem dX3_pass_70 : decode cX3_pass 70 = .ok (.dup, 1) := by decide +kernel
theorem dX3_pass_71 : decode cX3_pass 71 = .ok (.getfield 21, 3) := by decide +kernel
theorem dX3_pass_74 : decode cX3_pass 74 = .ok (.lload 5, 2) := by decide +kernel
theorem dX3_pass_76 : decode cX3_pass 76 = .ok (.lsub, 1) := by decide +kernel
theorem dX3_pass_77 : decode cX3_pass 77 = .ok (.putfield 21, 3) := by decide +kernel
theorem dX3_pass_80 : decode cX3_pass 80 = .ok (.aload_n 0, 1) := by decide +kernel
theorem dX3_pass_81 : decode cX3_pass 81 = .ok (.getfield 17, 3) := by decide +kernel
theorem dX3_pass_84 : decode cX3_pass 84 = .ok (.ldc 16, 2) := by decide +kernel
theorem dX3_pass_86 : decode cX3_pass 86 = .ok (.if_icmp .lt 6, 3) := by decide +kernel
theorem dX3_pass_89 : decode cX3_pass 89 = .ok (.iload 4, 2) := by decide +kernel
theorem dX3_pass_91 : decode cX3_pass 91 = .ok (.ireturn, 1) := by decide +kernel
theorem dX3_pass_92 : decode cX3_pass 92 = .ok (.aload_n 0, 1) := by decide +kernel
theorem dX3_pass_93 : decode cX3_pass 93 = .ok (.getfield 17, 3) := by decide +kernel
theorem dX3_pass_96 : decode cX3_pass 96 = .ok (.iload_n 3, 1) := by decide +kernel
theorem dX3_pass_97 : decode cX3_pass 97 = .ok (.if_icmp .lt 7, 3) := by decide +kernel
theorem dX3_pass_100 : decode cX3_pass 100 = .ok (.iconst 1, 1) := by decide +kernel
theorem dX3_pass_101 : decode cX3_pass 101 = .ok (.goto 4, 3) := by decide +kernel
theorem dX3_pass_104 : decode cX3_pass 104 = .ok (.iconst 0, 1) := by decide +kernel
theorem dX3_pass_105 : decode cX3_pass 105 = .ok (.istore 7, 2) := by decide +kernel
theorem dX3_pass_107 : decode cX3_pass 107 = .ok (.aload_n 0, 1) := by decide +kernel
theorem dX3_pass_108 : decode cX3_pass 108 = .ok (.getfield 10, 3) := by decide +kernel
theorem dX3_pass_111 : decode cX3_pass 111 = .ok (.iload_n 1, 1) := by decide +kernel
theorem dX3_pass_112 : decode cX3_pass 112 = .ok (.iload 7, 2) := by decide +kernel
theorem dX3_pass_114 : decode cX3_pass 114 = .ok (.invokevirtual 53, 3) := by decide +kernel
theorem dX3_pass_117 : decode cX3_pass 117 = .ok (.aload_n 0, 1) := by decide +kernel
theorem dX3_pass_118 : decode cX3_pass 118 = .ok (.invokevirtual 57, 3) := by decide +kernel
theorem dX3_pass_121 : decode cX3_pass 121 = .ok (.iload 7, 2) := by decide +kernel
theorem dX3_pass_123 : decode cX3_pass 123 = .ok (.ifCond .eq 8, 3) := by decide +kernel
theorem dX3_pass_126 : decode cX3_pass 126 = .ok (.iload 4, 2) := by decide +kernel
theorem dX3_pass_128 : decode cX3_pass 128 = .ok (.goto 7, 3) := by decide +kernel
theorem dX3_pass_131 : decode cX3_pass 131 = .ok (.iconst 1, 1) := by decide +kernel
theorem dX3_pass_132 : decode cX3_pass 132 = .ok (.iload 4, 2) := by decide +kernel
theorem dX3_pass_134 : decode cX3_pass 134 = .ok (.isub, 1) := by decide +kernel
theorem dX3_pass_135 : decode cX3_pass 135 = .ok (.ireturn, 1) := by decide +kernel
set_option maxRecDepth 20000 in
theorem ggX3_renew_X3_fetchByte : GoodIn wsX3_renew wsX3_fetchByte := goodIn_r _ [10, 11, 12, 3, 13, 1, 4, 14, 15, 16, 17, 18, 19, 20, 21, 22, 23, 24, 25, 26, 27] (by decide +kernel) (by decide +kernel)
set_option maxRecDepth 20000 in
theorem gX3_renew_X3_fetchByte : GoodIn wsX3_renew (wsV RX3 41 RX3 yX3_fetchByte wsX3_fetchByte) := goodIn_app (goodIn_of _ (by decide +kernel)) ggX3_renew_X3_fetchByte
theorem dX3_renew_0 : decode cX3_renew 0 = .ok (.iconst 0, 1) := by decide +kernel
theorem dX3_renew_1 : decode cX3_renew 1 = .ok (.istore_n 1, 1) := by decide +kernel
theorem dX3_renew_2 : decode cX3_renew 2 = .ok (.iload_n 1, 1) := by decide +kernel
theorem dX3_renew_3 : decode cX3_renew 3 = .ok (.bipush 15, 2) := by decide +kernel
theorem dX3_renew_5 : decode cX3_renew 5 = .ok (.if_icmp .ge 64, 3) := by decide +kernel
theorem dX3_renew_8 : decode cX3_renew 8 = .ok (.aload_n 0, 1) := by decide +kernel
theorem dX3_renew_9 : decode cX3_renew 9 = .ok (.getfield 25, 3) := by decide +kernel
theorem dX3_renew_12 : decode cX3_renew 12 = .ok (.ifCond .ne 7, 3) := by decide +kernel
theorem dX3_renew_15 : decode cX3_renew 15 = .ok (.aload_n 0, 1) := by decide +kernel
theorem dX3_renew_16 : decode cX3_renew 16 = .ok (.invokevirtual 41, 3) := by decide +kernel
theorem dX3_renew_19 : decode cX3_renew 19 = .ok (.aload_n 0, 1) := by decide +kernel
theorem dX3_renew_20 : decode cX3_renew 20 = .ok (.dup, 1) := by decide +kernel
theorem dX3_renew_21 : decode cX3_renew 21 = .ok (.getfield 17, 3) := by decide +kernel
theorem dX3_renew_24 : decode cX3_renew 24 = .ok (.iconst 2, 1) := by decide +kernel
theorem dX3_renew_25 : decode cX3_renew 25 = .ok (.imul, 1) := by decide +kernel
theorem dX3_renew_26 : decode cX3_renew 26 = .ok (.putfield 17, 3) := by decide +kernel
theorem dX3_renew_29 : decode cX3_renew 29 = .ok (.aload_n 0, 1) := by decide +kernel
theorem dX3_renew_30 : decode cX3_renew 30 = .ok (.aload_n 0, 1) := by decide +kernel
theorem dX3_renew_31 : decode cX3_renew 31 = .ok (.getfield 21, 3) := by decide +kernel
theorem dX3_renew_34 : decode cX3_renew 34 = .ok (.iconst 1, 1) := by decide +kernel
theorem dX3_renew_35 : decode cX3_renew 35 = .ok (.lshl, 1) := by decide +kernel
theorem dX3_renew_36 : decode cX3_renew 36 = .ok (.ldc2_w 44, 3) := by decide +kernel
theorem dX3_renew_39 : decode cX3_renew 39 = .ok (.land, 1) := by decide +kernel
theorem dX3_renew_40 : decode cX3_renew 40 = .ok (.putfield 21, 3) := by decide +kernel
theorem dX3_renew_43 : decode cX3_renew 43 = .ok (.aload_n 0, 1) := by decide +kernel
theorem dX3_renew_44 : decode cX3_renew 44 = .ok (.dup, 1) := by decide +kernel
theorem dX3_renew_45 : decode cX3_renew 45 = .ok (.getfield 25, 3) := by decide +kernel
theorem dX3_renew_48 : decode cX3_renew 48 = .ok (.iconst 1, 1) := by decide +kernel
theorem dX3_renew_49 : decode cX3_renew 49 = .ok (.isub, 1) := by decide +kernel
theorem dX3_renew_50 : decode cX3_renew 50 = .ok (.putfield 25, 3) := by decide +kernel
theorem dX3_renew_53 : decode cX3_renew 53 = .ok (.aload_n 0, 1) := by decide +kernel
theorem dX3_renew_54 : decode cX3_renew 54 = .ok (.getfield 17, 3) := by decide +kernel
theorem dX3_renew_57 : decode cX3_renew 57 = .ok (.ldc 16, 2) := by decide +kernel
theorem dX3_renew_59 : decode cX3_renew 59 = .ok (.if_icmp .lt 4, 3) := by decide +kernel
theorem dX3_renew_62 : decode cX3_renew 62 = .ok (.return_, 1) := by decide +kernel
theorem dX3_renew_63 : decode cX3_renew 63 = .ok (.iinc 1 1, 3) := by decide +kernel
theorem dX3_renew_66 : decode cX3_renew 66 = .ok (.goto (-64), 3) := by decide +kernel
theorem dX3_renew_69 : decode cX3_renew 69 = .ok (.return_, 1) := by decide +kernel
set_option maxRecDepth 20000 in
theorem ggX3_fetchByte_X2_valueOr : GoodIn wsX3_fetchByte wsX2_valueOr := goodIn_r _ [10, 11, 12, 19, 20] (by decide +kernel) (by decide +kernel)
set_option maxRecDepth 20000 in
theorem gX3_fetchByte_X2_valueOr_n35 : GoodIn wsX3_fetchByte (wsX2_valueOr) := ggX3_fetchByte_X2_valueOr
theorem dX3_fetchByte_0 : decode cX3_fetchByte 0 = .ok (.aload_n 0, 1) := by decide +kernel
theorem dX3_fetchByte_1 : decode cX3_fetchByte 1 = .ok (.getfield 31, 3) := by decide +kernel
theorem dX3_fetchByte_4 : decode cX3_fetchByte 4 = .ok (.aload_n 0, 1) := by decide +kernel
theorem dX3_fetchByte_5 : decode cX3_fetchByte 5 = .ok (.getfield 28, 3) := by decide +kernel
theorem dX3_fetchByte_8 : decode cX3_fetchByte 8 = .ok (.sipush 255, 3) := by decide +kernel
theorem dX3_fetchByte_11 : decode cX3_fetchByte 11 = .ok (.invokevirtual 35, 3) := by decide +kernel
theorem dX3_fetchByte_14 : decode cX3_fetchByte 14 = .ok (.istore_n 1, 1) := by decide +kernel
theorem dX3_fetchByte_15 : decode cX3_fetchByte 15 = .ok (.aload_n 0, 1) := by decide +kernel
theorem dX3_fetchByte_16 : decode cX3_fetchByte 16 = .ok (.getfield 31, 3) := by decide +kernel
theorem dX3_fetchByte_19 : decode cX3_fetchByte 19 = .ok (.aload_n 0, 1) := by decide +kernel
theorem dX3_fetchByte_20 : decode cX3_fetchByte 20 = .ok (.getfield 28, 3) := by decide +kernel
theorem dX3_fetchByte_23 : decode cX3_fetchByte 23 = .ok (.iconst 1, 1) := by decide +kernel
theorem dX3_fetchByte_24 : decode cX3_fetchByte 24 = .ok (.iadd, 1) := by decide +kernel
theorem dX3_fetchByte_25 : decode cX3_fetchByte 25 = .ok (.sipush 255, 3) := by decide +kernel
theorem dX3_fetchByte_28 : decode cX3_fetchByte 28 = .ok (.invokevirtual 35, 3) := by decide +kernel
theorem dX3_fetchByte_31 : decode cX3_fetchByte 31 = .ok (.istore_n 2, 1) := by decide +kernel
theorem dX3_fetchByte_32 : decode cX3_fetchByte 32 = .ok (.iload_n 1, 1) := by decide +kernel
theorem dX3_fetchByte_33 : decode cX3_fetchByte 33 = .ok (.sipush 255, 3) := by decide +kernel
theorem dX3_fetchByte_36 : decode cX3_fetchByte 36 = .ok (.if_icmp .ne 31, 3) := by decide +kernel
theorem dX3_fetchByte_39 : decode cX3_fetchByte 39 = .ok (.iload_n 2, 1) := by decide +kernel
theorem dX3_fetchByte_40 : decode cX3_fetchByte 40 = .ok (.sipush 143, 3) := by decide +kernel
theorem dX3_fetchByte_43 : decode cX3_fetchByte 43 = .ok (.if_icmp .le 24, 3) := by decide +kernel
theorem dX3_fetchByte_46 : decode cX3_fetchByte 46 = .ok (.aload_n 0, 1) := by decide +kernel
theorem dX3_fetchByte_47 : decode cX3_fetchByte 47 = .ok (.dup, 1) := by decide +kernel
theorem dX3_fetchByte_48 : decode cX3_fetchByte 48 = .ok (.getfield 21, 3) := by decide +kernel
theorem dX3_fetchByte_51 : decode cX3_fetchByte 51 = .ok (.ldc2_w 60, 3) := by decide +kernel
theorem dX3_fetchByte_54 : decode cX3_fetchByte 54 = .ok (.ladd, 1) := by decide +kernel
theorem dX3_fetchByte_55 : decode cX3_fetchByte 55 = .ok (.putfield 21, 3) := by decide +kernel
theorem dX3_fetchByte_58 : decode cX3_fetchByte 58 = .ok (.aload_n 0, 1) := by decide +kernel
theorem dX3_fetchByte_59 : decode cX3_fetchByte 59 = .ok (.bipush 8, 2) := by decide +kernel
theorem dX3_fetchByte_61 : decode cX3_fetchByte 61 = .ok (.putfield 25, 3) := by decide +kernel
theorem dX3_fetchByte_64 : decode cX3_fetchByte 64 = .ok (.goto 57, 3) := by decide +kernel
theorem dX3_fetchByte_67 : decode cX3_fetchByte 67 = .ok (.aload_n 0, 1) := by decide +kernel
theorem dX3_fetchByte_68 : decode cX3_fetchByte 68 = .ok (.dup, 1) := by decide +kernel
theorem dX3_fetchByte_69 : decode cX3_fetchByte 69 = .ok (.getfield 28, 3) := by decide +kernel
theorem dX3_fetchByte_72 : decode cX3_fetchByte 72 = .ok (.iconst 1, 1) := by decide +kernel
theorem dX3_fetchByte_73 : decode cX3_fetchByte 73 = .ok (.iadd, 1) := by decide +kernel
theorem dX3_fetchByte_74 : decode cX3_fetchByte 74 = .ok (.putfield 28, 3) := by decide +kernel
theorem dX3_fetchByte_77 : decode cX3_fetchByte 77 = .ok (.aload_n 0, 1) := by decide +kernel
theorem dX3_fetchByte_78 : decode cX3_fetchByte 78 = .ok (.iload_n 1, 1) := by decide +kernel
theorem dX3_fetchByte_79 : decode cX3_fetchByte 79 = .ok (.sipush 255, 3) := by decide +kernel
theorem dX3_fetchByte_82 : decode cX3_fetchByte 82 = .ok (.if_icmp .ne 8, 3) := by decide +kernel
theorem dX3_fetchByte_85 : decode cX3_fetchByte 85 = .ok (.bipush 7, 2) := by decide +kernel
theorem dX3_fetchByte_87 : decode cX3_fetchByte 87 = .ok (.goto 5, 3) := by decide +kernel
theorem dX3_fetchByte_90 : decode cX3_fetchByte 90 = .ok (.bipush 8, 2) := by decide +kernel
theorem dX3_fetchByte_92 : decode cX3_fetchByte 92 = .ok (.putfield 25, 3) := by decide +kernel
theorem dX3_fetchByte_95 : decode cX3_fetchByte 95 = .ok (.aload_n 0, 1) := by decide +kernel
theorem dX3_fetchByte_96 : decode cX3_fetchByte 96 = .ok (.dup, 1) := by decide +kernel
theorem dX3_fetchByte_97 : decode cX3_fetchByte 97 = .ok (.getfield 21, 3) := by decide +kernel
theorem dX3_fetchByte_100 : decode cX3_fetchByte 100 = .ok (.iload_n 2, 1) := by decide +kernel
theorem dX3_fetchByte_101 : decode cX3_fetchByte 101 = .ok (.i2l, 1) := by decide +kernel
theorem dX3_fetchByte_102 : decode cX3_fetchByte 102 = .ok (.iload_n 1, 1) := by decide +kernel
theorem dX3_fetchByte_103 : decode cX3_fetchByte 103 = .ok (.sipush 255, 3) := by decide +kernel
theorem dX3_fetchByte_106 : decode cX3_fetchByte 106 = .ok (.if_icmp .ne 8, 3) := by decide +kernel
theorem dX3_fetchByte_109 : decode cX3_fetchByte 109 = .ok (.bipush 9, 2) := by decide +kernel
theorem dX3_fetchByte_111 : decode cX3_fetchByte 111 = .ok (.goto 5, 3) := by decide +kernel
theorem dX3_fetchByte_114 : decode cX3_fetchByte 114 = .ok (.bipush 8, 2) := by decide +kernel
theorem dX3_fetchByte_116 : decode cX3_fetchByte 116 = .ok (.lshl, 1) := by decide +kernel
theorem dX3_fetchByte_117 : decode cX3_fetchByte 117 = .ok (.ladd, 1) := by decide +kernel
theorem dX3_fetchByte_118 : decode cX3_fetchByte 118 = .ok (.putfield 21, 3) := by decide +kernel
theorem dX3_fetchByte_121 : decode cX3_fetchByte 121 = .ok (.aload_n 0, 1) := by decide +kernel
theorem dX3_fetchByte_122 : decode cX3_fetchByte 122 = .ok (.dup, 1) := by decide +kernel
theorem dX3_fetchByte_123 : decode cX3_fetchByte 123 = .ok (.getfield 21, 3) := by decide +kernel
theorem dX3_fetchByte_126 : decode cX3_fetchByte 126 = .ok (.ldc2_w 44, 3) := by decide +kernel
theorem dX3_fetchByte_129 : decode cX3_fetchByte 129 = .ok (.land, 1) := by decide +kernel
theorem dX3_fetchByte_130 : decode cX3_fetchByte 130 = .ok (.putfield 21, 3) := by decide +kernel
theorem dX3_fetchByte_133 : decode cX3_fetchByte 133 = .ok (.return_, 1) := by decide +kernel
