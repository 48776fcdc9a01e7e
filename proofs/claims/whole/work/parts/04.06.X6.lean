set_option maxRecDepth 20000 in
theorem ggX6_init_X0_init : GoodIn wsX6_init wsX0_init := goodIn_r _ [12, 13, 14, 15] (by decide +kernel) (by decide +kernel)
set_option maxRecDepth 20000 in
theorem gX6_init_X0_init_n1 : GoodIn wsX6_init (wsX0_init) := ggX6_init_X0_init
set_option maxRecDepth 20000 in
theorem ggX6_init_X4_init : GoodIn wsX6_init wsX4_init := goodIn_r _ [17, 18, 14, 15, 19, 20, 21] (by decide +kernel) (by decide +kernel)
set_option maxRecDepth 20000 in
theorem gX6_init_X4_init_n9 : GoodIn wsX6_init (wsX4_init) := ggX6_init_X4_init
theorem dX6_init_0 : decode cX6_init 0 = .ok (.aload_n 0, 1) := by decide +kernel
theorem dX6_init_1 : decode cX6_init 1 = .ok (.invokespecial 1, 3) := by decide +kernel
theorem dX6_init_4 : decode cX6_init 4 = .ok (.aload_n 0, 1) := by decide +kernel
theorem dX6_init_5 : decode cX6_init 5 = .ok (.new 7, 3) := by decide +kernel
theorem dX6_init_8 : decode cX6_init 8 = .ok (.dup, 1) := by decide +kernel
theorem dX6_init_9 : decode cX6_init 9 = .ok (.invokespecial 9, 3) := by decide +kernel
theorem dX6_init_12 : decode cX6_init 12 = .ok (.putfield 10, 3) := by decide +kernel
theorem dX6_init_15 : decode cX6_init 15 = .ok (.aload_n 0, 1) := by decide +kernel
theorem dX6_init_16 : decode cX6_init 16 = .ok (.ldc 16, 2) := by decide +kernel
theorem dX6_init_18 : decode cX6_init 18 = .ok (.putfield 17, 3) := by decide +kernel
theorem dX6_init_21 : decode cX6_init 21 = .ok (.aload_n 0, 1) := by decide +kernel
theorem dX6_init_22 : decode cX6_init 22 = .ok (.iconst 0, 1) := by decide +kernel
theorem dX6_init_23 : decode cX6_init 23 = .ok (.putfield 21, 3) := by decide +kernel
theorem dX6_init_26 : decode cX6_init 26 = .ok (.aload_n 0, 1) := by decide +kernel
theorem dX6_init_27 : decode cX6_init 27 = .ok (.bipush 12, 2) := by decide +kernel
theorem dX6_init_29 : decode cX6_init 29 = .ok (.putfield 24, 3) := by decide +kernel
theorem dX6_init_32 : decode cX6_init 32 = .ok (.aload_n 0, 1) := by decide +kernel
theorem dX6_init_33 : decode cX6_init 33 = .ok (.aload_n 1, 1) := by decide +kernel
theorem dX6_init_34 : decode cX6_init 34 = .ok (.putfield 27, 3) := by decide +kernel
theorem dX6_init_37 : decode cX6_init 37 = .ok (.return_, 1) := by decide +kernel
set_option maxRecDepth 20000 in
theorem ggX6_begin_X2_clear : GoodIn wsX6_begin wsX2_clear := goodIn_r _ [9, 10, 16, 17] (by decide +kernel) (by decide +kernel)
set_option maxRecDepth 20000 in
theorem gX6_begin_X2_clear_n31 : GoodIn wsX6_begin (wsX2_clear) := ggX6_begin_X2_clear
theorem dX6_begin_0 : decode cX6_begin 0 = .ok (.aload_n 0, 1) := by decide +kernel
theorem dX6_begin_1 : decode cX6_begin 1 = .ok (.getfield 27, 3) := by decide +kernel
theorem dX6_begin_4 : decode cX6_begin 4 = .ok (.invokevirtual 31, 3) := by decide +kernel
theorem dX6_begin_7 : decode cX6_begin 7 = .ok (.aload_n 0, 1) := by decide +kernel
theorem dX6_begin_8 : decode cX6_begin 8 = .ok (.ldc 16, 2) := by decide +kernel
theorem dX6_begin_10 : decode cX6_begin 10 = .ok (.putfield 17, 3) := by decide +kernel
theorem dX6_begin_13 : decode cX6_begin 13 = .ok (.aload_n 0, 1) := by decide +kernel
theorem dX6_begin_14 : decode cX6_begin 14 = .ok (.iconst 0, 1) := by decide +kernel
theorem dX6_begin_15 : decode cX6_begin 15 = .ok (.putfield 21, 3) := by decide +kernel
theorem dX6_begin_18 : decode cX6_begin 18 = .ok (.aload_n 0, 1) := by decide +kernel
theorem dX6_begin_19 : decode cX6_begin 19 = .ok (.bipush 12, 2) := by decide +kernel
theorem dX6_begin_21 : decode cX6_begin 21 = .ok (.putfield 24, 3) := by decide +kernel
theorem dX6_begin_24 : decode cX6_begin 24 = .ok (.return_, 1) := by decide +kernel
set_option maxRecDepth 20000 in
theorem ggX6_pass_X4_shareOf : GoodIn wsX6_pass wsX4_shareOf := goodIn_r _ [8, 9, 10, 11, 6, 12, 13, 14, 15, 16, 17, 57] (by decide +kernel) (by decide +kernel)
set_option maxRecDepth 20000 in
theorem gX6_pass_X4_shareOf_n36 : GoodIn wsX6_pass (wsX4_shareOf) := ggX6_pass_X4_shareOf
set_option maxRecDepth 20000 in
theorem ggX6_pass_X4_likelyOf : GoodIn wsX6_pass wsX4_likelyOf := goodIn_r _ [20, 9, 10, 11, 6, 12, 13, 57] (by decide +kernel) (by decide +kernel)
set_option maxRecDepth 20000 in
theorem gX6_pass_X4_likelyOf_n40 : GoodIn wsX6_pass (wsX4_likelyOf) := ggX6_pass_X4_likelyOf
set_option maxRecDepth 20000 in
theorem ggX6_pass_X4_advance : GoodIn wsX6_pass wsX4_advance := goodIn_r _ [23, 13, 14, 15, 6, 16, 17, 57] (by decide +kernel) (by decide +kernel)
set_option maxRecDepth 20000 in
theorem gX6_pass_X4_advance_n43 : GoodIn wsX6_pass (wsX4_advance) := ggX6_pass_X4_advance
set_option maxRecDepth 20000 in
theorem ggX6_pass_X6_renew : GoodIn wsX6_pass wsX6_renew := goodIn_r _ [28, 2, 4, 29, 3, 30, 31, 32, 27, 33, 34, 35, 36, 37, 38, 39, 40, 41, 42, 43, 44, 45, 46, 47, 48, 49, 50, 51, 52, 53, 54, 55, 56, 58, 59] (by decide +kernel) (by decide +kernel)
set_option maxRecDepth 20000 in
theorem gX6_pass_X6_renew : GoodIn wsX6_pass (wsV RX6 47 RX6 yX6_renew wsX6_renew) := goodIn_app (goodIn_of _ (by decide +kernel)) ggX6_pass_X6_renew
theorem dX6_pass_0 : decode cX6_pass 0 = .ok (.aload_n 0, 1) := by decide +kernel
theorem dX6_pass_1 : decode cX6_pass 1 = .ok (.getfield 10, 3) := by decide +kernel
theorem dX6_pass_4 : decode cX6_pass 4 = .ok (.iload_n 1, 1) := by decide +kernel
theorem dX6_pass_5 : decode cX6_pass 5 = .ok (.invokevirtual 36, 3) := by decide +kernel
theorem dX6_pass_8 : decode cX6_pass 8 = .ok (.istore_n 3, 1) := by decide +kernel
theorem dX6_pass_9 : decode cX6_pass 9 = .ok (.iload_n 2, 1) := by decide +kernel
theorem dX6_pass_10 : decode cX6_pass 10 = .ok (.aload_n 0, 1) := by decide +kernel
theorem dX6_pass_11 : decode cX6_pass 11 = .ok (.getfield 10, 3) := by decide +kernel
theorem dX6_pass_14 : decode cX6_pass 14 = .ok (.iload_n 1, 1) := by decide +kernel
theorem dX6_pass_15 : decode cX6_pass 15 = .ok (.invokevirtual 40, 3) := by decide +kernel
theorem dX6_pass_18 : decode cX6_pass 18 = .ok (.if_icmp .ne 7, 3) := by decide +kernel
theorem dX6_pass_21 : decode cX6_pass 21 = .ok (.iconst 1, 1) := by decide +kernel
theorem dX6_pass_22 : decode cX6_pass 22 = .ok (.goto 4, 3) := by decide +kernel
theorem dX6_pass_25 : decode cX6_pass 25 = .ok (.iconst 0, 1) := by decide +kernel
theorem dX6_pass_26 : decode cX6_pass 26 = .ok (.istore 4, 2) := by decide +kernel
theorem dX6_pass_28 : decode cX6_pass 28 = .ok (.aload_n 0, 1) := by decide +kernel
theorem dX6_pass_29 : decode cX6_pass 29 = .ok (.dup, 1) := by decide +kernel
theorem dX6_pass_30 : decode cX6_pass 30 = .ok (.getfield 17, 3) := by decide +kernel
theorem dX6_pass_33 : decode cX6_pass 33 = .ok (.iload_n 3, 1) := by decide +kernel
theorem dX6_pass_34 : decode cX6_pass 34 = .ok (.isub, 1) := by decide +kernel
theorem dX6_pass_35 : decode cX6_pass 35 = .ok (.putfield 17, 3) := by decide +kernel
theorem dX6_pass_38 : decode cX6_pass 38 = .ok (.iload 4, 2) := by decide +kernel
theorem dX6_pass_40 : decode cX6_pass 40 = .ok (.ifCond .eq 24, 3) := by decide +kernel
theorem dX6_pass_43 : decode cX6_pass 43 = .ok (.aload_n 0, 1) := by decide +kernel
theorem dX6_pass_44 : decode cX6_pass 44 = .ok (.getfield 17, 3) := by decide +kernel
theorem dX6_pass_47 : decode cX6_pass 47 = .ok (.ldc 16, 2) := by decide +kernel
theorem dX6_pass_49 : decode cX6_pass 49 = .ok (.if_icmp .lt 15, 3) := by decide +kernel
theorem dX6_pass_52 : decode cX6_pass 52 = .ok (.aload_n 0, 1) := by decide +kernel
theorem dX6_pass_53 : decode cX6_pass 53 = .ok (.dup, 1) := by decide +kernel
theorem dX6_pass_54 : decode cX6_pass 54 = .ok (.getfield 21, 3) := by decide +kernel
theorem dX6_pass_57 : decode cX6_pass 57 = .ok (.iload_n 3, 1) := by decide +kernel
theorem dX6_pass_58 : decode cX6_pass 58 = .ok (.iadd, 1) := by decide +kernel
theorem dX6_pass_59 : decode cX6_pass 59 = .ok (.putfield 21, 3) := by decide +kernel
theorem dX6_pass_62 : decode cX6_pass 62 = .ok (.iload_n 2, 1) := by decide +kernel
theorem dX6_pass_63 : decode cX6_pass 63 = .ok (.ireturn, 1) := by decide +kernel
theorem dX6_pass_64 : decode cX6_pass 64 = .ok (.iload 4, 2) := by decide +kernel
theorem dX6_pass_66 : decode cX6_pass 66 = .ok (.aload_n 0, 1) := by decide +kernel
theorem dX6_pass_67 : decode cX6_pass 67 = .ok (.getfield 17, 3) := by decide +kernel
theorem dX6_pass_70 : decode cX6_pass 70 = .ok (.iload_n 3, 1) := by decide +kernel
theorem dX6_pass_71 : decode cX6_pass 71 = .ok (.if_icmp .ge 7, 3) := by decide +kernel
theorem dX6_pass_74 : decode cX6_pass 74 = .ok (.iconst 1, 1) := by decide +kernel
theorem dX6_pass_75 : decode cX6_pass 75 = .ok (.goto 4, 3) := by decide +kernel
theorem dX6_pass_78 : decode cX6_pass 78 = .ok (.iconst 0, 1) := by decide +kernel
theorem dX6_pass_79 : decode cX6_pass 79 = .ok (.if_icmp .ne 11, 3) := by decide +kernel
theorem dX6_pass_82 : decode cX6_pass 82 = .ok (.aload_n 0, 1) := by decide +kernel
theorem dX6_pass_83 : decode cX6_pass 83 = .ok (.iload_n 3, 1) := by decide +kernel
theorem dX6_pass_84 : decode cX6_pass 84 = .ok (.putfield 17, 3) := by decide +kernel
theorem dX6_pass_87 : decode cX6_pass 87 = .ok (.goto 13, 3) := by decide +kernel
theorem dX6_pass_90 : decode cX6_pass 90 = .ok (.aload_n 0, 1) := by decide +kernel
theorem dX6_pass_91 : decode cX6_pass 91 = .ok (.dup, 1) := by decide +kernel
theorem dX6_pass_92 : decode cX6_pass 92 = .ok (.getfield 21, 3) := by decide +kernel
theorem dX6_pass_95 : decode cX6_pass 95 = .ok (.iload_n 3, 1) := by decide +kernel
theorem dX6_pass_96 : decode cX6_pass 96 = .ok (.iadd, 1) := by decide +kernel
theorem dX6_pass_97 : decode cX6_pass 97 = .ok (.putfield 21, 3) := by decide +kernel
theorem dX6_pass_100 : decode cX6_pass 100 = .ok (.aload_n 0, 1) := by decide +kernel
theorem dX6_pass_101 : decode cX6_pass 101 = .ok (.getfield 10, 3) := by decide +kernel
theorem dX6_pass_104 : decode cX6_pass 104 = .ok (.iload_n 1, 1) := by decide +kernel
theorem dX6_pass_105 : decode cX6_pass 105 = .ok (.iload 4, 2) := by decide +kernel
theorem dX6_pass_107 : decode cX6_pass 107 = .ok (.invokevirtual 43, 3) := by decide +kernel
theorem dX6_pass_110 : decode cX6_pass 110 = .ok (.aload_n 0, 1) := by decide +kernel
theorem dX6_pass_111 : decode cX6_pass 111 = .ok (.invokevirtual 47, 3) := by decide +kernel
theorem dX6_pass_114 : decode cX6_pass 114 = .ok (.iload_n 2, 1) := by decide +kernel
theorem dX6_pass_115 : decode cX6_pass 115 = .ok (.ireturn, 1) := by decide +kernel
set_option maxRecDepth 20000 in
theorem ggX6_renew_X6_sendByte : GoodIn wsX6_renew wsX6_sendByte := goodIn_r _ [9, 10, 2, 11, 3, 12, 13, 14, 15, 16, 17, 18, 19, 20, 21, 22, 23, 24, 25, 26, 27, 28, 29, 30, 31, 32, 33, 34] (by decide +kernel) (by decide +kernel)
set_option maxRecDepth 20000 in
theorem gX6_renew_X6_sendByte : GoodIn wsX6_renew (wsV RX6 50 RX6 yX6_sendByte wsX6_sendByte) := goodIn_app (goodIn_of _ (by decide +kernel)) ggX6_renew_X6_sendByte
theorem dX6_renew_0 : decode cX6_renew 0 = .ok (.iconst 0, 1) := by decide +kernel
theorem dX6_renew_1 : decode cX6_renew 1 = .ok (.istore_n 1, 1) := by decide +kernel
theorem dX6_renew_2 : decode cX6_renew 2 = .ok (.iload_n 1, 1) := by decide +kernel
theorem dX6_renew_3 : decode cX6_renew 3 = .ok (.bipush 15, 2) := by decide +kernel
theorem dX6_renew_5 : decode cX6_renew 5 = .ok (.if_icmp .ge 60, 3) := by decide +kernel
theorem dX6_renew_8 : decode cX6_renew 8 = .ok (.aload_n 0, 1) := by decide +kernel
theorem dX6_renew_9 : decode cX6_renew 9 = .ok (.dup, 1) := by decide +kernel
theorem dX6_renew_10 : decode cX6_renew 10 = .ok (.getfield 17, 3) := by decide +kernel
theorem dX6_renew_13 : decode cX6_renew 13 = .ok (.iconst 2, 1) := by decide +kernel
theorem dX6_renew_14 : decode cX6_renew 14 = .ok (.imul, 1) := by decide +kernel
theorem dX6_renew_15 : decode cX6_renew 15 = .ok (.putfield 17, 3) := by decide +kernel
theorem dX6_renew_18 : decode cX6_renew 18 = .ok (.aload_n 0, 1) := by decide +kernel
theorem dX6_renew_19 : decode cX6_renew 19 = .ok (.dup, 1) := by decide +kernel
theorem dX6_renew_20 : decode cX6_renew 20 = .ok (.getfield 21, 3) := by decide +kernel
theorem dX6_renew_23 : decode cX6_renew 23 = .ok (.iconst 2, 1) := by decide +kernel
theorem dX6_renew_24 : decode cX6_renew 24 = .ok (.imul, 1) := by decide +kernel
theorem dX6_renew_25 : decode cX6_renew 25 = .ok (.putfield 21, 3) := by decide +kernel
theorem dX6_renew_28 : decode cX6_renew 28 = .ok (.aload_n 0, 1) := by decide +kernel
theorem dX6_renew_29 : decode cX6_renew 29 = .ok (.dup, 1) := by decide +kernel
theorem dX6_renew_30 : decode cX6_renew 30 = .ok (.getfield 24, 3) := by decide +kernel
theorem dX6_renew_33 : decode cX6_renew 33 = .ok (.iconst 1, 1) := by decide +kernel
theorem dX6_renew_34 : decode cX6_renew 34 = .ok (.isub, 1) := by decide +kernel
theorem dX6_renew_35 : decode cX6_renew 35 = .ok (.putfield 24, 3) := by decide +kernel
theorem dX6_renew_38 : decode cX6_renew 38 = .ok (.aload_n 0, 1) := by decide +kernel
theorem dX6_renew_39 : decode cX6_renew 39 = .ok (.getfield 24, 3) := by decide +kernel
theorem dX6_renew_42 : decode cX6_renew 42 = .ok (.ifCond .ne 7, 3) := by decide +kernel
theorem dX6_renew_45 : decode cX6_renew 45 = .ok (.aload_n 0, 1) := by decide +kernel
theorem dX6_renew_46 : decode cX6_renew 46 = .ok (.invokevirtual 50, 3) := by decide +kernel
theorem dX6_renew_49 : decode cX6_renew 49 = .ok (.aload_n 0, 1) := by decide +kernel
theorem dX6_renew_50 : decode cX6_renew 50 = .ok (.getfield 17, 3) := by decide +kernel
theorem dX6_renew_53 : decode cX6_renew 53 = .ok (.ldc 16, 2) := by decide +kernel
theorem dX6_renew_55 : decode cX6_renew 55 = .ok (.if_icmp .lt 4, 3) := by decide +kernel
theorem dX6_renew_58 : decode cX6_renew 58 = .ok (.return_, 1) := by decide +kernel
theorem dX6_renew_59 : decode cX6_renew 59 = .ok (.iinc 1 1, 3) := by decide +kernel
theorem dX6_renew_62 : decode cX6_renew 62 = .ok (.goto (-60), 3) := by decide +kernel
theorem dX6_renew_65 : decode cX6_renew 65 = .ok (.return_, 1) := by decide +kernel
set_option maxRecDepth 20000 in
theorem ggX6_sendByte_X2_last : GoodIn wsX6_sendByte wsX2_last := goodIn_r _ [8, 9, 10, 11, 12, 6, 13, 14, 26, 27] (by decide +kernel) (by decide +kernel)
set_option maxRecDepth 20000 in
theorem gX6_sendByte_X2_last_n53 : GoodIn wsX6_sendByte (wsX2_last) := ggX6_sendByte_X2_last
set_option maxRecDepth 20000 in
theorem ggX6_sendByte_X2_raiseLast : GoodIn wsX6_sendByte wsX2_raiseLast := goodIn_r _ [17, 9, 14, 26, 27] (by decide +kernel) (by decide +kernel)
set_option maxRecDepth 20000 in
theorem gX6_sendByte_X2_raiseLast_n58 : GoodIn wsX6_sendByte (wsX2_raiseLast) := ggX6_sendByte_X2_raiseLast
set_option maxRecDepth 20000 in
theorem ggX6_sendByte_X2_append : GoodIn wsX6_sendByte wsX2_append := goodIn_r _ [20, 9, 14, 26, 27] (by decide +kernel) (by decide +kernel)
set_option maxRecDepth 20000 in
theorem gX6_sendByte_X2_append_n61 : GoodIn wsX6_sendByte (wsX2_append) := ggX6_sendByte_X2_append
theorem dX6_sendByte_0 : decode cX6_sendByte 0 = .ok (.aload_n 0, 1) := by decide +kernel
theorem dX6_sendByte_1 : decode cX6_sendByte 1 = .ok (.getfield 27, 3) := by decide +kernel
theorem dX6_sendByte_4 : decode cX6_sendByte 4 = .ok (.invokevirtual 53, 3) := by decide +kernel
theorem dX6_sendByte_7 : decode cX6_sendByte 7 = .ok (.sipush 255, 3) := by decide +kernel
theorem dX6_sendByte_10 : decode cX6_sendByte 10 = .ok (.if_icmp .eq 30, 3) := by decide +kernel
theorem dX6_sendByte_13 : decode cX6_sendByte 13 = .ok (.aload_n 0, 1) := by decide +kernel
theorem dX6_sendByte_14 : decode cX6_sendByte 14 = .ok (.getfield 21, 3) := by decide +kernel
theorem dX6_sendByte_17 : decode cX6_sendByte 17 = .ok (.ldc 57, 2) := by decide +kernel
theorem dX6_sendByte_19 : decode cX6_sendByte 19 = .ok (.if_icmp .lt 21, 3) := by decide +kernel
theorem dX6_sendByte_22 : decode cX6_sendByte 22 = .ok (.aload_n 0, 1) := by decide +kernel
theorem dX6_sendByte_23 : decode cX6_sendByte 23 = .ok (.getfield 27, 3) := by decide +kernel
theorem dX6_sendByte_26 : decode cX6_sendByte 26 = .ok (.invokevirtual 58, 3) := by decide +kernel
theorem dX6_sendByte_29 : decode cX6_sendByte 29 = .ok (.aload_n 0, 1) := by decide +kernel
theorem dX6_sendByte_30 : decode cX6_sendByte 30 = .ok (.dup, 1) := by decide +kernel
theorem dX6_sendByte_31 : decode cX6_sendByte 31 = .ok (.getfield 21, 3) := by decide +kernel
theorem dX6_sendByte_34 : decode cX6_sendByte 34 = .ok (.ldc 57, 2) := by decide +kernel
theorem dX6_sendByte_36 : decode cX6_sendByte 36 = .ok (.isub, 1) := by decide +kernel
theorem dX6_sendByte_37 : decode cX6_sendByte 37 = .ok (.putfield 21, 3) := by decide +kernel
theorem dX6_sendByte_40 : decode cX6_sendByte 40 = .ok (.aload_n 0, 1) := by decide +kernel
theorem dX6_sendByte_41 : decode cX6_sendByte 41 = .ok (.getfield 27, 3) := by decide +kernel
theorem dX6_sendByte_44 : decode cX6_sendByte 44 = .ok (.invokevirtual 53, 3) := by decide +kernel
theorem dX6_sendByte_47 : decode cX6_sendByte 47 = .ok (.sipush 255, 3) := by decide +kernel
theorem dX6_sendByte_50 : decode cX6_sendByte 50 = .ok (.if_icmp .ne 8, 3) := by decide +kernel
theorem dX6_sendByte_53 : decode cX6_sendByte 53 = .ok (.bipush 7, 2) := by decide +kernel
theorem dX6_sendByte_55 : decode cX6_sendByte 55 = .ok (.goto 5, 3) := by decide +kernel
theorem dX6_sendByte_58 : decode cX6_sendByte 58 = .ok (.bipush 8, 2) := by decide +kernel
theorem dX6_sendByte_60 : decode cX6_sendByte 60 = .ok (.istore_n 1, 1) := by decide +kernel
theorem dX6_sendByte_61 : decode cX6_sendByte 61 = .ok (.bipush 27, 2) := by decide +kernel
theorem dX6_sendByte_63 : decode cX6_sendByte 63 = .ok (.iload_n 1, 1) := by decide +kernel
theorem dX6_sendByte_64 : decode cX6_sendByte 64 = .ok (.isub, 1) := by decide +kernel
theorem dX6_sendByte_65 : decode cX6_sendByte 65 = .ok (.istore_n 2, 1) := by decide +kernel
theorem dX6_sendByte_66 : decode cX6_sendByte 66 = .ok (.aload_n 0, 1) := by decide +kernel
theorem dX6_sendByte_67 : decode cX6_sendByte 67 = .ok (.getfield 27, 3) := by decide +kernel
theorem dX6_sendByte_70 : decode cX6_sendByte 70 = .ok (.aload_n 0, 1) := by decide +kernel
theorem dX6_sendByte_71 : decode cX6_sendByte 71 = .ok (.getfield 21, 3) := by decide +kernel
theorem dX6_sendByte_74 : decode cX6_sendByte 74 = .ok (.iload_n 2, 1) := by decide +kernel
theorem dX6_sendByte_75 : decode cX6_sendByte 75 = .ok (.ishr, 1) := by decide +kernel
theorem dX6_sendByte_76 : decode cX6_sendByte 76 = .ok (.invokevirtual 61, 3) := by decide +kernel
theorem dX6_sendByte_79 : decode cX6_sendByte 79 = .ok (.aload_n 0, 1) := by decide +kernel
theorem dX6_sendByte_80 : decode cX6_sendByte 80 = .ok (.dup, 1) := by decide +kernel
theorem dX6_sendByte_81 : decode cX6_sendByte 81 = .ok (.getfield 21, 3) := by decide +kernel
theorem dX6_sendByte_84 : decode cX6_sendByte 84 = .ok (.iconst 1, 1) := by decide +kernel
theorem dX6_sendByte_85 : decode cX6_sendByte 85 = .ok (.iload_n 2, 1) := by decide +kernel
theorem dX6_sendByte_86 : decode cX6_sendByte 86 = .ok (.ishl, 1) := by decide +kernel
theorem dX6_sendByte_87 : decode cX6_sendByte 87 = .ok (.iconst 1, 1) := by decide +kernel
theorem dX6_sendByte_88 : decode cX6_sendByte 88 = .ok (.isub, 1) := by decide +kernel
theorem dX6_sendByte_89 : decode cX6_sendByte 89 = .ok (.iand, 1) := by decide +kernel
theorem dX6_sendByte_90 : decode cX6_sendByte 90 = .ok (.putfield 21, 3) := by decide +kernel
theorem dX6_sendByte_93 : decode cX6_sendByte 93 = .ok (.aload_n 0, 1) := by decide +kernel
theorem dX6_sendByte_94 : decode cX6_sendByte 94 = .ok (.iload_n 1, 1) := by decide +kernel
theorem dX6_sendByte_95 : decode cX6_sendByte 95 = .ok (.putfield 24, 3) := by decide +kernel
theorem dX6_sendByte_98 : decode cX6_sendByte 98 = .ok (.return_, 1) := by decide +kernel
set_option maxRecDepth 20000 in
theorem ggX6_finish_X6_sendByte : GoodIn wsX6_finish wsX6_sendByte := goodIn_r _ [11, 6, 1, 12, 5, 13, 14, 15, 16, 17, 18, 19, 20, 21, 22, 23, 24, 25, 26, 27, 28, 29, 30, 31, 32, 33, 34, 35] (by decide +kernel) (by decide +kernel)
set_option maxRecDepth 20000 in
theorem gX6_finish_X6_sendByte : GoodIn wsX6_finish (wsV RX6 50 RX6 yX6_sendByte wsX6_sendByte) := goodIn_app (goodIn_of _ (by decide +kernel)) ggX6_finish_X6_sendByte
set_option maxRecDepth 20000 in
theorem ggX6_finish_X2_last : GoodIn wsX6_finish wsX2_last := goodIn_r _ [16, 17, 18, 19, 20, 14, 21, 22, 34, 35] (by decide +kernel) (by decide +kernel)
set_option maxRecDepth 20000 in
theorem gX6_finish_X2_last_n53 : GoodIn wsX6_finish (wsX2_last) := ggX6_finish_X2_last
set_option maxRecDepth 20000 in
theorem ggX6_finish_X2_append : GoodIn wsX6_finish wsX2_append := goodIn_r _ [28, 17, 22, 34, 35] (by decide +kernel) (by decide +kernel)
set_option maxRecDepth 20000 in
theorem gX6_finish_X2_append_n61 : GoodIn wsX6_finish (wsX2_append) := ggX6_finish_X2_append
theorem dX6_finish_0 : decode cX6_finish 0 = .ok (.aload_n 0, 1) := by decide +kernel
theorem dX6_finish_1 : decode cX6_finish 1 = .ok (.getfield 21, 3) := by decide +kernel
theorem dX6_finish_4 : decode cX6_finish 4 = .ok (.aload_n 0, 1) := by decide +kernel
theorem dX6_finish_5 : decode cX6_finish 5 = .ok (.getfield 17, 3) := by decide +kernel
theorem dX6_finish_8 : decode cX6_finish 8 = .ok (.iadd, 1) := by decide +kernel
theorem dX6_finish_9 : decode cX6_finish 9 = .ok (.istore_n 1, 1) := by decide +kernel
theorem dX6_finish_10 : decode cX6_finish 10 = .ok (.aload_n 0, 1) := by decide +kernel
theorem dX6_finish_11 : decode cX6_finish 11 = .ok (.dup, 1) := by decide +kernel
theorem dX6_finish_12 : decode cX6_finish 12 = .ok (.getfield 21, 3) := by decide +kernel
theorem dX6_finish_15 : decode cX6_finish 15 = .ok (.ldc 65, 2) := by decide +kernel
theorem dX6_finish_17 : decode cX6_finish 17 = .ok (.ior, 1) := by decide +kernel
theorem dX6_finish_18 : decode cX6_finish 18 = .ok (.putfield 21, 3) := by decide +kernel
theorem dX6_finish_21 : decode cX6_finish 21 = .ok (.aload_n 0, 1) := by decide +kernel
theorem dX6_finish_22 : decode cX6_finish 22 = .ok (.getfield 21, 3) := by decide +kernel
theorem dX6_finish_25 : decode cX6_finish 25 = .ok (.iload_n 1, 1) := by decide +kernel
theorem dX6_finish_26 : decode cX6_finish 26 = .ok (.if_icmp .lt 14, 3) := by decide +kernel
theorem dX6_finish_29 : decode cX6_finish 29 = .ok (.aload_n 0, 1) := by decide +kernel
theorem dX6_finish_30 : decode cX6_finish 30 = .ok (.dup, 1) := by decide +kernel
theorem dX6_finish_31 : decode cX6_finish 31 = .ok (.getfield 21, 3) := by decide +kernel
theorem dX6_finish_34 : decode cX6_finish 34 = .ok (.ldc 16, 2) := by decide +kernel
theorem dX6_finish_36 : decode cX6_finish 36 = .ok (.isub, 1) := by decide +kernel
theorem dX6_finish_37 : decode cX6_finish 37 = .ok (.putfield 21, 3) := by decide +kernel
theorem dX6_finish_40 : decode cX6_finish 40 = .ok (.aload_n 0, 1) := by decide +kernel
theorem dX6_finish_41 : decode cX6_finish 41 = .ok (.dup, 1) := by decide +kernel
theorem dX6_finish_42 : decode cX6_finish 42 = .ok (.getfield 21, 3) := by decide +kernel
theorem dX6_finish_45 : decode cX6_finish 45 = .ok (.aload_n 0, 1) := by decide +kernel
theorem dX6_finish_46 : decode cX6_finish 46 = .ok (.getfield 24, 3) := by decide +kernel
theorem dX6_finish_49 : decode cX6_finish 49 = .ok (.ishl, 1) := by decide +kernel
theorem dX6_finish_50 : decode cX6_finish 50 = .ok (.putfield 21, 3) := by decide +kernel
theorem dX6_finish_53 : decode cX6_finish 53 = .ok (.aload_n 0, 1) := by decide +kernel
theorem dX6_finish_54 : decode cX6_finish 54 = .ok (.invokevirtual 50, 3) := by decide +kernel
theorem dX6_finish_57 : decode cX6_finish 57 = .ok (.aload_n 0, 1) := by decide +kernel
theorem dX6_finish_58 : decode cX6_finish 58 = .ok (.dup, 1) := by decide +kernel
theorem dX6_finish_59 : decode cX6_finish 59 = .ok (.getfield 21, 3) := by decide +kernel
theorem dX6_finish_62 : decode cX6_finish 62 = .ok (.aload_n 0, 1) := by decide +kernel
theorem dX6_finish_63 : decode cX6_finish 63 = .ok (.getfield 24, 3) := by decide +kernel
theorem dX6_finish_66 : decode cX6_finish 66 = .ok (.ishl, 1) := by decide +kernel
theorem dX6_finish_67 : decode cX6_finish 67 = .ok (.putfield 21, 3) := by decide +kernel
theorem dX6_finish_70 : decode cX6_finish 70 = .ok (.aload_n 0, 1) := by decide +kernel
theorem dX6_finish_71 : decode cX6_finish 71 = .ok (.invokevirtual 50, 3) := by decide +kernel
theorem dX6_finish_74 : decode cX6_finish 74 = .ok (.aload_n 0, 1) := by decide +kernel
theorem dX6_finish_75 : decode cX6_finish 75 = .ok (.getfield 27, 3) := by decide +kernel
theorem dX6_finish_78 : decode cX6_finish 78 = .ok (.invokevirtual 53, 3) := by decide +kernel
theorem dX6_finish_81 : decode cX6_finish 81 = .ok (.sipush 255, 3) := by decide +kernel
theorem dX6_finish_84 : decode cX6_finish 84 = .ok (.if_icmp .eq 13, 3) := by decide +kernel
theorem dX6_finish_87 : decode cX6_finish 87 = .ok (.aload_n 0, 1) := by decide +kernel
theorem dX6_finish_88 : decode cX6_finish 88 = .ok (.getfield 27, 3) := by decide +kernel
theorem dX6_finish_91 : decode cX6_finish 91 = .ok (.sipush 255, 3) := by decide +kernel
theorem dX6_finish_94 : decode cX6_finish 94 = .ok (.invokevirtual 61, 3) := by decide +kernel
theorem dX6_finish_97 : decode cX6_finish 97 = .ok (.aload_n 0, 1) := by decide +kernel
theorem dX6_finish_98 : decode cX6_finish 98 = .ok (.getfield 27, 3) := by decide +kernel
theorem dX6_finish_101 : decode cX6_finish 101 = .ok (.sipush 172, 3) := by decide +kernel
theorem dX6_finish_104 : decode cX6_finish 104 = .ok (.invokevirtual 61, 3) := by decide +kernel
theorem dX6_finish_107 : decode cX6_finish 107 = .ok (.return_, 1) := by decide +kernel
