theorem dX1_init_0 : decode cX1_init 0 = .ok (.aload_n 0, 1) := by decide +kernel
theorem dX1_init_1 : decode cX1_init 1 = .ok (.invokespecial 1, 3) := by decide +kernel
theorem dX1_init_4 : decode cX1_init 4 = .ok (.aload_n 0, 1) := by decide +kernel
theorem dX1_init_5 : decode cX1_init 5 = .ok (.iconst 0, 1) := by decide +kernel
theorem dX1_init_6 : decode cX1_init 6 = .ok (.putfield 7, 3) := by decide +kernel
theorem dX1_init_9 : decode cX1_init 9 = .ok (.aload_n 0, 1) := by decide +kernel
theorem dX1_init_10 : decode cX1_init 10 = .ok (.iconst 0, 1) := by decide +kernel
theorem dX1_init_11 : decode cX1_init 11 = .ok (.putfield 13, 3) := by decide +kernel
theorem dX1_init_14 : decode cX1_init 14 = .ok (.aload_n 0, 1) := by decide +kernel
theorem dX1_init_15 : decode cX1_init 15 = .ok (.iload_n 1, 1) := by decide +kernel
theorem dX1_init_16 : decode cX1_init 16 = .ok (.putfield 16, 3) := by decide +kernel
theorem dX1_init_19 : decode cX1_init 19 = .ok (.aload_n 0, 1) := by decide +kernel
theorem dX1_init_20 : decode cX1_init 20 = .ok (.iload_n 1, 1) := by decide +kernel
theorem dX1_init_21 : decode cX1_init 21 = .ok (.iload_n 1, 1) := by decide +kernel
theorem dX1_init_22 : decode cX1_init 22 = .ok (.imul, 1) := by decide +kernel
theorem dX1_init_23 : decode cX1_init 23 = .ok (.newarray .int, 2) := by decide +kernel
theorem dX1_init_25 : decode cX1_init 25 = .ok (.putfield 19, 3) := by decide +kernel
theorem dX1_init_28 : decode cX1_init 28 = .ok (.return_, 1) := by decide +kernel
set_option maxRecDepth 20000 in
theorem ggX1_whiten_J7_fill_53178 : GoodIn wsX1_whiten wsJ7_fill_53178 := goodIn_r _ [12] (by decide +kernel) (by decide +kernel)
set_option maxRecDepth 20000 in
theorem gX1_whiten_J7_fill_53178 : GoodIn wsX1_whiten (va_wsS RX1 29 yJ7_fill_53178 wsJ7_fill_53178) := goodIn_app (goodIn_of _ (by decide +kernel)) ggX1_whiten_J7_fill_53178
theorem dX1_whiten_0 : decode cX1_whiten 0 = .ok (.aload_n 0, 1) := by decide +kernel
theorem dX1_whiten_1 : decode cX1_whiten 1 = .ok (.iload_n 1, 1) := by decide +kernel
theorem dX1_whiten_2 : decode cX1_whiten 2 = .ok (.aload_n 0, 1) := by decide +kernel
theorem dX1_whiten_3 : decode cX1_whiten 3 = .ok (.getfield 16, 3) := by decide +kernel
theorem dX1_whiten_6 : decode cX1_whiten 6 = .ok (.invokestatic 23, 3) := by decide +kernel
theorem dX1_whiten_9 : decode cX1_whiten 9 = .ok (.putfield 7, 3) := by decide +kernel
theorem dX1_whiten_12 : decode cX1_whiten 12 = .ok (.aload_n 0, 1) := by decide +kernel
theorem dX1_whiten_13 : decode cX1_whiten 13 = .ok (.iload_n 2, 1) := by decide +kernel
theorem dX1_whiten_14 : decode cX1_whiten 14 = .ok (.aload_n 0, 1) := by decide +kernel
theorem dX1_whiten_15 : decode cX1_whiten 15 = .ok (.getfield 16, 3) := by decide +kernel
theorem dX1_whiten_18 : decode cX1_whiten 18 = .ok (.invokestatic 23, 3) := by decide +kernel
theorem dX1_whiten_21 : decode cX1_whiten 21 = .ok (.putfield 13, 3) := by decide +kernel
theorem dX1_whiten_24 : decode cX1_whiten 24 = .ok (.aload_n 0, 1) := by decide +kernel
theorem dX1_whiten_25 : decode cX1_whiten 25 = .ok (.getfield 19, 3) := by decide +kernel
theorem dX1_whiten_28 : decode cX1_whiten 28 = .ok (.iconst 0, 1) := by decide +kernel
theorem dX1_whiten_29 : decode cX1_whiten 29 = .ok (.invokestatic 29, 3) := by decide +kernel
theorem dX1_whiten_32 : decode cX1_whiten 32 = .ok (.return_, 1) := by decide +kernel
theorem dX1_holds_0 : decode cX1_holds 0 = .ok (.iload_n 1, 1) := by decide +kernel
theorem dX1_holds_1 : decode cX1_holds 1 = .ok (.ifCond .lt 27, 3) := by decide +kernel
theorem dX1_holds_4 : decode cX1_holds 4 = .ok (.iload_n 1, 1) := by decide +kernel
theorem dX1_holds_5 : decode cX1_holds 5 = .ok (.aload_n 0, 1) := by decide +kernel
theorem dX1_holds_6 : decode cX1_holds 6 = .ok (.getfield 7, 3) := by decide +kernel
theorem dX1_holds_9 : decode cX1_holds 9 = .ok (.if_icmp .ge 19, 3) := by decide +kernel
theorem dX1_holds_12 : decode cX1_holds 12 = .ok (.iload_n 2, 1) := by decide +kernel
theorem dX1_holds_13 : decode cX1_holds 13 = .ok (.ifCond .lt 15, 3) := by decide +kernel
theorem dX1_holds_16 : decode cX1_holds 16 = .ok (.iload_n 2, 1) := by decide +kernel
theorem dX1_holds_17 : decode cX1_holds 17 = .ok (.aload_n 0, 1) := by decide +kernel
theorem dX1_holds_18 : decode cX1_holds 18 = .ok (.getfield 13, 3) := by decide +kernel
theorem dX1_holds_21 : decode cX1_holds 21 = .ok (.if_icmp .ge 7, 3) := by decide +kernel
theorem dX1_holds_24 : decode cX1_holds 24 = .ok (.iconst 1, 1) := by decide +kernel
theorem dX1_holds_25 : decode cX1_holds 25 = .ok (.goto 4, 3) := by decide +kernel
theorem dX1_holds_28 : decode cX1_holds 28 = .ok (.iconst 0, 1) := by decide +kernel
theorem dX1_holds_29 : decode cX1_holds 29 = .ok (.ireturn, 1) := by decide +kernel
theorem dX1_pixel_0 : decode cX1_pixel 0 = .ok (.iload_n 1, 1) := by decide +kernel
theorem dX1_pixel_1 : decode cX1_pixel 1 = .ok (.ifCond .lt 39, 3) := by decide +kernel
theorem dX1_pixel_4 : decode cX1_pixel 4 = .ok (.iload_n 1, 1) := by decide +kernel
theorem dX1_pixel_5 : decode cX1_pixel 5 = .ok (.aload_n 0, 1) := by decide +kernel
theorem dX1_pixel_6 : decode cX1_pixel 6 = .ok (.getfield 7, 3) := by decide +kernel
theorem dX1_pixel_9 : decode cX1_pixel 9 = .ok (.if_icmp .ge 31, 3) := by decide +kernel
theorem dX1_pixel_12 : decode cX1_pixel 12 = .ok (.iload_n 2, 1) := by decide +kernel
theorem dX1_pixel_13 : decode cX1_pixel 13 = .ok (.ifCond .lt 27, 3) := by decide +kernel
theorem dX1_pixel_16 : decode cX1_pixel 16 = .ok (.iload_n 2, 1) := by decide +kernel
theorem dX1_pixel_17 : decode cX1_pixel 17 = .ok (.aload_n 0, 1) := by decide +kernel
theorem dX1_pixel_18 : decode cX1_pixel 18 = .ok (.getfield 13, 3) := by decide +kernel
theorem dX1_pixel_21 : decode cX1_pixel 21 = .ok (.if_icmp .ge 19, 3) := by decide +kernel
theorem dX1_pixel_24 : decode cX1_pixel 24 = .ok (.aload_n 0, 1) := by decide +kernel
theorem dX1_pixel_25 : decode cX1_pixel 25 = .ok (.getfield 19, 3) := by decide +kernel
theorem dX1_pixel_28 : decode cX1_pixel 28 = .ok (.iload_n 2, 1) := by decide +kernel
theorem dX1_pixel_29 : decode cX1_pixel 29 = .ok (.aload_n 0, 1) := by decide +kernel
theorem dX1_pixel_30 : decode cX1_pixel 30 = .ok (.getfield 16, 3) := by decide +kernel
theorem dX1_pixel_33 : decode cX1_pixel 33 = .ok (.imul, 1) := by decide +kernel
theorem dX1_pixel_34 : decode cX1_pixel 34 = .ok (.iload_n 1, 1) := by decide +kernel
theorem dX1_pixel_35 : decode cX1_pixel 35 = .ok (.iadd, 1) := by decide +kernel
theorem dX1_pixel_36 : decode cX1_pixel 36 = .ok (.iaload, 1) := by decide +kernel
theorem dX1_pixel_37 : decode cX1_pixel 37 = .ok (.goto 4, 3) := by decide +kernel
theorem dX1_pixel_40 : decode cX1_pixel 40 = .ok (.iconst 0, 1) := by decide +kernel
theorem dX1_pixel_41 : decode cX1_pixel 41 = .ok (.ireturn, 1) := by decide +kernel
set_option maxRecDepth 20000 in
theorem ggX1_paint_X1_holds : GoodIn wsX1_paint wsX1_holds := goodIn_r _ [7, 8, 9, 10, 11, 12, 13] (by decide +kernel) (by decide +kernel)
set_option maxRecDepth 20000 in
theorem gX1_paint_X1_holds : GoodIn wsX1_paint (wsV RX1 35 RX1 yX1_holds wsX1_holds) := goodIn_app (goodIn_of _ (by decide +kernel)) ggX1_paint_X1_holds
theorem dX1_paint_0 : decode cX1_paint 0 = .ok (.aload_n 0, 1) := by decide +kernel
theorem dX1_paint_1 : decode cX1_paint 1 = .ok (.iload_n 1, 1) := by decide +kernel
theorem dX1_paint_2 : decode cX1_paint 2 = .ok (.iload_n 2, 1) := by decide +kernel
theorem dX1_paint_3 : decode cX1_paint 3 = .ok (.invokevirtual 35, 3) := by decide +kernel
theorem dX1_paint_6 : decode cX1_paint 6 = .ok (.ifCond .eq 17, 3) := by decide +kernel
theorem dX1_paint_9 : decode cX1_paint 9 = .ok (.aload_n 0, 1) := by decide +kernel
theorem dX1_paint_10 : decode cX1_paint 10 = .ok (.getfield 19, 3) := by decide +kernel
theorem dX1_paint_13 : decode cX1_paint 13 = .ok (.iload_n 2, 1) := by decide +kernel
theorem dX1_paint_14 : decode cX1_paint 14 = .ok (.aload_n 0, 1) := by decide +kernel
theorem dX1_paint_15 : decode cX1_paint 15 = .ok (.getfield 16, 3) := by decide +kernel
theorem dX1_paint_18 : decode cX1_paint 18 = .ok (.imul, 1) := by decide +kernel
theorem dX1_paint_19 : decode cX1_paint 19 = .ok (.iload_n 1, 1) := by decide +kernel
theorem dX1_paint_20 : decode cX1_paint 20 = .ok (.iadd, 1) := by decide +kernel
theorem dX1_paint_21 : decode cX1_paint 21 = .ok (.iload_n 3, 1) := by decide +kernel
theorem dX1_paint_22 : decode cX1_paint 22 = .ok (.iastore, 1) := by decide +kernel
theorem dX1_paint_23 : decode cX1_paint 23 = .ok (.return_, 1) := by decide +kernel
set_option maxRecDepth 20000 in
theorem ggX1_copyFrom_X1_whiten : GoodIn wsX1_copyFrom wsX1_whiten := goodIn_r _ [7, 8, 9, 10, 11, 12, 1, 2, 13, 14, 15, 16, 17, 30, 31, 32, 33] (by decide +kernel) (by decide +kernel)
set_option maxRecDepth 20000 in
theorem gX1_copyFrom_X1_whiten : GoodIn wsX1_copyFrom (wsV RX1 39 RX1 yX1_whiten wsX1_whiten) := goodIn_app (goodIn_of _ (by decide +kernel)) ggX1_copyFrom_X1_whiten
set_option maxRecDepth 20000 in
theorem ggX1_copyFrom_X1_pixel : GoodIn wsX1_copyFrom wsX1_pixel := goodIn_r _ [21, 1, 2, 13, 8, 30, 31, 32, 33] (by decide +kernel) (by decide +kernel)
set_option maxRecDepth 20000 in
theorem gX1_copyFrom_X1_pixel : GoodIn wsX1_copyFrom (wsV RX1 43 RX1 yX1_pixel wsX1_pixel) := goodIn_app (goodIn_of _ (by decide +kernel)) ggX1_copyFrom_X1_pixel
set_option maxRecDepth 20000 in
theorem ggX1_copyFrom_X1_paint : GoodIn wsX1_copyFrom wsX1_paint := goodIn_r _ [25, 13, 8, 26, 27, 28, 6, 29, 1, 2, 30, 31, 32, 33] (by decide +kernel) (by decide +kernel)
set_option maxRecDepth 20000 in
theorem gX1_copyFrom_X1_paint : GoodIn wsX1_copyFrom (wsV RX1 46 RX1 yX1_paint wsX1_paint) := goodIn_app (goodIn_of _ (by decide +kernel)) ggX1_copyFrom_X1_paint
theorem dX1_copyFrom_0 : decode cX1_copyFrom 0 = .ok (.aload_n 0, 1) := by decide +kernel
theorem dX1_copyFrom_1 : decode cX1_copyFrom 1 = .ok (.aload_n 1, 1) := by decide +kernel
theorem dX1_copyFrom_2 : decode cX1_copyFrom 2 = .ok (.getfield 7, 3) := by decide +kernel
theorem dX1_copyFrom_5 : decode cX1_copyFrom 5 = .ok (.aload_n 1, 1) := by decide +kernel
theorem dX1_copyFrom_6 : decode cX1_copyFrom 6 = .ok (.getfield 13, 3) := by decide +kernel
theorem dX1_copyFrom_9 : decode cX1_copyFrom 9 = .ok (.invokevirtual 39, 3) := by decide +kernel
theorem dX1_copyFrom_12 : decode cX1_copyFrom 12 = .ok (.iconst 0, 1) := by decide +kernel
theorem dX1_copyFrom_13 : decode cX1_copyFrom 13 = .ok (.istore_n 2, 1) := by decide +kernel
theorem dX1_copyFrom_14 : decode cX1_copyFrom 14 = .ok (.iload_n 2, 1) := by decide +kernel
theorem dX1_copyFrom_15 : decode cX1_copyFrom 15 = .ok (.aload_n 0, 1) := by decide +kernel
theorem dX1_copyFrom_16 : decode cX1_copyFrom 16 = .ok (.getfield 13, 3) := by decide +kernel
theorem dX1_copyFrom_19 : decode cX1_copyFrom 19 = .ok (.if_icmp .ge 37, 3) := by decide +kernel
theorem dX1_copyFrom_22 : decode cX1_copyFrom 22 = .ok (.iconst 0, 1) := by decide +kernel
theorem dX1_copyFrom_23 : decode cX1_copyFrom 23 = .ok (.istore_n 3, 1) := by decide +kernel
theorem dX1_copyFrom_24 : decode cX1_copyFrom 24 = .ok (.iload_n 3, 1) := by decide +kernel
theorem dX1_copyFrom_25 : decode cX1_copyFrom 25 = .ok (.aload_n 0, 1) := by decide +kernel
theorem dX1_copyFrom_26 : decode cX1_copyFrom 26 = .ok (.getfield 7, 3) := by decide +kernel
theorem dX1_copyFrom_29 : decode cX1_copyFrom 29 = .ok (.if_icmp .ge 21, 3) := by decide +kernel
theorem dX1_copyFrom_32 : decode cX1_copyFrom 32 = .ok (.aload_n 0, 1) := by decide +kernel
theorem dX1_copyFrom_33 : decode cX1_copyFrom 33 = .ok (.iload_n 3, 1) := by decide +kernel
theorem dX1_copyFrom_34 : decode cX1_copyFrom 34 = .ok (.iload_n 2, 1) := by decide +kernel
theorem dX1_copyFrom_35 : decode cX1_copyFrom 35 = .ok (.aload_n 1, 1) := by decide +kernel
theorem dX1_copyFrom_36 : decode cX1_copyFrom 36 = .ok (.iload_n 3, 1) := by decide +kernel
theorem dX1_copyFrom_37 : decode cX1_copyFrom 37 = .ok (.iload_n 2, 1) := by decide +kernel
theorem dX1_copyFrom_38 : decode cX1_copyFrom 38 = .ok (.invokevirtual 43, 3) := by decide +kernel
theorem dX1_copyFrom_41 : decode cX1_copyFrom 41 = .ok (.invokevirtual 46, 3) := by decide +kernel
theorem dX1_copyFrom_44 : decode cX1_copyFrom 44 = .ok (.iinc 3 1, 3) := by decide +kernel
theorem dX1_copyFrom_47 : decode cX1_copyFrom 47 = .ok (.goto (-23), 3) := by decide +kernel
theorem dX1_copyFrom_50 : decode cX1_copyFrom 50 = .ok (.iinc 2 1, 3) := by decide +kernel
theorem dX1_copyFrom_53 : decode cX1_copyFrom 53 = .ok (.goto (-39), 3) := by decide +kernel
theorem dX1_copyFrom_56 : decode cX1_copyFrom 56 = .ok (.return_, 1) := by decide +kernel
set_option maxRecDepth 20000 in
theorem ggX1_countBlack_X1_pixel : GoodIn wsX1_countBlack wsX1_pixel := goodIn_r _ [7, 2, 1, 8, 9, 10, 11, 12, 13] (by decide +kernel) (by decide +kernel)
set_option maxRecDepth 20000 in
theorem gX1_countBlack_X1_pixel : GoodIn wsX1_countBlack (wsV RX1 43 RX1 yX1_pixel wsX1_pixel) := goodIn_app (goodIn_of _ (by decide +kernel)) ggX1_countBlack_X1_pixel
theorem dX1_countBlack_0 : decode cX1_countBlack 0 = .ok (.iconst 0, 1) := by decide +kernel
theorem dX1_countBlack_1 : decode cX1_countBlack 1 = .ok (.istore_n 1, 1) := by decide +kernel
theorem dX1_countBlack_2 : decode cX1_countBlack 2 = .ok (.iconst 0, 1) := by decide +kernel
theorem dX1_countBlack_3 : decode cX1_countBlack 3 = .ok (.istore_n 2, 1) := by decide +kernel
theorem dX1_countBlack_4 : decode cX1_countBlack 4 = .ok (.iload_n 2, 1) := by decide +kernel
theorem dX1_countBlack_5 : decode cX1_countBlack 5 = .ok (.aload_n 0, 1) := by decide +kernel
theorem dX1_countBlack_6 : decode cX1_countBlack 6 = .ok (.getfield 13, 3) := by decide +kernel
theorem dX1_countBlack_9 : decode cX1_countBlack 9 = .ok (.if_icmp .ge 34, 3) := by decide +kernel
theorem dX1_countBlack_12 : decode cX1_countBlack 12 = .ok (.iconst 0, 1) := by decide +kernel
theorem dX1_countBlack_13 : decode cX1_countBlack 13 = .ok (.istore_n 3, 1) := by decide +kernel
theorem dX1_countBlack_14 : decode cX1_countBlack 14 = .ok (.iload_n 3, 1) := by decide +kernel
theorem dX1_countBlack_15 : decode cX1_countBlack 15 = .ok (.aload_n 0, 1) := by decide +kernel
theorem dX1_countBlack_16 : decode cX1_countBlack 16 = .ok (.getfield 7, 3) := by decide +kernel
theorem dX1_countBlack_19 : decode cX1_countBlack 19 = .ok (.if_icmp .ge 18, 3) := by decide +kernel
theorem dX1_countBlack_22 : decode cX1_countBlack 22 = .ok (.iload_n 1, 1) := by decide +kernel
theorem dX1_countBlack_23 : decode cX1_countBlack 23 = .ok (.aload_n 0, 1) := by decide +kernel
theorem dX1_countBlack_24 : decode cX1_countBlack 24 = .ok (.iload_n 3, 1) := by decide +kernel
theorem dX1_countBlack_25 : decode cX1_countBlack 25 = .ok (.iload_n 2, 1) := by decide +kernel
theorem dX1_countBlack_26 : decode cX1_countBlack 26 = .ok (.invokevirtual 43, 3) := by decide +kernel
theorem dX1_countBlack_29 : decode cX1_countBlack 29 = .ok (.iadd, 1) := by decide +kernel
theorem dX1_countBlack_30 : decode cX1_countBlack 30 = .ok (.istore_n 1, 1) := by decide +kernel
theorem dX1_countBlack_31 : decode cX1_countBlack 31 = .ok (.iinc 3 1, 3) := by decide +kernel
theorem dX1_countBlack_34 : decode cX1_countBlack 34 = .ok (.goto (-20), 3) := by decide +kernel
theorem dX1_countBlack_37 : decode cX1_countBlack 37 = .ok (.iinc 2 1, 3) := by decide +kernel
theorem dX1_countBlack_40 : decode cX1_countBlack 40 = .ok (.goto (-36), 3) := by decide +kernel
theorem dX1_countBlack_43 : decode cX1_countBlack 43 = .ok (.iload_n 1, 1) := by decide +kernel
theorem dX1_countBlack_44 : decode cX1_countBlack 44 = .ok (.ireturn, 1) := by decide +kernel
set_option maxRecDepth 20000 in
theorem ggX1_countDifferences_X1_pixel : GoodIn wsX1_countDifferences wsX1_pixel := goodIn_r _ [7, 2, 1, 8, 9, 10, 11, 12, 13] (by decide +kernel) (by decide +kernel)
set_option maxRecDepth 20000 in
theorem gX1_countDifferences_X1_pixel : GoodIn wsX1_countDifferences (wsV RX1 43 RX1 yX1_pixel wsX1_pixel) := goodIn_app (goodIn_of _ (by decide +kernel)) ggX1_countDifferences_X1_pixel
theorem dX1_countDifferences_0 : decode cX1_countDifferences 0 = .ok (.iconst 0, 1) := by decide +kernel
theorem dX1_countDifferences_1 : decode cX1_countDifferences 1 = .ok (.istore_n 2, 1) := by decide +kernel
theorem dX1_countDifferences_2 : decode cX1_countDifferences 2 = .ok (.iconst 0, 1) := by decide +kernel
theorem dX1_countDifferences_3 : decode cX1_countDifferences 3 = .ok (.istore_n 3, 1) := by decide +kernel
theorem dX1_countDifferences_4 : decode cX1_countDifferences 4 = .ok (.iload_n 3, 1) := by decide +kernel
theorem dX1_countDifferences_5 : decode cX1_countDifferences 5 = .ok (.aload_n 0, 1) := by decide +kernel
theorem dX1_countDifferences_6 : decode cX1_countDifferences 6 = .ok (.getfield 13, 3) := by decide +kernel
theorem dX1_countDifferences_9 : decode cX1_countDifferences 9 = .ok (.if_icmp .ge 45, 3) := by decide +kernel
theorem dX1_countDifferences_12 : decode cX1_countDifferences 12 = .ok (.iconst 0, 1) := by decide +kernel
theorem dX1_countDifferences_13 : decode cX1_countDifferences 13 = .ok (.istore 4, 2) := by decide +kernel
theorem dX1_countDifferences_15 : decode cX1_countDifferences 15 = .ok (.iload 4, 2) := by decide +kernel
theorem dX1_countDifferences_17 : decode cX1_countDifferences 17 = .ok (.aload_n 0, 1) := by decide +kernel
theorem dX1_countDifferences_18 : decode cX1_countDifferences 18 = .ok (.getfield 7, 3) := by decide +kernel
theorem dX1_countDifferences_21 : decode cX1_countDifferences 21 = .ok (.if_icmp .ge 27, 3) := by decide +kernel
theorem dX1_countDifferences_24 : decode cX1_countDifferences 24 = .ok (.iload_n 2, 1) := by decide +kernel
theorem dX1_countDifferences_25 : decode cX1_countDifferences 25 = .ok (.aload_n 0, 1) := by decide +kernel
theorem dX1_countDifferences_26 : decode cX1_countDifferences 26 = .ok (.iload 4, 2) := by decide +kernel
theorem dX1_countDifferences_28 : decode cX1_countDifferences 28 = .ok (.iload_n 3, 1) := by decide +kernel
theorem dX1_countDifferences_29 : decode cX1_countDifferences 29 = .ok (.invokevirtual 43, 3) := by decide +kernel
theorem dX1_countDifferences_32 : decode cX1_countDifferences 32 = .ok (.aload_n 1, 1) := by decide +kernel
theorem dX1_countDifferences_33 : decode cX1_countDifferences 33 = .ok (.iload 4, 2) := by decide +kernel
theorem dX1_countDifferences_35 : decode cX1_countDifferences 35 = .ok (.iload_n 3, 1) := by decide +kernel
theorem dX1_countDifferences_36 : decode cX1_countDifferences 36 = .ok (.invokevirtual 43, 3) := by decide +kernel
theorem dX1_countDifferences_39 : decode cX1_countDifferences 39 = .ok (.ixor, 1) := by decide +kernel
theorem dX1_countDifferences_40 : decode cX1_countDifferences 40 = .ok (.iadd, 1) := by decide +kernel
theorem dX1_countDifferences_41 : decode cX1_countDifferences 41 = .ok (.istore_n 2, 1) := by decide +kernel
theorem dX1_countDifferences_42 : decode cX1_countDifferences 42 = .ok (.iinc 4 1, 3) := by decide +kernel
theorem dX1_countDifferences_45 : decode cX1_countDifferences 45 = .ok (.goto (-30), 3) := by decide +kernel
theorem dX1_countDifferences_48 : decode cX1_countDifferences 48 = .ok (.iinc 3 1, 3) := by decide +kernel
theorem dX1_countDifferences_51 : decode cX1_countDifferences 51 = .ok (.goto (-47), 3) := by decide +kernel
theorem dX1_countDifferences_54 : decode cX1_countDifferences 54 = .ok (.iload_n 2, 1) := by decide +kernel
theorem dX1_countDifferences_55 : decode cX1_countDifferences 55 = .ok (.ireturn, 1) := by decide +kernel
