set_option maxRecDepth 20000 in
theorem ggX5_init_X1_init : GoodIn wsX5_init wsX1_init := goodIn_r _ [16, 17, 2, 3, 18, 19, 20, 21, 22, 23, 24, 25, 26] (by decide +kernel) (by decide +kernel)
set_option maxRecDepth 20000 in
theorem gX5_init_X1_init_n11 : GoodIn wsX5_init (wsX1_init) := ggX5_init_X1_init
theorem dX5_init_0 : decode cX5_init 0 = .ok (.aload_n 0, 1) := by decide +kernel
theorem dX5_init_1 : decode cX5_init 1 = .ok (.invokespecial 3, 3) := by decide +kernel
theorem dX5_init_4 : decode cX5_init 4 = .ok (.aload_n 0, 1) := by decide +kernel
theorem dX5_init_5 : decode cX5_init 5 = .ok (.new 9, 3) := by decide +kernel
theorem dX5_init_8 : decode cX5_init 8 = .ok (.dup, 1) := by decide +kernel
theorem dX5_init_9 : decode cX5_init 9 = .ok (.bipush 60, 2) := by decide +kernel
theorem dX5_init_11 : decode cX5_init 11 = .ok (.invokespecial 11, 3) := by decide +kernel
theorem dX5_init_14 : decode cX5_init 14 = .ok (.putfield 14, 3) := by decide +kernel
theorem dX5_init_17 : decode cX5_init 17 = .ok (.aload_n 0, 1) := by decide +kernel
theorem dX5_init_18 : decode cX5_init 18 = .ok (.iconst 0, 1) := by decide +kernel
theorem dX5_init_19 : decode cX5_init 19 = .ok (.putfield 20, 3) := by decide +kernel
theorem dX5_init_22 : decode cX5_init 22 = .ok (.aload_n 0, 1) := by decide +kernel
theorem dX5_init_23 : decode cX5_init 23 = .ok (.iconst 0, 1) := by decide +kernel
theorem dX5_init_24 : decode cX5_init 24 = .ok (.putfield 24, 3) := by decide +kernel
theorem dX5_init_27 : decode cX5_init 27 = .ok (.aload_n 0, 1) := by decide +kernel
theorem dX5_init_28 : decode cX5_init 28 = .ok (.iconst 0, 1) := by decide +kernel
theorem dX5_init_29 : decode cX5_init 29 = .ok (.putfield 27, 3) := by decide +kernel
theorem dX5_init_32 : decode cX5_init 32 = .ok (.aload_n 0, 1) := by decide +kernel
theorem dX5_init_33 : decode cX5_init 33 = .ok (.iconst (-1), 1) := by decide +kernel
theorem dX5_init_34 : decode cX5_init 34 = .ok (.putfield 30, 3) := by decide +kernel
theorem dX5_init_37 : decode cX5_init 37 = .ok (.aload_n 0, 1) := by decide +kernel
theorem dX5_init_38 : decode cX5_init 38 = .ok (.iconst (-1), 1) := by decide +kernel
theorem dX5_init_39 : decode cX5_init 39 = .ok (.putfield 33, 3) := by decide +kernel
theorem dX5_init_42 : decode cX5_init 42 = .ok (.aload_n 0, 1) := by decide +kernel
theorem dX5_init_43 : decode cX5_init 43 = .ok (.iconst (-1), 1) := by decide +kernel
theorem dX5_init_44 : decode cX5_init 44 = .ok (.putfield 36, 3) := by decide +kernel
theorem dX5_init_47 : decode cX5_init 47 = .ok (.aload_n 0, 1) := by decide +kernel
theorem dX5_init_48 : decode cX5_init 48 = .ok (.iconst (-1), 1) := by decide +kernel
theorem dX5_init_49 : decode cX5_init 49 = .ok (.putfield 39, 3) := by decide +kernel
theorem dX5_init_52 : decode cX5_init 52 = .ok (.return_, 1) := by decide +kernel
set_option maxRecDepth 20000 in
theorem ggX5_begin_X5_setPlace0 : GoodIn wsX5_begin wsX5_setPlace0 := goodIn_r _ [6, 7, 8, 15, 16, 17, 18, 19, 20, 21, 22] (by decide +kernel) (by decide +kernel)
set_option maxRecDepth 20000 in
theorem gX5_begin_X5_setPlace0 : GoodIn wsX5_begin (wsV RX5 42 RX5 yX5_setPlace0 wsX5_setPlace0) := goodIn_app (goodIn_of _ (by decide +kernel)) ggX5_begin_X5_setPlace0
set_option maxRecDepth 20000 in
theorem ggX5_begin_X5_setPlace1 : GoodIn wsX5_begin wsX5_setPlace1 := goodIn_r _ [12, 13, 14, 15, 16, 17, 18, 19, 20, 21, 22] (by decide +kernel) (by decide +kernel)
set_option maxRecDepth 20000 in
theorem gX5_begin_X5_setPlace1 : GoodIn wsX5_begin (wsV RX5 46 RX5 yX5_setPlace1 wsX5_setPlace1) := goodIn_app (goodIn_of _ (by decide +kernel)) ggX5_begin_X5_setPlace1
theorem dX5_begin_0 : decode cX5_begin 0 = .ok (.aload_n 0, 1) := by decide +kernel
theorem dX5_begin_1 : decode cX5_begin 1 = .ok (.iload_n 1, 1) := by decide +kernel
theorem dX5_begin_2 : decode cX5_begin 2 = .ok (.putfield 27, 3) := by decide +kernel
theorem dX5_begin_5 : decode cX5_begin 5 = .ok (.aload_n 0, 1) := by decide +kernel
theorem dX5_begin_6 : decode cX5_begin 6 = .ok (.iconst (-1), 1) := by decide +kernel
theorem dX5_begin_7 : decode cX5_begin 7 = .ok (.iconst (-1), 1) := by decide +kernel
theorem dX5_begin_8 : decode cX5_begin 8 = .ok (.invokevirtual 42, 3) := by decide +kernel
theorem dX5_begin_11 : decode cX5_begin 11 = .ok (.aload_n 0, 1) := by decide +kernel
theorem dX5_begin_12 : decode cX5_begin 12 = .ok (.iconst (-1), 1) := by decide +kernel
theorem dX5_begin_13 : decode cX5_begin 13 = .ok (.iconst (-1), 1) := by decide +kernel
theorem dX5_begin_14 : decode cX5_begin 14 = .ok (.invokevirtual 46, 3) := by decide +kernel
theorem dX5_begin_17 : decode cX5_begin 17 = .ok (.return_, 1) := by decide +kernel
theorem dX5_setPlace0_0 : decode cX5_setPlace0 0 = .ok (.aload_n 0, 1) := by decide +kernel
theorem dX5_setPlace0_1 : decode cX5_setPlace0 1 = .ok (.iload_n 1, 1) := by decide +kernel
theorem dX5_setPlace0_2 : decode cX5_setPlace0 2 = .ok (.putfield 30, 3) := by decide +kernel
theorem dX5_setPlace0_5 : decode cX5_setPlace0 5 = .ok (.aload_n 0, 1) := by decide +kernel
theorem dX5_setPlace0_6 : decode cX5_setPlace0 6 = .ok (.iload_n 2, 1) := by decide +kernel
theorem dX5_setPlace0_7 : decode cX5_setPlace0 7 = .ok (.putfield 33, 3) := by decide +kernel
theorem dX5_setPlace0_10 : decode cX5_setPlace0 10 = .ok (.return_, 1) := by decide +kernel
theorem dX5_setPlace1_0 : decode cX5_setPlace1 0 = .ok (.aload_n 0, 1) := by decide +kernel
theorem dX5_setPlace1_1 : decode cX5_setPlace1 1 = .ok (.iload_n 1, 1) := by decide +kernel
theorem dX5_setPlace1_2 : decode cX5_setPlace1 2 = .ok (.putfield 36, 3) := by decide +kernel
theorem dX5_setPlace1_5 : decode cX5_setPlace1 5 = .ok (.aload_n 0, 1) := by decide +kernel
theorem dX5_setPlace1_6 : decode cX5_setPlace1 6 = .ok (.iload_n 2, 1) := by decide +kernel
theorem dX5_setPlace1_7 : decode cX5_setPlace1 7 = .ok (.putfield 39, 3) := by decide +kernel
theorem dX5_setPlace1_10 : decode cX5_setPlace1 10 = .ok (.return_, 1) := by decide +kernel
theorem dX5_move_0 : decode cX5_move 0 = .ok (.aload_n 0, 1) := by decide +kernel
theorem dX5_move_1 : decode cX5_move 1 = .ok (.iload_n 1, 1) := by decide +kernel
theorem dX5_move_2 : decode cX5_move 2 = .ok (.putfield 20, 3) := by decide +kernel
theorem dX5_move_5 : decode cX5_move 5 = .ok (.aload_n 0, 1) := by decide +kernel
theorem dX5_move_6 : decode cX5_move 6 = .ok (.iload_n 2, 1) := by decide +kernel
theorem dX5_move_7 : decode cX5_move 7 = .ok (.putfield 24, 3) := by decide +kernel
theorem dX5_move_10 : decode cX5_move 10 = .ok (.return_, 1) := by decide +kernel
theorem dX5_rowContext_0 : decode cX5_rowContext 0 = .ok (.aload_n 0, 1) := by decide +kernel
theorem dX5_rowContext_1 : decode cX5_rowContext 1 = .ok (.getfield 27, 3) := by decide +kernel
theorem dX5_rowContext_4 : decode cX5_rowContext 4 = .ok (.ifCond .ne 8, 3) := by decide +kernel
theorem dX5_rowContext_7 : decode cX5_rowContext 7 = .ok (.bipush 16, 2) := by decide +kernel
theorem dX5_rowContext_9 : decode cX5_rowContext 9 = .ok (.goto 5, 3) := by decide +kernel
theorem dX5_rowContext_12 : decode cX5_rowContext 12 = .ok (.bipush 8, 2) := by decide +kernel
theorem dX5_rowContext_14 : decode cX5_rowContext 14 = .ok (.ireturn, 1) := by decide +kernel
set_option maxRecDepth 20000 in
theorem ggX5_referred_X1_pixel : GoodIn wsX5_referred wsX1_pixel := goodIn_r _ [7, 8, 9, 10, 11, 20, 21, 22, 23] (by decide +kernel) (by decide +kernel)
set_option maxRecDepth 20000 in
theorem gX5_referred_X1_pixel_n49 : GoodIn wsX5_referred (wsX1_pixel) := ggX5_referred_X1_pixel
theorem dX5_referred_0 : decode cX5_referred 0 = .ok (.aload_n 0, 1) := by decide +kernel
theorem dX5_referred_1 : decode cX5_referred 1 = .ok (.getfield 14, 3) := by decide +kernel
theorem dX5_referred_4 : decode cX5_referred 4 = .ok (.iload_n 1, 1) := by decide +kernel
theorem dX5_referred_5 : decode cX5_referred 5 = .ok (.aload_n 0, 1) := by decide +kernel
theorem dX5_referred_6 : decode cX5_referred 6 = .ok (.getfield 20, 3) := by decide +kernel
theorem dX5_referred_9 : decode cX5_referred 9 = .ok (.isub, 1) := by decide +kernel
theorem dX5_referred_10 : decode cX5_referred 10 = .ok (.iload_n 2, 1) := by decide +kernel
theorem dX5_referred_11 : decode cX5_referred 11 = .ok (.aload_n 0, 1) := by decide +kernel
theorem dX5_referred_12 : decode cX5_referred 12 = .ok (.getfield 24, 3) := by decide +kernel
theorem dX5_referred_15 : decode cX5_referred 15 = .ok (.isub, 1) := by decide +kernel
theorem dX5_referred_16 : decode cX5_referred 16 = .ok (.invokevirtual 49, 3) := by decide +kernel
theorem dX5_referred_19 : decode cX5_referred 19 = .ok (.ireturn, 1) := by decide +kernel
set_option maxRecDepth 20000 in
theorem ggX5_contextOf_X1_pixel : GoodIn wsX5_contextOf wsX1_pixel := goodIn_r _ [5, 6, 7, 8, 9, 38, 39, 40, 41] (by decide +kernel) (by decide +kernel)
set_option maxRecDepth 20000 in
theorem gX5_contextOf_X1_pixel_n49 : GoodIn wsX5_contextOf (wsX1_pixel) := ggX5_contextOf_X1_pixel
set_option maxRecDepth 20000 in
theorem ggX5_contextOf_X5_restOfTemplate0 : GoodIn wsX5_contextOf wsX5_restOfTemplate0 := goodIn_r _ [14, 15, 16, 17, 18, 2, 3, 4, 5, 6, 7, 8, 9, 19, 20, 21, 13, 22, 23, 24, 25, 30, 31, 32, 33, 34, 35, 36, 37, 38, 39, 40, 41] (by decide +kernel) (by decide +kernel)
set_option maxRecDepth 20000 in
theorem gX5_contextOf_X5_restOfTemplate0 : GoodIn wsX5_contextOf (wsV RX5 53 RX5 yX5_restOfTemplate0 wsX5_restOfTemplate0) := goodIn_app (goodIn_of _ (by decide +kernel)) ggX5_contextOf_X5_restOfTemplate0
set_option maxRecDepth 20000 in
theorem ggX5_contextOf_X5_restOfTemplate1 : GoodIn wsX5_contextOf wsX5_restOfTemplate1 := goodIn_r _ [29, 2, 3, 4, 5, 6, 7, 8, 9, 19, 20, 21, 13, 22, 23, 24, 25, 38, 39, 40, 41, 30, 31, 32, 33, 34, 35, 36, 37] (by decide +kernel) (by decide +kernel)
set_option maxRecDepth 20000 in
theorem gX5_contextOf_X5_restOfTemplate1 : GoodIn wsX5_contextOf (wsV RX5 57 RX5 yX5_restOfTemplate1 wsX5_restOfTemplate1) := goodIn_app (goodIn_of _ (by decide +kernel)) ggX5_contextOf_X5_restOfTemplate1
theorem dX5_contextOf_0 : decode cX5_contextOf 0 = .ok (.aload_n 1, 1) := by decide +kernel
theorem dX5_contextOf_1 : decode cX5_contextOf 1 = .ok (.iload_n 2, 1) := by decide +kernel
theorem dX5_contextOf_2 : decode cX5_contextOf 2 = .ok (.iconst 1, 1) := by decide +kernel
theorem dX5_contextOf_3 : decode cX5_contextOf 3 = .ok (.isub, 1) := by decide +kernel
theorem dX5_contextOf_4 : decode cX5_contextOf 4 = .ok (.iload_n 3, 1) := by decide +kernel
theorem dX5_contextOf_5 : decode cX5_contextOf 5 = .ok (.invokevirtual 49, 3) := by decide +kernel
theorem dX5_contextOf_8 : decode cX5_contextOf 8 = .ok (.aload_n 1, 1) := by decide +kernel
theorem dX5_contextOf_9 : decode cX5_contextOf 9 = .ok (.iload_n 2, 1) := by decide +kernel
theorem dX5_contextOf_10 : decode cX5_contextOf 10 = .ok (.iconst 1, 1) := by decide +kernel
theorem dX5_contextOf_11 : decode cX5_contextOf 11 = .ok (.iadd, 1) := by decide +kernel
theorem dX5_contextOf_12 : decode cX5_contextOf 12 = .ok (.iload_n 3, 1) := by decide +kernel
theorem dX5_contextOf_13 : decode cX5_contextOf 13 = .ok (.iconst 1, 1) := by decide +kernel
theorem dX5_contextOf_14 : decode cX5_contextOf 14 = .ok (.isub, 1) := by decide +kernel
theorem dX5_contextOf_15 : decode cX5_contextOf 15 = .ok (.invokevirtual 49, 3) := by decide +kernel
theorem dX5_contextOf_18 : decode cX5_contextOf 18 = .ok (.iconst 1, 1) := by decide +kernel
theorem dX5_contextOf_19 : decode cX5_contextOf 19 = .ok (.ishl, 1) := by decide +kernel
theorem dX5_contextOf_20 : decode cX5_contextOf 20 = .ok (.ior, 1) := by decide +kernel
theorem dX5_contextOf_21 : decode cX5_contextOf 21 = .ok (.aload_n 1, 1) := by decide +kernel
theorem dX5_contextOf_22 : decode cX5_contextOf 22 = .ok (.iload_n 2, 1) := by decide +kernel
theorem dX5_contextOf_23 : decode cX5_contextOf 23 = .ok (.iload_n 3, 1) := by decide +kernel
theorem dX5_contextOf_24 : decode cX5_contextOf 24 = .ok (.iconst 1, 1) := by decide +kernel
theorem dX5_contextOf_25 : decode cX5_contextOf 25 = .ok (.isub, 1) := by decide +kernel
theorem dX5_contextOf_26 : decode cX5_contextOf 26 = .ok (.invokevirtual 49, 3) := by decide +kernel
theorem dX5_contextOf_29 : decode cX5_contextOf 29 = .ok (.iconst 2, 1) := by decide +kernel
theorem dX5_contextOf_30 : decode cX5_contextOf 30 = .ok (.ishl, 1) := by decide +kernel
theorem dX5_contextOf_31 : decode cX5_contextOf 31 = .ok (.ior, 1) := by decide +kernel
theorem dX5_contextOf_32 : decode cX5_contextOf 32 = .ok (.istore 4, 2) := by decide +kernel
theorem dX5_contextOf_34 : decode cX5_contextOf 34 = .ok (.iload 4, 2) := by decide +kernel
theorem dX5_contextOf_36 : decode cX5_contextOf 36 = .ok (.aload_n 0, 1) := by decide +kernel
theorem dX5_contextOf_37 : decode cX5_contextOf 37 = .ok (.getfield 27, 3) := by decide +kernel
theorem dX5_contextOf_40 : decode cX5_contextOf 40 = .ok (.ifCond .ne 13, 3) := by decide +kernel
theorem dX5_contextOf_43 : decode cX5_contextOf 43 = .ok (.aload_n 0, 1) := by decide +kernel
theorem dX5_contextOf_44 : decode cX5_contextOf 44 = .ok (.aload_n 1, 1) := by decide +kernel
theorem dX5_contextOf_45 : decode cX5_contextOf 45 = .ok (.iload_n 2, 1) := by decide +kernel
theorem dX5_contextOf_46 : decode cX5_contextOf 46 = .ok (.iload_n 3, 1) := by decide +kernel
theorem dX5_contextOf_47 : decode cX5_contextOf 47 = .ok (.invokevirtual 53, 3) := by decide +kernel
theorem dX5_contextOf_50 : decode cX5_contextOf 50 = .ok (.goto 10, 3) := by decide +kernel
theorem dX5_contextOf_53 : decode cX5_contextOf 53 = .ok (.aload_n 0, 1) := by decide +kernel
theorem dX5_contextOf_54 : decode cX5_contextOf 54 = .ok (.aload_n 1, 1) := by decide +kernel
theorem dX5_contextOf_55 : decode cX5_contextOf 55 = .ok (.iload_n 2, 1) := by decide +kernel
theorem dX5_contextOf_56 : decode cX5_contextOf 56 = .ok (.iload_n 3, 1) := by decide +kernel
theorem dX5_contextOf_57 : decode cX5_contextOf 57 = .ok (.invokevirtual 57, 3) := by decide +kernel
theorem dX5_contextOf_60 : decode cX5_contextOf 60 = .ok (.ior, 1) := by decide +kernel
theorem dX5_contextOf_61 : decode cX5_contextOf 61 = .ok (.ireturn, 1) := by decide +kernel
set_option maxRecDepth 20000 in
theorem ggX5_restOfTemplate0_X1_pixel : GoodIn wsX5_restOfTemplate0 wsX1_pixel := goodIn_r _ [8, 9, 10, 11, 12, 29, 30, 31, 32] (by decide +kernel) (by decide +kernel)
set_option maxRecDepth 20000 in
theorem gX5_restOfTemplate0_X1_pixel_n49 : GoodIn wsX5_restOfTemplate0 (wsX1_pixel) := ggX5_restOfTemplate0_X1_pixel
set_option maxRecDepth 20000 in
theorem ggX5_restOfTemplate0_X5_referred : GoodIn wsX5_restOfTemplate0 wsX5_referred := goodIn_r _ [17, 18, 19, 20, 5, 6, 7, 8, 9, 10, 11, 12, 21, 22, 23, 24, 25, 26, 27, 28, 29, 30, 31, 32] (by decide +kernel) (by decide +kernel)
set_option maxRecDepth 20000 in
theorem gX5_restOfTemplate0_X5_referred : GoodIn wsX5_restOfTemplate0 (wsV RX5 60 RX5 yX5_referred wsX5_referred) := goodIn_app (goodIn_of _ (by decide +kernel)) ggX5_restOfTemplate0_X5_referred
theorem dX5_restOfTemplate0_0 : decode cX5_restOfTemplate0 0 = .ok (.aload_n 1, 1) := by decide +kernel
theorem dX5_restOfTemplate0_1 : decode cX5_restOfTemplate0 1 = .ok (.iload_n 2, 1) := by decide +kernel
theorem dX5_restOfTemplate0_2 : decode cX5_restOfTemplate0 2 = .ok (.aload_n 0, 1) := by decide +kernel
theorem dX5_restOfTemplate0_3 : decode cX5_restOfTemplate0 3 = .ok (.getfield 30, 3) := by decide +kernel
theorem dX5_restOfTemplate0_6 : decode cX5_restOfTemplate0 6 = .ok (.iadd, 1) := by decide +kernel
theorem dX5_restOfTemplate0_7 : decode cX5_restOfTemplate0 7 = .ok (.iload_n 3, 1) := by decide +kernel
theorem dX5_restOfTemplate0_8 : decode cX5_restOfTemplate0 8 = .ok (.aload_n 0, 1) := by decide +kernel
theorem dX5_restOfTemplate0_9 : decode cX5_restOfTemplate0 9 = .ok (.getfield 33, 3) := by decide +kernel
theorem dX5_restOfTemplate0_12 : decode cX5_restOfTemplate0 12 = .ok (.iadd, 1) := by decide +kernel
theorem dX5_restOfTemplate0_13 : decode cX5_restOfTemplate0 13 = .ok (.invokevirtual 49, 3) := by decide +kernel
theorem dX5_restOfTemplate0_16 : decode cX5_restOfTemplate0 16 = .ok (.iconst 3, 1) := by decide +kernel
theorem dX5_restOfTemplate0_17 : decode cX5_restOfTemplate0 17 = .ok (.ishl, 1) := by decide +kernel
theorem dX5_restOfTemplate0_18 : decode cX5_restOfTemplate0 18 = .ok (.aload_n 0, 1) := by decide +kernel
theorem dX5_restOfTemplate0_19 : decode cX5_restOfTemplate0 19 = .ok (.iload_n 2, 1) := by decide +kernel
theorem dX5_restOfTemplate0_20 : decode cX5_restOfTemplate0 20 = .ok (.iconst 1, 1) := by decide +kernel
theorem dX5_restOfTemplate0_21 : decode cX5_restOfTemplate0 21 = .ok (.iadd, 1) := by decide +kernel
theorem dX5_restOfTemplate0_22 : decode cX5_restOfTemplate0 22 = .ok (.iload_n 3, 1) := by decide +kernel
theorem dX5_restOfTemplate0_23 : decode cX5_restOfTemplate0 23 = .ok (.iconst 1, 1) := by decide +kernel
theorem dX5_restOfTemplate0_24 : decode cX5_restOfTemplate0 24 = .ok (.iadd, 1) := by decide +kernel
theorem dX5_restOfTemplate0_25 : decode cX5_restOfTemplate0 25 = .ok (.invokevirtual 60, 3) := by decide +kernel
theorem dX5_restOfTemplate0_28 : decode cX5_restOfTemplate0 28 = .ok (.iconst 4, 1) := by decide +kernel
theorem dX5_restOfTemplate0_29 : decode cX5_restOfTemplate0 29 = .ok (.ishl, 1) := by decide +kernel
theorem dX5_restOfTemplate0_30 : decode cX5_restOfTemplate0 30 = .ok (.ior, 1) := by decide +kernel
theorem dX5_restOfTemplate0_31 : decode cX5_restOfTemplate0 31 = .ok (.aload_n 0, 1) := by decide +kernel
theorem dX5_restOfTemplate0_32 : decode cX5_restOfTemplate0 32 = .ok (.iload_n 2, 1) := by decide +kernel
theorem dX5_restOfTemplate0_33 : decode cX5_restOfTemplate0 33 = .ok (.iload_n 3, 1) := by decide +kernel
theorem dX5_restOfTemplate0_34 : decode cX5_restOfTemplate0 34 = .ok (.iconst 1, 1) := by decide +kernel
theorem dX5_restOfTemplate0_35 : decode cX5_restOfTemplate0 35 = .ok (.iadd, 1) := by decide +kernel
theorem dX5_restOfTemplate0_36 : decode cX5_restOfTemplate0 36 = .ok (.invokevirtual 60, 3) := by decide +kernel
theorem dX5_restOfTemplate0_39 : decode cX5_restOfTemplate0 39 = .ok (.iconst 5, 1) := by decide +kernel
theorem dX5_restOfTemplate0_40 : decode cX5_restOfTemplate0 40 = .ok (.ishl, 1) := by decide +kernel
theorem dX5_restOfTemplate0_41 : decode cX5_restOfTemplate0 41 = .ok (.ior, 1) := by decide +kernel
theorem dX5_restOfTemplate0_42 : decode cX5_restOfTemplate0 42 = .ok (.aload_n 0, 1) := by decide +kernel
theorem dX5_restOfTemplate0_43 : decode cX5_restOfTemplate0 43 = .ok (.iload_n 2, 1) := by decide +kernel
theorem dX5_restOfTemplate0_44 : decode cX5_restOfTemplate0 44 = .ok (.iconst 1, 1) := by decide +kernel
theorem dX5_restOfTemplate0_45 : decode cX5_restOfTemplate0 45 = .ok (.isub, 1) := by decide +kernel
theorem dX5_restOfTemplate0_46 : decode cX5_restOfTemplate0 46 = .ok (.iload_n 3, 1) := by decide +kernel
theorem dX5_restOfTemplate0_47 : decode cX5_restOfTemplate0 47 = .ok (.iconst 1, 1) := by decide +kernel
theorem dX5_restOfTemplate0_48 : decode cX5_restOfTemplate0 48 = .ok (.iadd, 1) := by decide +kernel
theorem dX5_restOfTemplate0_49 : decode cX5_restOfTemplate0 49 = .ok (.invokevirtual 60, 3) := by decide +kernel
theorem dX5_restOfTemplate0_52 : decode cX5_restOfTemplate0 52 = .ok (.bipush 6, 2) := by decide +kernel
theorem dX5_restOfTemplate0_54 : decode cX5_restOfTemplate0 54 = .ok (.ishl, 1) := by decide +kernel
theorem dX5_restOfTemplate0_55 : decode cX5_restOfTemplate0 55 = .ok (.ior, 1) := by decide +kernel
theorem dX5_restOfTemplate0_56 : decode cX5_restOfTemplate0 56 = .ok (.aload_n 0, 1) := by decide +kernel
theorem dX5_restOfTemplate0_57 : decode cX5_restOfTemplate0 57 = .ok (.iload_n 2, 1) := by decide +kernel
theorem dX5_restOfTemplate0_58 : decode cX5_restOfTemplate0 58 = .ok (.iconst 1, 1) := by decide +kernel
theorem dX5_restOfTemplate0_59 : decode cX5_restOfTemplate0 59 = .ok (.iadd, 1) := by decide +kernel
theorem dX5_restOfTemplate0_60 : decode cX5_restOfTemplate0 60 = .ok (.iload_n 3, 1) := by decide +kernel
theorem dX5_restOfTemplate0_61 : decode cX5_restOfTemplate0 61 = .ok (.invokevirtual 60, 3) := by decide +kernel
theorem dX5_restOfTemplate0_64 : decode cX5_restOfTemplate0 64 = .ok (.bipush 7, 2) := by decide +kernel
theorem dX5_restOfTemplate0_66 : decode cX5_restOfTemplate0 66 = .ok (.ishl, 1) := by decide +kernel
theorem dX5_restOfTemplate0_67 : decode cX5_restOfTemplate0 67 = .ok (.ior, 1) := by decide +kernel
theorem dX5_restOfTemplate0_68 : decode cX5_restOfTemplate0 68 = .ok (.aload_n 0, 1) := by decide +kernel
theorem dX5_restOfTemplate0_69 : decode cX5_restOfTemplate0 69 = .ok (.iload_n 2, 1) := by decide +kernel
theorem dX5_restOfTemplate0_70 : decode cX5_restOfTemplate0 70 = .ok (.iload_n 3, 1) := by decide +kernel
theorem dX5_restOfTemplate0_71 : decode cX5_restOfTemplate0 71 = .ok (.invokevirtual 60, 3) := by decide +kernel
theorem dX5_restOfTemplate0_74 : decode cX5_restOfTemplate0 74 = .ok (.bipush 8, 2) := by decide +kernel
theorem dX5_restOfTemplate0_76 : decode cX5_restOfTemplate0 76 = .ok (.ishl, 1) := by decide +kernel
theorem dX5_restOfTemplate0_77 : decode cX5_restOfTemplate0 77 = .ok (.ior, 1) := by decide +kernel
theorem dX5_restOfTemplate0_78 : decode cX5_restOfTemplate0 78 = .ok (.aload_n 0, 1) := by decide +kernel
theorem dX5_restOfTemplate0_79 : decode cX5_restOfTemplate0 79 = .ok (.iload_n 2, 1) := by decide +kernel
theorem dX5_restOfTemplate0_80 : decode cX5_restOfTemplate0 80 = .ok (.iconst 1, 1) := by decide +kernel
theorem dX5_restOfTemplate0_81 : decode cX5_restOfTemplate0 81 = .ok (.isub, 1) := by decide +kernel
theorem dX5_restOfTemplate0_82 : decode cX5_restOfTemplate0 82 = .ok (.iload_n 3, 1) := by decide +kernel
theorem dX5_restOfTemplate0_83 : decode cX5_restOfTemplate0 83 = .ok (.invokevirtual 60, 3) := by decide +kernel
theorem dX5_restOfTemplate0_86 : decode cX5_restOfTemplate0 86 = .ok (.bipush 9, 2) := by decide +kernel
theorem dX5_restOfTemplate0_88 : decode cX5_restOfTemplate0 88 = .ok (.ishl, 1) := by decide +kernel
theorem dX5_restOfTemplate0_89 : decode cX5_restOfTemplate0 89 = .ok (.ior, 1) := by decide +kernel
theorem dX5_restOfTemplate0_90 : decode cX5_restOfTemplate0 90 = .ok (.aload_n 0, 1) := by decide +kernel
theorem dX5_restOfTemplate0_91 : decode cX5_restOfTemplate0 91 = .ok (.iload_n 2, 1) := by decide +kernel
theorem dX5_restOfTemplate0_92 : decode cX5_restOfTemplate0 92 = .ok (.iconst 1, 1) := by decide +kernel
theorem dX5_restOfTemplate0_93 : decode cX5_restOfTemplate0 93 = .ok (.iadd, 1) := by decide +kernel
theorem dX5_restOfTemplate0_94 : decode cX5_restOfTemplate0 94 = .ok (.iload_n 3, 1) := by decide +kernel
theorem dX5_restOfTemplate0_95 : decode cX5_restOfTemplate0 95 = .ok (.iconst 1, 1) := by decide +kernel
theorem dX5_restOfTemplate0_96 : decode cX5_restOfTemplate0 96 = .ok (.isub, 1) := by decide +kernel
theorem dX5_restOfTemplate0_97 : decode cX5_restOfTemplate0 97 = .ok (.invokevirtual 60, 3) := by decide +kernel
theorem dX5_restOfTemplate0_100 : decode cX5_restOfTemplate0 100 = .ok (.bipush 10, 2) := by decide +kernel
theorem dX5_restOfTemplate0_102 : decode cX5_restOfTemplate0 102 = .ok (.ishl, 1) := by decide +kernel
theorem dX5_restOfTemplate0_103 : decode cX5_restOfTemplate0 103 = .ok (.ior, 1) := by decide +kernel
theorem dX5_restOfTemplate0_104 : decode cX5_restOfTemplate0 104 = .ok (.aload_n 0, 1) := by decide +kernel
theorem dX5_restOfTemplate0_105 : decode cX5_restOfTemplate0 105 = .ok (.iload_n 2, 1) := by decide +kernel
theorem dX5_restOfTemplate0_106 : decode cX5_restOfTemplate0 106 = .ok (.iload_n 3, 1) := by decide +kernel
theorem dX5_restOfTemplate0_107 : decode cX5_restOfTemplate0 107 = .ok (.iconst 1, 1) := by decide +kernel
theorem dX5_restOfTemplate0_108 : decode cX5_restOfTemplate0 108 = .ok (.isub, 1) := by decide +kernel
theorem dX5_restOfTemplate0_109 : decode cX5_restOfTemplate0 109 = .ok (.invokevirtual 60, 3) := by decide +kernel
theorem dX5_restOfTemplate0_112 : decode cX5_restOfTemplate0 112 = .ok (.bipush 11, 2) := by decide +kernel
theorem dX5_restOfTemplate0_114 : decode cX5_restOfTemplate0 114 = .ok (.ishl, 1) := by decide +kernel
theorem dX5_restOfTemplate0_115 : decode cX5_restOfTemplate0 115 = .ok (.ior, 1) := by decide +kernel
theorem dX5_restOfTemplate0_116 : decode cX5_restOfTemplate0 116 = .ok (.aload_n 0, 1) := by decide +kernel
theorem dX5_restOfTemplate0_117 : decode cX5_restOfTemplate0 117 = .ok (.iload_n 2, 1) := by decide +kernel
theorem dX5_restOfTemplate0_118 : decode cX5_restOfTemplate0 118 = .ok (.aload_n 0, 1) := by decide +kernel
theorem dX5_restOfTemplate0_119 : decode cX5_restOfTemplate0 119 = .ok (.getfield 36, 3) := by decide +kernel
theorem dX5_restOfTemplate0_122 : decode cX5_restOfTemplate0 122 = .ok (.iadd, 1) := by decide +kernel
theorem dX5_restOfTemplate0_123 : decode cX5_restOfTemplate0 123 = .ok (.iload_n 3, 1) := by decide +kernel
theorem dX5_restOfTemplate0_124 : decode cX5_restOfTemplate0 124 = .ok (.aload_n 0, 1) := by decide +kernel
theorem dX5_restOfTemplate0_125 : decode cX5_restOfTemplate0 125 = .ok (.getfield 39, 3) := by decide +kernel
theorem dX5_restOfTemplate0_128 : decode cX5_restOfTemplate0 128 = .ok (.iadd, 1) := by decide +kernel
theorem dX5_restOfTemplate0_129 : decode cX5_restOfTemplate0 129 = .ok (.invokevirtual 60, 3) := by decide +kernel
theorem dX5_restOfTemplate0_132 : decode cX5_restOfTemplate0 132 = .ok (.bipush 12, 2) := by decide +kernel
theorem dX5_restOfTemplate0_134 : decode cX5_restOfTemplate0 134 = .ok (.ishl, 1) := by decide +kernel
theorem dX5_restOfTemplate0_135 : decode cX5_restOfTemplate0 135 = .ok (.ior, 1) := by decide +kernel
theorem dX5_restOfTemplate0_136 : decode cX5_restOfTemplate0 136 = .ok (.ireturn, 1) := by decide +kernel
set_option maxRecDepth 20000 in
theorem ggX5_restOfTemplate1_X1_pixel : GoodIn wsX5_restOfTemplate1 wsX1_pixel := goodIn_r _ [4, 5, 6, 7, 8, 17, 18, 19, 20] (by decide +kernel) (by decide +kernel)
set_option maxRecDepth 20000 in
theorem gX5_restOfTemplate1_X1_pixel_n49 : GoodIn wsX5_restOfTemplate1 (wsX1_pixel) := ggX5_restOfTemplate1_X1_pixel
set_option maxRecDepth 20000 in
theorem ggX5_restOfTemplate1_X5_referred : GoodIn wsX5_restOfTemplate1 wsX5_referred := goodIn_r _ [13, 14, 15, 16, 1, 2, 3, 4, 5, 6, 7, 8, 21, 22, 23, 24, 25, 26, 27, 28, 17, 18, 19, 20] (by decide +kernel) (by decide +kernel)
set_option maxRecDepth 20000 in
theorem gX5_restOfTemplate1_X5_referred : GoodIn wsX5_restOfTemplate1 (wsV RX5 60 RX5 yX5_referred wsX5_referred) := goodIn_app (goodIn_of _ (by decide +kernel)) ggX5_restOfTemplate1_X5_referred
theorem dX5_restOfTemplate1_0 : decode cX5_restOfTemplate1 0 = .ok (.aload_n 1, 1) := by decide +kernel
theorem dX5_restOfTemplate1_1 : decode cX5_restOfTemplate1 1 = .ok (.iload_n 2, 1) := by decide +kernel
theorem dX5_restOfTemplate1_2 : decode cX5_restOfTemplate1 2 = .ok (.iconst 1, 1) := by decide +kernel
theorem dX5_restOfTemplate1_3 : decode cX5_restOfTemplate1 3 = .ok (.isub, 1) := by decide +kernel
theorem dX5_restOfTemplate1_4 : decode cX5_restOfTemplate1 4 = .ok (.iload_n 3, 1) := by decide +kernel
theorem dX5_restOfTemplate1_5 : decode cX5_restOfTemplate1 5 = .ok (.iconst 1, 1) := by decide +kernel
theorem dX5_restOfTemplate1_6 : decode cX5_restOfTemplate1 6 = .ok (.isub, 1) := by decide +kernel
theorem dX5_restOfTemplate1_7 : decode cX5_restOfTemplate1 7 = .ok (.invokevirtual 49, 3) := by decide +kernel
theorem dX5_restOfTemplate1_10 : decode cX5_restOfTemplate1 10 = .ok (.iconst 3, 1) := by decide +kernel
theorem dX5_restOfTemplate1_11 : decode cX5_restOfTemplate1 11 = .ok (.ishl, 1) := by decide +kernel
theorem dX5_restOfTemplate1_12 : decode cX5_restOfTemplate1 12 = .ok (.aload_n 0, 1) := by decide +kernel
theorem dX5_restOfTemplate1_13 : decode cX5_restOfTemplate1 13 = .ok (.iload_n 2, 1) := by decide +kernel
theorem dX5_restOfTemplate1_14 : decode cX5_restOfTemplate1 14 = .ok (.iconst 1, 1) := by decide +kernel
theorem dX5_restOfTemplate1_15 : decode cX5_restOfTemplate1 15 = .ok (.iadd, 1) := by decide +kernel
theorem dX5_restOfTemplate1_16 : decode cX5_restOfTemplate1 16 = .ok (.iload_n 3, 1) := by decide +kernel
theorem dX5_restOfTemplate1_17 : decode cX5_restOfTemplate1 17 = .ok (.iconst 1, 1) := by decide +kernel
theorem dX5_restOfTemplate1_18 : decode cX5_restOfTemplate1 18 = .ok (.iadd, 1) := by decide +kernel
theorem dX5_restOfTemplate1_19 : decode cX5_restOfTemplate1 19 = .ok (.invokevirtual 60, 3) := by decide +kernel
theorem dX5_restOfTemplate1_22 : decode cX5_restOfTemplate1 22 = .ok (.iconst 4, 1) := by decide +kernel
theorem dX5_restOfTemplate1_23 : decode cX5_restOfTemplate1 23 = .ok (.ishl, 1) := by decide +kernel
theorem dX5_restOfTemplate1_24 : decode cX5_restOfTemplate1 24 = .ok (.ior, 1) := by decide +kernel
theorem dX5_restOfTemplate1_25 : decode cX5_restOfTemplate1 25 = .ok (.aload_n 0, 1) := by decide +kernel
theorem dX5_restOfTemplate1_26 : decode cX5_restOfTemplate1 26 = .ok (.iload_n 2, 1) := by decide +kernel
theorem dX5_restOfTemplate1_27 : decode cX5_restOfTemplate1 27 = .ok (.iload_n 3, 1) := by decide +kernel
theorem dX5_restOfTemplate1_28 : decode cX5_restOfTemplate1 28 = .ok (.iconst 1, 1) := by decide +kernel
theorem dX5_restOfTemplate1_29 : decode cX5_restOfTemplate1 29 = .ok (.iadd, 1) := by decide +kernel
theorem dX5_restOfTemplate1_30 : decode cX5_restOfTemplate1 30 = .ok (.invokevirtual 60, 3) := by decide +kernel
theorem dX5_restOfTemplate1_33 : decode cX5_restOfTemplate1 33 = .ok (.iconst 5, 1) := by decide +kernel
theorem dX5_restOfTemplate1_34 : decode cX5_restOfTemplate1 34 = .ok (.ishl, 1) := by decide +kernel
theorem dX5_restOfTemplate1_35 : decode cX5_restOfTemplate1 35 = .ok (.ior, 1) := by decide +kernel
theorem dX5_restOfTemplate1_36 : decode cX5_restOfTemplate1 36 = .ok (.aload_n 0, 1) := by decide +kernel
theorem dX5_restOfTemplate1_37 : decode cX5_restOfTemplate1 37 = .ok (.iload_n 2, 1) := by decide +kernel
theorem dX5_restOfTemplate1_38 : decode cX5_restOfTemplate1 38 = .ok (.iconst 1, 1) := by decide +kernel
theorem dX5_restOfTemplate1_39 : decode cX5_restOfTemplate1 39 = .ok (.iadd, 1) := by decide +kernel
theorem dX5_restOfTemplate1_40 : decode cX5_restOfTemplate1 40 = .ok (.iload_n 3, 1) := by decide +kernel
theorem dX5_restOfTemplate1_41 : decode cX5_restOfTemplate1 41 = .ok (.invokevirtual 60, 3) := by decide +kernel
theorem dX5_restOfTemplate1_44 : decode cX5_restOfTemplate1 44 = .ok (.bipush 6, 2) := by decide +kernel
theorem dX5_restOfTemplate1_46 : decode cX5_restOfTemplate1 46 = .ok (.ishl, 1) := by decide +kernel
theorem dX5_restOfTemplate1_47 : decode cX5_restOfTemplate1 47 = .ok (.ior, 1) := by decide +kernel
theorem dX5_restOfTemplate1_48 : decode cX5_restOfTemplate1 48 = .ok (.aload_n 0, 1) := by decide +kernel
theorem dX5_restOfTemplate1_49 : decode cX5_restOfTemplate1 49 = .ok (.iload_n 2, 1) := by decide +kernel
theorem dX5_restOfTemplate1_50 : decode cX5_restOfTemplate1 50 = .ok (.iload_n 3, 1) := by decide +kernel
theorem dX5_restOfTemplate1_51 : decode cX5_restOfTemplate1 51 = .ok (.invokevirtual 60, 3) := by decide +kernel
theorem dX5_restOfTemplate1_54 : decode cX5_restOfTemplate1 54 = .ok (.bipush 7, 2) := by decide +kernel
theorem dX5_restOfTemplate1_56 : decode cX5_restOfTemplate1 56 = .ok (.ishl, 1) := by decide +kernel
theorem dX5_restOfTemplate1_57 : decode cX5_restOfTemplate1 57 = .ok (.ior, 1) := by decide +kernel
theorem dX5_restOfTemplate1_58 : decode cX5_restOfTemplate1 58 = .ok (.aload_n 0, 1) := by decide +kernel
theorem dX5_restOfTemplate1_59 : decode cX5_restOfTemplate1 59 = .ok (.iload_n 2, 1) := by decide +kernel
theorem dX5_restOfTemplate1_60 : decode cX5_restOfTemplate1 60 = .ok (.iconst 1, 1) := by decide +kernel
theorem dX5_restOfTemplate1_61 : decode cX5_restOfTemplate1 61 = .ok (.isub, 1) := by decide +kernel
theorem dX5_restOfTemplate1_62 : decode cX5_restOfTemplate1 62 = .ok (.iload_n 3, 1) := by decide +kernel
theorem dX5_restOfTemplate1_63 : decode cX5_restOfTemplate1 63 = .ok (.invokevirtual 60, 3) := by decide +kernel
theorem dX5_restOfTemplate1_66 : decode cX5_restOfTemplate1 66 = .ok (.bipush 8, 2) := by decide +kernel
theorem dX5_restOfTemplate1_68 : decode cX5_restOfTemplate1 68 = .ok (.ishl, 1) := by decide +kernel
theorem dX5_restOfTemplate1_69 : decode cX5_restOfTemplate1 69 = .ok (.ior, 1) := by decide +kernel
theorem dX5_restOfTemplate1_70 : decode cX5_restOfTemplate1 70 = .ok (.aload_n 0, 1) := by decide +kernel
theorem dX5_restOfTemplate1_71 : decode cX5_restOfTemplate1 71 = .ok (.iload_n 2, 1) := by decide +kernel
theorem dX5_restOfTemplate1_72 : decode cX5_restOfTemplate1 72 = .ok (.iload_n 3, 1) := by decide +kernel
theorem dX5_restOfTemplate1_73 : decode cX5_restOfTemplate1 73 = .ok (.iconst 1, 1) := by decide +kernel
theorem dX5_restOfTemplate1_74 : decode cX5_restOfTemplate1 74 = .ok (.isub, 1) := by decide +kernel
theorem dX5_restOfTemplate1_75 : decode cX5_restOfTemplate1 75 = .ok (.invokevirtual 60, 3) := by decide +kernel
theorem dX5_restOfTemplate1_78 : decode cX5_restOfTemplate1 78 = .ok (.bipush 9, 2) := by decide +kernel
theorem dX5_restOfTemplate1_80 : decode cX5_restOfTemplate1 80 = .ok (.ishl, 1) := by decide +kernel
theorem dX5_restOfTemplate1_81 : decode cX5_restOfTemplate1 81 = .ok (.ior, 1) := by decide +kernel
theorem dX5_restOfTemplate1_82 : decode cX5_restOfTemplate1 82 = .ok (.ireturn, 1) := by decide +kernel
set_option maxRecDepth 20000 in
theorem ggX5_agreedNine_X5_referred : GoodIn wsX5_agreedNine wsX5_referred := goodIn_r _ [5, 6, 7, 8, 9, 10, 11, 12, 13, 14, 15, 16, 17, 18, 19, 20, 21, 22, 23, 24, 25, 26, 27, 28] (by decide +kernel) (by decide +kernel)
set_option maxRecDepth 20000 in
theorem gX5_agreedNine_X5_referred : GoodIn wsX5_agreedNine (wsV RX5 60 RX5 yX5_referred wsX5_referred) := goodIn_app (goodIn_of _ (by decide +kernel)) ggX5_agreedNine_X5_referred
theorem dX5_agreedNine_0 : decode cX5_agreedNine 0 = .ok (.aload_n 0, 1) := by decide +kernel
theorem dX5_agreedNine_1 : decode cX5_agreedNine 1 = .ok (.iload_n 1, 1) := by decide +kernel
theorem dX5_agreedNine_2 : decode cX5_agreedNine 2 = .ok (.iload_n 2, 1) := by decide +kernel
theorem dX5_agreedNine_3 : decode cX5_agreedNine 3 = .ok (.invokevirtual 60, 3) := by decide +kernel
theorem dX5_agreedNine_6 : decode cX5_agreedNine 6 = .ok (.istore_n 3, 1) := by decide +kernel
theorem dX5_agreedNine_7 : decode cX5_agreedNine 7 = .ok (.iconst (-1), 1) := by decide +kernel
theorem dX5_agreedNine_8 : decode cX5_agreedNine 8 = .ok (.istore 4, 2) := by decide +kernel
theorem dX5_agreedNine_10 : decode cX5_agreedNine 10 = .ok (.iload 4, 2) := by decide +kernel
theorem dX5_agreedNine_12 : decode cX5_agreedNine 12 = .ok (.iconst 1, 1) := by decide +kernel
theorem dX5_agreedNine_13 : decode cX5_agreedNine 13 = .ok (.if_icmp .gt 42, 3) := by decide +kernel
theorem dX5_agreedNine_16 : decode cX5_agreedNine 16 = .ok (.iconst (-1), 1) := by decide +kernel
theorem dX5_agreedNine_17 : decode cX5_agreedNine 17 = .ok (.istore 5, 2) := by decide +kernel
theorem dX5_agreedNine_19 : decode cX5_agreedNine 19 = .ok (.iload 5, 2) := by decide +kernel
theorem dX5_agreedNine_21 : decode cX5_agreedNine 21 = .ok (.iconst 1, 1) := by decide +kernel
theorem dX5_agreedNine_22 : decode cX5_agreedNine 22 = .ok (.if_icmp .gt 27, 3) := by decide +kernel
theorem dX5_agreedNine_25 : decode cX5_agreedNine 25 = .ok (.aload_n 0, 1) := by decide +kernel
theorem dX5_agreedNine_26 : decode cX5_agreedNine 26 = .ok (.iload_n 1, 1) := by decide +kernel
theorem dX5_agreedNine_27 : decode cX5_agreedNine 27 = .ok (.iload 5, 2) := by decide +kernel
theorem dX5_agreedNine_29 : decode cX5_agreedNine 29 = .ok (.iadd, 1) := by decide +kernel
theorem dX5_agreedNine_30 : decode cX5_agreedNine 30 = .ok (.iload_n 2, 1) := by decide +kernel
theorem dX5_agreedNine_31 : decode cX5_agreedNine 31 = .ok (.iload 4, 2) := by decide +kernel
theorem dX5_agreedNine_33 : decode cX5_agreedNine 33 = .ok (.iadd, 1) := by decide +kernel
theorem dX5_agreedNine_34 : decode cX5_agreedNine 34 = .ok (.invokevirtual 60, 3) := by decide +kernel
theorem dX5_agreedNine_37 : decode cX5_agreedNine 37 = .ok (.iload_n 3, 1) := by decide +kernel
theorem dX5_agreedNine_38 : decode cX5_agreedNine 38 = .ok (.if_icmp .eq 5, 3) := by decide +kernel
theorem dX5_agreedNine_41 : decode cX5_agreedNine 41 = .ok (.iconst (-1), 1) := by decide +kernel
theorem dX5_agreedNine_42 : decode cX5_agreedNine 42 = .ok (.ireturn, 1) := by decide +kernel
theorem dX5_agreedNine_43 : decode cX5_agreedNine 43 = .ok (.iinc 5 1, 3) := by decide +kernel
theorem dX5_agreedNine_46 : decode cX5_agreedNine 46 = .ok (.goto (-27), 3) := by decide +kernel
theorem dX5_agreedNine_49 : decode cX5_agreedNine 49 = .ok (.iinc 4 1, 3) := by decide +kernel
theorem dX5_agreedNine_52 : decode cX5_agreedNine 52 = .ok (.goto (-42), 3) := by decide +kernel
theorem dX5_agreedNine_55 : decode cX5_agreedNine 55 = .ok (.iload_n 3, 1) := by decide +kernel
theorem dX5_agreedNine_56 : decode cX5_agreedNine 56 = .ok (.ireturn, 1) := by decide +kernel
set_option maxRecDepth 20000 in
theorem ggX5_rowAgrees_X5_agreedNine : GoodIn wsX5_rowAgrees wsX5_agreedNine := goodIn_r _ [5, 6, 7, 8, 4, 9, 10, 11, 12, 13, 14, 15, 16, 17, 18, 19, 20, 25, 26, 27, 28, 29, 30, 31, 32, 21, 22, 23, 24] (by decide +kernel) (by decide +kernel)
set_option maxRecDepth 20000 in
theorem gX5_rowAgrees_X5_agreedNine : GoodIn wsX5_rowAgrees (wsV RX5 66 RX5 yX5_agreedNine wsX5_agreedNine) := goodIn_app (goodIn_of _ (by decide +kernel)) ggX5_rowAgrees_X5_agreedNine
set_option maxRecDepth 20000 in
theorem ggX5_rowAgrees_X1_pixel : GoodIn wsX5_rowAgrees wsX1_pixel := goodIn_r _ [16, 17, 18, 19, 20, 21, 22, 23, 24] (by decide +kernel) (by decide +kernel)
set_option maxRecDepth 20000 in
theorem gX5_rowAgrees_X1_pixel_n49 : GoodIn wsX5_rowAgrees (wsX1_pixel) := ggX5_rowAgrees_X1_pixel
theorem dX5_rowAgrees_0 : decode cX5_rowAgrees 0 = .ok (.iconst 0, 1) := by decide +kernel
theorem dX5_rowAgrees_1 : decode cX5_rowAgrees 1 = .ok (.istore_n 3, 1) := by decide +kernel
theorem dX5_rowAgrees_2 : decode cX5_rowAgrees 2 = .ok (.iload_n 3, 1) := by decide +kernel
theorem dX5_rowAgrees_3 : decode cX5_rowAgrees 3 = .ok (.aload_n 1, 1) := by decide +kernel
theorem dX5_rowAgrees_4 : decode cX5_rowAgrees 4 = .ok (.getfield 63, 3) := by decide +kernel
theorem dX5_rowAgrees_7 : decode cX5_rowAgrees 7 = .ok (.if_icmp .ge 36, 3) := by decide +kernel
theorem dX5_rowAgrees_10 : decode cX5_rowAgrees 10 = .ok (.aload_n 0, 1) := by decide +kernel
theorem dX5_rowAgrees_11 : decode cX5_rowAgrees 11 = .ok (.iload_n 3, 1) := by decide +kernel
theorem dX5_rowAgrees_12 : decode cX5_rowAgrees 12 = .ok (.iload_n 2, 1) := by decide +kernel
theorem dX5_rowAgrees_13 : decode cX5_rowAgrees 13 = .ok (.invokevirtual 66, 3) := by decide +kernel
theorem dX5_rowAgrees_16 : decode cX5_rowAgrees 16 = .ok (.istore 4, 2) := by decide +kernel
theorem dX5_rowAgrees_18 : decode cX5_rowAgrees 18 = .ok (.iload 4, 2) := by decide +kernel
theorem dX5_rowAgrees_20 : decode cX5_rowAgrees 20 = .ok (.iconst (-1), 1) := by decide +kernel
theorem dX5_rowAgrees_21 : decode cX5_rowAgrees 21 = .ok (.if_icmp .eq 16, 3) := by decide +kernel
theorem dX5_rowAgrees_24 : decode cX5_rowAgrees 24 = .ok (.iload 4, 2) := by decide +kernel
theorem dX5_rowAgrees_26 : decode cX5_rowAgrees 26 = .ok (.aload_n 1, 1) := by decide +kernel
theorem dX5_rowAgrees_27 : decode cX5_rowAgrees 27 = .ok (.iload_n 3, 1) := by decide +kernel
theorem dX5_rowAgrees_28 : decode cX5_rowAgrees 28 = .ok (.iload_n 2, 1) := by decide +kernel
theorem dX5_rowAgrees_29 : decode cX5_rowAgrees 29 = .ok (.invokevirtual 49, 3) := by decide +kernel
theorem dX5_rowAgrees_32 : decode cX5_rowAgrees 32 = .ok (.if_icmp .eq 5, 3) := by decide +kernel
theorem dX5_rowAgrees_35 : decode cX5_rowAgrees 35 = .ok (.iconst 0, 1) := by decide +kernel
theorem dX5_rowAgrees_36 : decode cX5_rowAgrees 36 = .ok (.ireturn, 1) := by decide +kernel
theorem dX5_rowAgrees_37 : decode cX5_rowAgrees 37 = .ok (.iinc 3 1, 3) := by decide +kernel
theorem dX5_rowAgrees_40 : decode cX5_rowAgrees 40 = .ok (.goto (-38), 3) := by decide +kernel
theorem dX5_rowAgrees_43 : decode cX5_rowAgrees 43 = .ok (.iconst 1, 1) := by decide +kernel
theorem dX5_rowAgrees_44 : decode cX5_rowAgrees 44 = .ok (.ireturn, 1) := by decide +kernel
