theorem dX7_feed_31 : decode cX7_feed 31 = .ok (.iconst (-1), 1) := by decide +kernel
theorem dX7_feed_32 : decode cX7_feed 32 = .ok (.ireturn, 1) := by decide +kernel
theorem dX7_feed_33 : decode cX7_feed 33 = .ok (.iconst 0, 1) := by decide +kernel
theorem dX7_feed_34 : decode cX7_feed 34 = .ok (.istore 4, 2) := by decide +kernel
theorem dX7_feed_36 : decode cX7_feed 36 = .ok (.iload 4, 2) := by decide +kernel
theorem dX7_feed_38 : decode cX7_feed 38 = .ok (.iload_n 1, 1) := by decide +kernel
theorem dX7_feed_39 : decode cX7_feed 39 = .ok (.if_icmp .ge 28, 3) := by decide +kernel
theorem dX7_feed_42 : decode cX7_feed 42 = .ok (.aload_n 0, 1) := by decide +kernel
theorem dX7_feed_43 : decode cX7_feed 43 = .ok (.getfield 31, 3) := by decide +kernel
theorem dX7_feed_46 : decode cX7_feed 46 = .ok (.lload_n 2, 1) := by decide +kernel
theorem dX7_feed_47 : decode cX7_feed 47 = .ok (.bipush 8, 2) := by decide +kernel
theorem dX7_feed_49 : decode cX7_feed 49 = .ok (.iload 4, 2) := by decide +kernel
theorem dX7_feed_51 : decode cX7_feed 51 = .ok (.imul, 1) := by decide +kernel
theorem dX7_feed_52 : decode cX7_feed 52 = .ok (.lushr, 1) := by decide +kernel
theorem dX7_feed_53 : decode cX7_feed 53 = .ok (.l2i, 1) := by decide +kernel
theorem dX7_feed_54 : decode cX7_feed 54 = .ok (.sipush 255, 3) := by decide +kernel
theorem dX7_feed_57 : decode cX7_feed 57 = .ok (.iand, 1) := by decide +kernel
theorem dX7_feed_58 : decode cX7_feed 58 = .ok (.invokevirtual 171, 3) := by decide +kernel
theorem dX7_feed_61 : decode cX7_feed 61 = .ok (.iinc 4 1, 3) := by decide +kernel
theorem dX7_feed_64 : decode cX7_feed 64 = .ok (.goto (-28), 3) := by decide +kernel
theorem dX7_feed_67 : decode cX7_feed 67 = .ok (.aload_n 0, 1) := by decide +kernel
theorem dX7_feed_68 : decode cX7_feed 68 = .ok (.getfield 31, 3) := by decide +kernel
theorem dX7_feed_71 : decode cX7_feed 71 = .ok (.invokevirtual 161, 3) := by decide +kernel
theorem dX7_feed_74 : decode cX7_feed 74 = .ok (.ireturn, 1) := by decide +kernel
set_option maxRecDepth 20000 in
theorem ggX7_wipe_X2_count : GoodIn wsX7_wipe wsX2_count := goodIn_r _ [5, 6, 23, 24] (by decide +kernel) (by decide +kernel)
set_option maxRecDepth 20000 in
theorem gX7_wipe_X2_count_n161 : GoodIn wsX7_wipe (wsX2_count) := ggX7_wipe_X2_count
set_option maxRecDepth 20000 in
theorem ggX7_wipe_X2_clear : GoodIn wsX7_wipe wsX2_clear := goodIn_r _ [9, 6, 23, 24] (by decide +kernel) (by decide +kernel)
set_option maxRecDepth 20000 in
theorem gX7_wipe_X2_clear_n174 : GoodIn wsX7_wipe (wsX2_clear) := ggX7_wipe_X2_clear
theorem dX7_wipe_0 : decode cX7_wipe 0 = .ok (.aload_n 0, 1) := by decide +kernel
theorem dX7_wipe_1 : decode cX7_wipe 1 = .ok (.getfield 31, 3) := by decide +kernel
theorem dX7_wipe_4 : decode cX7_wipe 4 = .ok (.invokevirtual 161, 3) := by decide +kernel
theorem dX7_wipe_7 : decode cX7_wipe 7 = .ok (.istore_n 1, 1) := by decide +kernel
theorem dX7_wipe_8 : decode cX7_wipe 8 = .ok (.aload_n 0, 1) := by decide +kernel
theorem dX7_wipe_9 : decode cX7_wipe 9 = .ok (.getfield 31, 3) := by decide +kernel
theorem dX7_wipe_12 : decode cX7_wipe 12 = .ok (.invokevirtual 174, 3) := by decide +kernel
theorem dX7_wipe_15 : decode cX7_wipe 15 = .ok (.iload_n 1, 1) := by decide +kernel
theorem dX7_wipe_16 : decode cX7_wipe 16 = .ok (.ireturn, 1) := by decide +kernel
set_option maxRecDepth 20000 in
theorem ggX7_byteAt_X2_valueOr : GoodIn wsX7_byteAt wsX2_valueOr := goodIn_r _ [5, 6, 7, 21, 22] (by decide +kernel) (by decide +kernel)
set_option maxRecDepth 20000 in
theorem gX7_byteAt_X2_valueOr_n177 : GoodIn wsX7_byteAt (wsX2_valueOr) := ggX7_byteAt_X2_valueOr
theorem dX7_byteAt_0 : decode cX7_byteAt 0 = .ok (.aload_n 0, 1) := by decide +kernel
theorem dX7_byteAt_1 : decode cX7_byteAt 1 = .ok (.getfield 31, 3) := by decide +kernel
theorem dX7_byteAt_4 : decode cX7_byteAt 4 = .ok (.iload_n 1, 1) := by decide +kernel
theorem dX7_byteAt_5 : decode cX7_byteAt 5 = .ok (.iconst (-1), 1) := by decide +kernel
theorem dX7_byteAt_6 : decode cX7_byteAt 6 = .ok (.invokevirtual 177, 3) := by decide +kernel
theorem dX7_byteAt_9 : decode cX7_byteAt 9 = .ok (.ireturn, 1) := by decide +kernel
set_option maxRecDepth 20000 in
theorem ggX7_decode_X7_requireReference : GoodIn wsX7_decode wsX7_requireReference := goodIn_ca (goodIn_r _ [10, 11, 12, 13, 175, 176, 177, 178, 179, 180, 181, 182, 183, 184, 185, 186, 187] (by decide +kernel) (by decide +kernel)) (goodIn_sub (fun _ h => List.mem_cons_of_mem _ (List.mem_append_right _ h)) (by decide +kernel))
set_option maxRecDepth 20000 in
theorem gX7_decode_X7_requireReference : GoodIn wsX7_decode (wsV RX7 129 RX7 yX7_requireReference wsX7_requireReference) := goodIn_app (goodIn_of _ (by decide +kernel)) ggX7_decode_X7_requireReference
set_option maxRecDepth 20000 in
theorem ggX7_decode_X4_forget : GoodIn wsX7_decode wsX4_forget := goodIn_r _ [17, 18, 19, 20, 21, 22, 198] (by decide +kernel) (by decide +kernel)
set_option maxRecDepth 20000 in
theorem gX7_decode_X4_forget_n98 : GoodIn wsX7_decode (wsX4_forget) := ggX7_decode_X4_forget
set_option maxRecDepth 20000 in
theorem ggX7_decode_X1_whiten : GoodIn wsX7_decode wsX1_whiten := goodIn_r _ [26, 27, 28, 29, 30, 31, 32, 33, 34, 35, 20, 21, 22, 194, 195, 196, 197] (by decide +kernel) (by decide +kernel)
set_option maxRecDepth 20000 in
theorem gX7_decode_X1_whiten_n74 : GoodIn wsX7_decode (wsX1_whiten) := ggX7_decode_X1_whiten
set_option maxRecDepth 20000 in
theorem ggX7_decode_X3_begin : GoodIn wsX7_decode wsX3_begin := goodIn_r _ [39, 40, 41, 42, 43, 44, 45, 46, 47, 48, 49, 50, 51, 52, 53, 54, 55, 37, 56, 57, 188, 189, 190, 191, 192, 193, 199, 200] (by decide +kernel) (by decide +kernel)
set_option maxRecDepth 20000 in
theorem gX7_decode_X3_begin_n186 : GoodIn wsX7_decode (wsX3_begin) := ggX7_decode_X3_begin
set_option maxRecDepth 20000 in
theorem ggX7_decode_X7_codePicture : GoodIn wsX7_decode wsX7_codePicture := goodIn_r _ [61, 62, 63, 64, 65, 66, 67, 68, 69, 70, 71, 72, 73, 74, 75, 76, 77, 78, 79, 80, 81, 82, 24, 83, 84, 32, 33, 34, 27, 85, 86, 87, 88, 89, 90, 91, 92, 37, 93, 94, 46, 42, 45, 95, 15, 96, 97, 98, 99, 100, 101, 18, 102, 103, 104, 105, 106, 107, 108, 109, 110, 111, 112, 113, 114, 115, 44, 43, 53, 54, 55, 56, 41, 40, 57, 47, 48, 49, 50, 51, 52, 116, 117, 118, 119, 120, 121, 122, 123, 124, 125, 126, 127, 128, 129, 130, 131, 132, 133, 134, 135, 136, 137, 138, 139, 140, 141, 142, 143, 144, 145, 146, 147, 9, 148, 149, 150, 151, 152, 153, 154, 155, 156, 157, 158, 159, 160, 161, 162, 163, 164, 165, 166, 167, 168, 169, 170, 175, 176, 177, 178, 179, 180, 181, 182, 183, 184, 185, 186, 187, 194, 195, 196, 197, 201, 202, 203, 204, 205, 206, 207, 208, 188, 189, 190, 191, 192, 193, 198, 199, 200, 209, 210, 211, 212, 213] (by decide +kernel) (by decide +kernel)
set_option maxRecDepth 20000 in
theorem gX7_decode_X7_codePicture : GoodIn wsX7_decode (wsV RX7 154 RX7 yX7_codePicture wsX7_codePicture) := goodIn_app (goodIn_of _ (by decide +kernel)) ggX7_decode_X7_codePicture
set_option maxRecDepth 20000 in
theorem ggX7_decode_X1_countBlack : GoodIn wsX7_decode wsX1_countBlack := goodIn_r _ [173, 33, 32, 174, 82, 83, 24, 84, 34, 27, 194, 195, 196, 197] (by decide +kernel) (by decide +kernel)
set_option maxRecDepth 20000 in
theorem gX7_decode_X1_countBlack_n187 : GoodIn wsX7_decode (wsX1_countBlack) := ggX7_decode_X1_countBlack
theorem dX7_decode_0 : decode cX7_decode 0 = .ok (.aload_n 0, 1) := by decide +kernel
theorem dX7_decode_1 : decode cX7_decode 1 = .ok (.invokevirtual 129, 3) := by decide +kernel
theorem dX7_decode_4 : decode cX7_decode 4 = .ok (.aload_n 0, 1) := by decide +kernel
theorem dX7_decode_5 : decode cX7_decode 5 = .ok (.getfield 55, 3) := by decide +kernel
theorem dX7_decode_8 : decode cX7_decode 8 = .ok (.ifCond .ne 13, 3) := by decide +kernel
theorem dX7_decode_11 : decode cX7_decode 11 = .ok (.aload_n 0, 1) := by decide +kernel
theorem dX7_decode_12 : decode cX7_decode 12 = .ok (.getfield 47, 3) := by decide +kernel
theorem dX7_decode_15 : decode cX7_decode 15 = .ok (.getfield 103, 3) := by decide +kernel
theorem dX7_decode_18 : decode cX7_decode 18 = .ok (.invokevirtual 98, 3) := by decide +kernel
theorem dX7_decode_21 : decode cX7_decode 21 = .ok (.aload_n 0, 1) := by decide +kernel
theorem dX7_decode_22 : decode cX7_decode 22 = .ok (.getfield 18, 3) := by decide +kernel
theorem dX7_decode_25 : decode cX7_decode 25 = .ok (.aload_n 0, 1) := by decide +kernel
theorem dX7_decode_26 : decode cX7_decode 26 = .ok (.getfield 14, 3) := by decide +kernel
theorem dX7_decode_29 : decode cX7_decode 29 = .ok (.getfield 180, 3) := by decide +kernel
theorem dX7_decode_32 : decode cX7_decode 32 = .ok (.aload_n 0, 1) := by decide +kernel
theorem dX7_decode_33 : decode cX7_decode 33 = .ok (.getfield 14, 3) := by decide +kernel
theorem dX7_decode_36 : decode cX7_decode 36 = .ok (.getfield 183, 3) := by decide +kernel
theorem dX7_decode_39 : decode cX7_decode 39 = .ok (.invokevirtual 74, 3) := by decide +kernel
theorem dX7_decode_42 : decode cX7_decode 42 = .ok (.aload_n 0, 1) := by decide +kernel
theorem dX7_decode_43 : decode cX7_decode 43 = .ok (.getfield 47, 3) := by decide +kernel
theorem dX7_decode_46 : decode cX7_decode 46 = .ok (.invokevirtual 186, 3) := by decide +kernel
theorem dX7_decode_49 : decode cX7_decode 49 = .ok (.aload_n 0, 1) := by decide +kernel
theorem dX7_decode_50 : decode cX7_decode 50 = .ok (.aload_n 0, 1) := by decide +kernel
theorem dX7_decode_51 : decode cX7_decode 51 = .ok (.getfield 47, 3) := by decide +kernel
theorem dX7_decode_54 : decode cX7_decode 54 = .ok (.aload_n 0, 1) := by decide +kernel
theorem dX7_decode_55 : decode cX7_decode 55 = .ok (.getfield 18, 3) := by decide +kernel
theorem dX7_decode_58 : decode cX7_decode 58 = .ok (.invokevirtual 154, 3) := by decide +kernel
theorem dX7_decode_61 : decode cX7_decode 61 = .ok (.aload_n 0, 1) := by decide +kernel
theorem dX7_decode_62 : decode cX7_decode 62 = .ok (.iconst 1, 1) := by decide +kernel
theorem dX7_decode_63 : decode cX7_decode 63 = .ok (.putfield 61, 3) := by decide +kernel
theorem dX7_decode_66 : decode cX7_decode 66 = .ok (.aload_n 0, 1) := by decide +kernel
theorem dX7_decode_67 : decode cX7_decode 67 = .ok (.getfield 18, 3) := by decide +kernel
theorem dX7_decode_70 : decode cX7_decode 70 = .ok (.invokevirtual 187, 3) := by decide +kernel
theorem dX7_decode_73 : decode cX7_decode 73 = .ok (.ireturn, 1) := by decide +kernel
set_option maxRecDepth 20000 in
theorem ggX7_at_X1_holds : GoodIn wsX7_at wsX1_holds := goodIn_r _ [6, 7, 8, 27, 28, 29, 30] (by decide +kernel) (by decide +kernel)
set_option maxRecDepth 20000 in
theorem gX7_at_X1_holds_n104 : GoodIn wsX7_at (wsX1_holds) := ggX7_at_X1_holds
set_option maxRecDepth 20000 in
theorem ggX7_at_X1_pixel : GoodIn wsX7_at wsX1_pixel := goodIn_r _ [11, 7, 8, 12, 13, 27, 28, 29, 30] (by decide +kernel) (by decide +kernel)
set_option maxRecDepth 20000 in
theorem gX7_at_X1_pixel_n113 : GoodIn wsX7_at (wsX1_pixel) := ggX7_at_X1_pixel
theorem dX7_at_0 : decode cX7_at 0 = .ok (.aload_n 0, 1) := by decide +kernel
theorem dX7_at_1 : decode cX7_at 1 = .ok (.getfield 61, 3) := by decide +kernel
theorem dX7_at_4 : decode cX7_at 4 = .ok (.ifCond .eq 27, 3) := by decide +kernel
theorem dX7_at_7 : decode cX7_at 7 = .ok (.aload_n 0, 1) := by decide +kernel
theorem dX7_at_8 : decode cX7_at 8 = .ok (.getfield 18, 3) := by decide +kernel
theorem dX7_at_11 : decode cX7_at 11 = .ok (.iload_n 1, 1) := by decide +kernel
theorem dX7_at_12 : decode cX7_at 12 = .ok (.iload_n 2, 1) := by decide +kernel
theorem dX7_at_13 : decode cX7_at 13 = .ok (.invokevirtual 104, 3) := by decide +kernel
theorem dX7_at_16 : decode cX7_at 16 = .ok (.ifCond .eq 15, 3) := by decide +kernel
theorem dX7_at_19 : decode cX7_at 19 = .ok (.aload_n 0, 1) := by decide +kernel
theorem dX7_at_20 : decode cX7_at 20 = .ok (.getfield 18, 3) := by decide +kernel
theorem dX7_at_23 : decode cX7_at 23 = .ok (.iload_n 1, 1) := by decide +kernel
theorem dX7_at_24 : decode cX7_at 24 = .ok (.iload_n 2, 1) := by decide +kernel
theorem dX7_at_25 : decode cX7_at 25 = .ok (.invokevirtual 113, 3) := by decide +kernel
theorem dX7_at_28 : decode cX7_at 28 = .ok (.goto 4, 3) := by decide +kernel
theorem dX7_at_31 : decode cX7_at 31 = .ok (.iconst (-1), 1) := by decide +kernel
theorem dX7_at_32 : decode cX7_at 32 = .ok (.ireturn, 1) := by decide +kernel
set_option maxRecDepth 20000 in
theorem ggX7_take_X1_copyFrom : GoodIn wsX7_take wsX1_copyFrom := goodIn_r _ [8, 9, 10, 11, 12, 13, 6, 14, 15, 16, 17, 18, 19, 20, 21, 22, 23, 24, 25, 26, 27, 28, 29, 30, 31, 32, 33, 34, 35, 36, 64, 65, 66, 67] (by decide +kernel) (by decide +kernel)
set_option maxRecDepth 20000 in
theorem gX7_take_X1_copyFrom_n190 : GoodIn wsX7_take (wsX1_copyFrom) := ggX7_take_X1_copyFrom
set_option maxRecDepth 20000 in
theorem ggX7_take_X5_move : GoodIn wsX7_take wsX5_move := goodIn_r _ [40, 41, 42, 56, 57, 58, 59, 60, 61, 62, 63] (by decide +kernel) (by decide +kernel)
set_option maxRecDepth 20000 in
theorem gX7_take_X5_move_n126 : GoodIn wsX7_take (wsX5_move) := ggX7_take_X5_move
theorem dX7_take_0 : decode cX7_take 0 = .ok (.aload_n 0, 1) := by decide +kernel
theorem dX7_take_1 : decode cX7_take 1 = .ok (.getfield 61, 3) := by decide +kernel
theorem dX7_take_4 : decode cX7_take 4 = .ok (.ifCond .eq 31, 3) := by decide +kernel
theorem dX7_take_7 : decode cX7_take 7 = .ok (.aload_n 0, 1) := by decide +kernel
theorem dX7_take_8 : decode cX7_take 8 = .ok (.getfield 24, 3) := by decide +kernel
theorem dX7_take_11 : decode cX7_take 11 = .ok (.getfield 123, 3) := by decide +kernel
theorem dX7_take_14 : decode cX7_take 14 = .ok (.aload_n 0, 1) := by decide +kernel
theorem dX7_take_15 : decode cX7_take 15 = .ok (.getfield 18, 3) := by decide +kernel
theorem dX7_take_18 : decode cX7_take 18 = .ok (.invokevirtual 190, 3) := by decide +kernel
theorem dX7_take_21 : decode cX7_take 21 = .ok (.aload_n 0, 1) := by decide +kernel
theorem dX7_take_22 : decode cX7_take 22 = .ok (.getfield 24, 3) := by decide +kernel
theorem dX7_take_25 : decode cX7_take 25 = .ok (.iconst 0, 1) := by decide +kernel
theorem dX7_take_26 : decode cX7_take 26 = .ok (.iconst 0, 1) := by decide +kernel
theorem dX7_take_27 : decode cX7_take 27 = .ok (.invokevirtual 126, 3) := by decide +kernel
theorem dX7_take_30 : decode cX7_take 30 = .ok (.aload_n 0, 1) := by decide +kernel
theorem dX7_take_31 : decode cX7_take 31 = .ok (.iconst 1, 1) := by decide +kernel
theorem dX7_take_32 : decode cX7_take 32 = .ok (.putfield 58, 3) := by decide +kernel
theorem dX7_take_35 : decode cX7_take 35 = .ok (.aload_n 0, 1) := by decide +kernel
theorem dX7_take_36 : decode cX7_take 36 = .ok (.getfield 61, 3) := by decide +kernel
theorem dX7_take_39 : decode cX7_take 39 = .ok (.ireturn, 1) := by decide +kernel
set_option maxRecDepth 20000 in
theorem ggX7_context_X7_requireReference : GoodIn wsX7_context wsX7_requireReference := goodIn_ca (goodIn_r _ [9, 10, 11, 12, 48, 49, 50, 51, 52, 53, 54, 55, 56, 57, 58, 59, 60] (by decide +kernel) (by decide +kernel)) (goodIn_sub (fun _ h => List.mem_cons_of_mem _ (List.mem_append_right _ h)) (by decide +kernel))
set_option maxRecDepth 20000 in
theorem gX7_context_X7_requireReference : GoodIn wsX7_context (wsV RX7 129 RX7 yX7_requireReference wsX7_requireReference) := goodIn_app (goodIn_of _ (by decide +kernel)) ggX7_context_X7_requireReference
set_option maxRecDepth 20000 in
theorem ggX7_context_X1_holds : GoodIn wsX7_context wsX1_holds := goodIn_r _ [16, 17, 18, 61, 62, 63, 64] (by decide +kernel) (by decide +kernel)
set_option maxRecDepth 20000 in
theorem gX7_context_X1_holds_n104 : GoodIn wsX7_context (wsX1_holds) := ggX7_context_X1_holds
set_option maxRecDepth 20000 in
theorem ggX7_context_X5_contextOf : GoodIn wsX7_context wsX5_contextOf := goodIn_r _ [22, 23, 24, 14, 25, 26, 17, 18, 27, 28, 29, 30, 31, 20, 32, 33, 34, 35, 36, 37, 38, 39, 40, 41, 42, 43, 44, 45, 46, 47, 65, 66, 67, 68, 69, 70, 71, 72, 61, 62, 63, 64] (by decide +kernel) (by decide +kernel)
set_option maxRecDepth 20000 in
theorem gX7_context_X5_contextOf_n194 : GoodIn wsX7_context (wsX5_contextOf) := ggX7_context_X5_contextOf
theorem dX7_context_0 : decode cX7_context 0 = .ok (.aload_n 0, 1) := by decide +kernel
theorem dX7_context_1 : decode cX7_context 1 = .ok (.invokevirtual 129, 3) := by decide +kernel
theorem dX7_context_4 : decode cX7_context 4 = .ok (.aload_n 0, 1) := by decide +kernel
theorem dX7_context_5 : decode cX7_context 5 = .ok (.getfield 14, 3) := by decide +kernel
theorem dX7_context_8 : decode cX7_context 8 = .ok (.iload_n 1, 1) := by decide +kernel
theorem dX7_context_9 : decode cX7_context 9 = .ok (.iload_n 2, 1) := by decide +kernel
theorem dX7_context_10 : decode cX7_context 10 = .ok (.invokevirtual 104, 3) := by decide +kernel
theorem dX7_context_13 : decode cX7_context 13 = .ok (.ifCond .ne 13, 3) := by decide +kernel
theorem dX7_context_16 : decode cX7_context 16 = .ok (.new 108, 3) := by decide +kernel
theorem dX7_context_19 : decode cX7_context 19 = .ok (.dup, 1) := by decide +kernel
theorem dX7_context_20 : decode cX7_context 20 = .ok (.ldc 110, 2) := by decide +kernel
theorem dX7_context_22 : decode cX7_context 22 = .ok (.invokespecial 112, 3) := by decide +kernel
theorem dX7_context_25 : decode cX7_context 25 = .ok (.athrow, 1) := by decide +kernel
theorem dX7_context_26 : decode cX7_context 26 = .ok (.aload_n 0, 1) := by decide +kernel
theorem dX7_context_27 : decode cX7_context 27 = .ok (.getfield 24, 3) := by decide +kernel
theorem dX7_context_30 : decode cX7_context 30 = .ok (.aload_n 0, 1) := by decide +kernel
theorem dX7_context_31 : decode cX7_context 31 = .ok (.getfield 14, 3) := by decide +kernel
theorem dX7_context_34 : decode cX7_context 34 = .ok (.iload_n 1, 1) := by decide +kernel
theorem dX7_context_35 : decode cX7_context 35 = .ok (.iload_n 2, 1) := by decide +kernel
theorem dX7_context_36 : decode cX7_context 36 = .ok (.invokevirtual 194, 3) := by decide +kernel
theorem dX7_context_39 : decode cX7_context 39 = .ok (.ireturn, 1) := by decide +kernel
set_option maxRecDepth 20000 in
theorem ggX7_told_X2_count : GoodIn wsX7_told wsX2_count := goodIn_r _ [14, 15, 47, 48] (by decide +kernel) (by decide +kernel)
set_option maxRecDepth 20000 in
theorem gX7_told_X2_count_n161 : GoodIn wsX7_told (wsX2_count) := ggX7_told_X2_count
set_option maxRecDepth 20000 in
theorem ggX7_told_X1_countDifferences : GoodIn wsX7_told wsX1_countDifferences := goodIn_r _ [19, 20, 21, 22, 23, 24, 17, 25, 26, 27, 49, 50, 51, 52] (by decide +kernel) (by decide +kernel)
set_option maxRecDepth 20000 in
theorem gX7_told_X1_countDifferences_n201 : GoodIn wsX7_told (wsX1_countDifferences) := ggX7_told_X1_countDifferences
theorem dX7_told_0 : decode cX7_told 0 = .ok (.iload_n 1, 1) := by decide +kernel
theorem dX7_told_1 : decode cX7_told 1 = .ok (.tableswitch 93 0 5 #[39, 47, 52, 57, 62, 70], 39) := by decide +kernel
theorem dX7_told_40 : decode cX7_told 40 = .ok (.aload_n 0, 1) := by decide +kernel
theorem dX7_told_41 : decode cX7_told 41 = .ok (.getfield 31, 3) := by decide +kernel
theorem dX7_told_44 : decode cX7_told 44 = .ok (.invokevirtual 161, 3) := by decide +kernel
theorem dX7_told_47 : decode cX7_told 47 = .ok (.ireturn, 1) := by decide +kernel
theorem dX7_told_48 : decode cX7_told 48 = .ok (.aload_n 0, 1) := by decide +kernel
theorem dX7_told_49 : decode cX7_told 49 = .ok (.getfield 64, 3) := by decide +kernel
theorem dX7_told_52 : decode cX7_told 52 = .ok (.ireturn, 1) := by decide +kernel
theorem dX7_told_53 : decode cX7_told 53 = .ok (.aload_n 0, 1) := by decide +kernel
theorem dX7_told_54 : decode cX7_told 54 = .ok (.getfield 68, 3) := by decide +kernel
theorem dX7_told_57 : decode cX7_told 57 = .ok (.ireturn, 1) := by decide +kernel
theorem dX7_told_58 : decode cX7_told 58 = .ok (.aload_n 0, 1) := by decide +kernel
theorem dX7_told_59 : decode cX7_told 59 = .ok (.getfield 71, 3) := by decide +kernel
theorem dX7_told_62 : decode cX7_told 62 = .ok (.ireturn, 1) := by decide +kernel
theorem dX7_told_63 : decode cX7_told 63 = .ok (.aload_n 0, 1) := by decide +kernel
theorem dX7_told_64 : decode cX7_told 64 = .ok (.getfield 47, 3) := by decide +kernel
theorem dX7_told_67 : decode cX7_told 67 = .ok (.getfield 198, 3) := by decide +kernel
theorem dX7_told_70 : decode cX7_told 70 = .ok (.ireturn, 1) := by decide +kernel
theorem dX7_told_71 : decode cX7_told 71 = .ok (.aload_n 0, 1) := by decide +kernel
theorem dX7_told_72 : decode cX7_told 72 = .ok (.getfield 61, 3) := by decide +kernel
theorem dX7_told_75 : decode cX7_told 75 = .ok (.ifCond .eq 17, 3) := by decide +kernel
theorem dX7_told_78 : decode cX7_told 78 = .ok (.aload_n 0, 1) := by decide +kernel
theorem dX7_told_79 : decode cX7_told 79 = .ok (.getfield 14, 3) := by decide +kernel
theorem dX7_told_82 : decode cX7_told 82 = .ok (.aload_n 0, 1) := by decide +kernel
theorem dX7_told_83 : decode cX7_told 83 = .ok (.getfield 18, 3) := by decide +kernel
theorem dX7_told_86 : decode cX7_told 86 = .ok (.invokevirtual 201, 3) := by decide +kernel
theorem dX7_told_89 : decode cX7_told 89 = .ok (.goto 4, 3) := by decide +kernel
theorem dX7_told_92 : decode cX7_told 92 = .ok (.iconst (-1), 1) := by decide +kernel
theorem dX7_told_93 : decode cX7_told 93 = .ok (.ireturn, 1) := by decide +kernel
theorem dX7_told_94 : decode cX7_told 94 = .ok (.new 82, 3) := by decide +kernel
theorem dX7_told_97 : decode cX7_told 97 = .ok (.dup, 1) := by decide +kernel
theorem dX7_told_98 : decode cX7_told 98 = .ok (.ldc 205, 2) := by decide +kernel
theorem dX7_told_100 : decode cX7_told 100 = .ok (.invokespecial 86, 3) := by decide +kernel
theorem dX7_told_103 : decode cX7_told 103 = .ok (.athrow, 1) := by decide +kernel
set_option maxRecDepth 20000 in
theorem ggX7_state_X7_isWithin : GoodIn wsX7_state wsX7_isWithin := goodIn_r _ [8] (by decide +kernel) (by decide +kernel)
set_option maxRecDepth 20000 in
theorem gX7_state_X7_isWithin : GoodIn wsX7_state (va_wsS RX7 78 yX7_isWithin wsX7_isWithin) := goodIn_app (goodIn_of _ (by decide +kernel)) ggX7_state_X7_isWithin
set_option maxRecDepth 20000 in
theorem ggX7_state_X4_packedOf : GoodIn wsX7_state wsX4_packedOf := goodIn_r _ [12, 13, 38] (by decide +kernel) (by decide +kernel)
set_option maxRecDepth 20000 in
theorem gX7_state_X4_packedOf_n209 : GoodIn wsX7_state (wsX4_packedOf) := ggX7_state_X4_packedOf
theorem dX7_state_0 : decode cX7_state 0 = .ok (.iload_n 1, 1) := by decide +kernel
theorem dX7_state_1 : decode cX7_state 1 = .ok (.iconst 0, 1) := by decide +kernel
theorem dX7_state_2 : decode cX7_state 2 = .ok (.sipush 8191, 3) := by decide +kernel
theorem dX7_state_5 : decode cX7_state 5 = .ok (.invokestatic 78, 3) := by decide +kernel
theorem dX7_state_8 : decode cX7_state 8 = .ok (.ifCond .ne 13, 3) := by decide +kernel
theorem dX7_state_11 : decode cX7_state 11 = .ok (.new 82, 3) := by decide +kernel
theorem dX7_state_14 : decode cX7_state 14 = .ok (.dup, 1) := by decide +kernel
theorem dX7_state_15 : decode cX7_state 15 = .ok (.ldc 207, 2) := by decide +kernel
theorem dX7_state_17 : decode cX7_state 17 = .ok (.invokespecial 86, 3) := by decide +kernel
theorem dX7_state_20 : decode cX7_state 20 = .ok (.athrow, 1) := by decide +kernel
theorem dX7_state_21 : decode cX7_state 21 = .ok (.iload_n 2, 1) := by decide +kernel
theorem dX7_state_22 : decode cX7_state 22 = .ok (.ifCond .eq 17, 3) := by decide +kernel
theorem dX7_state_25 : decode cX7_state 25 = .ok (.aload_n 0, 1) := by decide +kernel
theorem dX7_state_26 : decode cX7_state 26 = .ok (.getfield 47, 3) := by decide +kernel
theorem dX7_state_29 : decode cX7_state 29 = .ok (.getfield 103, 3) := by decide +kernel
theorem dX7_state_32 : decode cX7_state 32 = .ok (.iload_n 1, 1) := by decide +kernel
theorem dX7_state_33 : decode cX7_state 33 = .ok (.invokevirtual 209, 3) := by decide +kernel
theorem dX7_state_36 : decode cX7_state 36 = .ok (.goto 14, 3) := by decide +kernel
theorem dX7_state_39 : decode cX7_state 39 = .ok (.aload_n 0, 1) := by decide +kernel
theorem dX7_state_40 : decode cX7_state 40 = .ok (.getfield 40, 3) := by decide +kernel
theorem dX7_state_43 : decode cX7_state 43 = .ok (.getfield 94, 3) := by decide +kernel
theorem dX7_state_46 : decode cX7_state 46 = .ok (.iload_n 1, 1) := by decide +kernel
theorem dX7_state_47 : decode cX7_state 47 = .ok (.invokevirtual 209, 3) := by decide +kernel
theorem dX7_state_50 : decode cX7_state 50 = .ok (.ireturn, 1) := by decide +kernel
theorem dX7_isWithin_0 : decode cX7_isWithin 0 = .ok (.iload_n 0, 1) := by decide +kernel
theorem dX7_isWithin_1 : decode cX7_isWithin 1 = .ok (.iload_n 1, 1) := by decide +kernel
theorem dX7_isWithin_2 : decode cX7_isWithin 2 = .ok (.if_icmp .lt 12, 3) := by decide +kernel
theorem dX7_isWithin_5 : decode cX7_isWithin 5 = .ok (.iload_n 0, 1) := by decide +kernel
theorem dX7_isWithin_6 : decode cX7_isWithin 6 = .ok (.iload_n 2, 1) := by decide +kernel
theorem dX7_isWithin_7 : decode cX7_isWithin 7 = .ok (.if_icmp .gt 7, 3) := by decide +kernel
theorem dX7_isWithin_10 : decode cX7_isWithin 10 = .ok (.iconst 1, 1) := by decide +kernel
theorem dX7_isWithin_11 : decode cX7_isWithin 11 = .ok (.goto 4, 3) := by decide +kernel
theorem dX7_isWithin_14 : decode cX7_isWithin 14 = .ok (.iconst 0, 1) := by decide +kernel
theorem dX7_isWithin_15 : decode cX7_isWithin 15 = .ok (.ireturn, 1) := by decide +kernel
set_option maxRecDepth 20000 in
theorem ggX7_canBePlace0_X7_isWithin : GoodIn wsX7_canBePlace0 wsX7_isWithin := goodIn_r _ [4] (by decide +kernel) (by decide +kernel)
set_option maxRecDepth 20000 in
theorem gX7_canBePlace0_X7_isWithin : GoodIn wsX7_canBePlace0 (va_wsS RX7 78 yX7_isWithin wsX7_isWithin) := goodIn_app (goodIn_of _ (by decide +kernel)) ggX7_canBePlace0_X7_isWithin
theorem dX7_canBePlace0_0 : decode cX7_canBePlace0 0 = .ok (.iload_n 1, 1) := by decide +kernel
theorem dX7_canBePlace0_1 : decode cX7_canBePlace0 1 = .ok (.ifCond .ne 11, 3) := by decide +kernel
theorem dX7_canBePlace0_4 : decode cX7_canBePlace0 4 = .ok (.iload_n 0, 1) := by decide +kernel
theorem dX7_canBePlace0_5 : decode cX7_canBePlace0 5 = .ok (.bipush (-16), 2) := by decide +kernel
theorem dX7_canBePlace0_7 : decode cX7_canBePlace0 7 = .ok (.iconst (-1), 1) := by decide +kernel
theorem dX7_canBePlace0_8 : decode cX7_canBePlace0 8 = .ok (.invokestatic 78, 3) := by decide +kernel
theorem dX7_canBePlace0_11 : decode cX7_canBePlace0 11 = .ok (.ireturn, 1) := by decide +kernel
theorem dX7_canBePlace0_12 : decode cX7_canBePlace0 12 = .ok (.iload_n 1, 1) := by decide +kernel
theorem dX7_canBePlace0_13 : decode cX7_canBePlace0 13 = .ok (.bipush (-16), 2) := by decide +kernel
theorem dX7_canBePlace0_15 : decode cX7_canBePlace0 15 = .ok (.iconst (-1), 1) := by decide +kernel
theorem dX7_canBePlace0_16 : decode cX7_canBePlace0 16 = .ok (.invokestatic 78, 3) := by decide +kernel
theorem dX7_canBePlace0_19 : decode cX7_canBePlace0 19 = .ok (.ifCond .eq 18, 3) := by decide +kernel
theorem dX7_canBePlace0_22 : decode cX7_canBePlace0 22 = .ok (.iload_n 0, 1) := by decide +kernel
theorem dX7_canBePlace0_23 : decode cX7_canBePlace0 23 = .ok (.bipush (-16), 2) := by decide +kernel
theorem dX7_canBePlace0_25 : decode cX7_canBePlace0 25 = .ok (.bipush 15, 2) := by decide +kernel
theorem dX7_canBePlace0_27 : decode cX7_canBePlace0 27 = .ok (.invokestatic 78, 3) := by decide +kernel
theorem dX7_canBePlace0_30 : decode cX7_canBePlace0 30 = .ok (.ifCond .eq 7, 3) := by decide +kernel
theorem dX7_canBePlace0_33 : decode cX7_canBePlace0 33 = .ok (.iconst 1, 1) := by decide +kernel
theorem dX7_canBePlace0_34 : decode cX7_canBePlace0 34 = .ok (.goto 4, 3) := by decide +kernel
theorem dX7_canBePlace0_37 : decode cX7_canBePlace0 37 = .ok (.iconst 0, 1) := by decide +kernel
theorem dX7_canBePlace0_38 : decode cX7_canBePlace0 38 = .ok (.ireturn, 1) := by decide +kernel
set_option maxRecDepth 20000 in
theorem ggX7_canBePlace1_X7_isWithin : GoodIn wsX7_canBePlace1 wsX7_isWithin := goodIn_r _ [4] (by decide +kernel) (by decide +kernel)
set_option maxRecDepth 20000 in
theorem gX7_canBePlace1_X7_isWithin : GoodIn wsX7_canBePlace1 (va_wsS RX7 78 yX7_isWithin wsX7_isWithin) := goodIn_app (goodIn_of _ (by decide +kernel)) ggX7_canBePlace1_X7_isWithin
theorem dX7_canBePlace1_0 : decode cX7_canBePlace1 0 = .ok (.iload_n 0, 1) := by decide +kernel
theorem dX7_canBePlace1_1 : decode cX7_canBePlace1 1 = .ok (.bipush (-16), 2) := by decide +kernel
theorem dX7_canBePlace1_3 : decode cX7_canBePlace1 3 = .ok (.bipush 15, 2) := by decide +kernel
theorem dX7_canBePlace1_5 : decode cX7_canBePlace1 5 = .ok (.invokestatic 78, 3) := by decide +kernel
theorem dX7_canBePlace1_8 : decode cX7_canBePlace1 8 = .ok (.ifCond .eq 18, 3) := by decide +kernel
theorem dX7_canBePlace1_11 : decode cX7_canBePlace1 11 = .ok (.iload_n 1, 1) := by decide +kernel
theorem dX7_canBePlace1_12 : decode cX7_canBePlace1 12 = .ok (.bipush (-16), 2) := by decide +kernel
theorem dX7_canBePlace1_14 : decode cX7_canBePlace1 14 = .ok (.bipush 15, 2) := by decide +kernel
theorem dX7_canBePlace1_16 : decode cX7_canBePlace1 16 = .ok (.invokestatic 78, 3) := by decide +kernel
theorem dX7_canBePlace1_19 : decode cX7_canBePlace1 19 = .ok (.ifCond .eq 7, 3) := by decide +kernel
theorem dX7_canBePlace1_22 : decode cX7_canBePlace1 22 = .ok (.iconst 1, 1) := by decide +kernel
theorem dX7_canBePlace1_23 : decode cX7_canBePlace1 23 = .ok (.goto 4, 3) := by decide +kernel
theorem dX7_canBePlace1_26 : decode cX7_canBePlace1 26 = .ok (.iconst 0, 1) := by decide +kernel
theorem dX7_canBePlace1_27 : decode cX7_canBePlace1 27 = .ok (.ireturn, 1) := by decide +kernel
theorem dX7_requireReference_0 : decode cX7_requireReference 0 = .ok (.aload_n 0, 1) := by decide +kernel
theorem dX7_requireReference_1 : decode cX7_requireReference 1 = .ok (.getfield 58, 3) := by decide +kernel
theorem dX7_requireReference_4 : decode cX7_requireReference 4 = .ok (.ifCond .ne 13, 3) := by decide +kernel
theorem dX7_requireReference_7 : decode cX7_requireReference 7 = .ok (.new 213, 3) := by decide +kernel
theorem dX7_requireReference_10 : decode cX7_requireReference 10 = .ok (.dup, 1) := by decide +kernel
theorem dX7_requireReference_11 : decode cX7_requireReference 11 = .ok (.ldc 215, 2) := by decide +kernel
theorem dX7_requireReference_13 : decode cX7_requireReference 13 = .ok (.invokespecial 217, 3) := by decide +kernel
theorem dX7_requireReference_16 : decode cX7_requireReference 16 = .ok (.athrow, 1) := by decide +kernel
theorem dX7_requireReference_17 : decode cX7_requireReference 17 = .ok (.return_, 1) := by decide +kernel
set_option maxRecDepth 20000 in
theorem ggX7_codePicture_X5_rowAgrees : GoodIn wsX7_codePicture wsX5_rowAgrees := goodIn_r _ [9, 10, 11, 12, 7, 13, 14, 15, 16, 17, 18, 19, 20, 21, 22, 23, 24, 25, 26, 27, 28, 150, 151, 152, 153, 154, 155, 156, 157, 158, 159, 160, 161] (by decide +kernel) (by decide +kernel)
set_option maxRecDepth 20000 in
theorem gX7_codePicture_X5_rowAgrees_n218 : GoodIn wsX7_codePicture (wsX5_rowAgrees) := ggX7_codePicture_X5_rowAgrees
set_option maxRecDepth 20000 in
theorem ggX7_codePicture_X5_rowContext : GoodIn wsX7_codePicture wsX5_rowContext := goodIn_r _ [31, 32, 154, 155, 156, 157, 158, 159, 160, 161] (by decide +kernel) (by decide +kernel)
set_option maxRecDepth 20000 in
theorem gX7_codePicture_X5_rowContext_n222 : GoodIn wsX7_codePicture (wsX5_rowContext) := ggX7_codePicture_X5_rowContext
set_option maxRecDepth 20000 in
theorem ggX7_codePicture_X3_pass : GoodIn wsX7_codePicture wsX3_pass := goodIn_r _ [38, 39, 40, 41, 42, 43, 44, 45, 46, 47, 48, 49, 50, 51, 52, 53, 54, 55, 56, 57, 58, 59, 60, 61, 62, 63, 64, 37, 65, 66, 67, 68, 69, 70, 71, 72, 73, 74, 75, 76, 77, 78, 79, 80, 162, 163, 164, 165, 166, 167, 168, 169, 170] (by decide +kernel) (by decide +kernel)
set_option maxRecDepth 20000 in
theorem gX7_codePicture_X3_pass_u225X3 : GoodIn wsX7_codePicture (va_wsU RX7 225 RX3 "RefineRegions$BitCoder" ⟨"RefineRegions$BitCoder", "pass", "(II)I"⟩ yX3_pass wsX3_pass) := goodIn_app (goodIn_of _ (by decide +kernel)) ggX7_codePicture_X3_pass
set_option maxRecDepth 20000 in
theorem ggX7_codePicture_X6_pass : GoodIn wsX7_codePicture wsX6_pass := goodIn_r _ [84, 85, 86, 87, 88, 43, 44, 45, 46, 47, 48, 49, 50, 51, 52, 53, 54, 55, 56, 57, 58, 59, 60, 61, 89, 90, 91, 83, 92, 93, 94, 95, 96, 97, 98, 99, 100, 76, 101, 102, 79, 103, 75, 77, 78, 80, 104, 105, 106, 107, 108, 109, 171, 172, 173, 174, 175, 168, 169, 170] (by decide +kernel) (by decide +kernel)
set_option maxRecDepth 20000 in
theorem gX7_codePicture_X6_pass_u225X6 : GoodIn wsX7_codePicture (va_wsU RX7 225 RX6 "RefineRegions$BitCoder" ⟨"RefineRegions$BitCoder", "pass", "(II)I"⟩ yX6_pass wsX6_pass) := goodIn_app (goodIn_of _ (by decide +kernel)) ggX7_codePicture_X6_pass
set_option maxRecDepth 20000 in
theorem ggX7_codePicture_X7_codeRow : GoodIn wsX7_codePicture wsX7_codeRow := goodIn_r _ [114, 5, 1, 3, 11, 7, 12, 13, 14, 15, 16, 17, 18, 19, 20, 21, 22, 23, 24, 25, 26, 27, 28, 115, 116, 117, 118, 119, 120, 121, 122, 123, 124, 32, 125, 126, 127, 128, 129, 130, 131, 132, 133, 134, 135, 136, 33, 34, 35, 36, 37, 38, 39, 40, 41, 42, 43, 44, 45, 46, 47, 48, 49, 50, 51, 52, 53, 54, 55, 56, 57, 58, 59, 60, 61, 62, 63, 64, 65, 66, 67, 68, 69, 70, 71, 72, 73, 74, 75, 76, 77, 78, 79, 80, 81, 82, 83, 84, 85, 86, 87, 88, 89, 90, 91, 92, 93, 94, 95, 96, 97, 98, 99, 100, 101, 102, 103, 104, 105, 106, 107, 108, 109, 150, 151, 152, 153, 137, 138, 139, 140, 141, 142, 143, 144, 145, 146, 147, 148, 149, 154, 155, 156, 157, 158, 159, 160, 161, 162, 163, 164, 165, 166, 167, 168, 169, 170, 171, 172, 173, 174, 175] (by decide +kernel) (by decide +kernel)
set_option maxRecDepth 20000 in
theorem gX7_codePicture_X7_codeRow : GoodIn wsX7_codePicture (wsV RX7 230 RX7 yX7_codeRow wsX7_codeRow) := goodIn_app (goodIn_of _ (by decide +kernel)) ggX7_codePicture_X7_codeRow
theorem dX7_codePicture_0 : decode cX7_codePicture 0 = .ok (.aload_n 0, 1) := by decide +kernel
theorem dX7_codePicture_1 : decode cX7_codePicture 1 = .ok (.iconst 0, 1) := by decide +kernel
theorem dX7_codePicture_2 : decode cX7_codePicture 2 = .ok (.putfield 64, 3) := by decide +kernel
theorem dX7_codePicture_5 : decode cX7_codePicture 5 = .ok (.aload_n 0, 1) := by decide +kernel
theorem dX7_codePicture_6 : decode cX7_codePicture 6 = .ok (.iconst 0, 1) := by decide +kernel
theorem dX7_codePicture_7 : decode cX7_codePicture 7 = .ok (.putfield 68, 3) := by decide +kernel
theorem dX7_codePicture_10 : decode cX7_codePicture 10 = .ok (.aload_n 0, 1) := by decide +kernel
theorem dX7_codePicture_11 : decode cX7_codePicture 11 = .ok (.iconst 0, 1) := by decide +kernel
theorem dX7_codePicture_12 : decode cX7_codePicture 12 = .ok (.putfield 71, 3) := by decide +kernel
theorem dX7_codePicture_15 : decode cX7_codePicture 15 = .ok (.iconst 0, 1) := by decide +kernel
theorem dX7_codePicture_16 : decode cX7_codePicture 16 = .ok (.istore_n 3, 1) := by decide +kernel
theorem dX7_codePicture_17 : decode cX7_codePicture 17 = .ok (.iconst 0, 1) := by decide +kernel
theorem dX7_codePicture_18 : decode cX7_codePicture 18 = .ok (.istore 4, 2) := by decide +kernel
theorem dX7_codePicture_20 : decode cX7_codePicture 20 = .ok (.iload 4, 2) := by decide +kernel
theorem dX7_codePicture_22 : decode cX7_codePicture 22 = .ok (.aload_n 2, 1) := by decide +kernel
theorem dX7_codePicture_23 : decode cX7_codePicture 23 = .ok (.getfield 183, 3) := by decide +kernel
theorem dX7_codePicture_26 : decode cX7_codePicture 26 = .ok (.if_icmp .ge 97, 3) := by decide +kernel
theorem dX7_codePicture_29 : decode cX7_codePicture 29 = .ok (.aload_n 0, 1) := by decide +kernel
theorem dX7_codePicture_30 : decode cX7_codePicture 30 = .ok (.getfield 51, 3) := by decide +kernel
theorem dX7_codePicture_33 : decode cX7_codePicture 33 = .ok (.ifCond .eq 61, 3) := by decide +kernel
theorem dX7_codePicture_36 : decode cX7_codePicture 36 = .ok (.aload_n 0, 1) := by decide +kernel
theorem dX7_codePicture_37 : decode cX7_codePicture 37 = .ok (.getfield 24, 3) := by decide +kernel
theorem dX7_codePicture_40 : decode cX7_codePicture 40 = .ok (.aload_n 2, 1) := by decide +kernel
theorem dX7_codePicture_41 : decode cX7_codePicture 41 = .ok (.iload 4, 2) := by decide +kernel
theorem dX7_codePicture_43 : decode cX7_codePicture 43 = .ok (.invokevirtual 218, 3) := by decide +kernel
theorem dX7_codePicture_46 : decode cX7_codePicture 46 = .ok (.iload_n 3, 1) := by decide +kernel
theorem dX7_codePicture_47 : decode cX7_codePicture 47 = .ok (.if_icmp .eq 7, 3) := by decide +kernel
theorem dX7_codePicture_50 : decode cX7_codePicture 50 = .ok (.iconst 1, 1) := by decide +kernel
theorem dX7_codePicture_51 : decode cX7_codePicture 51 = .ok (.goto 4, 3) := by decide +kernel
theorem dX7_codePicture_54 : decode cX7_codePicture 54 = .ok (.iconst 0, 1) := by decide +kernel
theorem dX7_codePicture_55 : decode cX7_codePicture 55 = .ok (.istore 5, 2) := by decide +kernel
theorem dX7_codePicture_57 : decode cX7_codePicture 57 = .ok (.aload_n 1, 1) := by decide +kernel
theorem dX7_codePicture_58 : decode cX7_codePicture 58 = .ok (.aload_n 0, 1) := by decide +kernel
theorem dX7_codePicture_59 : decode cX7_codePicture 59 = .ok (.getfield 24, 3) := by decide +kernel
theorem dX7_codePicture_62 : decode cX7_codePicture 62 = .ok (.invokevirtual 222, 3) := by decide +kernel
theorem dX7_codePicture_65 : decode cX7_codePicture 65 = .ok (.iload 5, 2) := by decide +kernel
theorem dX7_codePicture_67 : decode cX7_codePicture 67 = .ok (.invokevirtual 225, 3) := by decide +kernel
theorem dX7_codePicture_70 : decode cX7_codePicture 70 = .ok (.iconst 1, 1) := by decide +kernel
theorem dX7_codePicture_71 : decode cX7_codePicture 71 = .ok (.if_icmp .ne 13, 3) := by decide +kernel
theorem dX7_codePicture_74 : decode cX7_codePicture 74 = .ok (.iload_n 3, 1) := by decide +kernel
theorem dX7_codePicture_75 : decode cX7_codePicture 75 = .ok (.ifCond .ne 7, 3) := by decide +kernel
theorem dX7_codePicture_78 : decode cX7_codePicture 78 = .ok (.iconst 1, 1) := by decide +kernel
theorem dX7_codePicture_79 : decode cX7_codePicture 79 = .ok (.goto 4, 3) := by decide +kernel
theorem dX7_codePicture_82 : decode cX7_codePicture 82 = .ok (.iconst 0, 1) := by decide +kernel
theorem dX7_codePicture_83 : decode cX7_codePicture 83 = .ok (.istore_n 3, 1) := by decide +kernel
theorem dX7_codePicture_84 : decode cX7_codePicture 84 = .ok (.aload_n 0, 1) := by decide +kernel
theorem dX7_codePicture_85 : decode cX7_codePicture 85 = .ok (.dup, 1) := by decide +kernel
theorem dX7_codePicture_86 : decode cX7_codePicture 86 = .ok (.getfield 71, 3) := by decide +kernel
theorem dX7_codePicture_89 : decode cX7_codePicture 89 = .ok (.iconst 1, 1) := by decide +kernel
theorem dX7_codePicture_90 : decode cX7_codePicture 90 = .ok (.iadd, 1) := by decide +kernel
theorem dX7_codePicture_91 : decode cX7_codePicture 91 = .ok (.putfield 71, 3) := by decide +kernel
theorem dX7_codePicture_94 : decode cX7_codePicture 94 = .ok (.iload_n 3, 1) := by decide +kernel
theorem dX7_codePicture_95 : decode cX7_codePicture 95 = .ok (.ifCond .eq 13, 3) := by decide +kernel
theorem dX7_codePicture_98 : decode cX7_codePicture 98 = .ok (.aload_n 0, 1) := by decide +kernel
theorem dX7_codePicture_99 : decode cX7_codePicture 99 = .ok (.dup, 1) := by decide +kernel
theorem dX7_codePicture_100 : decode cX7_codePicture 100 = .ok (.getfield 68, 3) := by decide +kernel
theorem dX7_codePicture_103 : decode cX7_codePicture 103 = .ok (.iconst 1, 1) := by decide +kernel
theorem dX7_codePicture_104 : decode cX7_codePicture 104 = .ok (.iadd, 1) := by decide +kernel
theorem dX7_codePicture_105 : decode cX7_codePicture 105 = .ok (.putfield 68, 3) := by decide +kernel
theorem dX7_codePicture_108 : decode cX7_codePicture 108 = .ok (.aload_n 0, 1) := by decide +kernel
theorem dX7_codePicture_109 : decode cX7_codePicture 109 = .ok (.aload_n 1, 1) := by decide +kernel
theorem dX7_codePicture_110 : decode cX7_codePicture 110 = .ok (.aload_n 2, 1) := by decide +kernel
theorem dX7_codePicture_111 : decode cX7_codePicture 111 = .ok (.iload 4, 2) := by decide +kernel
theorem dX7_codePicture_113 : decode cX7_codePicture 113 = .ok (.iload_n 3, 1) := by decide +kernel
theorem dX7_codePicture_114 : decode cX7_codePicture 114 = .ok (.invokevirtual 230, 3) := by decide +kernel
theorem dX7_codePicture_117 : decode cX7_codePicture 117 = .ok (.iinc 4 1, 3) := by decide +kernel
theorem dX7_codePicture_120 : decode cX7_codePicture 120 = .ok (.goto (-100), 3) := by decide +kernel
theorem dX7_codePicture_123 : decode cX7_codePicture 123 = .ok (.return_, 1) := by decide +kernel
set_option maxRecDepth 20000 in
theorem ggX7_codeRow_X5_agreedNine : GoodIn wsX7_codeRow wsX5_agreedNine := goodIn_r _ [7, 8, 9, 10, 5, 11, 12, 13, 14, 15, 16, 17, 18, 19, 20, 21, 22, 140, 141, 142, 143, 144, 145, 146, 147, 123, 124, 125, 126] (by decide +kernel) (by decide +kernel)
set_option maxRecDepth 20000 in
theorem gX7_codeRow_X5_agreedNine_n234 : GoodIn wsX7_codeRow (wsX5_agreedNine) := ggX7_codeRow_X5_agreedNine
set_option maxRecDepth 20000 in
theorem ggX7_codeRow_X1_paint : GoodIn wsX7_codeRow wsX1_paint := goodIn_r _ [25, 21, 22, 26, 27, 28, 16, 29, 19, 20, 123, 124, 125, 126] (by decide +kernel) (by decide +kernel)
set_option maxRecDepth 20000 in
theorem gX7_codeRow_X1_paint_n117 : GoodIn wsX7_codeRow (wsX1_paint) := ggX7_codeRow_X1_paint
set_option maxRecDepth 20000 in
theorem ggX7_codeRow_X5_contextOf : GoodIn wsX7_codeRow wsX5_contextOf := goodIn_r _ [32, 33, 15, 16, 17, 18, 19, 20, 21, 22, 34, 35, 36, 5, 37, 38, 39, 40, 41, 8, 9, 10, 11, 12, 13, 14, 42, 43, 44, 45, 140, 141, 142, 143, 144, 145, 146, 147, 123, 124, 125, 126] (by decide +kernel) (by decide +kernel)
set_option maxRecDepth 20000 in
theorem gX7_codeRow_X5_contextOf_n194 : GoodIn wsX7_codeRow (wsX5_contextOf) := ggX7_codeRow_X5_contextOf
set_option maxRecDepth 20000 in
theorem ggX7_codeRow_X1_pixel : GoodIn wsX7_codeRow wsX1_pixel := goodIn_r _ [18, 19, 20, 21, 22, 123, 124, 125, 126] (by decide +kernel) (by decide +kernel)
set_option maxRecDepth 20000 in
theorem gX7_codeRow_X1_pixel_n113 : GoodIn wsX7_codeRow (wsX1_pixel) := ggX7_codeRow_X1_pixel
set_option maxRecDepth 20000 in
theorem ggX7_codeRow_X3_pass : GoodIn wsX7_codeRow wsX3_pass := goodIn_r _ [51, 52, 53, 54, 55, 56, 57, 58, 59, 60, 61, 62, 63, 64, 65, 66, 67, 68, 69, 70, 71, 72, 73, 74, 75, 76, 77, 50, 78, 79, 80, 81, 82, 83, 84, 85, 86, 87, 88, 89, 90, 91, 92, 93, 148, 149, 150, 151, 152, 153, 154, 155, 156] (by decide +kernel) (by decide +kernel)
set_option maxRecDepth 20000 in
theorem gX7_codeRow_X3_pass_u225X3 : GoodIn wsX7_codeRow (va_wsU RX7 225 RX3 "RefineRegions$BitCoder" ⟨"RefineRegions$BitCoder", "pass", "(II)I"⟩ yX3_pass wsX3_pass) := goodIn_app (goodIn_of _ (by decide +kernel)) ggX7_codeRow_X3_pass
set_option maxRecDepth 20000 in
theorem ggX7_codeRow_X6_pass : GoodIn wsX7_codeRow wsX6_pass := goodIn_r _ [97, 98, 99, 100, 101, 56, 57, 58, 59, 60, 61, 62, 63, 64, 65, 66, 67, 68, 69, 70, 71, 72, 73, 74, 102, 103, 104, 96, 105, 106, 107, 108, 109, 110, 111, 112, 113, 89, 114, 115, 92, 116, 88, 90, 91, 93, 117, 118, 119, 120, 121, 122, 157, 158, 159, 160, 161, 154, 155, 156] (by decide +kernel) (by decide +kernel)
set_option maxRecDepth 20000 in
theorem gX7_codeRow_X6_pass_u225X6 : GoodIn wsX7_codeRow (va_wsU RX7 225 RX6 "RefineRegions$BitCoder" ⟨"RefineRegions$BitCoder", "pass", "(II)I"⟩ yX6_pass wsX6_pass) := goodIn_app (goodIn_of _ (by decide +kernel)) ggX7_codeRow_X6_pass
theorem dX7_codeRow_0 : decode cX7_codeRow 0 = .ok (.iconst 0, 1) := by decide +kernel
theorem dX7_codeRow_1 : decode cX7_codeRow 1 = .ok (.istore 5, 2) := by decide +kernel
theorem dX7_codeRow_3 : decode cX7_codeRow 3 = .ok (.iload 5, 2) := by decide +kernel
theorem dX7_codeRow_5 : decode cX7_codeRow 5 = .ok (.aload_n 2, 1) := by decide +kernel
theorem dX7_codeRow_6 : decode cX7_codeRow 6 = .ok (.getfield 180, 3) := by decide +kernel
theorem dX7_codeRow_9 : decode cX7_codeRow 9 = .ok (.if_icmp .ge 101, 3) := by decide +kernel
theorem dX7_codeRow_12 : decode cX7_codeRow 12 = .ok (.iload 4, 2) := by decide +kernel
theorem dX7_codeRow_14 : decode cX7_codeRow 14 = .ok (.ifCond .eq 16, 3) := by decide +kernel
theorem dX7_codeRow_17 : decode cX7_codeRow 17 = .ok (.aload_n 0, 1) := by decide +kernel
theorem dX7_codeRow_18 : decode cX7_codeRow 18 = .ok (.getfield 24, 3) := by decide +kernel
theorem dX7_codeRow_21 : decode cX7_codeRow 21 = .ok (.iload 5, 2) := by decide +kernel
theorem dX7_codeRow_23 : decode cX7_codeRow 23 = .ok (.iload_n 3, 1) := by decide +kernel
theorem dX7_codeRow_24 : decode cX7_codeRow 24 = .ok (.invokevirtual 234, 3) := by decide +kernel
theorem dX7_codeRow_27 : decode cX7_codeRow 27 = .ok (.goto 4, 3) := by decide +kernel
theorem dX7_codeRow_30 : decode cX7_codeRow 30 = .ok (.iconst (-1), 1) := by decide +kernel
theorem dX7_codeRow_31 : decode cX7_codeRow 31 = .ok (.istore 6, 2) := by decide +kernel
theorem dX7_codeRow_33 : decode cX7_codeRow 33 = .ok (.iload 6, 2) := by decide +kernel
theorem dX7_codeRow_35 : decode cX7_codeRow 35 = .ok (.iconst (-1), 1) := by decide +kernel
theorem dX7_codeRow_36 : decode cX7_codeRow 36 = .ok (.if_icmp .eq 25, 3) := by decide +kernel
theorem dX7_codeRow_39 : decode cX7_codeRow 39 = .ok (.aload_n 2, 1) := by decide +kernel
theorem dX7_codeRow_40 : decode cX7_codeRow 40 = .ok (.iload 5, 2) := by decide +kernel
theorem dX7_codeRow_42 : decode cX7_codeRow 42 = .ok (.iload_n 3, 1) := by decide +kernel
