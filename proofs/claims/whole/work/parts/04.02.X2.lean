theorem dX2_init_0 : decode cX2_init 0 = .ok (.aload_n 0, 1) := by decide +kernel
theorem dX2_init_1 : decode cX2_init 1 = .ok (.invokespecial 1, 3) := by decide +kernel
theorem dX2_init_4 : decode cX2_init 4 = .ok (.aload_n 0, 1) := by decide +kernel
theorem dX2_init_5 : decode cX2_init 5 = .ok (.sipush 4096, 3) := by decide +kernel
theorem dX2_init_8 : decode cX2_init 8 = .ok (.newarray .int, 2) := by decide +kernel
theorem dX2_init_10 : decode cX2_init 10 = .ok (.putfield 9, 3) := by decide +kernel
theorem dX2_init_13 : decode cX2_init 13 = .ok (.aload_n 0, 1) := by decide +kernel
theorem dX2_init_14 : decode cX2_init 14 = .ok (.iconst 0, 1) := by decide +kernel
theorem dX2_init_15 : decode cX2_init 15 = .ok (.putfield 13, 3) := by decide +kernel
theorem dX2_init_18 : decode cX2_init 18 = .ok (.return_, 1) := by decide +kernel
theorem dX2_count_0 : decode cX2_count 0 = .ok (.aload_n 0, 1) := by decide +kernel
theorem dX2_count_1 : decode cX2_count 1 = .ok (.getfield 13, 3) := by decide +kernel
theorem dX2_count_4 : decode cX2_count 4 = .ok (.ireturn, 1) := by decide +kernel
theorem dX2_clear_0 : decode cX2_clear 0 = .ok (.aload_n 0, 1) := by decide +kernel
theorem dX2_clear_1 : decode cX2_clear 1 = .ok (.iconst 0, 1) := by decide +kernel
theorem dX2_clear_2 : decode cX2_clear 2 = .ok (.putfield 13, 3) := by decide +kernel
theorem dX2_clear_5 : decode cX2_clear 5 = .ok (.return_, 1) := by decide +kernel
theorem dX2_hasRoomFor_0 : decode cX2_hasRoomFor 0 = .ok (.iload_n 1, 1) := by decide +kernel
theorem dX2_hasRoomFor_1 : decode cX2_hasRoomFor 1 = .ok (.sipush 4096, 3) := by decide +kernel
theorem dX2_hasRoomFor_4 : decode cX2_hasRoomFor 4 = .ok (.aload_n 0, 1) := by decide +kernel
theorem dX2_hasRoomFor_5 : decode cX2_hasRoomFor 5 = .ok (.getfield 13, 3) := by decide +kernel
theorem dX2_hasRoomFor_8 : decode cX2_hasRoomFor 8 = .ok (.isub, 1) := by decide +kernel
theorem dX2_hasRoomFor_9 : decode cX2_hasRoomFor 9 = .ok (.if_icmp .gt 7, 3) := by decide +kernel
theorem dX2_hasRoomFor_12 : decode cX2_hasRoomFor 12 = .ok (.iconst 1, 1) := by decide +kernel
theorem dX2_hasRoomFor_13 : decode cX2_hasRoomFor 13 = .ok (.goto 4, 3) := by decide +kernel
theorem dX2_hasRoomFor_16 : decode cX2_hasRoomFor 16 = .ok (.iconst 0, 1) := by decide +kernel
theorem dX2_hasRoomFor_17 : decode cX2_hasRoomFor 17 = .ok (.ireturn, 1) := by decide +kernel
theorem dX2_append_0 : decode cX2_append 0 = .ok (.aload_n 0, 1) := by decide +kernel
theorem dX2_append_1 : decode cX2_append 1 = .ok (.getfield 13, 3) := by decide +kernel
theorem dX2_append_4 : decode cX2_append 4 = .ok (.sipush 4096, 3) := by decide +kernel
theorem dX2_append_7 : decode cX2_append 7 = .ok (.if_icmp .ge 23, 3) := by decide +kernel
theorem dX2_append_10 : decode cX2_append 10 = .ok (.aload_n 0, 1) := by decide +kernel
theorem dX2_append_11 : decode cX2_append 11 = .ok (.getfield 9, 3) := by decide +kernel
theorem dX2_append_14 : decode cX2_append 14 = .ok (.aload_n 0, 1) := by decide +kernel
theorem dX2_append_15 : decode cX2_append 15 = .ok (.getfield 13, 3) := by decide +kernel
theorem dX2_append_18 : decode cX2_append 18 = .ok (.iload_n 1, 1) := by decide +kernel
theorem dX2_append_19 : decode cX2_append 19 = .ok (.iastore, 1) := by decide +kernel
theorem dX2_append_20 : decode cX2_append 20 = .ok (.aload_n 0, 1) := by decide +kernel
theorem dX2_append_21 : decode cX2_append 21 = .ok (.dup, 1) := by decide +kernel
theorem dX2_append_22 : decode cX2_append 22 = .ok (.getfield 13, 3) := by decide +kernel
theorem dX2_append_25 : decode cX2_append 25 = .ok (.iconst 1, 1) := by decide +kernel
theorem dX2_append_26 : decode cX2_append 26 = .ok (.iadd, 1) := by decide +kernel
theorem dX2_append_27 : decode cX2_append 27 = .ok (.putfield 13, 3) := by decide +kernel
theorem dX2_append_30 : decode cX2_append 30 = .ok (.return_, 1) := by decide +kernel
theorem dX2_valueOr_0 : decode cX2_valueOr 0 = .ok (.iload_n 1, 1) := by decide +kernel
theorem dX2_valueOr_1 : decode cX2_valueOr 1 = .ok (.ifCond .lt 20, 3) := by decide +kernel
theorem dX2_valueOr_4 : decode cX2_valueOr 4 = .ok (.iload_n 1, 1) := by decide +kernel
theorem dX2_valueOr_5 : decode cX2_valueOr 5 = .ok (.aload_n 0, 1) := by decide +kernel
theorem dX2_valueOr_6 : decode cX2_valueOr 6 = .ok (.getfield 13, 3) := by decide +kernel
theorem dX2_valueOr_9 : decode cX2_valueOr 9 = .ok (.if_icmp .ge 12, 3) := by decide +kernel
theorem dX2_valueOr_12 : decode cX2_valueOr 12 = .ok (.aload_n 0, 1) := by decide +kernel
theorem dX2_valueOr_13 : decode cX2_valueOr 13 = .ok (.getfield 9, 3) := by decide +kernel
theorem dX2_valueOr_16 : decode cX2_valueOr 16 = .ok (.iload_n 1, 1) := by decide +kernel
theorem dX2_valueOr_17 : decode cX2_valueOr 17 = .ok (.iaload, 1) := by decide +kernel
theorem dX2_valueOr_18 : decode cX2_valueOr 18 = .ok (.goto 4, 3) := by decide +kernel
theorem dX2_valueOr_21 : decode cX2_valueOr 21 = .ok (.iload_n 2, 1) := by decide +kernel
theorem dX2_valueOr_22 : decode cX2_valueOr 22 = .ok (.ireturn, 1) := by decide +kernel
set_option maxRecDepth 20000 in
theorem ggX2_last_X2_valueOr : GoodIn wsX2_last wsX2_valueOr := goodIn_r _ [6, 1, 7, 8, 9] (by decide +kernel) (by decide +kernel)
set_option maxRecDepth 20000 in
theorem gX2_last_X2_valueOr : GoodIn wsX2_last (wsV RX2 17 RX2 yX2_valueOr wsX2_valueOr) := goodIn_app (goodIn_of _ (by decide +kernel)) ggX2_last_X2_valueOr
theorem dX2_last_0 : decode cX2_last 0 = .ok (.aload_n 0, 1) := by decide +kernel
theorem dX2_last_1 : decode cX2_last 1 = .ok (.aload_n 0, 1) := by decide +kernel
theorem dX2_last_2 : decode cX2_last 2 = .ok (.getfield 13, 3) := by decide +kernel
theorem dX2_last_5 : decode cX2_last 5 = .ok (.iconst 1, 1) := by decide +kernel
theorem dX2_last_6 : decode cX2_last 6 = .ok (.isub, 1) := by decide +kernel
theorem dX2_last_7 : decode cX2_last 7 = .ok (.iconst 0, 1) := by decide +kernel
theorem dX2_last_8 : decode cX2_last 8 = .ok (.invokevirtual 17, 3) := by decide +kernel
theorem dX2_last_11 : decode cX2_last 11 = .ok (.ireturn, 1) := by decide +kernel
theorem dX2_raiseLast_0 : decode cX2_raiseLast 0 = .ok (.aload_n 0, 1) := by decide +kernel
theorem dX2_raiseLast_1 : decode cX2_raiseLast 1 = .ok (.getfield 13, 3) := by decide +kernel
theorem dX2_raiseLast_4 : decode cX2_raiseLast 4 = .ok (.ifCond .le 18, 3) := by decide +kernel
theorem dX2_raiseLast_7 : decode cX2_raiseLast 7 = .ok (.aload_n 0, 1) := by decide +kernel
theorem dX2_raiseLast_8 : decode cX2_raiseLast 8 = .ok (.getfield 9, 3) := by decide +kernel
theorem dX2_raiseLast_11 : decode cX2_raiseLast 11 = .ok (.aload_n 0, 1) := by decide +kernel
theorem dX2_raiseLast_12 : decode cX2_raiseLast 12 = .ok (.getfield 13, 3) := by decide +kernel
theorem dX2_raiseLast_15 : decode cX2_raiseLast 15 = .ok (.iconst 1, 1) := by decide +kernel
theorem dX2_raiseLast_16 : decode cX2_raiseLast 16 = .ok (.isub, 1) := by decide +kernel
theorem dX2_raiseLast_17 : decode cX2_raiseLast 17 = .ok (.dup2, 1) := by decide +kernel
theorem dX2_raiseLast_18 : decode cX2_raiseLast 18 = .ok (.iaload, 1) := by decide +kernel
theorem dX2_raiseLast_19 : decode cX2_raiseLast 19 = .ok (.iconst 1, 1) := by decide +kernel
theorem dX2_raiseLast_20 : decode cX2_raiseLast 20 = .ok (.iadd, 1) := by decide +kernel
theorem dX2_raiseLast_21 : decode cX2_raiseLast 21 = .ok (.iastore, 1) := by decide +kernel
theorem dX2_raiseLast_22 : decode cX2_raiseLast 22 = .ok (.return_, 1) := by decide +kernel
