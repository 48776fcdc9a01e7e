theorem dX4_init_0 : decode cX4_init 0 = .ok (.aload_n 0, 1) := by decide +kernel
theorem dX4_init_1 : decode cX4_init 1 = .ok (.invokespecial 1, 3) := by decide +kernel
theorem dX4_init_4 : decode cX4_init 4 = .ok (.aload_n 0, 1) := by decide +kernel
theorem dX4_init_5 : decode cX4_init 5 = .ok (.sipush 8192, 3) := by decide +kernel
theorem dX4_init_8 : decode cX4_init 8 = .ok (.newarray .int, 2) := by decide +kernel
theorem dX4_init_10 : decode cX4_init 10 = .ok (.putfield 9, 3) := by decide +kernel
theorem dX4_init_13 : decode cX4_init 13 = .ok (.return_, 1) := by decide +kernel
set_option maxRecDepth 20000 in
theorem ggX4_forget_J7_fill_53178 : GoodIn wsX4_forget wsJ7_fill_53178 := goodIn_r _ [5] (by decide +kernel) (by decide +kernel)
set_option maxRecDepth 20000 in
theorem gX4_forget_J7_fill_53178 : GoodIn wsX4_forget (va_wsS RX4 13 yJ7_fill_53178 wsJ7_fill_53178) := goodIn_app (goodIn_of _ (by decide +kernel)) ggX4_forget_J7_fill_53178
theorem dX4_forget_0 : decode cX4_forget 0 = .ok (.aload_n 0, 1) := by decide +kernel
theorem dX4_forget_1 : decode cX4_forget 1 = .ok (.getfield 9, 3) := by decide +kernel
theorem dX4_forget_4 : decode cX4_forget 4 = .ok (.iconst 0, 1) := by decide +kernel
theorem dX4_forget_5 : decode cX4_forget 5 = .ok (.invokestatic 13, 3) := by decide +kernel
theorem dX4_forget_8 : decode cX4_forget 8 = .ok (.return_, 1) := by decide +kernel
theorem dX4_packedOf_0 : decode cX4_packedOf 0 = .ok (.iload_n 1, 1) := by decide +kernel
theorem dX4_packedOf_1 : decode cX4_packedOf 1 = .ok (.ifCond .lt 21, 3) := by decide +kernel
theorem dX4_packedOf_4 : decode cX4_packedOf 4 = .ok (.iload_n 1, 1) := by decide +kernel
theorem dX4_packedOf_5 : decode cX4_packedOf 5 = .ok (.aload_n 0, 1) := by decide +kernel
theorem dX4_packedOf_6 : decode cX4_packedOf 6 = .ok (.getfield 9, 3) := by decide +kernel
theorem dX4_packedOf_9 : decode cX4_packedOf 9 = .ok (.arraylength, 1) := by decide +kernel
theorem dX4_packedOf_10 : decode cX4_packedOf 10 = .ok (.if_icmp .ge 12, 3) := by decide +kernel
theorem dX4_packedOf_13 : decode cX4_packedOf 13 = .ok (.aload_n 0, 1) := by decide +kernel
theorem dX4_packedOf_14 : decode cX4_packedOf 14 = .ok (.getfield 9, 3) := by decide +kernel
theorem dX4_packedOf_17 : decode cX4_packedOf 17 = .ok (.iload_n 1, 1) := by decide +kernel
theorem dX4_packedOf_18 : decode cX4_packedOf 18 = .ok (.iaload, 1) := by decide +kernel
theorem dX4_packedOf_19 : decode cX4_packedOf 19 = .ok (.goto 4, 3) := by decide +kernel
theorem dX4_packedOf_22 : decode cX4_packedOf 22 = .ok (.iconst 0, 1) := by decide +kernel
theorem dX4_packedOf_23 : decode cX4_packedOf 23 = .ok (.ireturn, 1) := by decide +kernel
set_option maxRecDepth 20000 in
theorem ggX4_likelyOf_X4_packedOf : GoodIn wsX4_likelyOf wsX4_packedOf := goodIn_r _ [5, 6, 7] (by decide +kernel) (by decide +kernel)
set_option maxRecDepth 20000 in
theorem gX4_likelyOf_X4_packedOf : GoodIn wsX4_likelyOf (wsV RX4 19 RX4 yX4_packedOf wsX4_packedOf) := goodIn_app (goodIn_of _ (by decide +kernel)) ggX4_likelyOf_X4_packedOf
theorem dX4_likelyOf_0 : decode cX4_likelyOf 0 = .ok (.aload_n 0, 1) := by decide +kernel
theorem dX4_likelyOf_1 : decode cX4_likelyOf 1 = .ok (.iload_n 1, 1) := by decide +kernel
theorem dX4_likelyOf_2 : decode cX4_likelyOf 2 = .ok (.invokevirtual 19, 3) := by decide +kernel
theorem dX4_likelyOf_5 : decode cX4_likelyOf 5 = .ok (.iconst 1, 1) := by decide +kernel
theorem dX4_likelyOf_6 : decode cX4_likelyOf 6 = .ok (.iand, 1) := by decide +kernel
theorem dX4_likelyOf_7 : decode cX4_likelyOf 7 = .ok (.ireturn, 1) := by decide +kernel
set_option maxRecDepth 20000 in
theorem ggX4_shareOf_X4_packedOf : GoodIn wsX4_shareOf wsX4_packedOf := goodIn_r _ [5, 6, 11] (by decide +kernel) (by decide +kernel)
set_option maxRecDepth 20000 in
theorem gX4_shareOf_X4_packedOf : GoodIn wsX4_shareOf (wsV RX4 19 RX4 yX4_packedOf wsX4_packedOf) := goodIn_app (goodIn_of _ (by decide +kernel)) ggX4_shareOf_X4_packedOf
set_option maxRecDepth 20000 in
theorem ggX4_shareOf_X4_entry : GoodIn wsX4_shareOf wsX4_entry := goodIn_r _ [9, 10] (by decide +kernel) (by decide +kernel)
set_option maxRecDepth 20000 in
theorem gX4_shareOf_X4_entry : GoodIn wsX4_shareOf (va_wsS RX4 23 yX4_entry wsX4_entry) := goodIn_app (goodIn_of _ (by decide +kernel)) ggX4_shareOf_X4_entry
theorem dX4_shareOf_0 : decode cX4_shareOf 0 = .ok (.aload_n 0, 1) := by decide +kernel
theorem dX4_shareOf_1 : decode cX4_shareOf 1 = .ok (.iload_n 1, 1) := by decide +kernel
theorem dX4_shareOf_2 : decode cX4_shareOf 2 = .ok (.invokevirtual 19, 3) := by decide +kernel
theorem dX4_shareOf_5 : decode cX4_shareOf 5 = .ok (.iconst 1, 1) := by decide +kernel
theorem dX4_shareOf_6 : decode cX4_shareOf 6 = .ok (.ishr, 1) := by decide +kernel
theorem dX4_shareOf_7 : decode cX4_shareOf 7 = .ok (.iconst 0, 1) := by decide +kernel
theorem dX4_shareOf_8 : decode cX4_shareOf 8 = .ok (.invokestatic 23, 3) := by decide +kernel
theorem dX4_shareOf_11 : decode cX4_shareOf 11 = .ok (.ireturn, 1) := by decide +kernel
set_option maxRecDepth 20000 in
theorem ggX4_advance_X4_entry : GoodIn wsX4_advance wsX4_entry := goodIn_r _ [5, 6] (by decide +kernel) (by decide +kernel)
set_option maxRecDepth 20000 in
theorem gX4_advance_X4_entry : GoodIn wsX4_advance (va_wsS RX4 23 yX4_entry wsX4_entry) := goodIn_app (goodIn_of _ (by decide +kernel)) ggX4_advance_X4_entry
theorem dX4_advance_0 : decode cX4_advance 0 = .ok (.iload_n 1, 1) := by decide +kernel
theorem dX4_advance_1 : decode cX4_advance 1 = .ok (.ifCond .lt 12, 3) := by decide +kernel
theorem dX4_advance_4 : decode cX4_advance 4 = .ok (.iload_n 1, 1) := by decide +kernel
theorem dX4_advance_5 : decode cX4_advance 5 = .ok (.aload_n 0, 1) := by decide +kernel
theorem dX4_advance_6 : decode cX4_advance 6 = .ok (.getfield 9, 3) := by decide +kernel
theorem dX4_advance_9 : decode cX4_advance 9 = .ok (.arraylength, 1) := by decide +kernel
theorem dX4_advance_10 : decode cX4_advance 10 = .ok (.if_icmp .lt 4, 3) := by decide +kernel
theorem dX4_advance_13 : decode cX4_advance 13 = .ok (.return_, 1) := by decide +kernel
theorem dX4_advance_14 : decode cX4_advance 14 = .ok (.aload_n 0, 1) := by decide +kernel
theorem dX4_advance_15 : decode cX4_advance 15 = .ok (.getfield 9, 3) := by decide +kernel
theorem dX4_advance_18 : decode cX4_advance 18 = .ok (.iload_n 1, 1) := by decide +kernel
theorem dX4_advance_19 : decode cX4_advance 19 = .ok (.iaload, 1) := by decide +kernel
theorem dX4_advance_20 : decode cX4_advance 20 = .ok (.iconst 1, 1) := by decide +kernel
theorem dX4_advance_21 : decode cX4_advance 21 = .ok (.ishr, 1) := by decide +kernel
theorem dX4_advance_22 : decode cX4_advance 22 = .ok (.istore_n 3, 1) := by decide +kernel
theorem dX4_advance_23 : decode cX4_advance 23 = .ok (.aload_n 0, 1) := by decide +kernel
theorem dX4_advance_24 : decode cX4_advance 24 = .ok (.getfield 9, 3) := by decide +kernel
theorem dX4_advance_27 : decode cX4_advance 27 = .ok (.iload_n 1, 1) := by decide +kernel
theorem dX4_advance_28 : decode cX4_advance 28 = .ok (.iaload, 1) := by decide +kernel
theorem dX4_advance_29 : decode cX4_advance 29 = .ok (.iconst 1, 1) := by decide +kernel
theorem dX4_advance_30 : decode cX4_advance 30 = .ok (.iand, 1) := by decide +kernel
theorem dX4_advance_31 : decode cX4_advance 31 = .ok (.istore 4, 2) := by decide +kernel
theorem dX4_advance_33 : decode cX4_advance 33 = .ok (.iload_n 2, 1) := by decide +kernel
theorem dX4_advance_34 : decode cX4_advance 34 = .ok (.ifCond .eq 22, 3) := by decide +kernel
theorem dX4_advance_37 : decode cX4_advance 37 = .ok (.aload_n 0, 1) := by decide +kernel
theorem dX4_advance_38 : decode cX4_advance 38 = .ok (.getfield 9, 3) := by decide +kernel
theorem dX4_advance_41 : decode cX4_advance 41 = .ok (.iload_n 1, 1) := by decide +kernel
theorem dX4_advance_42 : decode cX4_advance 42 = .ok (.iconst 2, 1) := by decide +kernel
theorem dX4_advance_43 : decode cX4_advance 43 = .ok (.iload_n 3, 1) := by decide +kernel
theorem dX4_advance_44 : decode cX4_advance 44 = .ok (.iconst 1, 1) := by decide +kernel
theorem dX4_advance_45 : decode cX4_advance 45 = .ok (.invokestatic 23, 3) := by decide +kernel
theorem dX4_advance_48 : decode cX4_advance 48 = .ok (.imul, 1) := by decide +kernel
theorem dX4_advance_49 : decode cX4_advance 49 = .ok (.iload 4, 2) := by decide +kernel
theorem dX4_advance_51 : decode cX4_advance 51 = .ok (.iadd, 1) := by decide +kernel
theorem dX4_advance_52 : decode cX4_advance 52 = .ok (.iastore, 1) := by decide +kernel
theorem dX4_advance_53 : decode cX4_advance 53 = .ok (.goto 25, 3) := by decide +kernel
theorem dX4_advance_56 : decode cX4_advance 56 = .ok (.aload_n 0, 1) := by decide +kernel
theorem dX4_advance_57 : decode cX4_advance 57 = .ok (.getfield 9, 3) := by decide +kernel
theorem dX4_advance_60 : decode cX4_advance 60 = .ok (.iload_n 1, 1) := by decide +kernel
theorem dX4_advance_61 : decode cX4_advance 61 = .ok (.iconst 2, 1) := by decide +kernel
theorem dX4_advance_62 : decode cX4_advance 62 = .ok (.iload_n 3, 1) := by decide +kernel
theorem dX4_advance_63 : decode cX4_advance 63 = .ok (.iconst 2, 1) := by decide +kernel
theorem dX4_advance_64 : decode cX4_advance 64 = .ok (.invokestatic 23, 3) := by decide +kernel
theorem dX4_advance_67 : decode cX4_advance 67 = .ok (.imul, 1) := by decide +kernel
theorem dX4_advance_68 : decode cX4_advance 68 = .ok (.iload 4, 2) := by decide +kernel
theorem dX4_advance_70 : decode cX4_advance 70 = .ok (.iload_n 3, 1) := by decide +kernel
theorem dX4_advance_71 : decode cX4_advance 71 = .ok (.iconst 3, 1) := by decide +kernel
theorem dX4_advance_72 : decode cX4_advance 72 = .ok (.invokestatic 23, 3) := by decide +kernel
theorem dX4_advance_75 : decode cX4_advance 75 = .ok (.ixor, 1) := by decide +kernel
theorem dX4_advance_76 : decode cX4_advance 76 = .ok (.iadd, 1) := by decide +kernel
theorem dX4_advance_77 : decode cX4_advance 77 = .ok (.iastore, 1) := by decide +kernel
theorem dX4_advance_78 : decode cX4_advance 78 = .ok (.return_, 1) := by decide +kernel
theorem dX4_entry_0 : decode cX4_entry 0 = .ok (.iload_n 0, 1) := by decide +kernel
theorem dX4_entry_1 : decode cX4_entry 1 = .ok (.iconst 4, 1) := by decide +kernel
theorem dX4_entry_2 : decode cX4_entry 2 = .ok (.imul, 1) := by decide +kernel
theorem dX4_entry_3 : decode cX4_entry 3 = .ok (.iload_n 1, 1) := by decide +kernel
theorem dX4_entry_4 : decode cX4_entry 4 = .ok (.iadd, 1) := by decide +kernel
theorem dX4_entry_5 : decode cX4_entry 5 = .ok (.istore_n 2, 1) := by decide +kernel
theorem dX4_entry_6 : decode cX4_entry 6 = .ok (.iload_n 2, 1) := by decide +kernel
theorem dX4_entry_7 : decode cX4_entry 7 = .ok (.ifCond .lt 19, 3) := by decide +kernel
theorem dX4_entry_10 : decode cX4_entry 10 = .ok (.iload_n 2, 1) := by decide +kernel
theorem dX4_entry_11 : decode cX4_entry 11 = .ok (.getstatic 27, 3) := by decide +kernel
theorem dX4_entry_14 : decode cX4_entry 14 = .ok (.arraylength, 1) := by decide +kernel
theorem dX4_entry_15 : decode cX4_entry 15 = .ok (.if_icmp .ge 11, 3) := by decide +kernel
theorem dX4_entry_18 : decode cX4_entry 18 = .ok (.getstatic 27, 3) := by decide +kernel
theorem dX4_entry_21 : decode cX4_entry 21 = .ok (.iload_n 2, 1) := by decide +kernel
theorem dX4_entry_22 : decode cX4_entry 22 = .ok (.iaload, 1) := by decide +kernel
theorem dX4_entry_23 : decode cX4_entry 23 = .ok (.goto 4, 3) := by decide +kernel
theorem dX4_entry_26 : decode cX4_entry 26 = .ok (.iconst 0, 1) := by decide +kernel
theorem dX4_entry_27 : decode cX4_entry 27 = .ok (.ireturn, 1) := by decide +kernel
