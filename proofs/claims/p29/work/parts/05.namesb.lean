theorem dX0_init_0 : decode cX0_init 0 = .ok (.aload_n 0, 1) := by decide +kernel
theorem dX0_init_1 : decode cX0_init 1 = .ok (.invokespecial 3, 3) := by decide +kernel
theorem dX0_init_4 : decode cX0_init 4 = .ok (.aload_n 0, 1) := by decide +kernel
theorem dX0_init_5 : decode cX0_init 5 = .ok (.bipush 16, 2) := by decide +kernel
theorem dX0_init_7 : decode cX0_init 7 = .ok (.newarray .int, 2) := by decide +kernel
theorem dX0_init_9 : decode cX0_init 9 = .ok (.putfield 9, 3) := by decide +kernel
theorem dX0_init_12 : decode cX0_init 12 = .ok (.aload_n 0, 1) := by decide +kernel
theorem dX0_init_13 : decode cX0_init 13 = .ok (.iconst 0, 1) := by decide +kernel
theorem dX0_init_14 : decode cX0_init 14 = .ok (.putfield 15, 3) := by decide +kernel
theorem dX0_init_17 : decode cX0_init 17 = .ok (.return_, 1) := by decide +kernel
theorem dX0_addressAt_0 : decode cX0_addressAt 0 = .ok (.iload_n 1, 1) := by decide +kernel
theorem dX0_addressAt_1 : decode cX0_addressAt 1 = .ok (.ifCond .lt 20, 3) := by decide +kernel
theorem dX0_addressAt_4 : decode cX0_addressAt 4 = .ok (.iload_n 1, 1) := by decide +kernel
theorem dX0_addressAt_5 : decode cX0_addressAt 5 = .ok (.aload_n 0, 1) := by decide +kernel
theorem dX0_addressAt_6 : decode cX0_addressAt 6 = .ok (.getfield 15, 3) := by decide +kernel
theorem dX0_addressAt_9 : decode cX0_addressAt 9 = .ok (.if_icmp .ge 12, 3) := by decide +kernel
theorem dX0_addressAt_12 : decode cX0_addressAt 12 = .ok (.aload_n 0, 1) := by decide +kernel
theorem dX0_addressAt_13 : decode cX0_addressAt 13 = .ok (.getfield 9, 3) := by decide +kernel
theorem dX0_addressAt_16 : decode cX0_addressAt 16 = .ok (.iload_n 1, 1) := by decide +kernel
theorem dX0_addressAt_17 : decode cX0_addressAt 17 = .ok (.iaload, 1) := by decide +kernel
theorem dX0_addressAt_18 : decode cX0_addressAt 18 = .ok (.goto 4, 3) := by decide +kernel
theorem dX0_addressAt_21 : decode cX0_addressAt 21 = .ok (.iconst (-1), 1) := by decide +kernel
theorem dX0_addressAt_22 : decode cX0_addressAt 22 = .ok (.ireturn, 1) := by decide +kernel
set_option maxRecDepth 20000 in
theorem ggX0_add_X0_placeOf : GoodIn wsX0_add wsX0_placeOf := goodIn_r _ [7, 1, 2, 8, 9] (by decide +kernel) (by decide +kernel)
set_option maxRecDepth 20000 in
theorem gX0_add_X0_placeOf : GoodIn wsX0_add (wsV RX0 19 RX0 yX0_placeOf wsX0_placeOf) := goodIn_app (goodIn_of _ (by decide +kernel)) ggX0_add_X0_placeOf
theorem dX0_add_0 : decode cX0_add 0 = .ok (.aload_n 0, 1) := by decide +kernel
theorem dX0_add_1 : decode cX0_add 1 = .ok (.iload_n 1, 1) := by decide +kernel
theorem dX0_add_2 : decode cX0_add 2 = .ok (.invokevirtual 19, 3) := by decide +kernel
theorem dX0_add_5 : decode cX0_add 5 = .ok (.iconst (-1), 1) := by decide +kernel
theorem dX0_add_6 : decode cX0_add 6 = .ok (.if_icmp .ne 32, 3) := by decide +kernel
theorem dX0_add_9 : decode cX0_add 9 = .ok (.aload_n 0, 1) := by decide +kernel
theorem dX0_add_10 : decode cX0_add 10 = .ok (.getfield 15, 3) := by decide +kernel
theorem dX0_add_13 : decode cX0_add 13 = .ok (.bipush 16, 2) := by decide +kernel
theorem dX0_add_15 : decode cX0_add 15 = .ok (.if_icmp .ge 23, 3) := by decide +kernel
theorem dX0_add_18 : decode cX0_add 18 = .ok (.aload_n 0, 1) := by decide +kernel
theorem dX0_add_19 : decode cX0_add 19 = .ok (.getfield 9, 3) := by decide +kernel
theorem dX0_add_22 : decode cX0_add 22 = .ok (.aload_n 0, 1) := by decide +kernel
theorem dX0_add_23 : decode cX0_add 23 = .ok (.getfield 15, 3) := by decide +kernel
theorem dX0_add_26 : decode cX0_add 26 = .ok (.iload_n 1, 1) := by decide +kernel
theorem dX0_add_27 : decode cX0_add 27 = .ok (.iastore, 1) := by decide +kernel
theorem dX0_add_28 : decode cX0_add 28 = .ok (.aload_n 0, 1) := by decide +kernel
theorem dX0_add_29 : decode cX0_add 29 = .ok (.dup, 1) := by decide +kernel
theorem dX0_add_30 : decode cX0_add 30 = .ok (.getfield 15, 3) := by decide +kernel
theorem dX0_add_33 : decode cX0_add 33 = .ok (.iconst 1, 1) := by decide +kernel
theorem dX0_add_34 : decode cX0_add 34 = .ok (.iadd, 1) := by decide +kernel
theorem dX0_add_35 : decode cX0_add 35 = .ok (.putfield 15, 3) := by decide +kernel
theorem dX0_add_38 : decode cX0_add 38 = .ok (.return_, 1) := by decide +kernel
theorem dX0_clear_0 : decode cX0_clear 0 = .ok (.aload_n 0, 1) := by decide +kernel
theorem dX0_clear_1 : decode cX0_clear 1 = .ok (.iconst 0, 1) := by decide +kernel
theorem dX0_clear_2 : decode cX0_clear 2 = .ok (.putfield 15, 3) := by decide +kernel
theorem dX0_clear_5 : decode cX0_clear 5 = .ok (.return_, 1) := by decide +kernel
set_option maxRecDepth 20000 in
theorem ggX0_drop_X0_placeOf : GoodIn wsX0_drop wsX0_placeOf := goodIn_r _ [7, 1, 2, 8, 9] (by decide +kernel) (by decide +kernel)
set_option maxRecDepth 20000 in
theorem gX0_drop_X0_placeOf : GoodIn wsX0_drop (wsV RX0 19 RX0 yX0_placeOf wsX0_placeOf) := goodIn_app (goodIn_of _ (by decide +kernel)) ggX0_drop_X0_placeOf
theorem dX0_drop_0 : decode cX0_drop 0 = .ok (.aload_n 0, 1) := by decide +kernel
theorem dX0_drop_1 : decode cX0_drop 1 = .ok (.iload_n 1, 1) := by decide +kernel
theorem dX0_drop_2 : decode cX0_drop 2 = .ok (.invokevirtual 19, 3) := by decide +kernel
theorem dX0_drop_5 : decode cX0_drop 5 = .ok (.istore_n 2, 1) := by decide +kernel
theorem dX0_drop_6 : decode cX0_drop 6 = .ok (.iload_n 2, 1) := by decide +kernel
theorem dX0_drop_7 : decode cX0_drop 7 = .ok (.iconst (-1), 1) := by decide +kernel
theorem dX0_drop_8 : decode cX0_drop 8 = .ok (.if_icmp .eq 45, 3) := by decide +kernel
theorem dX0_drop_11 : decode cX0_drop 11 = .ok (.iload_n 2, 1) := by decide +kernel
theorem dX0_drop_12 : decode cX0_drop 12 = .ok (.iconst 1, 1) := by decide +kernel
theorem dX0_drop_13 : decode cX0_drop 13 = .ok (.iadd, 1) := by decide +kernel
theorem dX0_drop_14 : decode cX0_drop 14 = .ok (.istore_n 3, 1) := by decide +kernel
theorem dX0_drop_15 : decode cX0_drop 15 = .ok (.iload_n 3, 1) := by decide +kernel
theorem dX0_drop_16 : decode cX0_drop 16 = .ok (.aload_n 0, 1) := by decide +kernel
theorem dX0_drop_17 : decode cX0_drop 17 = .ok (.getfield 15, 3) := by decide +kernel
theorem dX0_drop_20 : decode cX0_drop 20 = .ok (.if_icmp .ge 23, 3) := by decide +kernel
theorem dX0_drop_23 : decode cX0_drop 23 = .ok (.aload_n 0, 1) := by decide +kernel
theorem dX0_drop_24 : decode cX0_drop 24 = .ok (.getfield 9, 3) := by decide +kernel
theorem dX0_drop_27 : decode cX0_drop 27 = .ok (.iload_n 3, 1) := by decide +kernel
theorem dX0_drop_28 : decode cX0_drop 28 = .ok (.iconst 1, 1) := by decide +kernel
theorem dX0_drop_29 : decode cX0_drop 29 = .ok (.isub, 1) := by decide +kernel
theorem dX0_drop_30 : decode cX0_drop 30 = .ok (.aload_n 0, 1) := by decide +kernel
theorem dX0_drop_31 : decode cX0_drop 31 = .ok (.getfield 9, 3) := by decide +kernel
theorem dX0_drop_34 : decode cX0_drop 34 = .ok (.iload_n 3, 1) := by decide +kernel
theorem dX0_drop_35 : decode cX0_drop 35 = .ok (.iaload, 1) := by decide +kernel
theorem dX0_drop_36 : decode cX0_drop 36 = .ok (.iastore, 1) := by decide +kernel
theorem dX0_drop_37 : decode cX0_drop 37 = .ok (.iinc 3 1, 3) := by decide +kernel
theorem dX0_drop_40 : decode cX0_drop 40 = .ok (.goto (-25), 3) := by decide +kernel
theorem dX0_drop_43 : decode cX0_drop 43 = .ok (.aload_n 0, 1) := by decide +kernel
theorem dX0_drop_44 : decode cX0_drop 44 = .ok (.dup, 1) := by decide +kernel
theorem dX0_drop_45 : decode cX0_drop 45 = .ok (.getfield 15, 3) := by decide +kernel
theorem dX0_drop_48 : decode cX0_drop 48 = .ok (.iconst 1, 1) := by decide +kernel
theorem dX0_drop_49 : decode cX0_drop 49 = .ok (.isub, 1) := by decide +kernel
theorem dX0_drop_50 : decode cX0_drop 50 = .ok (.putfield 15, 3) := by decide +kernel
theorem dX0_drop_53 : decode cX0_drop 53 = .ok (.return_, 1) := by decide +kernel
theorem dX0_placeOf_0 : decode cX0_placeOf 0 = .ok (.iconst 0, 1) := by decide +kernel
theorem dX0_placeOf_1 : decode cX0_placeOf 1 = .ok (.istore_n 2, 1) := by decide +kernel
theorem dX0_placeOf_2 : decode cX0_placeOf 2 = .ok (.iload_n 2, 1) := by decide +kernel
theorem dX0_placeOf_3 : decode cX0_placeOf 3 = .ok (.aload_n 0, 1) := by decide +kernel
theorem dX0_placeOf_4 : decode cX0_placeOf 4 = .ok (.getfield 15, 3) := by decide +kernel
theorem dX0_placeOf_7 : decode cX0_placeOf 7 = .ok (.if_icmp .ge 21, 3) := by decide +kernel
theorem dX0_placeOf_10 : decode cX0_placeOf 10 = .ok (.aload_n 0, 1) := by decide +kernel
theorem dX0_placeOf_11 : decode cX0_placeOf 11 = .ok (.getfield 9, 3) := by decide +kernel
theorem dX0_placeOf_14 : decode cX0_placeOf 14 = .ok (.iload_n 2, 1) := by decide +kernel
theorem dX0_placeOf_15 : decode cX0_placeOf 15 = .ok (.iaload, 1) := by decide +kernel
theorem dX0_placeOf_16 : decode cX0_placeOf 16 = .ok (.iload_n 1, 1) := by decide +kernel
theorem dX0_placeOf_17 : decode cX0_placeOf 17 = .ok (.if_icmp .ne 5, 3) := by decide +kernel
theorem dX0_placeOf_20 : decode cX0_placeOf 20 = .ok (.iload_n 2, 1) := by decide +kernel
theorem dX0_placeOf_21 : decode cX0_placeOf 21 = .ok (.ireturn, 1) := by decide +kernel
theorem dX0_placeOf_22 : decode cX0_placeOf 22 = .ok (.iinc 2 1, 3) := by decide +kernel
theorem dX0_placeOf_25 : decode cX0_placeOf 25 = .ok (.goto (-23), 3) := by decide +kernel
theorem dX0_placeOf_28 : decode cX0_placeOf 28 = .ok (.iconst (-1), 1) := by decide +kernel
theorem dX0_placeOf_29 : decode cX0_placeOf 29 = .ok (.ireturn, 1) := by decide +kernel
set_option maxRecDepth 20000 in
theorem ggX1_init_X0_init : GoodIn wsX1_init wsX0_init := goodIn_r _ [19, 20, 2, 3, 21, 22, 23, 24, 25] (by decide +kernel) (by decide +kernel)
set_option maxRecDepth 20000 in
theorem gX1_init_X0_init_n11 : GoodIn wsX1_init (wsX0_init) := ggX1_init_X0_init
theorem dX1_init_0 : decode cX1_init 0 = .ok (.aload_n 0, 1) := by decide +kernel
theorem dX1_init_1 : decode cX1_init 1 = .ok (.invokespecial 3, 3) := by decide +kernel
theorem dX1_init_4 : decode cX1_init 4 = .ok (.aload_n 0, 1) := by decide +kernel
theorem dX1_init_5 : decode cX1_init 5 = .ok (.new 9, 3) := by decide +kernel
theorem dX1_init_8 : decode cX1_init 8 = .ok (.dup, 1) := by decide +kernel
theorem dX1_init_9 : decode cX1_init 9 = .ok (.invokespecial 11, 3) := by decide +kernel
theorem dX1_init_12 : decode cX1_init 12 = .ok (.putfield 12, 3) := by decide +kernel
theorem dX1_init_15 : decode cX1_init 15 = .ok (.aload_n 0, 1) := by decide +kernel
theorem dX1_init_16 : decode cX1_init 16 = .ok (.iconst 0, 1) := by decide +kernel
theorem dX1_init_17 : decode cX1_init 17 = .ok (.putfield 18, 3) := by decide +kernel
theorem dX1_init_20 : decode cX1_init 20 = .ok (.aload_n 0, 1) := by decide +kernel
theorem dX1_init_21 : decode cX1_init 21 = .ok (.iconst 0, 1) := by decide +kernel
theorem dX1_init_22 : decode cX1_init 22 = .ok (.putfield 22, 3) := by decide +kernel
theorem dX1_init_25 : decode cX1_init 25 = .ok (.aload_n 0, 1) := by decide +kernel
theorem dX1_init_26 : decode cX1_init 26 = .ok (.iconst (-1), 1) := by decide +kernel
theorem dX1_init_27 : decode cX1_init 27 = .ok (.putfield 25, 3) := by decide +kernel
theorem dX1_init_30 : decode cX1_init 30 = .ok (.aload_n 0, 1) := by decide +kernel
theorem dX1_init_31 : decode cX1_init 31 = .ok (.iconst 0, 1) := by decide +kernel
theorem dX1_init_32 : decode cX1_init 32 = .ok (.putfield 28, 3) := by decide +kernel
theorem dX1_init_35 : decode cX1_init 35 = .ok (.aload_n 0, 1) := by decide +kernel
theorem dX1_init_36 : decode cX1_init 36 = .ok (.iconst (-1), 1) := by decide +kernel
theorem dX1_init_37 : decode cX1_init 37 = .ok (.putfield 31, 3) := by decide +kernel
theorem dX1_init_40 : decode cX1_init 40 = .ok (.aload_n 0, 1) := by decide +kernel
theorem dX1_init_41 : decode cX1_init 41 = .ok (.iconst 0, 1) := by decide +kernel
theorem dX1_init_42 : decode cX1_init 42 = .ok (.putfield 34, 3) := by decide +kernel
theorem dX1_init_45 : decode cX1_init 45 = .ok (.aload_n 0, 1) := by decide +kernel
theorem dX1_init_46 : decode cX1_init 46 = .ok (.iconst 0, 1) := by decide +kernel
theorem dX1_init_47 : decode cX1_init 47 = .ok (.putfield 37, 3) := by decide +kernel
theorem dX1_init_50 : decode cX1_init 50 = .ok (.aload_n 0, 1) := by decide +kernel
theorem dX1_init_51 : decode cX1_init 51 = .ok (.iconst (-1), 1) := by decide +kernel
theorem dX1_init_52 : decode cX1_init 52 = .ok (.putfield 40, 3) := by decide +kernel
theorem dX1_init_55 : decode cX1_init 55 = .ok (.aload_n 0, 1) := by decide +kernel
theorem dX1_init_56 : decode cX1_init 56 = .ok (.iconst 0, 1) := by decide +kernel
theorem dX1_init_57 : decode cX1_init 57 = .ok (.putfield 43, 3) := by decide +kernel
theorem dX1_init_60 : decode cX1_init 60 = .ok (.aload_n 0, 1) := by decide +kernel
theorem dX1_init_61 : decode cX1_init 61 = .ok (.iload_n 1, 1) := by decide +kernel
theorem dX1_init_62 : decode cX1_init 62 = .ok (.putfield 46, 3) := by decide +kernel
theorem dX1_init_65 : decode cX1_init 65 = .ok (.return_, 1) := by decide +kernel
theorem dX1_bit_0 : decode cX1_bit 0 = .ok (.iconst 1, 1) := by decide +kernel
theorem dX1_bit_1 : decode cX1_bit 1 = .ok (.aload_n 0, 1) := by decide +kernel
theorem dX1_bit_2 : decode cX1_bit 2 = .ok (.getfield 46, 3) := by decide +kernel
theorem dX1_bit_5 : decode cX1_bit 5 = .ok (.ishl, 1) := by decide +kernel
theorem dX1_bit_6 : decode cX1_bit 6 = .ok (.ireturn, 1) := by decide +kernel
theorem dX1_isQueued_0 : decode cX1_isQueued 0 = .ok (.aload_n 0, 1) := by decide +kernel
theorem dX1_isQueued_1 : decode cX1_isQueued 1 = .ok (.getfield 25, 3) := by decide +kernel
theorem dX1_isQueued_4 : decode cX1_isQueued 4 = .ok (.iconst (-1), 1) := by decide +kernel
theorem dX1_isQueued_5 : decode cX1_isQueued 5 = .ok (.if_icmp .eq 7, 3) := by decide +kernel
theorem dX1_isQueued_8 : decode cX1_isQueued 8 = .ok (.iconst 1, 1) := by decide +kernel
theorem dX1_isQueued_9 : decode cX1_isQueued 9 = .ok (.goto 4, 3) := by decide +kernel
theorem dX1_isQueued_12 : decode cX1_isQueued 12 = .ok (.iconst 0, 1) := by decide +kernel
theorem dX1_isQueued_13 : decode cX1_isQueued 13 = .ok (.ireturn, 1) := by decide +kernel
theorem dX1_isAheadOf_0 : decode cX1_isAheadOf 0 = .ok (.aload_n 0, 1) := by decide +kernel
theorem dX1_isAheadOf_1 : decode cX1_isAheadOf 1 = .ok (.getfield 22, 3) := by decide +kernel
theorem dX1_isAheadOf_4 : decode cX1_isAheadOf 4 = .ok (.aload_n 1, 1) := by decide +kernel
theorem dX1_isAheadOf_5 : decode cX1_isAheadOf 5 = .ok (.getfield 22, 3) := by decide +kernel
theorem dX1_isAheadOf_8 : decode cX1_isAheadOf 8 = .ok (.if_icmp .gt 25, 3) := by decide +kernel
theorem dX1_isAheadOf_11 : decode cX1_isAheadOf 11 = .ok (.aload_n 0, 1) := by decide +kernel
theorem dX1_isAheadOf_12 : decode cX1_isAheadOf 12 = .ok (.getfield 22, 3) := by decide +kernel
theorem dX1_isAheadOf_15 : decode cX1_isAheadOf 15 = .ok (.aload_n 1, 1) := by decide +kernel
theorem dX1_isAheadOf_16 : decode cX1_isAheadOf 16 = .ok (.getfield 22, 3) := by decide +kernel
theorem dX1_isAheadOf_19 : decode cX1_isAheadOf 19 = .ok (.if_icmp .ne 18, 3) := by decide +kernel
theorem dX1_isAheadOf_22 : decode cX1_isAheadOf 22 = .ok (.aload_n 0, 1) := by decide +kernel
theorem dX1_isAheadOf_23 : decode cX1_isAheadOf 23 = .ok (.getfield 37, 3) := by decide +kernel
theorem dX1_isAheadOf_26 : decode cX1_isAheadOf 26 = .ok (.aload_n 1, 1) := by decide +kernel
theorem dX1_isAheadOf_27 : decode cX1_isAheadOf 27 = .ok (.getfield 37, 3) := by decide +kernel
theorem dX1_isAheadOf_30 : decode cX1_isAheadOf 30 = .ok (.if_icmp .ge 7, 3) := by decide +kernel
theorem dX1_isAheadOf_33 : decode cX1_isAheadOf 33 = .ok (.iconst 1, 1) := by decide +kernel
theorem dX1_isAheadOf_34 : decode cX1_isAheadOf 34 = .ok (.goto 4, 3) := by decide +kernel
theorem dX1_isAheadOf_37 : decode cX1_isAheadOf 37 = .ok (.iconst 0, 1) := by decide +kernel
theorem dX1_isAheadOf_38 : decode cX1_isAheadOf 38 = .ok (.ireturn, 1) := by decide +kernel
theorem dX1_timesOutBefore_0 : decode cX1_timesOutBefore 0 = .ok (.aload_n 0, 1) := by decide +kernel
theorem dX1_timesOutBefore_1 : decode cX1_timesOutBefore 1 = .ok (.getfield 31, 3) := by decide +kernel
theorem dX1_timesOutBefore_4 : decode cX1_timesOutBefore 4 = .ok (.aload_n 1, 1) := by decide +kernel
theorem dX1_timesOutBefore_5 : decode cX1_timesOutBefore 5 = .ok (.getfield 31, 3) := by decide +kernel
theorem dX1_timesOutBefore_8 : decode cX1_timesOutBefore 8 = .ok (.if_icmp .lt 25, 3) := by decide +kernel
theorem dX1_timesOutBefore_11 : decode cX1_timesOutBefore 11 = .ok (.aload_n 0, 1) := by decide +kernel
theorem dX1_timesOutBefore_12 : decode cX1_timesOutBefore 12 = .ok (.getfield 31, 3) := by decide +kernel
theorem dX1_timesOutBefore_15 : decode cX1_timesOutBefore 15 = .ok (.aload_n 1, 1) := by decide +kernel
theorem dX1_timesOutBefore_16 : decode cX1_timesOutBefore 16 = .ok (.getfield 31, 3) := by decide +kernel
theorem dX1_timesOutBefore_19 : decode cX1_timesOutBefore 19 = .ok (.if_icmp .ne 18, 3) := by decide +kernel
theorem dX1_timesOutBefore_22 : decode cX1_timesOutBefore 22 = .ok (.aload_n 0, 1) := by decide +kernel
theorem dX1_timesOutBefore_23 : decode cX1_timesOutBefore 23 = .ok (.getfield 34, 3) := by decide +kernel
theorem dX1_timesOutBefore_26 : decode cX1_timesOutBefore 26 = .ok (.aload_n 1, 1) := by decide +kernel
theorem dX1_timesOutBefore_27 : decode cX1_timesOutBefore 27 = .ok (.getfield 34, 3) := by decide +kernel
theorem dX1_timesOutBefore_30 : decode cX1_timesOutBefore 30 = .ok (.if_icmp .ge 7, 3) := by decide +kernel
theorem dX1_timesOutBefore_33 : decode cX1_timesOutBefore 33 = .ok (.iconst 1, 1) := by decide +kernel
theorem dX1_timesOutBefore_34 : decode cX1_timesOutBefore 34 = .ok (.goto 4, 3) := by decide +kernel
theorem dX1_timesOutBefore_37 : decode cX1_timesOutBefore 37 = .ok (.iconst 0, 1) := by decide +kernel
theorem dX1_timesOutBefore_38 : decode cX1_timesOutBefore 38 = .ok (.ireturn, 1) := by decide +kernel
set_option maxRecDepth 20000 in
theorem ggX2_init_X1_init : GoodIn wsX2_init wsX1_init := goodIn_r _ [16, 17, 2, 3, 18, 19, 20, 21, 22, 23, 24, 25, 26, 27, 28, 29, 30, 31, 32, 33, 34, 4, 35, 36, 54, 55, 43, 44, 45, 46, 47, 48, 49, 50, 51, 52, 53] (by decide +kernel) (by decide +kernel)
set_option maxRecDepth 20000 in
theorem gX2_init_X1_init : GoodIn wsX2_init (wsX1_init) := ggX2_init_X1_init
theorem dX2_init_0 : decode cX2_init 0 = .ok (.aload_n 0, 1) := by decide +kernel
theorem dX2_init_1 : decode cX2_init 1 = .ok (.invokespecial 1, 3) := by decide +kernel
theorem dX2_init_4 : decode cX2_init 4 = .ok (.aload_n 0, 1) := by decide +kernel
theorem dX2_init_5 : decode cX2_init 5 = .ok (.bipush 16, 2) := by decide +kernel
theorem dX2_init_7 : decode cX2_init 7 = .ok (.newarray .int, 2) := by decide +kernel
theorem dX2_init_9 : decode cX2_init 9 = .ok (.putfield 9, 3) := by decide +kernel
theorem dX2_init_12 : decode cX2_init 12 = .ok (.aload_n 0, 1) := by decide +kernel
theorem dX2_init_13 : decode cX2_init 13 = .ok (.bipush 8, 2) := by decide +kernel
theorem dX2_init_15 : decode cX2_init 15 = .ok (.anewarray 13, 3) := by decide +kernel
theorem dX2_init_18 : decode cX2_init 18 = .ok (.putfield 15, 3) := by decide +kernel
theorem dX2_init_21 : decode cX2_init 21 = .ok (.aload_n 0, 1) := by decide +kernel
theorem dX2_init_22 : decode cX2_init 22 = .ok (.iconst 0, 1) := by decide +kernel
theorem dX2_init_23 : decode cX2_init 23 = .ok (.putfield 19, 3) := by decide +kernel
theorem dX2_init_26 : decode cX2_init 26 = .ok (.aload_n 0, 1) := by decide +kernel
theorem dX2_init_27 : decode cX2_init 27 = .ok (.iconst 0, 1) := by decide +kernel
theorem dX2_init_28 : decode cX2_init 28 = .ok (.putfield 23, 3) := by decide +kernel
theorem dX2_init_31 : decode cX2_init 31 = .ok (.aload_n 0, 1) := by decide +kernel
theorem dX2_init_32 : decode cX2_init 32 = .ok (.iconst 0, 1) := by decide +kernel
theorem dX2_init_33 : decode cX2_init 33 = .ok (.putfield 26, 3) := by decide +kernel
theorem dX2_init_36 : decode cX2_init 36 = .ok (.aload_n 0, 1) := by decide +kernel
theorem dX2_init_37 : decode cX2_init 37 = .ok (.iconst 0, 1) := by decide +kernel
theorem dX2_init_38 : decode cX2_init 38 = .ok (.putfield 29, 3) := by decide +kernel
theorem dX2_init_41 : decode cX2_init 41 = .ok (.iconst 0, 1) := by decide +kernel
theorem dX2_init_42 : decode cX2_init 42 = .ok (.istore_n 1, 1) := by decide +kernel
theorem dX2_init_43 : decode cX2_init 43 = .ok (.iload_n 1, 1) := by decide +kernel
theorem dX2_init_44 : decode cX2_init 44 = .ok (.bipush 8, 2) := by decide +kernel
theorem dX2_init_46 : decode cX2_init 46 = .ok (.if_icmp .ge 23, 3) := by decide +kernel
theorem dX2_init_49 : decode cX2_init 49 = .ok (.aload_n 0, 1) := by decide +kernel
theorem dX2_init_50 : decode cX2_init 50 = .ok (.getfield 15, 3) := by decide +kernel
theorem dX2_init_53 : decode cX2_init 53 = .ok (.iload_n 1, 1) := by decide +kernel
theorem dX2_init_54 : decode cX2_init 54 = .ok (.new 13, 3) := by decide +kernel
theorem dX2_init_57 : decode cX2_init 57 = .ok (.dup, 1) := by decide +kernel
theorem dX2_init_58 : decode cX2_init 58 = .ok (.iload_n 1, 1) := by decide +kernel
theorem dX2_init_59 : decode cX2_init 59 = .ok (.invokespecial 32, 3) := by decide +kernel
theorem dX2_init_62 : decode cX2_init 62 = .ok (.aastore, 1) := by decide +kernel
theorem dX2_init_63 : decode cX2_init 63 = .ok (.iinc 1 1, 3) := by decide +kernel
theorem dX2_init_66 : decode cX2_init 66 = .ok (.goto (-23), 3) := by decide +kernel
theorem dX2_init_69 : decode cX2_init 69 = .ok (.return_, 1) := by decide +kernel
set_option maxRecDepth 20000 in
theorem ggX2_store_X2_taskOf : GoodIn wsX2_store wsX2_taskOf := goodIn_ca (goodIn_r _ [6, 7, 8, 9, 22, 23, 24, 25, 26, 27] (by decide +kernel) (by decide +kernel)) (goodIn_sub (fun _ h => List.mem_cons_of_mem _ (List.mem_append_left _ (List.mem_append_right _ h))) (by decide +kernel))
set_option maxRecDepth 20000 in
theorem gX2_store_X2_taskOf : GoodIn wsX2_store (wsV RX2 35 RX2 yX2_taskOf wsX2_taskOf) := goodIn_app (goodIn_of _ (by decide +kernel)) ggX2_store_X2_taskOf
set_option maxRecDepth 20000 in
theorem ggX2_store_X2_requireAddress : GoodIn wsX2_store wsX2_requireAddress := goodIn_ca (goodIn_r _ [12, 7, 8, 13, 14, 5, 15] (by decide +kernel) (by decide +kernel)) (goodIn_sub (fun _ h => List.mem_cons_of_mem _ (List.mem_append_left _ (List.mem_append_right _ h))) (by decide +kernel))
set_option maxRecDepth 20000 in
theorem gX2_store_X2_requireAddress : GoodIn wsX2_store (va_wsS RX2 39 yX2_requireAddress wsX2_requireAddress) := goodIn_app (goodIn_of _ (by decide +kernel)) ggX2_store_X2_requireAddress
set_option maxRecDepth 20000 in
theorem ggX2_store_X2_requireRunning : GoodIn wsX2_store wsX2_requireRunning := goodIn_ca (goodIn_r _ [18, 19, 20, 21, 28, 29, 30, 31, 32, 33, 34, 35, 36, 37, 38] (by decide +kernel) (by decide +kernel)) (goodIn_sub (fun _ h => List.mem_cons_of_mem _ (List.mem_append_right _ h)) (by decide +kernel))
set_option maxRecDepth 20000 in
theorem gX2_store_X2_requireRunning : GoodIn wsX2_store (va_wsS RX2 42 yX2_requireRunning wsX2_requireRunning) := goodIn_app (goodIn_of _ (by decide +kernel)) ggX2_store_X2_requireRunning
theorem dX2_store_0 : decode cX2_store 0 = .ok (.aload_n 0, 1) := by decide +kernel
theorem dX2_store_1 : decode cX2_store 1 = .ok (.iload_n 1, 1) := by decide +kernel
theorem dX2_store_2 : decode cX2_store 2 = .ok (.invokevirtual 35, 3) := by decide +kernel
theorem dX2_store_5 : decode cX2_store 5 = .ok (.astore 4, 2) := by decide +kernel
theorem dX2_store_7 : decode cX2_store 7 = .ok (.iload_n 2, 1) := by decide +kernel
theorem dX2_store_8 : decode cX2_store 8 = .ok (.invokestatic 39, 3) := by decide +kernel
theorem dX2_store_11 : decode cX2_store 11 = .ok (.aload 4, 2) := by decide +kernel
theorem dX2_store_13 : decode cX2_store 13 = .ok (.invokestatic 42, 3) := by decide +kernel
theorem dX2_store_16 : decode cX2_store 16 = .ok (.aload_n 0, 1) := by decide +kernel
theorem dX2_store_17 : decode cX2_store 17 = .ok (.getfield 9, 3) := by decide +kernel
theorem dX2_store_20 : decode cX2_store 20 = .ok (.iload_n 2, 1) := by decide +kernel
theorem dX2_store_21 : decode cX2_store 21 = .ok (.iaload, 1) := by decide +kernel
theorem dX2_store_22 : decode cX2_store 22 = .ok (.istore 5, 2) := by decide +kernel
theorem dX2_store_24 : decode cX2_store 24 = .ok (.aload_n 0, 1) := by decide +kernel
theorem dX2_store_25 : decode cX2_store 25 = .ok (.getfield 9, 3) := by decide +kernel
theorem dX2_store_28 : decode cX2_store 28 = .ok (.iload_n 2, 1) := by decide +kernel
theorem dX2_store_29 : decode cX2_store 29 = .ok (.iload_n 3, 1) := by decide +kernel
theorem dX2_store_30 : decode cX2_store 30 = .ok (.iastore, 1) := by decide +kernel
theorem dX2_store_31 : decode cX2_store 31 = .ok (.iload 5, 2) := by decide +kernel
theorem dX2_store_33 : decode cX2_store 33 = .ok (.ireturn, 1) := by decide +kernel
set_option maxRecDepth 20000 in
theorem ggX2_compareAndSet_X2_taskOf : GoodIn wsX2_compareAndSet wsX2_taskOf := goodIn_ca (goodIn_r _ [6, 7, 8, 9, 22, 23, 24, 25, 26, 27] (by decide +kernel) (by decide +kernel)) (goodIn_sub (fun _ h => List.mem_cons_of_mem _ (List.mem_append_left _ (List.mem_append_right _ h))) (by decide +kernel))
set_option maxRecDepth 20000 in
theorem gX2_compareAndSet_X2_taskOf : GoodIn wsX2_compareAndSet (wsV RX2 35 RX2 yX2_taskOf wsX2_taskOf) := goodIn_app (goodIn_of _ (by decide +kernel)) ggX2_compareAndSet_X2_taskOf
set_option maxRecDepth 20000 in
theorem ggX2_compareAndSet_X2_requireAddress : GoodIn wsX2_compareAndSet wsX2_requireAddress := goodIn_ca (goodIn_r _ [12, 7, 8, 13, 14, 5, 15] (by decide +kernel) (by decide +kernel)) (goodIn_sub (fun _ h => List.mem_cons_of_mem _ (List.mem_append_left _ (List.mem_append_right _ h))) (by decide +kernel))
set_option maxRecDepth 20000 in
theorem gX2_compareAndSet_X2_requireAddress : GoodIn wsX2_compareAndSet (va_wsS RX2 39 yX2_requireAddress wsX2_requireAddress) := goodIn_app (goodIn_of _ (by decide +kernel)) ggX2_compareAndSet_X2_requireAddress
set_option maxRecDepth 20000 in
theorem ggX2_compareAndSet_X2_requireRunning : GoodIn wsX2_compareAndSet wsX2_requireRunning := goodIn_ca (goodIn_r _ [18, 19, 20, 21, 28, 29, 30, 31, 32, 33, 34, 35, 36, 37, 38] (by decide +kernel) (by decide +kernel)) (goodIn_sub (fun _ h => List.mem_cons_of_mem _ (List.mem_append_right _ h)) (by decide +kernel))
set_option maxRecDepth 20000 in
theorem gX2_compareAndSet_X2_requireRunning : GoodIn wsX2_compareAndSet (va_wsS RX2 42 yX2_requireRunning wsX2_requireRunning) := goodIn_app (goodIn_of _ (by decide +kernel)) ggX2_compareAndSet_X2_requireRunning
theorem dX2_compareAndSet_0 : decode cX2_compareAndSet 0 = .ok (.aload_n 0, 1) := by decide +kernel
theorem dX2_compareAndSet_1 : decode cX2_compareAndSet 1 = .ok (.iload_n 1, 1) := by decide +kernel
theorem dX2_compareAndSet_2 : decode cX2_compareAndSet 2 = .ok (.invokevirtual 35, 3) := by decide +kernel
theorem dX2_compareAndSet_5 : decode cX2_compareAndSet 5 = .ok (.astore 5, 2) := by decide +kernel
theorem dX2_compareAndSet_7 : decode cX2_compareAndSet 7 = .ok (.iload_n 2, 1) := by decide +kernel
theorem dX2_compareAndSet_8 : decode cX2_compareAndSet 8 = .ok (.invokestatic 39, 3) := by decide +kernel
theorem dX2_compareAndSet_11 : decode cX2_compareAndSet 11 = .ok (.aload 5, 2) := by decide +kernel
theorem dX2_compareAndSet_13 : decode cX2_compareAndSet 13 = .ok (.invokestatic 42, 3) := by decide +kernel
theorem dX2_compareAndSet_16 : decode cX2_compareAndSet 16 = .ok (.aload_n 0, 1) := by decide +kernel
theorem dX2_compareAndSet_17 : decode cX2_compareAndSet 17 = .ok (.getfield 9, 3) := by decide +kernel
theorem dX2_compareAndSet_20 : decode cX2_compareAndSet 20 = .ok (.iload_n 2, 1) := by decide +kernel
theorem dX2_compareAndSet_21 : decode cX2_compareAndSet 21 = .ok (.iaload, 1) := by decide +kernel
theorem dX2_compareAndSet_22 : decode cX2_compareAndSet 22 = .ok (.iload_n 3, 1) := by decide +kernel
theorem dX2_compareAndSet_23 : decode cX2_compareAndSet 23 = .ok (.if_icmp .eq 5, 3) := by decide +kernel
theorem dX2_compareAndSet_26 : decode cX2_compareAndSet 26 = .ok (.iconst 0, 1) := by decide +kernel
theorem dX2_compareAndSet_27 : decode cX2_compareAndSet 27 = .ok (.ireturn, 1) := by decide +kernel
theorem dX2_compareAndSet_28 : decode cX2_compareAndSet 28 = .ok (.aload_n 0, 1) := by decide +kernel
theorem dX2_compareAndSet_29 : decode cX2_compareAndSet 29 = .ok (.getfield 9, 3) := by decide +kernel
theorem dX2_compareAndSet_32 : decode cX2_compareAndSet 32 = .ok (.iload_n 2, 1) := by decide +kernel
theorem dX2_compareAndSet_33 : decode cX2_compareAndSet 33 = .ok (.iload 4, 2) := by decide +kernel
theorem dX2_compareAndSet_35 : decode cX2_compareAndSet 35 = .ok (.iastore, 1) := by decide +kernel
theorem dX2_compareAndSet_36 : decode cX2_compareAndSet 36 = .ok (.iconst 1, 1) := by decide +kernel
theorem dX2_compareAndSet_37 : decode cX2_compareAndSet 37 = .ok (.ireturn, 1) := by decide +kernel
set_option maxRecDepth 20000 in
theorem ggX2_fetchAdd_X2_taskOf : GoodIn wsX2_fetchAdd wsX2_taskOf := goodIn_ca (goodIn_r _ [6, 7, 8, 9, 22, 23, 24, 25, 26, 27] (by decide +kernel) (by decide +kernel)) (goodIn_sub (fun _ h => List.mem_cons_of_mem _ (List.mem_append_left _ (List.mem_append_right _ h))) (by decide +kernel))
set_option maxRecDepth 20000 in
theorem gX2_fetchAdd_X2_taskOf : GoodIn wsX2_fetchAdd (wsV RX2 35 RX2 yX2_taskOf wsX2_taskOf) := goodIn_app (goodIn_of _ (by decide +kernel)) ggX2_fetchAdd_X2_taskOf
set_option maxRecDepth 20000 in
theorem ggX2_fetchAdd_X2_requireAddress : GoodIn wsX2_fetchAdd wsX2_requireAddress := goodIn_ca (goodIn_r _ [12, 7, 8, 13, 14, 5, 15] (by decide +kernel) (by decide +kernel)) (goodIn_sub (fun _ h => List.mem_cons_of_mem _ (List.mem_append_left _ (List.mem_append_right _ h))) (by decide +kernel))
set_option maxRecDepth 20000 in
theorem gX2_fetchAdd_X2_requireAddress : GoodIn wsX2_fetchAdd (va_wsS RX2 39 yX2_requireAddress wsX2_requireAddress) := goodIn_app (goodIn_of _ (by decide +kernel)) ggX2_fetchAdd_X2_requireAddress
set_option maxRecDepth 20000 in
theorem ggX2_fetchAdd_X2_requireRunning : GoodIn wsX2_fetchAdd wsX2_requireRunning := goodIn_ca (goodIn_r _ [18, 19, 20, 21, 28, 29, 30, 31, 32, 33, 34, 35, 36, 37, 38] (by decide +kernel) (by decide +kernel)) (goodIn_sub (fun _ h => List.mem_cons_of_mem _ (List.mem_append_right _ h)) (by decide +kernel))
set_option maxRecDepth 20000 in
theorem gX2_fetchAdd_X2_requireRunning : GoodIn wsX2_fetchAdd (va_wsS RX2 42 yX2_requireRunning wsX2_requireRunning) := goodIn_app (goodIn_of _ (by decide +kernel)) ggX2_fetchAdd_X2_requireRunning
theorem dX2_fetchAdd_0 : decode cX2_fetchAdd 0 = .ok (.aload_n 0, 1) := by decide +kernel
theorem dX2_fetchAdd_1 : decode cX2_fetchAdd 1 = .ok (.iload_n 1, 1) := by decide +kernel
theorem dX2_fetchAdd_2 : decode cX2_fetchAdd 2 = .ok (.invokevirtual 35, 3) := by decide +kernel
theorem dX2_fetchAdd_5 : decode cX2_fetchAdd 5 = .ok (.astore 4, 2) := by decide +kernel
theorem dX2_fetchAdd_7 : decode cX2_fetchAdd 7 = .ok (.iload_n 2, 1) := by decide +kernel
theorem dX2_fetchAdd_8 : decode cX2_fetchAdd 8 = .ok (.invokestatic 39, 3) := by decide +kernel
theorem dX2_fetchAdd_11 : decode cX2_fetchAdd 11 = .ok (.aload 4, 2) := by decide +kernel
theorem dX2_fetchAdd_13 : decode cX2_fetchAdd 13 = .ok (.invokestatic 42, 3) := by decide +kernel
theorem dX2_fetchAdd_16 : decode cX2_fetchAdd 16 = .ok (.aload_n 0, 1) := by decide +kernel
theorem dX2_fetchAdd_17 : decode cX2_fetchAdd 17 = .ok (.getfield 9, 3) := by decide +kernel
theorem dX2_fetchAdd_20 : decode cX2_fetchAdd 20 = .ok (.iload_n 2, 1) := by decide +kernel
theorem dX2_fetchAdd_21 : decode cX2_fetchAdd 21 = .ok (.iaload, 1) := by decide +kernel
theorem dX2_fetchAdd_22 : decode cX2_fetchAdd 22 = .ok (.istore 5, 2) := by decide +kernel
theorem dX2_fetchAdd_24 : decode cX2_fetchAdd 24 = .ok (.aload_n 0, 1) := by decide +kernel
theorem dX2_fetchAdd_25 : decode cX2_fetchAdd 25 = .ok (.getfield 9, 3) := by decide +kernel
theorem dX2_fetchAdd_28 : decode cX2_fetchAdd 28 = .ok (.iload_n 2, 1) := by decide +kernel
theorem dX2_fetchAdd_29 : decode cX2_fetchAdd 29 = .ok (.iload 5, 2) := by decide +kernel
theorem dX2_fetchAdd_31 : decode cX2_fetchAdd 31 = .ok (.iload_n 3, 1) := by decide +kernel
theorem dX2_fetchAdd_32 : decode cX2_fetchAdd 32 = .ok (.iadd, 1) := by decide +kernel
theorem dX2_fetchAdd_33 : decode cX2_fetchAdd 33 = .ok (.iastore, 1) := by decide +kernel
theorem dX2_fetchAdd_34 : decode cX2_fetchAdd 34 = .ok (.iload 5, 2) := by decide +kernel
theorem dX2_fetchAdd_36 : decode cX2_fetchAdd 36 = .ok (.ireturn, 1) := by decide +kernel
set_option maxRecDepth 20000 in
theorem ggX2_word_X2_requireAddress : GoodIn wsX2_word wsX2_requireAddress := goodIn_ca (goodIn_r _ [5, 6, 7, 8, 9, 4, 10] (by decide +kernel) (by decide +kernel)) (goodIn_sub (fun _ h => List.mem_cons_of_mem _ (List.mem_append_right _ h)) (by decide +kernel))
set_option maxRecDepth 20000 in
theorem gX2_word_X2_requireAddress : GoodIn wsX2_word (va_wsS RX2 39 yX2_requireAddress wsX2_requireAddress) := goodIn_app (goodIn_of _ (by decide +kernel)) ggX2_word_X2_requireAddress
theorem dX2_word_0 : decode cX2_word 0 = .ok (.iload_n 1, 1) := by decide +kernel
theorem dX2_word_1 : decode cX2_word 1 = .ok (.invokestatic 39, 3) := by decide +kernel
theorem dX2_word_4 : decode cX2_word 4 = .ok (.aload_n 0, 1) := by decide +kernel
theorem dX2_word_5 : decode cX2_word 5 = .ok (.getfield 9, 3) := by decide +kernel
theorem dX2_word_8 : decode cX2_word 8 = .ok (.iload_n 1, 1) := by decide +kernel
theorem dX2_word_9 : decode cX2_word 9 = .ok (.iaload, 1) := by decide +kernel
theorem dX2_word_10 : decode cX2_word 10 = .ok (.ireturn, 1) := by decide +kernel
set_option maxRecDepth 20000 in
theorem ggX2_await_X2_taskOf : GoodIn wsX2_await wsX2_taskOf := goodIn_ca (goodIn_r _ [6, 7, 8, 9, 43, 44, 45, 46, 47, 48] (by decide +kernel) (by decide +kernel)) (goodIn_sub (fun _ h => List.mem_cons_of_mem _ (List.mem_append_left _ (List.mem_append_left _ (List.mem_append_right _ h)))) (by decide +kernel))
set_option maxRecDepth 20000 in
theorem gX2_await_X2_taskOf : GoodIn wsX2_await (wsV RX2 35 RX2 yX2_taskOf wsX2_taskOf) := goodIn_app (goodIn_of _ (by decide +kernel)) ggX2_await_X2_taskOf
set_option maxRecDepth 20000 in
theorem ggX2_await_X2_requireAddress : GoodIn wsX2_await wsX2_requireAddress := goodIn_ca (goodIn_r _ [12, 7, 8, 13, 14, 5, 15] (by decide +kernel) (by decide +kernel)) (goodIn_sub (fun _ h => List.mem_cons_of_mem _ (List.mem_append_left _ (List.mem_append_left _ (List.mem_append_right _ h)))) (by decide +kernel))
set_option maxRecDepth 20000 in
theorem gX2_await_X2_requireAddress : GoodIn wsX2_await (va_wsS RX2 39 yX2_requireAddress wsX2_requireAddress) := goodIn_app (goodIn_of _ (by decide +kernel)) ggX2_await_X2_requireAddress
set_option maxRecDepth 20000 in
theorem ggX2_await_X2_requireBetween : GoodIn wsX2_await wsX2_requireBetween := goodIn_ca (goodIn_r _ [18, 19, 20] (by decide +kernel) (by decide +kernel)) (goodIn_sub (fun _ h => List.mem_cons_of_mem _ (List.mem_append_left _ (List.mem_append_right _ h))) (by decide +kernel))
set_option maxRecDepth 20000 in
theorem gX2_await_X2_requireBetween : GoodIn wsX2_await (va_wsS RX2 46 yX2_requireBetween wsX2_requireBetween) := goodIn_app (goodIn_of _ (by decide +kernel)) ggX2_await_X2_requireBetween
set_option maxRecDepth 20000 in
theorem ggX2_await_X2_requireRunning : GoodIn wsX2_await wsX2_requireRunning := goodIn_ca (goodIn_r _ [23, 24, 25, 26, 49, 50, 51, 52, 53, 54, 55, 56, 57, 58, 59] (by decide +kernel) (by decide +kernel)) (goodIn_sub (fun _ h => List.mem_cons_of_mem _ (List.mem_append_right _ h)) (by decide +kernel))
set_option maxRecDepth 20000 in
theorem gX2_await_X2_requireRunning : GoodIn wsX2_await (va_wsS RX2 42 yX2_requireRunning wsX2_requireRunning) := goodIn_app (goodIn_of _ (by decide +kernel)) ggX2_await_X2_requireRunning
set_option maxRecDepth 20000 in
theorem ggX2_await_X2_beginWait : GoodIn wsX2_await wsX2_beginWait := goodIn_r _ [30, 26, 31, 32, 33, 34, 35, 36, 37, 38, 5, 39, 40, 41, 42, 49, 50, 51, 52, 53, 54, 55, 56, 57, 58, 59, 43, 44, 45, 46, 47, 48] (by decide +kernel) (by decide +kernel)
set_option maxRecDepth 20000 in
theorem gX2_await_X2_beginWait : GoodIn wsX2_await (wsV RX2 50 RX2 yX2_beginWait wsX2_beginWait) := goodIn_app (goodIn_of _ (by decide +kernel)) ggX2_await_X2_beginWait
theorem dX2_await_0 : decode cX2_await 0 = .ok (.aload_n 0, 1) := by decide +kernel
theorem dX2_await_1 : decode cX2_await 1 = .ok (.iload_n 1, 1) := by decide +kernel
theorem dX2_await_2 : decode cX2_await 2 = .ok (.invokevirtual 35, 3) := by decide +kernel
theorem dX2_await_5 : decode cX2_await 5 = .ok (.astore 6, 2) := by decide +kernel
theorem dX2_await_7 : decode cX2_await 7 = .ok (.iload_n 2, 1) := by decide +kernel
theorem dX2_await_8 : decode cX2_await 8 = .ok (.invokestatic 39, 3) := by decide +kernel
theorem dX2_await_11 : decode cX2_await 11 = .ok (.iload 4, 2) := by decide +kernel
theorem dX2_await_13 : decode cX2_await 13 = .ok (.iconst 1, 1) := by decide +kernel
theorem dX2_await_14 : decode cX2_await 14 = .ok (.sipush 255, 3) := by decide +kernel
theorem dX2_await_17 : decode cX2_await 17 = .ok (.invokestatic 46, 3) := by decide +kernel
theorem dX2_await_20 : decode cX2_await 20 = .ok (.iload 5, 2) := by decide +kernel
theorem dX2_await_22 : decode cX2_await 22 = .ok (.iconst 0, 1) := by decide +kernel
theorem dX2_await_23 : decode cX2_await 23 = .ok (.sipush 10000, 3) := by decide +kernel
theorem dX2_await_26 : decode cX2_await 26 = .ok (.invokestatic 46, 3) := by decide +kernel
theorem dX2_await_29 : decode cX2_await 29 = .ok (.aload 6, 2) := by decide +kernel
theorem dX2_await_31 : decode cX2_await 31 = .ok (.invokestatic 42, 3) := by decide +kernel
theorem dX2_await_34 : decode cX2_await 34 = .ok (.aload_n 0, 1) := by decide +kernel
theorem dX2_await_35 : decode cX2_await 35 = .ok (.getfield 9, 3) := by decide +kernel
theorem dX2_await_38 : decode cX2_await 38 = .ok (.iload_n 2, 1) := by decide +kernel
theorem dX2_await_39 : decode cX2_await 39 = .ok (.iaload, 1) := by decide +kernel
theorem dX2_await_40 : decode cX2_await 40 = .ok (.iload_n 3, 1) := by decide +kernel
theorem dX2_await_41 : decode cX2_await 41 = .ok (.if_icmp .eq 5, 3) := by decide +kernel
theorem dX2_await_44 : decode cX2_await 44 = .ok (.iconst 0, 1) := by decide +kernel
theorem dX2_await_45 : decode cX2_await 45 = .ok (.ireturn, 1) := by decide +kernel
theorem dX2_await_46 : decode cX2_await 46 = .ok (.aload_n 0, 1) := by decide +kernel
theorem dX2_await_47 : decode cX2_await 47 = .ok (.aload 6, 2) := by decide +kernel
theorem dX2_await_49 : decode cX2_await 49 = .ok (.iconst 1, 1) := by decide +kernel
theorem dX2_await_50 : decode cX2_await 50 = .ok (.iload_n 2, 1) := by decide +kernel
theorem dX2_await_51 : decode cX2_await 51 = .ok (.iload 4, 2) := by decide +kernel
theorem dX2_await_53 : decode cX2_await 53 = .ok (.iload 5, 2) := by decide +kernel
theorem dX2_await_55 : decode cX2_await 55 = .ok (.invokevirtual 50, 3) := by decide +kernel
theorem dX2_await_58 : decode cX2_await 58 = .ok (.iconst 1, 1) := by decide +kernel
theorem dX2_await_59 : decode cX2_await 59 = .ok (.ireturn, 1) := by decide +kernel
set_option maxRecDepth 20000 in
theorem ggX2_wake_X2_taskOf : GoodIn wsX2_wake wsX2_taskOf := goodIn_ca (goodIn_r _ [5, 6, 7, 8, 61, 62, 63, 64, 65, 66] (by decide +kernel) (by decide +kernel)) (goodIn_sub (fun _ h => List.mem_cons_of_mem _ (List.mem_append_left _ (List.mem_append_left _ (List.mem_append_right _ h)))) (by decide +kernel))
set_option maxRecDepth 20000 in
theorem gX2_wake_X2_taskOf : GoodIn wsX2_wake (wsV RX2 35 RX2 yX2_taskOf wsX2_taskOf) := goodIn_app (goodIn_of _ (by decide +kernel)) ggX2_wake_X2_taskOf
set_option maxRecDepth 20000 in
theorem ggX2_wake_X2_requireAddress : GoodIn wsX2_wake wsX2_requireAddress := goodIn_ca (goodIn_r _ [11, 6, 7, 12, 13, 4, 14] (by decide +kernel) (by decide +kernel)) (goodIn_sub (fun _ h => List.mem_cons_of_mem _ (List.mem_append_left _ (List.mem_append_left _ (List.mem_append_right _ h)))) (by decide +kernel))
set_option maxRecDepth 20000 in
theorem gX2_wake_X2_requireAddress : GoodIn wsX2_wake (va_wsS RX2 39 yX2_requireAddress wsX2_requireAddress) := goodIn_app (goodIn_of _ (by decide +kernel)) ggX2_wake_X2_requireAddress
set_option maxRecDepth 20000 in
theorem ggX2_wake_X2_requireBetween : GoodIn wsX2_wake wsX2_requireBetween := goodIn_ca (goodIn_r _ [17, 18, 19] (by decide +kernel) (by decide +kernel)) (goodIn_sub (fun _ h => List.mem_cons_of_mem _ (List.mem_append_left _ (List.mem_append_right _ h))) (by decide +kernel))
set_option maxRecDepth 20000 in
theorem gX2_wake_X2_requireBetween : GoodIn wsX2_wake (va_wsS RX2 46 yX2_requireBetween wsX2_requireBetween) := goodIn_app (goodIn_of _ (by decide +kernel)) ggX2_wake_X2_requireBetween
set_option maxRecDepth 20000 in
theorem ggX2_wake_X2_requireRunning : GoodIn wsX2_wake wsX2_requireRunning := goodIn_ca (goodIn_r _ [22, 23, 24, 25, 67, 68, 69, 70, 71, 72, 73, 74, 75, 76, 77] (by decide +kernel) (by decide +kernel)) (goodIn_sub (fun _ h => List.mem_cons_of_mem _ (List.mem_append_right _ h)) (by decide +kernel))
set_option maxRecDepth 20000 in
theorem gX2_wake_X2_requireRunning : GoodIn wsX2_wake (va_wsS RX2 42 yX2_requireRunning wsX2_requireRunning) := goodIn_app (goodIn_of _ (by decide +kernel)) ggX2_wake_X2_requireRunning
set_option maxRecDepth 20000 in
theorem ggX2_wake_X2_wakeFirst : GoodIn wsX2_wake wsX2_wakeFirst := goodIn_r _ [29, 30, 31, 32, 4, 33, 8, 34, 25, 35, 36, 37, 38, 39, 40, 41, 42, 43, 44, 45, 46, 47, 48, 49, 50, 51, 52, 53, 54, 55, 56, 12, 13, 14, 57, 58, 59, 60, 61, 62, 63, 64, 65, 66, 67, 68, 69, 70, 71, 72, 73, 74, 75, 76, 77] (by decide +kernel) (by decide +kernel)
set_option maxRecDepth 20000 in
theorem gX2_wake_X2_wakeFirst : GoodIn wsX2_wake (wsV RX2 54 RX2 yX2_wakeFirst wsX2_wakeFirst) := goodIn_app (goodIn_of _ (by decide +kernel)) ggX2_wake_X2_wakeFirst
theorem dX2_wake_0 : decode cX2_wake 0 = .ok (.aload_n 0, 1) := by decide +kernel
theorem dX2_wake_1 : decode cX2_wake 1 = .ok (.iload_n 1, 1) := by decide +kernel
theorem dX2_wake_2 : decode cX2_wake 2 = .ok (.invokevirtual 35, 3) := by decide +kernel
theorem dX2_wake_5 : decode cX2_wake 5 = .ok (.astore 5, 2) := by decide +kernel
theorem dX2_wake_7 : decode cX2_wake 7 = .ok (.iload_n 2, 1) := by decide +kernel
theorem dX2_wake_8 : decode cX2_wake 8 = .ok (.invokestatic 39, 3) := by decide +kernel
theorem dX2_wake_11 : decode cX2_wake 11 = .ok (.iload_n 3, 1) := by decide +kernel
theorem dX2_wake_12 : decode cX2_wake 12 = .ok (.iconst 1, 1) := by decide +kernel
theorem dX2_wake_13 : decode cX2_wake 13 = .ok (.bipush 8, 2) := by decide +kernel
theorem dX2_wake_15 : decode cX2_wake 15 = .ok (.invokestatic 46, 3) := by decide +kernel
theorem dX2_wake_18 : decode cX2_wake 18 = .ok (.iload 4, 2) := by decide +kernel
theorem dX2_wake_20 : decode cX2_wake 20 = .ok (.iconst 1, 1) := by decide +kernel
theorem dX2_wake_21 : decode cX2_wake 21 = .ok (.sipush 255, 3) := by decide +kernel
theorem dX2_wake_24 : decode cX2_wake 24 = .ok (.invokestatic 46, 3) := by decide +kernel
theorem dX2_wake_27 : decode cX2_wake 27 = .ok (.aload 5, 2) := by decide +kernel
theorem dX2_wake_29 : decode cX2_wake 29 = .ok (.invokestatic 42, 3) := by decide +kernel
theorem dX2_wake_32 : decode cX2_wake 32 = .ok (.aload_n 0, 1) := by decide +kernel
theorem dX2_wake_33 : decode cX2_wake 33 = .ok (.iload_n 2, 1) := by decide +kernel
theorem dX2_wake_34 : decode cX2_wake 34 = .ok (.iload_n 3, 1) := by decide +kernel
theorem dX2_wake_35 : decode cX2_wake 35 = .ok (.iload 4, 2) := by decide +kernel
theorem dX2_wake_37 : decode cX2_wake 37 = .ok (.invokevirtual 54, 3) := by decide +kernel
theorem dX2_wake_40 : decode cX2_wake 40 = .ok (.ireturn, 1) := by decide +kernel
set_option maxRecDepth 20000 in
theorem ggX2_requeue_X2_taskOf : GoodIn wsX2_requeue wsX2_taskOf := goodIn_ca (goodIn_r _ [8, 9, 10, 11, 71, 72, 73, 74, 75, 76] (by decide +kernel) (by decide +kernel)) (goodIn_sub (fun _ h => List.mem_cons_of_mem _ (List.mem_append_left _ (List.mem_append_right _ h))) (by decide +kernel))
set_option maxRecDepth 20000 in
theorem gX2_requeue_X2_taskOf : GoodIn wsX2_requeue (wsV RX2 35 RX2 yX2_taskOf wsX2_taskOf) := goodIn_app (goodIn_of _ (by decide +kernel)) ggX2_requeue_X2_taskOf
set_option maxRecDepth 20000 in
theorem ggX2_requeue_X2_requireAddress : GoodIn wsX2_requeue wsX2_requireAddress := goodIn_ca (goodIn_r _ [14, 9, 10, 15, 16, 7, 17] (by decide +kernel) (by decide +kernel)) (goodIn_sub (fun _ h => List.mem_cons_of_mem _ (List.mem_append_left _ (List.mem_append_right _ h))) (by decide +kernel))
set_option maxRecDepth 20000 in
theorem gX2_requeue_X2_requireAddress : GoodIn wsX2_requeue (va_wsS RX2 39 yX2_requireAddress wsX2_requireAddress) := goodIn_app (goodIn_of _ (by decide +kernel)) ggX2_requeue_X2_requireAddress
set_option maxRecDepth 20000 in
theorem ggX2_requeue_X2_requireBetween : GoodIn wsX2_requeue wsX2_requireBetween := goodIn_ca (goodIn_r _ [20, 1, 2] (by decide +kernel) (by decide +kernel)) (goodIn_sub (fun _ h => List.mem_cons_of_mem _ (List.mem_append_left _ (List.mem_append_left _ (List.mem_append_right _ h)))) (by decide +kernel))
set_option maxRecDepth 20000 in
theorem gX2_requeue_X2_requireBetween : GoodIn wsX2_requeue (va_wsS RX2 46 yX2_requireBetween wsX2_requireBetween) := goodIn_app (goodIn_of _ (by decide +kernel)) ggX2_requeue_X2_requireBetween
set_option maxRecDepth 20000 in
theorem ggX2_requeue_X2_requireRunning : GoodIn wsX2_requeue wsX2_requireRunning := goodIn_ca (goodIn_r _ [23, 24, 25, 26, 77, 78, 79, 80, 81, 82, 83, 84, 85, 86, 87] (by decide +kernel) (by decide +kernel)) (goodIn_sub (fun _ h => List.mem_cons_of_mem _ (List.mem_append_right _ h)) (by decide +kernel))
set_option maxRecDepth 20000 in
theorem gX2_requeue_X2_requireRunning : GoodIn wsX2_requeue (va_wsS RX2 42 yX2_requireRunning wsX2_requireRunning) := goodIn_app (goodIn_of _ (by decide +kernel)) ggX2_requeue_X2_requireRunning
set_option maxRecDepth 20000 in
theorem ggX2_requeue_X2_wakeFirst : GoodIn wsX2_requeue wsX2_wakeFirst := goodIn_r _ [30, 31, 32, 33, 7, 34, 11, 35, 26, 36, 37, 38, 39, 40, 41, 42, 43, 44, 45, 46, 47, 48, 49, 50, 51, 52, 53, 54, 55, 3, 56, 15, 16, 17, 57, 58, 59, 60, 71, 72, 73, 74, 75, 76, 77, 78, 79, 80, 81, 82, 83, 84, 85, 86, 87] (by decide +kernel) (by decide +kernel)
set_option maxRecDepth 20000 in
theorem gX2_requeue_X2_wakeFirst : GoodIn wsX2_requeue (wsV RX2 54 RX2 yX2_wakeFirst wsX2_wakeFirst) := goodIn_app (goodIn_of _ (by decide +kernel)) ggX2_requeue_X2_wakeFirst
set_option maxRecDepth 20000 in
theorem ggX2_requeue_X2_moveFirst : GoodIn wsX2_requeue wsX2_moveFirst := goodIn_r _ [64, 31, 32, 33, 7, 34, 11, 35, 26, 36, 37, 38, 39, 40, 41, 42, 43, 65, 66, 67, 68, 69, 70, 71, 72, 73, 74, 75, 76, 77, 78, 79, 80, 81, 82, 83, 84, 85, 86, 87] (by decide +kernel) (by decide +kernel)
set_option maxRecDepth 20000 in
theorem gX2_requeue_X2_moveFirst : GoodIn wsX2_requeue (wsV RX2 65 RX2 yX2_moveFirst wsX2_moveFirst) := goodIn_app (goodIn_of _ (by decide +kernel)) ggX2_requeue_X2_moveFirst
theorem dX2_requeue_0 : decode cX2_requeue 0 = .ok (.aload_n 0, 1) := by decide +kernel
theorem dX2_requeue_1 : decode cX2_requeue 1 = .ok (.iload_n 1, 1) := by decide +kernel
theorem dX2_requeue_2 : decode cX2_requeue 2 = .ok (.invokevirtual 35, 3) := by decide +kernel
theorem dX2_requeue_5 : decode cX2_requeue 5 = .ok (.astore 7, 2) := by decide +kernel
theorem dX2_requeue_7 : decode cX2_requeue 7 = .ok (.iload_n 2, 1) := by decide +kernel
theorem dX2_requeue_8 : decode cX2_requeue 8 = .ok (.invokestatic 39, 3) := by decide +kernel
theorem dX2_requeue_11 : decode cX2_requeue 11 = .ok (.iload 5, 2) := by decide +kernel
theorem dX2_requeue_13 : decode cX2_requeue 13 = .ok (.invokestatic 39, 3) := by decide +kernel
theorem dX2_requeue_16 : decode cX2_requeue 16 = .ok (.iload_n 2, 1) := by decide +kernel
theorem dX2_requeue_17 : decode cX2_requeue 17 = .ok (.iload 5, 2) := by decide +kernel
theorem dX2_requeue_19 : decode cX2_requeue 19 = .ok (.if_icmp .ne 13, 3) := by decide +kernel
theorem dX2_requeue_22 : decode cX2_requeue 22 = .ok (.new 58, 3) := by decide +kernel
theorem dX2_requeue_25 : decode cX2_requeue 25 = .ok (.dup, 1) := by decide +kernel
theorem dX2_requeue_26 : decode cX2_requeue 26 = .ok (.ldc 60, 2) := by decide +kernel
theorem dX2_requeue_28 : decode cX2_requeue 28 = .ok (.invokespecial 62, 3) := by decide +kernel
theorem dX2_requeue_31 : decode cX2_requeue 31 = .ok (.athrow, 1) := by decide +kernel
theorem dX2_requeue_32 : decode cX2_requeue 32 = .ok (.iload 4, 2) := by decide +kernel
theorem dX2_requeue_34 : decode cX2_requeue 34 = .ok (.iconst 0, 1) := by decide +kernel
theorem dX2_requeue_35 : decode cX2_requeue 35 = .ok (.bipush 8, 2) := by decide +kernel
theorem dX2_requeue_37 : decode cX2_requeue 37 = .ok (.invokestatic 46, 3) := by decide +kernel
theorem dX2_requeue_40 : decode cX2_requeue 40 = .ok (.iload 6, 2) := by decide +kernel
theorem dX2_requeue_42 : decode cX2_requeue 42 = .ok (.iconst 0, 1) := by decide +kernel
theorem dX2_requeue_43 : decode cX2_requeue 43 = .ok (.bipush 8, 2) := by decide +kernel
theorem dX2_requeue_45 : decode cX2_requeue 45 = .ok (.invokestatic 46, 3) := by decide +kernel
theorem dX2_requeue_48 : decode cX2_requeue 48 = .ok (.aload 7, 2) := by decide +kernel
theorem dX2_requeue_50 : decode cX2_requeue 50 = .ok (.invokestatic 42, 3) := by decide +kernel
theorem dX2_requeue_53 : decode cX2_requeue 53 = .ok (.aload_n 0, 1) := by decide +kernel
theorem dX2_requeue_54 : decode cX2_requeue 54 = .ok (.getfield 9, 3) := by decide +kernel
theorem dX2_requeue_57 : decode cX2_requeue 57 = .ok (.iload_n 2, 1) := by decide +kernel
theorem dX2_requeue_58 : decode cX2_requeue 58 = .ok (.iaload, 1) := by decide +kernel
theorem dX2_requeue_59 : decode cX2_requeue 59 = .ok (.iload_n 3, 1) := by decide +kernel
theorem dX2_requeue_60 : decode cX2_requeue 60 = .ok (.if_icmp .eq 5, 3) := by decide +kernel
theorem dX2_requeue_63 : decode cX2_requeue 63 = .ok (.iconst (-1), 1) := by decide +kernel
theorem dX2_requeue_64 : decode cX2_requeue 64 = .ok (.ireturn, 1) := by decide +kernel
theorem dX2_requeue_65 : decode cX2_requeue 65 = .ok (.aload_n 0, 1) := by decide +kernel
theorem dX2_requeue_66 : decode cX2_requeue 66 = .ok (.iload_n 2, 1) := by decide +kernel
theorem dX2_requeue_67 : decode cX2_requeue 67 = .ok (.iload 4, 2) := by decide +kernel
theorem dX2_requeue_69 : decode cX2_requeue 69 = .ok (.sipush 255, 3) := by decide +kernel
theorem dX2_requeue_72 : decode cX2_requeue 72 = .ok (.invokevirtual 54, 3) := by decide +kernel
theorem dX2_requeue_75 : decode cX2_requeue 75 = .ok (.istore 8, 2) := by decide +kernel
theorem dX2_requeue_77 : decode cX2_requeue 77 = .ok (.iload 8, 2) := by decide +kernel
theorem dX2_requeue_79 : decode cX2_requeue 79 = .ok (.aload_n 0, 1) := by decide +kernel
theorem dX2_requeue_80 : decode cX2_requeue 80 = .ok (.iload_n 2, 1) := by decide +kernel
theorem dX2_requeue_81 : decode cX2_requeue 81 = .ok (.iload 5, 2) := by decide +kernel
theorem dX2_requeue_83 : decode cX2_requeue 83 = .ok (.iload 6, 2) := by decide +kernel
theorem dX2_requeue_85 : decode cX2_requeue 85 = .ok (.invokevirtual 65, 3) := by decide +kernel
theorem dX2_requeue_88 : decode cX2_requeue 88 = .ok (.iadd, 1) := by decide +kernel
theorem dX2_requeue_89 : decode cX2_requeue 89 = .ok (.ireturn, 1) := by decide +kernel
set_option maxRecDepth 20000 in
theorem ggX2_lock_X2_taskOf : GoodIn wsX2_lock wsX2_taskOf := goodIn_ca (goodIn_r _ [9, 10, 11, 12, 85, 86, 87, 88, 89, 90] (by decide +kernel) (by decide +kernel)) (goodIn_sub (fun _ h => List.mem_cons_of_mem _ (List.mem_append_left _ (List.mem_append_left _ (List.mem_append_right _ h)))) (by decide +kernel))
set_option maxRecDepth 20000 in
theorem gX2_lock_X2_taskOf : GoodIn wsX2_lock (wsV RX2 35 RX2 yX2_taskOf wsX2_taskOf) := goodIn_app (goodIn_of _ (by decide +kernel)) ggX2_lock_X2_taskOf
set_option maxRecDepth 20000 in
theorem ggX2_lock_X2_requireAddress : GoodIn wsX2_lock wsX2_requireAddress := goodIn_ca (goodIn_r _ [15, 10, 11, 16, 17, 8, 18] (by decide +kernel) (by decide +kernel)) (goodIn_sub (fun _ h => List.mem_cons_of_mem _ (List.mem_append_left _ (List.mem_append_left _ (List.mem_append_right _ h)))) (by decide +kernel))
set_option maxRecDepth 20000 in
theorem gX2_lock_X2_requireAddress : GoodIn wsX2_lock (va_wsS RX2 39 yX2_requireAddress wsX2_requireAddress) := goodIn_app (goodIn_of _ (by decide +kernel)) ggX2_lock_X2_requireAddress
set_option maxRecDepth 20000 in
theorem ggX2_lock_X2_requireBetween : GoodIn wsX2_lock wsX2_requireBetween := goodIn_ca (goodIn_r _ [21, 22, 23] (by decide +kernel) (by decide +kernel)) (goodIn_sub (fun _ h => List.mem_cons_of_mem _ (List.mem_append_left _ (List.mem_append_right _ h))) (by decide +kernel))
set_option maxRecDepth 20000 in
theorem gX2_lock_X2_requireBetween : GoodIn wsX2_lock (va_wsS RX2 46 yX2_requireBetween wsX2_requireBetween) := goodIn_app (goodIn_of _ (by decide +kernel)) ggX2_lock_X2_requireBetween
set_option maxRecDepth 20000 in
theorem ggX2_lock_X2_requireRunning : GoodIn wsX2_lock wsX2_requireRunning := goodIn_ca (goodIn_r _ [26, 27, 28, 3, 91, 92, 93, 94, 95, 96, 97, 98, 99, 100, 101] (by decide +kernel) (by decide +kernel)) (goodIn_sub (fun _ h => List.mem_cons_of_mem _ (List.mem_append_right _ h)) (by decide +kernel))
set_option maxRecDepth 20000 in
theorem gX2_lock_X2_requireRunning : GoodIn wsX2_lock (va_wsS RX2 42 yX2_requireRunning wsX2_requireRunning) := goodIn_app (goodIn_of _ (by decide +kernel)) ggX2_lock_X2_requireRunning
set_option maxRecDepth 20000 in
theorem ggX2_lock_X2_giveLock : GoodIn wsX2_lock wsX2_giveLock := goodIn_r _ [32, 4, 1, 33, 34, 16, 17, 8, 18, 35, 36, 37, 38, 39, 40, 41, 42, 12, 43, 3, 44, 45, 46, 47, 48, 49, 50, 51, 52, 53, 54, 55, 56, 57, 58, 59, 60, 61, 62, 85, 86, 87, 88, 89, 90, 91, 92, 93, 94, 95, 96, 97, 98, 99, 100, 101, 102, 103] (by decide +kernel) (by decide +kernel)
set_option maxRecDepth 20000 in
theorem gX2_lock_X2_giveLock : GoodIn wsX2_lock (wsV RX2 69 RX2 yX2_giveLock wsX2_giveLock) := goodIn_app (goodIn_of _ (by decide +kernel)) ggX2_lock_X2_giveLock
set_option maxRecDepth 20000 in
theorem ggX2_lock_X2_ownerAt : GoodIn wsX2_lock wsX2_ownerAt := goodIn_r _ [66, 1, 12, 16, 17, 8, 18, 85, 86, 87, 88, 89, 90] (by decide +kernel) (by decide +kernel)
set_option maxRecDepth 20000 in
theorem gX2_lock_X2_ownerAt : GoodIn wsX2_lock (wsV RX2 73 RX2 yX2_ownerAt wsX2_ownerAt) := goodIn_app (goodIn_of _ (by decide +kernel)) ggX2_lock_X2_ownerAt
set_option maxRecDepth 20000 in
theorem ggX2_lock_X2_isHeldUpBy : GoodIn wsX2_lock wsX2_isHeldUpBy := goodIn_r _ [70, 3, 43, 63, 64, 65, 8, 66, 1, 12, 16, 17, 18, 91, 92, 93, 94, 95, 96, 97, 98, 99, 100, 101, 85, 86, 87, 88, 89, 90] (by decide +kernel) (by decide +kernel)
set_option maxRecDepth 20000 in
theorem gX2_lock_X2_isHeldUpBy : GoodIn wsX2_lock (wsV RX2 79 RX2 yX2_isHeldUpBy wsX2_isHeldUpBy) := goodIn_app (goodIn_of _ (by decide +kernel)) ggX2_lock_X2_isHeldUpBy
set_option maxRecDepth 20000 in
theorem ggX2_lock_X2_beginWait : GoodIn wsX2_lock wsX2_beginWait := goodIn_r _ [74, 3, 44, 75, 76, 77, 78, 79, 80, 81, 8, 82, 43, 83, 84, 91, 92, 93, 94, 95, 96, 97, 98, 99, 100, 101, 85, 86, 87, 88, 89, 90] (by decide +kernel) (by decide +kernel)
set_option maxRecDepth 20000 in
theorem gX2_lock_X2_beginWait : GoodIn wsX2_lock (wsV RX2 50 RX2 yX2_beginWait wsX2_beginWait) := goodIn_app (goodIn_of _ (by decide +kernel)) ggX2_lock_X2_beginWait
theorem dX2_lock_0 : decode cX2_lock 0 = .ok (.aload_n 0, 1) := by decide +kernel
theorem dX2_lock_1 : decode cX2_lock 1 = .ok (.iload_n 1, 1) := by decide +kernel
theorem dX2_lock_2 : decode cX2_lock 2 = .ok (.invokevirtual 35, 3) := by decide +kernel
theorem dX2_lock_5 : decode cX2_lock 5 = .ok (.astore 4, 2) := by decide +kernel
theorem dX2_lock_7 : decode cX2_lock 7 = .ok (.iload_n 2, 1) := by decide +kernel
theorem dX2_lock_8 : decode cX2_lock 8 = .ok (.invokestatic 39, 3) := by decide +kernel
theorem dX2_lock_11 : decode cX2_lock 11 = .ok (.iload_n 3, 1) := by decide +kernel
theorem dX2_lock_12 : decode cX2_lock 12 = .ok (.iconst 0, 1) := by decide +kernel
theorem dX2_lock_13 : decode cX2_lock 13 = .ok (.sipush 10000, 3) := by decide +kernel
theorem dX2_lock_16 : decode cX2_lock 16 = .ok (.invokestatic 46, 3) := by decide +kernel
theorem dX2_lock_19 : decode cX2_lock 19 = .ok (.aload 4, 2) := by decide +kernel
theorem dX2_lock_21 : decode cX2_lock 21 = .ok (.invokestatic 42, 3) := by decide +kernel
theorem dX2_lock_24 : decode cX2_lock 24 = .ok (.aload_n 0, 1) := by decide +kernel
theorem dX2_lock_25 : decode cX2_lock 25 = .ok (.getfield 9, 3) := by decide +kernel
theorem dX2_lock_28 : decode cX2_lock 28 = .ok (.iload_n 2, 1) := by decide +kernel
theorem dX2_lock_29 : decode cX2_lock 29 = .ok (.iaload, 1) := by decide +kernel
theorem dX2_lock_30 : decode cX2_lock 30 = .ok (.istore 5, 2) := by decide +kernel
theorem dX2_lock_32 : decode cX2_lock 32 = .ok (.iload 5, 2) := by decide +kernel
theorem dX2_lock_34 : decode cX2_lock 34 = .ok (.sipush 255, 3) := by decide +kernel
theorem dX2_lock_37 : decode cX2_lock 37 = .ok (.iand, 1) := by decide +kernel
theorem dX2_lock_38 : decode cX2_lock 38 = .ok (.ifCond .ne 29, 3) := by decide +kernel
theorem dX2_lock_41 : decode cX2_lock 41 = .ok (.aload_n 0, 1) := by decide +kernel
theorem dX2_lock_42 : decode cX2_lock 42 = .ok (.aload 4, 2) := by decide +kernel
theorem dX2_lock_44 : decode cX2_lock 44 = .ok (.iload_n 2, 1) := by decide +kernel
theorem dX2_lock_45 : decode cX2_lock 45 = .ok (.iload 5, 2) := by decide +kernel
theorem dX2_lock_47 : decode cX2_lock 47 = .ok (.ldc 68, 2) := by decide +kernel
theorem dX2_lock_49 : decode cX2_lock 49 = .ok (.iand, 1) := by decide +kernel
theorem dX2_lock_50 : decode cX2_lock 50 = .ok (.invokevirtual 69, 3) := by decide +kernel
theorem dX2_lock_53 : decode cX2_lock 53 = .ok (.iload 5, 2) := by decide +kernel
theorem dX2_lock_55 : decode cX2_lock 55 = .ok (.ldc 68, 2) := by decide +kernel
theorem dX2_lock_57 : decode cX2_lock 57 = .ok (.iand, 1) := by decide +kernel
theorem dX2_lock_58 : decode cX2_lock 58 = .ok (.ifCond .ne 7, 3) := by decide +kernel
theorem dX2_lock_61 : decode cX2_lock 61 = .ok (.iconst 0, 1) := by decide +kernel
theorem dX2_lock_62 : decode cX2_lock 62 = .ok (.goto 4, 3) := by decide +kernel
theorem dX2_lock_65 : decode cX2_lock 65 = .ok (.iconst 1, 1) := by decide +kernel
theorem dX2_lock_66 : decode cX2_lock 66 = .ok (.ireturn, 1) := by decide +kernel
theorem dX2_lock_67 : decode cX2_lock 67 = .ok (.aload_n 0, 1) := by decide +kernel
theorem dX2_lock_68 : decode cX2_lock 68 = .ok (.iload_n 2, 1) := by decide +kernel
theorem dX2_lock_69 : decode cX2_lock 69 = .ok (.invokevirtual 73, 3) := by decide +kernel
theorem dX2_lock_72 : decode cX2_lock 72 = .ok (.astore 6, 2) := by decide +kernel
theorem dX2_lock_74 : decode cX2_lock 74 = .ok (.aload 6, 2) := by decide +kernel
theorem dX2_lock_76 : decode cX2_lock 76 = .ok (.ifnull 12, 3) := by decide +kernel
theorem dX2_lock_79 : decode cX2_lock 79 = .ok (.aload 6, 2) := by decide +kernel
theorem dX2_lock_81 : decode cX2_lock 81 = .ok (.getfield 76, 3) := by decide +kernel
theorem dX2_lock_84 : decode cX2_lock 84 = .ok (.iconst 3, 1) := by decide +kernel
theorem dX2_lock_85 : decode cX2_lock 85 = .ok (.if_icmp .ne 5, 3) := by decide +kernel
theorem dX2_lock_88 : decode cX2_lock 88 = .ok (.iconst 4, 1) := by decide +kernel
theorem dX2_lock_89 : decode cX2_lock 89 = .ok (.ireturn, 1) := by decide +kernel
theorem dX2_lock_90 : decode cX2_lock 90 = .ok (.aload 6, 2) := by decide +kernel
theorem dX2_lock_92 : decode cX2_lock 92 = .ok (.aload 4, 2) := by decide +kernel
theorem dX2_lock_94 : decode cX2_lock 94 = .ok (.if_acmp .eq 14, 3) := by decide +kernel
theorem dX2_lock_97 : decode cX2_lock 97 = .ok (.aload_n 0, 1) := by decide +kernel
theorem dX2_lock_98 : decode cX2_lock 98 = .ok (.aload 6, 2) := by decide +kernel
theorem dX2_lock_100 : decode cX2_lock 100 = .ok (.aload 4, 2) := by decide +kernel
theorem dX2_lock_102 : decode cX2_lock 102 = .ok (.invokevirtual 79, 3) := by decide +kernel
theorem dX2_lock_105 : decode cX2_lock 105 = .ok (.ifCond .eq 5, 3) := by decide +kernel
theorem dX2_lock_108 : decode cX2_lock 108 = .ok (.iconst 3, 1) := by decide +kernel
theorem dX2_lock_109 : decode cX2_lock 109 = .ok (.ireturn, 1) := by decide +kernel
theorem dX2_lock_110 : decode cX2_lock 110 = .ok (.aload_n 0, 1) := by decide +kernel
theorem dX2_lock_111 : decode cX2_lock 111 = .ok (.getfield 9, 3) := by decide +kernel
theorem dX2_lock_114 : decode cX2_lock 114 = .ok (.iload_n 2, 1) := by decide +kernel
theorem dX2_lock_115 : decode cX2_lock 115 = .ok (.iload 5, 2) := by decide +kernel
theorem dX2_lock_117 : decode cX2_lock 117 = .ok (.ldc 83, 2) := by decide +kernel
theorem dX2_lock_119 : decode cX2_lock 119 = .ok (.ior, 1) := by decide +kernel
theorem dX2_lock_120 : decode cX2_lock 120 = .ok (.iastore, 1) := by decide +kernel
theorem dX2_lock_121 : decode cX2_lock 121 = .ok (.aload_n 0, 1) := by decide +kernel
theorem dX2_lock_122 : decode cX2_lock 122 = .ok (.aload 4, 2) := by decide +kernel
theorem dX2_lock_124 : decode cX2_lock 124 = .ok (.iconst 2, 1) := by decide +kernel
theorem dX2_lock_125 : decode cX2_lock 125 = .ok (.iload_n 2, 1) := by decide +kernel
theorem dX2_lock_126 : decode cX2_lock 126 = .ok (.sipush 255, 3) := by decide +kernel
theorem dX2_lock_129 : decode cX2_lock 129 = .ok (.iload_n 3, 1) := by decide +kernel
theorem dX2_lock_130 : decode cX2_lock 130 = .ok (.invokevirtual 50, 3) := by decide +kernel
theorem dX2_lock_133 : decode cX2_lock 133 = .ok (.iconst 2, 1) := by decide +kernel
theorem dX2_lock_134 : decode cX2_lock 134 = .ok (.ireturn, 1) := by decide +kernel
set_option maxRecDepth 20000 in
theorem ggX2_unlock_X2_taskOf : GoodIn wsX2_unlock wsX2_taskOf := goodIn_ca (goodIn_r _ [8, 9, 10, 11, 94, 95, 96, 97, 98, 99] (by decide +kernel) (by decide +kernel)) (goodIn_sub (fun _ h => List.mem_cons_of_mem _ (List.mem_append_right _ h)) (by decide +kernel))
set_option maxRecDepth 20000 in
theorem gX2_unlock_X2_taskOf : GoodIn wsX2_unlock (wsV RX2 35 RX2 yX2_taskOf wsX2_taskOf) := goodIn_app (goodIn_of _ (by decide +kernel)) ggX2_unlock_X2_taskOf
set_option maxRecDepth 20000 in
theorem ggX2_unlock_X2_requireAddress : GoodIn wsX2_unlock wsX2_requireAddress := goodIn_ca (goodIn_r _ [14, 9, 10, 15, 16, 7, 17] (by decide +kernel) (by decide +kernel)) (goodIn_sub (fun _ h => List.mem_cons_of_mem _ (List.mem_append_right _ h)) (by decide +kernel))
set_option maxRecDepth 20000 in
theorem gX2_unlock_X2_requireAddress : GoodIn wsX2_unlock (va_wsS RX2 39 yX2_requireAddress wsX2_requireAddress) := goodIn_app (goodIn_of _ (by decide +kernel)) ggX2_unlock_X2_requireAddress
set_option maxRecDepth 20000 in
theorem ggX2_unlock_X2_requireRunning : GoodIn wsX2_unlock wsX2_requireRunning := goodIn_ca (goodIn_r _ [20, 1, 2, 21, 83, 84, 85, 86, 87, 88, 89, 90, 91, 92, 93] (by decide +kernel) (by decide +kernel)) (goodIn_sub (fun _ h => List.mem_cons_of_mem _ (List.mem_append_left _ (List.mem_append_right _ h))) (by decide +kernel))
set_option maxRecDepth 20000 in
theorem gX2_unlock_X2_requireRunning : GoodIn wsX2_unlock (va_wsS RX2 42 yX2_requireRunning wsX2_requireRunning) := goodIn_app (goodIn_of _ (by decide +kernel)) ggX2_unlock_X2_requireRunning
set_option maxRecDepth 20000 in
theorem ggX2_unlock_X2_ownerAt : GoodIn wsX2_unlock wsX2_ownerAt := goodIn_r _ [25, 26, 11, 15, 16, 7, 17, 94, 95, 96, 97, 98, 99] (by decide +kernel) (by decide +kernel)
set_option maxRecDepth 20000 in
theorem gX2_unlock_X2_ownerAt : GoodIn wsX2_unlock (wsV RX2 73 RX2 yX2_ownerAt wsX2_ownerAt) := goodIn_app (goodIn_of _ (by decide +kernel)) ggX2_unlock_X2_ownerAt
set_option maxRecDepth 20000 in
theorem ggX2_unlock_X0_drop : GoodIn wsX2_unlock wsX0_drop := goodIn_r _ [31, 32, 33, 34, 35, 36, 30, 37, 100, 101] (by decide +kernel) (by decide +kernel)
set_option maxRecDepth 20000 in
theorem gX2_unlock_X0_drop : GoodIn wsX2_unlock (wsV RX2 93 RX0 yX0_drop wsX0_drop) := goodIn_app (goodIn_of _ (by decide +kernel)) ggX2_unlock_X0_drop
set_option maxRecDepth 20000 in
theorem ggX2_unlock_X2_passOn : GoodIn wsX2_unlock wsX2_passOn := goodIn_r _ [41, 42, 43, 26, 44, 45, 46, 7, 47, 48, 49, 50, 51, 11, 52, 21, 53, 54, 55, 56, 57, 58, 59, 60, 61, 62, 63, 64, 65, 66, 67, 68, 69, 70, 71, 72, 73, 15, 16, 17, 74, 75, 76, 77, 78, 3, 79, 80, 81, 30, 82, 32, 33, 34, 35, 36, 37, 83, 84, 85, 86, 87, 88, 89, 90, 91, 92, 93, 94, 95, 96, 97, 98, 99, 100, 101] (by decide +kernel) (by decide +kernel)
set_option maxRecDepth 20000 in
theorem gX2_unlock_X2_passOn : GoodIn wsX2_unlock (wsV RX2 98 RX2 yX2_passOn wsX2_passOn) := goodIn_app (goodIn_of _ (by decide +kernel)) ggX2_unlock_X2_passOn
theorem dX2_unlock_0 : decode cX2_unlock 0 = .ok (.aload_n 0, 1) := by decide +kernel
theorem dX2_unlock_1 : decode cX2_unlock 1 = .ok (.iload_n 1, 1) := by decide +kernel
theorem dX2_unlock_2 : decode cX2_unlock 2 = .ok (.invokevirtual 35, 3) := by decide +kernel
theorem dX2_unlock_5 : decode cX2_unlock 5 = .ok (.astore_n 3, 1) := by decide +kernel
theorem dX2_unlock_6 : decode cX2_unlock 6 = .ok (.iload_n 2, 1) := by decide +kernel
theorem dX2_unlock_7 : decode cX2_unlock 7 = .ok (.invokestatic 39, 3) := by decide +kernel
theorem dX2_unlock_10 : decode cX2_unlock 10 = .ok (.aload_n 3, 1) := by decide +kernel
theorem dX2_unlock_11 : decode cX2_unlock 11 = .ok (.invokestatic 42, 3) := by decide +kernel
theorem dX2_unlock_14 : decode cX2_unlock 14 = .ok (.aload_n 0, 1) := by decide +kernel
theorem dX2_unlock_15 : decode cX2_unlock 15 = .ok (.iload_n 2, 1) := by decide +kernel
theorem dX2_unlock_16 : decode cX2_unlock 16 = .ok (.invokevirtual 73, 3) := by decide +kernel
theorem dX2_unlock_19 : decode cX2_unlock 19 = .ok (.aload_n 3, 1) := by decide +kernel
theorem dX2_unlock_20 : decode cX2_unlock 20 = .ok (.if_acmp .eq 13, 3) := by decide +kernel
theorem dX2_unlock_23 : decode cX2_unlock 23 = .ok (.new 84, 3) := by decide +kernel
theorem dX2_unlock_26 : decode cX2_unlock 26 = .ok (.dup, 1) := by decide +kernel
theorem dX2_unlock_27 : decode cX2_unlock 27 = .ok (.ldc 86, 2) := by decide +kernel
theorem dX2_unlock_29 : decode cX2_unlock 29 = .ok (.invokespecial 88, 3) := by decide +kernel
theorem dX2_unlock_32 : decode cX2_unlock 32 = .ok (.athrow, 1) := by decide +kernel
theorem dX2_unlock_33 : decode cX2_unlock 33 = .ok (.aload_n 3, 1) := by decide +kernel
theorem dX2_unlock_34 : decode cX2_unlock 34 = .ok (.getfield 89, 3) := by decide +kernel
theorem dX2_unlock_37 : decode cX2_unlock 37 = .ok (.iload_n 2, 1) := by decide +kernel
theorem dX2_unlock_38 : decode cX2_unlock 38 = .ok (.invokevirtual 93, 3) := by decide +kernel
theorem dX2_unlock_41 : decode cX2_unlock 41 = .ok (.aload_n 0, 1) := by decide +kernel
theorem dX2_unlock_42 : decode cX2_unlock 42 = .ok (.iload_n 2, 1) := by decide +kernel
theorem dX2_unlock_43 : decode cX2_unlock 43 = .ok (.iconst 0, 1) := by decide +kernel
theorem dX2_unlock_44 : decode cX2_unlock 44 = .ok (.invokevirtual 98, 3) := by decide +kernel
theorem dX2_unlock_47 : decode cX2_unlock 47 = .ok (.ireturn, 1) := by decide +kernel
set_option maxRecDepth 20000 in
theorem ggX2_locks_X2_taskOf : GoodIn wsX2_locks wsX2_taskOf := goodIn_ca (goodIn_r _ [7, 8, 9, 10, 24, 25, 26, 27, 28, 29] (by decide +kernel) (by decide +kernel)) (goodIn_sub (fun _ h => List.mem_cons_of_mem _ (List.mem_append_right _ h)) (by decide +kernel))
set_option maxRecDepth 20000 in
theorem gX2_locks_X2_taskOf : GoodIn wsX2_locks (wsV RX2 35 RX2 yX2_taskOf wsX2_taskOf) := goodIn_app (goodIn_of _ (by decide +kernel)) ggX2_locks_X2_taskOf
theorem dX2_locks_0 : decode cX2_locks 0 = .ok (.aload_n 0, 1) := by decide +kernel
theorem dX2_locks_1 : decode cX2_locks 1 = .ok (.iload_n 1, 1) := by decide +kernel
theorem dX2_locks_2 : decode cX2_locks 2 = .ok (.invokevirtual 35, 3) := by decide +kernel
theorem dX2_locks_5 : decode cX2_locks 5 = .ok (.getfield 89, 3) := by decide +kernel
theorem dX2_locks_8 : decode cX2_locks 8 = .ok (.getfield 102, 3) := by decide +kernel
theorem dX2_locks_11 : decode cX2_locks 11 = .ok (.ireturn, 1) := by decide +kernel
set_option maxRecDepth 20000 in
theorem ggX2_lockAt_X2_taskOf : GoodIn wsX2_lockAt wsX2_taskOf := goodIn_ca (goodIn_r _ [9, 1, 2, 10, 31, 32, 33, 34, 35, 36] (by decide +kernel) (by decide +kernel)) (goodIn_sub (fun _ h => List.mem_cons_of_mem _ (List.mem_append_right _ h)) (by decide +kernel))
set_option maxRecDepth 20000 in
theorem gX2_lockAt_X2_taskOf : GoodIn wsX2_lockAt (wsV RX2 35 RX2 yX2_taskOf wsX2_taskOf) := goodIn_app (goodIn_of _ (by decide +kernel)) ggX2_lockAt_X2_taskOf
set_option maxRecDepth 20000 in
theorem ggX2_lockAt_X0_addressAt : GoodIn wsX2_lockAt wsX0_addressAt := goodIn_r _ [15, 16, 17, 29, 30] (by decide +kernel) (by decide +kernel)
set_option maxRecDepth 20000 in
theorem gX2_lockAt_X0_addressAt : GoodIn wsX2_lockAt (wsV RX2 110 RX0 yX0_addressAt wsX0_addressAt) := goodIn_app (goodIn_of _ (by decide +kernel)) ggX2_lockAt_X0_addressAt
theorem dX2_lockAt_0 : decode cX2_lockAt 0 = .ok (.aload_n 0, 1) := by decide +kernel
theorem dX2_lockAt_1 : decode cX2_lockAt 1 = .ok (.iload_n 1, 1) := by decide +kernel
theorem dX2_lockAt_2 : decode cX2_lockAt 2 = .ok (.invokevirtual 35, 3) := by decide +kernel
theorem dX2_lockAt_5 : decode cX2_lockAt 5 = .ok (.getfield 89, 3) := by decide +kernel
theorem dX2_lockAt_8 : decode cX2_lockAt 8 = .ok (.astore_n 3, 1) := by decide +kernel
theorem dX2_lockAt_9 : decode cX2_lockAt 9 = .ok (.iload_n 2, 1) := by decide +kernel
theorem dX2_lockAt_10 : decode cX2_lockAt 10 = .ok (.ifCond .lt 11, 3) := by decide +kernel
theorem dX2_lockAt_13 : decode cX2_lockAt 13 = .ok (.iload_n 2, 1) := by decide +kernel
theorem dX2_lockAt_14 : decode cX2_lockAt 14 = .ok (.aload_n 3, 1) := by decide +kernel
theorem dX2_lockAt_15 : decode cX2_lockAt 15 = .ok (.getfield 102, 3) := by decide +kernel
theorem dX2_lockAt_18 : decode cX2_lockAt 18 = .ok (.if_icmp .lt 13, 3) := by decide +kernel
theorem dX2_lockAt_21 : decode cX2_lockAt 21 = .ok (.new 105, 3) := by decide +kernel
theorem dX2_lockAt_24 : decode cX2_lockAt 24 = .ok (.dup, 1) := by decide +kernel
theorem dX2_lockAt_25 : decode cX2_lockAt 25 = .ok (.ldc 107, 2) := by decide +kernel
theorem dX2_lockAt_27 : decode cX2_lockAt 27 = .ok (.invokespecial 109, 3) := by decide +kernel
theorem dX2_lockAt_30 : decode cX2_lockAt 30 = .ok (.athrow, 1) := by decide +kernel
theorem dX2_lockAt_31 : decode cX2_lockAt 31 = .ok (.aload_n 3, 1) := by decide +kernel
theorem dX2_lockAt_32 : decode cX2_lockAt 32 = .ok (.iload_n 2, 1) := by decide +kernel
theorem dX2_lockAt_33 : decode cX2_lockAt 33 = .ok (.invokevirtual 110, 3) := by decide +kernel
theorem dX2_lockAt_36 : decode cX2_lockAt 36 = .ok (.ireturn, 1) := by decide +kernel
set_option maxRecDepth 20000 in
theorem ggX2_blockedBy_X2_taskOf : GoodIn wsX2_blockedBy wsX2_taskOf := goodIn_ca (goodIn_r _ [5, 6, 7, 8, 36, 37, 38, 39, 40, 41] (by decide +kernel) (by decide +kernel)) (goodIn_sub (fun _ h => List.mem_cons_of_mem _ (List.mem_append_right _ h)) (by decide +kernel))
set_option maxRecDepth 20000 in
theorem gX2_blockedBy_X2_taskOf : GoodIn wsX2_blockedBy (wsV RX2 35 RX2 yX2_taskOf wsX2_taskOf) := goodIn_app (goodIn_of _ (by decide +kernel)) ggX2_blockedBy_X2_taskOf
set_option maxRecDepth 20000 in
theorem ggX2_blockedBy_X1_bit : GoodIn wsX2_blockedBy wsX1_bit := goodIn_r _ [13, 14, 42, 43, 44, 45, 46, 47, 48, 49, 50, 51, 52] (by decide +kernel) (by decide +kernel)
set_option maxRecDepth 20000 in
theorem gX2_blockedBy_X1_bit : GoodIn wsX2_blockedBy (wsV RX2 114 RX1 yX1_bit wsX1_bit) := goodIn_app (goodIn_of _ (by decide +kernel)) ggX2_blockedBy_X1_bit
set_option maxRecDepth 20000 in
theorem ggX2_blockedBy_X2_blockedByOneOf : GoodIn wsX2_blockedBy wsX2_blockedByOneOf := goodIn_r _ [18, 8, 19, 20, 21, 22, 23, 4, 24, 25, 26, 27, 28, 9, 10, 11, 12, 13, 14, 36, 37, 38, 39, 40, 41, 42, 43, 44, 45, 46, 47, 48, 49, 50, 51, 52] (by decide +kernel) (by decide +kernel)
set_option maxRecDepth 20000 in
theorem gX2_blockedBy_X2_blockedByOneOf : GoodIn wsX2_blockedBy (wsV RX2 118 RX2 yX2_blockedByOneOf wsX2_blockedByOneOf) := goodIn_app (goodIn_of _ (by decide +kernel)) ggX2_blockedBy_X2_blockedByOneOf
set_option maxRecDepth 20000 in
theorem ggX2_blockedBy_J6_bitCount_0f7a4 : GoodIn wsX2_blockedBy wsJ6_bitCount_0f7a4 := goodIn_r _ [32, 33, 34, 35] (by decide +kernel) (by decide +kernel)
set_option maxRecDepth 20000 in
theorem gX2_blockedBy_J6_bitCount_0f7a4 : GoodIn wsX2_blockedBy (va_wsS RX2 121 yJ6_bitCount_0f7a4 wsJ6_bitCount_0f7a4) := goodIn_app (goodIn_of _ (by decide +kernel)) ggX2_blockedBy_J6_bitCount_0f7a4
theorem dX2_blockedBy_0 : decode cX2_blockedBy 0 = .ok (.aload_n 0, 1) := by decide +kernel
theorem dX2_blockedBy_1 : decode cX2_blockedBy 1 = .ok (.iload_n 1, 1) := by decide +kernel
theorem dX2_blockedBy_2 : decode cX2_blockedBy 2 = .ok (.invokevirtual 35, 3) := by decide +kernel
theorem dX2_blockedBy_5 : decode cX2_blockedBy 5 = .ok (.invokevirtual 114, 3) := by decide +kernel
theorem dX2_blockedBy_8 : decode cX2_blockedBy 8 = .ok (.istore_n 2, 1) := by decide +kernel
theorem dX2_blockedBy_9 : decode cX2_blockedBy 9 = .ok (.iconst 0, 1) := by decide +kernel
theorem dX2_blockedBy_10 : decode cX2_blockedBy 10 = .ok (.istore_n 3, 1) := by decide +kernel
theorem dX2_blockedBy_11 : decode cX2_blockedBy 11 = .ok (.iload_n 3, 1) := by decide +kernel
theorem dX2_blockedBy_12 : decode cX2_blockedBy 12 = .ok (.bipush 8, 2) := by decide +kernel
theorem dX2_blockedBy_14 : decode cX2_blockedBy 14 = .ok (.if_icmp .ge 17, 3) := by decide +kernel
theorem dX2_blockedBy_17 : decode cX2_blockedBy 17 = .ok (.iload_n 2, 1) := by decide +kernel
theorem dX2_blockedBy_18 : decode cX2_blockedBy 18 = .ok (.aload_n 0, 1) := by decide +kernel
theorem dX2_blockedBy_19 : decode cX2_blockedBy 19 = .ok (.iload_n 2, 1) := by decide +kernel
theorem dX2_blockedBy_20 : decode cX2_blockedBy 20 = .ok (.invokevirtual 118, 3) := by decide +kernel
theorem dX2_blockedBy_23 : decode cX2_blockedBy 23 = .ok (.ior, 1) := by decide +kernel
theorem dX2_blockedBy_24 : decode cX2_blockedBy 24 = .ok (.istore_n 2, 1) := by decide +kernel
theorem dX2_blockedBy_25 : decode cX2_blockedBy 25 = .ok (.iinc 3 1, 3) := by decide +kernel
theorem dX2_blockedBy_28 : decode cX2_blockedBy 28 = .ok (.goto (-17), 3) := by decide +kernel
theorem dX2_blockedBy_31 : decode cX2_blockedBy 31 = .ok (.iload_n 2, 1) := by decide +kernel
theorem dX2_blockedBy_32 : decode cX2_blockedBy 32 = .ok (.invokestatic 121, 3) := by decide +kernel
theorem dX2_blockedBy_35 : decode cX2_blockedBy 35 = .ok (.iconst 1, 1) := by decide +kernel
theorem dX2_blockedBy_36 : decode cX2_blockedBy 36 = .ok (.isub, 1) := by decide +kernel
theorem dX2_blockedBy_37 : decode cX2_blockedBy 37 = .ok (.ireturn, 1) := by decide +kernel
set_option maxRecDepth 20000 in
theorem ggX2_interrupt_X2_taskOf : GoodIn wsX2_interrupt wsX2_taskOf := goodIn_ca (goodIn_r _ [7, 8, 9, 10, 51, 52, 53, 54, 55, 56] (by decide +kernel) (by decide +kernel)) (goodIn_sub (fun _ h => List.mem_cons_of_mem _ (List.mem_append_right _ h)) (by decide +kernel))
set_option maxRecDepth 20000 in
theorem gX2_interrupt_X2_taskOf : GoodIn wsX2_interrupt (wsV RX2 35 RX2 yX2_taskOf wsX2_taskOf) := goodIn_app (goodIn_of _ (by decide +kernel)) ggX2_interrupt_X2_taskOf
set_option maxRecDepth 20000 in
theorem ggX2_interrupt_X1_isQueued : GoodIn wsX2_interrupt wsX1_isQueued := goodIn_r _ [15, 16, 57, 58, 59, 60, 61, 62, 63, 64, 65, 66, 67] (by decide +kernel) (by decide +kernel)
set_option maxRecDepth 20000 in
theorem gX2_interrupt_X1_isQueued : GoodIn wsX2_interrupt (wsV RX2 126 RX1 yX1_isQueued wsX1_isQueued) := goodIn_app (goodIn_of _ (by decide +kernel)) ggX2_interrupt_X1_isQueued
set_option maxRecDepth 20000 in
theorem ggX2_interrupt_X2_endWait : GoodIn wsX2_interrupt wsX2_endWait := goodIn_r _ [20, 21, 22, 23, 24, 25, 26, 6, 27, 28, 29, 30, 31, 32, 33, 34, 35, 36, 37, 38, 39, 40, 41, 42, 43, 10, 44, 45, 46, 47, 14, 48, 49, 50, 57, 58, 59, 60, 61, 62, 63, 64, 65, 66, 67, 51, 52, 53, 54, 55, 56] (by decide +kernel) (by decide +kernel)
set_option maxRecDepth 20000 in
theorem gX2_interrupt_X2_endWait : GoodIn wsX2_interrupt (wsV RX2 132 RX2 yX2_endWait wsX2_endWait) := goodIn_app (goodIn_of _ (by decide +kernel)) ggX2_interrupt_X2_endWait
theorem dX2_interrupt_0 : decode cX2_interrupt 0 = .ok (.aload_n 0, 1) := by decide +kernel
theorem dX2_interrupt_1 : decode cX2_interrupt 1 = .ok (.iload_n 1, 1) := by decide +kernel
theorem dX2_interrupt_2 : decode cX2_interrupt 2 = .ok (.invokevirtual 35, 3) := by decide +kernel
theorem dX2_interrupt_5 : decode cX2_interrupt 5 = .ok (.astore_n 2, 1) := by decide +kernel
theorem dX2_interrupt_6 : decode cX2_interrupt 6 = .ok (.aload_n 2, 1) := by decide +kernel
theorem dX2_interrupt_7 : decode cX2_interrupt 7 = .ok (.invokevirtual 126, 3) := by decide +kernel
theorem dX2_interrupt_10 : decode cX2_interrupt 10 = .ok (.ifCond .ne 13, 3) := by decide +kernel
theorem dX2_interrupt_13 : decode cX2_interrupt 13 = .ok (.new 84, 3) := by decide +kernel
theorem dX2_interrupt_16 : decode cX2_interrupt 16 = .ok (.dup, 1) := by decide +kernel
theorem dX2_interrupt_17 : decode cX2_interrupt 17 = .ok (.ldc 130, 2) := by decide +kernel
theorem dX2_interrupt_19 : decode cX2_interrupt 19 = .ok (.invokespecial 88, 3) := by decide +kernel
theorem dX2_interrupt_22 : decode cX2_interrupt 22 = .ok (.athrow, 1) := by decide +kernel
theorem dX2_interrupt_23 : decode cX2_interrupt 23 = .ok (.aload_n 0, 1) := by decide +kernel
theorem dX2_interrupt_24 : decode cX2_interrupt 24 = .ok (.aload_n 2, 1) := by decide +kernel
theorem dX2_interrupt_25 : decode cX2_interrupt 25 = .ok (.iconst 2, 1) := by decide +kernel
theorem dX2_interrupt_26 : decode cX2_interrupt 26 = .ok (.invokevirtual 132, 3) := by decide +kernel
theorem dX2_interrupt_29 : decode cX2_interrupt 29 = .ok (.return_, 1) := by decide +kernel
set_option maxRecDepth 20000 in
theorem ggX2_exit_X2_taskOf : GoodIn wsX2_exit wsX2_taskOf := goodIn_ca (goodIn_r _ [8, 9, 10, 11, 103, 104, 105, 106, 107, 108] (by decide +kernel) (by decide +kernel)) (goodIn_sub (fun _ h => List.mem_cons_of_mem _ (List.mem_append_left _ (List.mem_append_right _ h))) (by decide +kernel))
set_option maxRecDepth 20000 in
theorem gX2_exit_X2_taskOf : GoodIn wsX2_exit (wsV RX2 35 RX2 yX2_taskOf wsX2_taskOf) := goodIn_app (goodIn_of _ (by decide +kernel)) ggX2_exit_X2_taskOf
set_option maxRecDepth 20000 in
theorem ggX2_exit_X2_requireAlive : GoodIn wsX2_exit wsX2_requireAlive := goodIn_ca (goodIn_r _ [14, 15, 16, 1, 90, 91, 92, 93, 94, 95, 96, 97, 98, 99, 100] (by decide +kernel) (by decide +kernel)) (goodIn_sub (fun _ h => List.mem_cons_of_mem _ (List.mem_append_right _ h)) (by decide +kernel))
set_option maxRecDepth 20000 in
theorem gX2_exit_X2_requireAlive : GoodIn wsX2_exit (va_wsS RX2 136 yX2_requireAlive wsX2_requireAlive) := goodIn_app (goodIn_of _ (by decide +kernel)) ggX2_exit_X2_requireAlive
set_option maxRecDepth 20000 in
theorem ggX2_exit_X1_isQueued : GoodIn wsX2_exit wsX1_isQueued := goodIn_r _ [21, 22, 90, 91, 92, 93, 94, 95, 96, 97, 98, 99, 100] (by decide +kernel) (by decide +kernel)
set_option maxRecDepth 20000 in
theorem gX2_exit_X1_isQueued : GoodIn wsX2_exit (wsV RX2 126 RX1 yX1_isQueued wsX1_isQueued) := goodIn_app (goodIn_of _ (by decide +kernel)) ggX2_exit_X1_isQueued
set_option maxRecDepth 20000 in
theorem ggX2_exit_X2_leaveQueue : GoodIn wsX2_exit wsX2_leaveQueue := goodIn_r _ [26, 27, 1, 28, 29, 30, 31, 32, 7, 33, 34, 35, 36, 37, 38, 39, 40, 41, 11, 42, 43, 44, 45, 20, 46, 47, 48, 90, 91, 92, 93, 94, 95, 96, 97, 98, 99, 100, 103, 104, 105, 106, 107, 108] (by decide +kernel) (by decide +kernel)
set_option maxRecDepth 20000 in
theorem gX2_exit_X2_leaveQueue : GoodIn wsX2_exit (wsV RX2 139 RX2 yX2_leaveQueue wsX2_leaveQueue) := goodIn_app (goodIn_of _ (by decide +kernel)) ggX2_exit_X2_leaveQueue
set_option maxRecDepth 20000 in
theorem ggX2_exit_X0_addressAt : GoodIn wsX2_exit wsX0_addressAt := goodIn_r _ [53, 54, 55, 101, 102] (by decide +kernel) (by decide +kernel)
set_option maxRecDepth 20000 in
theorem gX2_exit_X0_addressAt : GoodIn wsX2_exit (wsV RX2 110 RX0 yX0_addressAt wsX0_addressAt) := goodIn_app (goodIn_of _ (by decide +kernel)) ggX2_exit_X0_addressAt
set_option maxRecDepth 20000 in
theorem ggX2_exit_X2_ownerAt : GoodIn wsX2_exit wsX2_ownerAt := goodIn_r _ [59, 29, 11, 31, 32, 7, 33, 103, 104, 105, 106, 107, 108] (by decide +kernel) (by decide +kernel)
set_option maxRecDepth 20000 in
theorem gX2_exit_X2_ownerAt : GoodIn wsX2_exit (wsV RX2 73 RX2 yX2_ownerAt wsX2_ownerAt) := goodIn_app (goodIn_of _ (by decide +kernel)) ggX2_exit_X2_ownerAt
set_option maxRecDepth 20000 in
theorem ggX2_exit_X2_passOn : GoodIn wsX2_exit wsX2_passOn := goodIn_r _ [63, 64, 65, 29, 34, 35, 36, 7, 37, 38, 39, 40, 41, 11, 27, 1, 42, 43, 44, 45, 20, 46, 47, 48, 66, 67, 68, 69, 70, 71, 72, 23, 24, 25, 26, 28, 30, 31, 32, 33, 73, 74, 75, 76, 77, 2, 78, 79, 80, 52, 81, 54, 55, 82, 83, 84, 85, 90, 91, 92, 93, 94, 95, 96, 97, 98, 99, 100, 103, 104, 105, 106, 107, 108, 101, 102] (by decide +kernel) (by decide +kernel)
set_option maxRecDepth 20000 in
theorem gX2_exit_X2_passOn : GoodIn wsX2_exit (wsV RX2 98 RX2 yX2_passOn wsX2_passOn) := goodIn_app (goodIn_of _ (by decide +kernel)) ggX2_exit_X2_passOn
set_option maxRecDepth 20000 in
theorem ggX2_exit_X0_clear : GoodIn wsX2_exit wsX0_clear := goodIn_r _ [89, 54, 101, 102] (by decide +kernel) (by decide +kernel)
set_option maxRecDepth 20000 in
theorem gX2_exit_X0_clear : GoodIn wsX2_exit (wsV RX2 142 RX0 yX0_clear wsX0_clear) := goodIn_app (goodIn_of _ (by decide +kernel)) ggX2_exit_X0_clear
theorem dX2_exit_0 : decode cX2_exit 0 = .ok (.aload_n 0, 1) := by decide +kernel
theorem dX2_exit_1 : decode cX2_exit 1 = .ok (.iload_n 1, 1) := by decide +kernel
theorem dX2_exit_2 : decode cX2_exit 2 = .ok (.invokevirtual 35, 3) := by decide +kernel
theorem dX2_exit_5 : decode cX2_exit 5 = .ok (.astore_n 2, 1) := by decide +kernel
theorem dX2_exit_6 : decode cX2_exit 6 = .ok (.aload_n 2, 1) := by decide +kernel
theorem dX2_exit_7 : decode cX2_exit 7 = .ok (.invokestatic 136, 3) := by decide +kernel
theorem dX2_exit_10 : decode cX2_exit 10 = .ok (.aload_n 2, 1) := by decide +kernel
theorem dX2_exit_11 : decode cX2_exit 11 = .ok (.invokevirtual 126, 3) := by decide +kernel
theorem dX2_exit_14 : decode cX2_exit 14 = .ok (.ifCond .eq 8, 3) := by decide +kernel
theorem dX2_exit_17 : decode cX2_exit 17 = .ok (.aload_n 0, 1) := by decide +kernel
theorem dX2_exit_18 : decode cX2_exit 18 = .ok (.aload_n 2, 1) := by decide +kernel
theorem dX2_exit_19 : decode cX2_exit 19 = .ok (.invokevirtual 139, 3) := by decide +kernel
theorem dX2_exit_22 : decode cX2_exit 22 = .ok (.aload_n 2, 1) := by decide +kernel
theorem dX2_exit_23 : decode cX2_exit 23 = .ok (.iconst 3, 1) := by decide +kernel
theorem dX2_exit_24 : decode cX2_exit 24 = .ok (.putfield 76, 3) := by decide +kernel
theorem dX2_exit_27 : decode cX2_exit 27 = .ok (.iconst 0, 1) := by decide +kernel
theorem dX2_exit_28 : decode cX2_exit 28 = .ok (.istore_n 3, 1) := by decide +kernel
theorem dX2_exit_29 : decode cX2_exit 29 = .ok (.aload_n 2, 1) := by decide +kernel
theorem dX2_exit_30 : decode cX2_exit 30 = .ok (.getfield 89, 3) := by decide +kernel
theorem dX2_exit_33 : decode cX2_exit 33 = .ok (.getfield 102, 3) := by decide +kernel
theorem dX2_exit_36 : decode cX2_exit 36 = .ok (.istore 4, 2) := by decide +kernel
theorem dX2_exit_38 : decode cX2_exit 38 = .ok (.iconst 0, 1) := by decide +kernel
theorem dX2_exit_39 : decode cX2_exit 39 = .ok (.istore 5, 2) := by decide +kernel
theorem dX2_exit_41 : decode cX2_exit 41 = .ok (.iload 5, 2) := by decide +kernel
theorem dX2_exit_43 : decode cX2_exit 43 = .ok (.iload 4, 2) := by decide +kernel
theorem dX2_exit_45 : decode cX2_exit 45 = .ok (.if_icmp .ge 41, 3) := by decide +kernel
theorem dX2_exit_48 : decode cX2_exit 48 = .ok (.aload_n 2, 1) := by decide +kernel
theorem dX2_exit_49 : decode cX2_exit 49 = .ok (.getfield 89, 3) := by decide +kernel
theorem dX2_exit_52 : decode cX2_exit 52 = .ok (.iload 5, 2) := by decide +kernel
theorem dX2_exit_54 : decode cX2_exit 54 = .ok (.invokevirtual 110, 3) := by decide +kernel
theorem dX2_exit_57 : decode cX2_exit 57 = .ok (.istore 6, 2) := by decide +kernel
theorem dX2_exit_59 : decode cX2_exit 59 = .ok (.aload_n 0, 1) := by decide +kernel
theorem dX2_exit_60 : decode cX2_exit 60 = .ok (.iload 6, 2) := by decide +kernel
theorem dX2_exit_62 : decode cX2_exit 62 = .ok (.invokevirtual 73, 3) := by decide +kernel
theorem dX2_exit_65 : decode cX2_exit 65 = .ok (.aload_n 2, 1) := by decide +kernel
theorem dX2_exit_66 : decode cX2_exit 66 = .ok (.if_acmp .ne 14, 3) := by decide +kernel
theorem dX2_exit_69 : decode cX2_exit 69 = .ok (.aload_n 0, 1) := by decide +kernel
theorem dX2_exit_70 : decode cX2_exit 70 = .ok (.iload 6, 2) := by decide +kernel
theorem dX2_exit_72 : decode cX2_exit 72 = .ok (.iconst 1, 1) := by decide +kernel
theorem dX2_exit_73 : decode cX2_exit 73 = .ok (.invokevirtual 98, 3) := by decide +kernel
theorem dX2_exit_76 : decode cX2_exit 76 = .ok (.pop, 1) := by decide +kernel
theorem dX2_exit_77 : decode cX2_exit 77 = .ok (.iinc 3 1, 3) := by decide +kernel
theorem dX2_exit_80 : decode cX2_exit 80 = .ok (.iinc 5 1, 3) := by decide +kernel
theorem dX2_exit_83 : decode cX2_exit 83 = .ok (.goto (-42), 3) := by decide +kernel
theorem dX2_exit_86 : decode cX2_exit 86 = .ok (.aload_n 2, 1) := by decide +kernel
theorem dX2_exit_87 : decode cX2_exit 87 = .ok (.getfield 89, 3) := by decide +kernel
theorem dX2_exit_90 : decode cX2_exit 90 = .ok (.invokevirtual 142, 3) := by decide +kernel
theorem dX2_exit_93 : decode cX2_exit 93 = .ok (.iload_n 3, 1) := by decide +kernel
theorem dX2_exit_94 : decode cX2_exit 94 = .ok (.ireturn, 1) := by decide +kernel
set_option maxRecDepth 20000 in
theorem ggX2_start_X2_taskOf : GoodIn wsX2_start wsX2_taskOf := goodIn_ca (goodIn_r _ [11, 12, 13, 14, 26, 27, 28, 29, 30, 31] (by decide +kernel) (by decide +kernel)) (goodIn_sub (fun _ h => List.mem_cons_of_mem _ (List.mem_append_right _ h)) (by decide +kernel))
set_option maxRecDepth 20000 in
theorem gX2_start_X2_taskOf : GoodIn wsX2_start (wsV RX2 35 RX2 yX2_taskOf wsX2_taskOf) := goodIn_app (goodIn_of _ (by decide +kernel)) ggX2_start_X2_taskOf
theorem dX2_start_0 : decode cX2_start 0 = .ok (.aload_n 0, 1) := by decide +kernel
theorem dX2_start_1 : decode cX2_start 1 = .ok (.iload_n 1, 1) := by decide +kernel
theorem dX2_start_2 : decode cX2_start 2 = .ok (.invokevirtual 35, 3) := by decide +kernel
theorem dX2_start_5 : decode cX2_start 5 = .ok (.astore_n 2, 1) := by decide +kernel
theorem dX2_start_6 : decode cX2_start 6 = .ok (.aload_n 2, 1) := by decide +kernel
theorem dX2_start_7 : decode cX2_start 7 = .ok (.getfield 76, 3) := by decide +kernel
theorem dX2_start_10 : decode cX2_start 10 = .ok (.iconst 3, 1) := by decide +kernel
theorem dX2_start_11 : decode cX2_start 11 = .ok (.if_icmp .eq 13, 3) := by decide +kernel
theorem dX2_start_14 : decode cX2_start 14 = .ok (.new 84, 3) := by decide +kernel
theorem dX2_start_17 : decode cX2_start 17 = .ok (.dup, 1) := by decide +kernel
theorem dX2_start_18 : decode cX2_start 18 = .ok (.ldc 145, 2) := by decide +kernel
theorem dX2_start_20 : decode cX2_start 20 = .ok (.invokespecial 88, 3) := by decide +kernel
theorem dX2_start_23 : decode cX2_start 23 = .ok (.athrow, 1) := by decide +kernel
theorem dX2_start_24 : decode cX2_start 24 = .ok (.aload_n 2, 1) := by decide +kernel
theorem dX2_start_25 : decode cX2_start 25 = .ok (.iconst 0, 1) := by decide +kernel
theorem dX2_start_26 : decode cX2_start 26 = .ok (.putfield 76, 3) := by decide +kernel
theorem dX2_start_29 : decode cX2_start 29 = .ok (.aload_n 2, 1) := by decide +kernel
theorem dX2_start_30 : decode cX2_start 30 = .ok (.iconst 0, 1) := by decide +kernel
theorem dX2_start_31 : decode cX2_start 31 = .ok (.putfield 147, 3) := by decide +kernel
theorem dX2_start_34 : decode cX2_start 34 = .ok (.aload_n 2, 1) := by decide +kernel
theorem dX2_start_35 : decode cX2_start 35 = .ok (.iconst (-1), 1) := by decide +kernel
theorem dX2_start_36 : decode cX2_start 36 = .ok (.putfield 150, 3) := by decide +kernel
theorem dX2_start_39 : decode cX2_start 39 = .ok (.aload_n 2, 1) := by decide +kernel
theorem dX2_start_40 : decode cX2_start 40 = .ok (.iconst 0, 1) := by decide +kernel
theorem dX2_start_41 : decode cX2_start 41 = .ok (.putfield 153, 3) := by decide +kernel
theorem dX2_start_44 : decode cX2_start 44 = .ok (.return_, 1) := by decide +kernel
set_option maxRecDepth 20000 in
theorem ggX2_setPriority_X2_taskOf : GoodIn wsX2_setPriority wsX2_taskOf := goodIn_ca (goodIn_r _ [7, 8, 9, 10, 45, 46, 47, 48, 49, 50] (by decide +kernel) (by decide +kernel)) (goodIn_sub (fun _ h => List.mem_cons_of_mem _ (List.mem_append_left _ (List.mem_append_left _ (List.mem_append_right _ h)))) (by decide +kernel))
set_option maxRecDepth 20000 in
theorem gX2_setPriority_X2_taskOf : GoodIn wsX2_setPriority (wsV RX2 35 RX2 yX2_taskOf wsX2_taskOf) := goodIn_app (goodIn_of _ (by decide +kernel)) ggX2_setPriority_X2_taskOf
set_option maxRecDepth 20000 in
theorem ggX2_setPriority_X2_requireBetween : GoodIn wsX2_setPriority wsX2_requireBetween := goodIn_ca (goodIn_r _ [13, 14, 15] (by decide +kernel) (by decide +kernel)) (goodIn_sub (fun _ h => List.mem_cons_of_mem _ (List.mem_append_left _ (List.mem_append_right _ h))) (by decide +kernel))
set_option maxRecDepth 20000 in
theorem gX2_setPriority_X2_requireBetween : GoodIn wsX2_setPriority (va_wsS RX2 46 yX2_requireBetween wsX2_requireBetween) := goodIn_app (goodIn_of _ (by decide +kernel)) ggX2_setPriority_X2_requireBetween
set_option maxRecDepth 20000 in
theorem ggX2_setPriority_X2_requireAlive : GoodIn wsX2_setPriority wsX2_requireAlive := goodIn_ca (goodIn_r _ [18, 19, 20, 21, 34, 35, 36, 37, 38, 39, 40, 41, 42, 43, 44] (by decide +kernel) (by decide +kernel)) (goodIn_sub (fun _ h => List.mem_cons_of_mem _ (List.mem_append_right _ h)) (by decide +kernel))
set_option maxRecDepth 20000 in
theorem gX2_setPriority_X2_requireAlive : GoodIn wsX2_setPriority (va_wsS RX2 136 yX2_requireAlive wsX2_requireAlive) := goodIn_app (goodIn_of _ (by decide +kernel)) ggX2_setPriority_X2_requireAlive
set_option maxRecDepth 20000 in
theorem ggX2_setPriority_X1_isQueued : GoodIn wsX2_setPriority wsX1_isQueued := goodIn_r _ [26, 27, 34, 35, 36, 37, 38, 39, 40, 41, 42, 43, 44] (by decide +kernel) (by decide +kernel)
set_option maxRecDepth 20000 in
theorem gX2_setPriority_X1_isQueued : GoodIn wsX2_setPriority (wsV RX2 126 RX1 yX1_isQueued wsX1_isQueued) := goodIn_app (goodIn_of _ (by decide +kernel)) ggX2_setPriority_X1_isQueued
set_option maxRecDepth 20000 in
theorem ggX2_setPriority_X2_joinQueue : GoodIn wsX2_setPriority wsX2_joinQueue := goodIn_r _ [31, 2, 32, 33, 34, 35, 36, 37, 38, 39, 40, 41, 42, 43, 44, 45, 46, 47, 48, 49, 50] (by decide +kernel) (by decide +kernel)
set_option maxRecDepth 20000 in
theorem gX2_setPriority_X2_joinQueue : GoodIn wsX2_setPriority (wsV RX2 159 RX2 yX2_joinQueue wsX2_joinQueue) := goodIn_app (goodIn_of _ (by decide +kernel)) ggX2_setPriority_X2_joinQueue
theorem dX2_setPriority_0 : decode cX2_setPriority 0 = .ok (.aload_n 0, 1) := by decide +kernel
theorem dX2_setPriority_1 : decode cX2_setPriority 1 = .ok (.iload_n 1, 1) := by decide +kernel
theorem dX2_setPriority_2 : decode cX2_setPriority 2 = .ok (.invokevirtual 35, 3) := by decide +kernel
theorem dX2_setPriority_5 : decode cX2_setPriority 5 = .ok (.astore_n 3, 1) := by decide +kernel
theorem dX2_setPriority_6 : decode cX2_setPriority 6 = .ok (.iload_n 2, 1) := by decide +kernel
theorem dX2_setPriority_7 : decode cX2_setPriority 7 = .ok (.iconst 0, 1) := by decide +kernel
theorem dX2_setPriority_8 : decode cX2_setPriority 8 = .ok (.bipush 9, 2) := by decide +kernel
theorem dX2_setPriority_10 : decode cX2_setPriority 10 = .ok (.invokestatic 46, 3) := by decide +kernel
theorem dX2_setPriority_13 : decode cX2_setPriority 13 = .ok (.aload_n 3, 1) := by decide +kernel
theorem dX2_setPriority_14 : decode cX2_setPriority 14 = .ok (.invokestatic 136, 3) := by decide +kernel
theorem dX2_setPriority_17 : decode cX2_setPriority 17 = .ok (.aload_n 3, 1) := by decide +kernel
theorem dX2_setPriority_18 : decode cX2_setPriority 18 = .ok (.getfield 147, 3) := by decide +kernel
theorem dX2_setPriority_21 : decode cX2_setPriority 21 = .ok (.istore 4, 2) := by decide +kernel
theorem dX2_setPriority_23 : decode cX2_setPriority 23 = .ok (.iload_n 2, 1) := by decide +kernel
theorem dX2_setPriority_24 : decode cX2_setPriority 24 = .ok (.iload 4, 2) := by decide +kernel
theorem dX2_setPriority_26 : decode cX2_setPriority 26 = .ok (.if_icmp .eq 24, 3) := by decide +kernel
theorem dX2_setPriority_29 : decode cX2_setPriority 29 = .ok (.aload_n 3, 1) := by decide +kernel
theorem dX2_setPriority_30 : decode cX2_setPriority 30 = .ok (.iload_n 2, 1) := by decide +kernel
theorem dX2_setPriority_31 : decode cX2_setPriority 31 = .ok (.putfield 147, 3) := by decide +kernel
theorem dX2_setPriority_34 : decode cX2_setPriority 34 = .ok (.aload_n 3, 1) := by decide +kernel
theorem dX2_setPriority_35 : decode cX2_setPriority 35 = .ok (.invokevirtual 126, 3) := by decide +kernel
theorem dX2_setPriority_38 : decode cX2_setPriority 38 = .ok (.ifCond .eq 12, 3) := by decide +kernel
theorem dX2_setPriority_41 : decode cX2_setPriority 41 = .ok (.aload_n 0, 1) := by decide +kernel
theorem dX2_setPriority_42 : decode cX2_setPriority 42 = .ok (.aload_n 3, 1) := by decide +kernel
theorem dX2_setPriority_43 : decode cX2_setPriority 43 = .ok (.aload_n 3, 1) := by decide +kernel
theorem dX2_setPriority_44 : decode cX2_setPriority 44 = .ok (.getfield 156, 3) := by decide +kernel
theorem dX2_setPriority_47 : decode cX2_setPriority 47 = .ok (.invokevirtual 159, 3) := by decide +kernel
theorem dX2_setPriority_50 : decode cX2_setPriority 50 = .ok (.iload 4, 2) := by decide +kernel
theorem dX2_setPriority_52 : decode cX2_setPriority 52 = .ok (.ireturn, 1) := by decide +kernel
set_option maxRecDepth 20000 in
theorem ggX2_tick_X2_requireBetween : GoodIn wsX2_tick wsX2_requireBetween := goodIn_ca (goodIn_r _ [6, 7, 8] (by decide +kernel) (by decide +kernel)) (goodIn_sub (fun _ h => List.mem_cons_of_mem _ (List.mem_append_right _ h)) (by decide +kernel))
set_option maxRecDepth 20000 in
theorem gX2_tick_X2_requireBetween : GoodIn wsX2_tick (va_wsS RX2 46 yX2_requireBetween wsX2_requireBetween) := goodIn_app (goodIn_of _ (by decide +kernel)) ggX2_tick_X2_requireBetween
set_option maxRecDepth 20000 in
theorem ggX2_tick_X2_firstToTimeOut : GoodIn wsX2_tick wsX2_firstToTimeOut := goodIn_r _ [12, 13, 2, 14, 15, 16, 17, 18, 19, 20, 54, 55, 56, 57, 58, 59, 60, 61, 62, 63, 64, 65, 66, 67, 68, 69, 70] (by decide +kernel) (by decide +kernel)
set_option maxRecDepth 20000 in
theorem gX2_tick_X2_firstToTimeOut : GoodIn wsX2_tick (wsV RX2 162 RX2 yX2_firstToTimeOut wsX2_firstToTimeOut) := goodIn_app (goodIn_of _ (by decide +kernel)) ggX2_tick_X2_firstToTimeOut
set_option maxRecDepth 20000 in
theorem ggX2_tick_X2_endWait : GoodIn wsX2_tick wsX2_endWait := goodIn_r _ [24, 25, 26, 27, 28, 29, 30, 5, 31, 32, 33, 2, 34, 35, 36, 37, 38, 39, 40, 41, 42, 43, 44, 45, 46, 13, 47, 48, 49, 50, 17, 51, 52, 53, 60, 61, 62, 63, 64, 65, 66, 67, 68, 69, 70, 54, 55, 56, 57, 58, 59] (by decide +kernel) (by decide +kernel)
set_option maxRecDepth 20000 in
theorem gX2_tick_X2_endWait : GoodIn wsX2_tick (wsV RX2 132 RX2 yX2_endWait wsX2_endWait) := goodIn_app (goodIn_of _ (by decide +kernel)) ggX2_tick_X2_endWait
theorem dX2_tick_0 : decode cX2_tick 0 = .ok (.iload_n 1, 1) := by decide +kernel
theorem dX2_tick_1 : decode cX2_tick 1 = .ok (.iconst 1, 1) := by decide +kernel
theorem dX2_tick_2 : decode cX2_tick 2 = .ok (.sipush 1000, 3) := by decide +kernel
theorem dX2_tick_5 : decode cX2_tick 5 = .ok (.invokestatic 46, 3) := by decide +kernel
theorem dX2_tick_8 : decode cX2_tick 8 = .ok (.aload_n 0, 1) := by decide +kernel
theorem dX2_tick_9 : decode cX2_tick 9 = .ok (.getfield 19, 3) := by decide +kernel
theorem dX2_tick_12 : decode cX2_tick 12 = .ok (.iload_n 1, 1) := by decide +kernel
theorem dX2_tick_13 : decode cX2_tick 13 = .ok (.iadd, 1) := by decide +kernel
theorem dX2_tick_14 : decode cX2_tick 14 = .ok (.istore_n 2, 1) := by decide +kernel
theorem dX2_tick_15 : decode cX2_tick 15 = .ok (.iconst 0, 1) := by decide +kernel
theorem dX2_tick_16 : decode cX2_tick 16 = .ok (.istore_n 3, 1) := by decide +kernel
theorem dX2_tick_17 : decode cX2_tick 17 = .ok (.iconst 0, 1) := by decide +kernel
theorem dX2_tick_18 : decode cX2_tick 18 = .ok (.istore 4, 2) := by decide +kernel
theorem dX2_tick_20 : decode cX2_tick 20 = .ok (.iload 4, 2) := by decide +kernel
theorem dX2_tick_22 : decode cX2_tick 22 = .ok (.bipush 8, 2) := by decide +kernel
theorem dX2_tick_24 : decode cX2_tick 24 = .ok (.if_icmp .ge 42, 3) := by decide +kernel
theorem dX2_tick_27 : decode cX2_tick 27 = .ok (.aload_n 0, 1) := by decide +kernel
theorem dX2_tick_28 : decode cX2_tick 28 = .ok (.invokevirtual 162, 3) := by decide +kernel
theorem dX2_tick_31 : decode cX2_tick 31 = .ok (.astore 5, 2) := by decide +kernel
theorem dX2_tick_33 : decode cX2_tick 33 = .ok (.aload 5, 2) := by decide +kernel
theorem dX2_tick_35 : decode cX2_tick 35 = .ok (.ifnull 31, 3) := by decide +kernel
theorem dX2_tick_38 : decode cX2_tick 38 = .ok (.aload 5, 2) := by decide +kernel
theorem dX2_tick_40 : decode cX2_tick 40 = .ok (.getfield 166, 3) := by decide +kernel
theorem dX2_tick_43 : decode cX2_tick 43 = .ok (.iload_n 2, 1) := by decide +kernel
theorem dX2_tick_44 : decode cX2_tick 44 = .ok (.if_icmp .le 6, 3) := by decide +kernel
theorem dX2_tick_47 : decode cX2_tick 47 = .ok (.goto 19, 3) := by decide +kernel
theorem dX2_tick_50 : decode cX2_tick 50 = .ok (.aload_n 0, 1) := by decide +kernel
theorem dX2_tick_51 : decode cX2_tick 51 = .ok (.aload 5, 2) := by decide +kernel
theorem dX2_tick_53 : decode cX2_tick 53 = .ok (.iconst 1, 1) := by decide +kernel
theorem dX2_tick_54 : decode cX2_tick 54 = .ok (.invokevirtual 132, 3) := by decide +kernel
theorem dX2_tick_57 : decode cX2_tick 57 = .ok (.iinc 3 1, 3) := by decide +kernel
theorem dX2_tick_60 : decode cX2_tick 60 = .ok (.iinc 4 1, 3) := by decide +kernel
theorem dX2_tick_63 : decode cX2_tick 63 = .ok (.goto (-43), 3) := by decide +kernel
theorem dX2_tick_66 : decode cX2_tick 66 = .ok (.aload_n 0, 1) := by decide +kernel
theorem dX2_tick_67 : decode cX2_tick 67 = .ok (.iload_n 2, 1) := by decide +kernel
theorem dX2_tick_68 : decode cX2_tick 68 = .ok (.putfield 19, 3) := by decide +kernel
theorem dX2_tick_71 : decode cX2_tick 71 = .ok (.iload_n 3, 1) := by decide +kernel
theorem dX2_tick_72 : decode cX2_tick 72 = .ok (.ireturn, 1) := by decide +kernel
theorem dX2_now_0 : decode cX2_now 0 = .ok (.aload_n 0, 1) := by decide +kernel
theorem dX2_now_1 : decode cX2_now 1 = .ok (.getfield 19, 3) := by decide +kernel
theorem dX2_now_4 : decode cX2_now 4 = .ok (.ireturn, 1) := by decide +kernel
set_option maxRecDepth 20000 in
theorem ggX2_nextTimeout_X2_firstToTimeOut : GoodIn wsX2_nextTimeout wsX2_firstToTimeOut := goodIn_r _ [7, 8, 1, 9, 10, 11, 12, 13, 14, 15, 27, 28, 29, 30, 31, 32, 16, 17, 18, 19, 20, 21, 22, 23, 24, 25, 26] (by decide +kernel) (by decide +kernel)
set_option maxRecDepth 20000 in
theorem gX2_nextTimeout_X2_firstToTimeOut : GoodIn wsX2_nextTimeout (wsV RX2 162 RX2 yX2_firstToTimeOut wsX2_firstToTimeOut) := goodIn_app (goodIn_of _ (by decide +kernel)) ggX2_nextTimeout_X2_firstToTimeOut
theorem dX2_nextTimeout_0 : decode cX2_nextTimeout 0 = .ok (.aload_n 0, 1) := by decide +kernel
theorem dX2_nextTimeout_1 : decode cX2_nextTimeout 1 = .ok (.invokevirtual 162, 3) := by decide +kernel
theorem dX2_nextTimeout_4 : decode cX2_nextTimeout 4 = .ok (.astore_n 1, 1) := by decide +kernel
theorem dX2_nextTimeout_5 : decode cX2_nextTimeout 5 = .ok (.aload_n 1, 1) := by decide +kernel
theorem dX2_nextTimeout_6 : decode cX2_nextTimeout 6 = .ok (.ifnonnull 7, 3) := by decide +kernel
theorem dX2_nextTimeout_9 : decode cX2_nextTimeout 9 = .ok (.iconst (-1), 1) := by decide +kernel
theorem dX2_nextTimeout_10 : decode cX2_nextTimeout 10 = .ok (.goto 12, 3) := by decide +kernel
theorem dX2_nextTimeout_13 : decode cX2_nextTimeout 13 = .ok (.aload_n 1, 1) := by decide +kernel
theorem dX2_nextTimeout_14 : decode cX2_nextTimeout 14 = .ok (.getfield 166, 3) := by decide +kernel
theorem dX2_nextTimeout_17 : decode cX2_nextTimeout 17 = .ok (.aload_n 0, 1) := by decide +kernel
theorem dX2_nextTimeout_18 : decode cX2_nextTimeout 18 = .ok (.getfield 19, 3) := by decide +kernel
theorem dX2_nextTimeout_21 : decode cX2_nextTimeout 21 = .ok (.isub, 1) := by decide +kernel
theorem dX2_nextTimeout_22 : decode cX2_nextTimeout 22 = .ok (.ireturn, 1) := by decide +kernel
set_option maxRecDepth 20000 in
theorem ggX2_stateOf_X2_taskOf : GoodIn wsX2_stateOf wsX2_taskOf := goodIn_ca (goodIn_r _ [6, 7, 8, 9, 21, 22, 23, 24, 25, 26] (by decide +kernel) (by decide +kernel)) (goodIn_sub (fun _ h => List.mem_cons_of_mem _ (List.mem_append_right _ h)) (by decide +kernel))
set_option maxRecDepth 20000 in
theorem gX2_stateOf_X2_taskOf : GoodIn wsX2_stateOf (wsV RX2 35 RX2 yX2_taskOf wsX2_taskOf) := goodIn_app (goodIn_of _ (by decide +kernel)) ggX2_stateOf_X2_taskOf
theorem dX2_stateOf_0 : decode cX2_stateOf 0 = .ok (.aload_n 0, 1) := by decide +kernel
theorem dX2_stateOf_1 : decode cX2_stateOf 1 = .ok (.iload_n 1, 1) := by decide +kernel
theorem dX2_stateOf_2 : decode cX2_stateOf 2 = .ok (.invokevirtual 35, 3) := by decide +kernel
theorem dX2_stateOf_5 : decode cX2_stateOf 5 = .ok (.getfield 76, 3) := by decide +kernel
theorem dX2_stateOf_8 : decode cX2_stateOf 8 = .ok (.ireturn, 1) := by decide +kernel
set_option maxRecDepth 20000 in
theorem ggX2_addressOf_X2_taskOf : GoodIn wsX2_addressOf wsX2_taskOf := goodIn_ca (goodIn_r _ [6, 7, 8, 9, 21, 22, 23, 24, 25, 26] (by decide +kernel) (by decide +kernel)) (goodIn_sub (fun _ h => List.mem_cons_of_mem _ (List.mem_append_right _ h)) (by decide +kernel))
set_option maxRecDepth 20000 in
theorem gX2_addressOf_X2_taskOf : GoodIn wsX2_addressOf (wsV RX2 35 RX2 yX2_taskOf wsX2_taskOf) := goodIn_app (goodIn_of _ (by decide +kernel)) ggX2_addressOf_X2_taskOf
theorem dX2_addressOf_0 : decode cX2_addressOf 0 = .ok (.aload_n 0, 1) := by decide +kernel
theorem dX2_addressOf_1 : decode cX2_addressOf 1 = .ok (.iload_n 1, 1) := by decide +kernel
theorem dX2_addressOf_2 : decode cX2_addressOf 2 = .ok (.invokevirtual 35, 3) := by decide +kernel
theorem dX2_addressOf_5 : decode cX2_addressOf 5 = .ok (.getfield 156, 3) := by decide +kernel
theorem dX2_addressOf_8 : decode cX2_addressOf 8 = .ok (.ireturn, 1) := by decide +kernel
set_option maxRecDepth 20000 in
theorem ggX2_resultOf_X2_taskOf : GoodIn wsX2_resultOf wsX2_taskOf := goodIn_ca (goodIn_r _ [6, 7, 8, 9, 21, 22, 23, 24, 25, 26] (by decide +kernel) (by decide +kernel)) (goodIn_sub (fun _ h => List.mem_cons_of_mem _ (List.mem_append_right _ h)) (by decide +kernel))
set_option maxRecDepth 20000 in
theorem gX2_resultOf_X2_taskOf : GoodIn wsX2_resultOf (wsV RX2 35 RX2 yX2_taskOf wsX2_taskOf) := goodIn_app (goodIn_of _ (by decide +kernel)) ggX2_resultOf_X2_taskOf
theorem dX2_resultOf_0 : decode cX2_resultOf 0 = .ok (.aload_n 0, 1) := by decide +kernel
theorem dX2_resultOf_1 : decode cX2_resultOf 1 = .ok (.iload_n 1, 1) := by decide +kernel
theorem dX2_resultOf_2 : decode cX2_resultOf 2 = .ok (.invokevirtual 35, 3) := by decide +kernel
theorem dX2_resultOf_5 : decode cX2_resultOf 5 = .ok (.getfield 150, 3) := by decide +kernel
theorem dX2_resultOf_8 : decode cX2_resultOf 8 = .ok (.ireturn, 1) := by decide +kernel
set_option maxRecDepth 20000 in
theorem ggX2_serialOf_X2_taskOf : GoodIn wsX2_serialOf wsX2_taskOf := goodIn_ca (goodIn_r _ [6, 7, 8, 9, 21, 22, 23, 24, 25, 26] (by decide +kernel) (by decide +kernel)) (goodIn_sub (fun _ h => List.mem_cons_of_mem _ (List.mem_append_right _ h)) (by decide +kernel))
set_option maxRecDepth 20000 in
theorem gX2_serialOf_X2_taskOf : GoodIn wsX2_serialOf (wsV RX2 35 RX2 yX2_taskOf wsX2_taskOf) := goodIn_app (goodIn_of _ (by decide +kernel)) ggX2_serialOf_X2_taskOf
theorem dX2_serialOf_0 : decode cX2_serialOf 0 = .ok (.aload_n 0, 1) := by decide +kernel
theorem dX2_serialOf_1 : decode cX2_serialOf 1 = .ok (.iload_n 1, 1) := by decide +kernel
theorem dX2_serialOf_2 : decode cX2_serialOf 2 = .ok (.invokevirtual 35, 3) := by decide +kernel
theorem dX2_serialOf_5 : decode cX2_serialOf 5 = .ok (.getfield 153, 3) := by decide +kernel
theorem dX2_serialOf_8 : decode cX2_serialOf 8 = .ok (.ireturn, 1) := by decide +kernel
set_option maxRecDepth 20000 in
theorem ggX2_waiters_X2_requireAddress : GoodIn wsX2_waiters wsX2_requireAddress := goodIn_ca (goodIn_r _ [6, 7, 8, 9, 10, 5, 11] (by decide +kernel) (by decide +kernel)) (goodIn_sub (fun _ h => List.mem_cons_of_mem _ (List.mem_append_right _ h)) (by decide +kernel))
set_option maxRecDepth 20000 in
theorem gX2_waiters_X2_requireAddress : GoodIn wsX2_waiters (va_wsS RX2 39 yX2_requireAddress wsX2_requireAddress) := goodIn_app (goodIn_of _ (by decide +kernel)) ggX2_waiters_X2_requireAddress
theorem dX2_waiters_0 : decode cX2_waiters 0 = .ok (.iload_n 1, 1) := by decide +kernel
theorem dX2_waiters_1 : decode cX2_waiters 1 = .ok (.invokestatic 39, 3) := by decide +kernel
theorem dX2_waiters_4 : decode cX2_waiters 4 = .ok (.iconst 0, 1) := by decide +kernel
theorem dX2_waiters_5 : decode cX2_waiters 5 = .ok (.istore_n 2, 1) := by decide +kernel
theorem dX2_waiters_6 : decode cX2_waiters 6 = .ok (.aload_n 0, 1) := by decide +kernel
theorem dX2_waiters_7 : decode cX2_waiters 7 = .ok (.getfield 15, 3) := by decide +kernel
theorem dX2_waiters_10 : decode cX2_waiters 10 = .ok (.astore_n 3, 1) := by decide +kernel
theorem dX2_waiters_11 : decode cX2_waiters 11 = .ok (.aload_n 3, 1) := by decide +kernel
theorem dX2_waiters_12 : decode cX2_waiters 12 = .ok (.arraylength, 1) := by decide +kernel
theorem dX2_waiters_13 : decode cX2_waiters 13 = .ok (.istore 4, 2) := by decide +kernel
theorem dX2_waiters_15 : decode cX2_waiters 15 = .ok (.iconst 0, 1) := by decide +kernel
theorem dX2_waiters_16 : decode cX2_waiters 16 = .ok (.istore 5, 2) := by decide +kernel
theorem dX2_waiters_18 : decode cX2_waiters 18 = .ok (.iload 5, 2) := by decide +kernel
theorem dX2_waiters_20 : decode cX2_waiters 20 = .ok (.iload 4, 2) := by decide +kernel
theorem dX2_waiters_22 : decode cX2_waiters 22 = .ok (.if_icmp .ge 27, 3) := by decide +kernel
theorem dX2_waiters_25 : decode cX2_waiters 25 = .ok (.aload_n 3, 1) := by decide +kernel
theorem dX2_waiters_26 : decode cX2_waiters 26 = .ok (.iload 5, 2) := by decide +kernel
theorem dX2_waiters_28 : decode cX2_waiters 28 = .ok (.aaload, 1) := by decide +kernel
theorem dX2_waiters_29 : decode cX2_waiters 29 = .ok (.astore 6, 2) := by decide +kernel
theorem dX2_waiters_31 : decode cX2_waiters 31 = .ok (.aload 6, 2) := by decide +kernel
theorem dX2_waiters_33 : decode cX2_waiters 33 = .ok (.getfield 156, 3) := by decide +kernel
theorem dX2_waiters_36 : decode cX2_waiters 36 = .ok (.iload_n 1, 1) := by decide +kernel
theorem dX2_waiters_37 : decode cX2_waiters 37 = .ok (.if_icmp .ne 6, 3) := by decide +kernel
theorem dX2_waiters_40 : decode cX2_waiters 40 = .ok (.iinc 2 1, 3) := by decide +kernel
theorem dX2_waiters_43 : decode cX2_waiters 43 = .ok (.iinc 5 1, 3) := by decide +kernel
theorem dX2_waiters_46 : decode cX2_waiters 46 = .ok (.goto (-28), 3) := by decide +kernel
theorem dX2_waiters_49 : decode cX2_waiters 49 = .ok (.iload_n 2, 1) := by decide +kernel
theorem dX2_waiters_50 : decode cX2_waiters 50 = .ok (.ireturn, 1) := by decide +kernel
set_option maxRecDepth 20000 in
theorem ggX2_waiterAt_X2_requireAddress : GoodIn wsX2_waiterAt wsX2_requireAddress := goodIn_ca (goodIn_r _ [9, 1, 2, 10, 11, 8, 12] (by decide +kernel) (by decide +kernel)) (goodIn_sub (fun _ h => List.mem_cons_of_mem _ (List.mem_append_right _ h)) (by decide +kernel))
set_option maxRecDepth 20000 in
theorem gX2_waiterAt_X2_requireAddress : GoodIn wsX2_waiterAt (va_wsS RX2 39 yX2_requireAddress wsX2_requireAddress) := goodIn_app (goodIn_of _ (by decide +kernel)) ggX2_waiterAt_X2_requireAddress
set_option maxRecDepth 20000 in
theorem ggX2_waiterAt_X2_countAheadAtAddress : GoodIn wsX2_waiterAt wsX2_countAheadAtAddress := goodIn_r _ [16, 3, 4, 17, 18, 19, 20, 21, 22, 23, 24, 25, 26, 27, 28, 29, 30, 31, 32, 33, 34, 35, 36, 37, 38, 39, 40] (by decide +kernel) (by decide +kernel)
set_option maxRecDepth 20000 in
theorem gX2_waiterAt_X2_countAheadAtAddress : GoodIn wsX2_waiterAt (wsV RX2 169 RX2 yX2_countAheadAtAddress wsX2_countAheadAtAddress) := goodIn_app (goodIn_of _ (by decide +kernel)) ggX2_waiterAt_X2_countAheadAtAddress
theorem dX2_waiterAt_0 : decode cX2_waiterAt 0 = .ok (.iload_n 1, 1) := by decide +kernel
theorem dX2_waiterAt_1 : decode cX2_waiterAt 1 = .ok (.invokestatic 39, 3) := by decide +kernel
theorem dX2_waiterAt_4 : decode cX2_waiterAt 4 = .ok (.aload_n 0, 1) := by decide +kernel
theorem dX2_waiterAt_5 : decode cX2_waiterAt 5 = .ok (.getfield 15, 3) := by decide +kernel
theorem dX2_waiterAt_8 : decode cX2_waiterAt 8 = .ok (.astore_n 3, 1) := by decide +kernel
theorem dX2_waiterAt_9 : decode cX2_waiterAt 9 = .ok (.aload_n 3, 1) := by decide +kernel
theorem dX2_waiterAt_10 : decode cX2_waiterAt 10 = .ok (.arraylength, 1) := by decide +kernel
theorem dX2_waiterAt_11 : decode cX2_waiterAt 11 = .ok (.istore 4, 2) := by decide +kernel
theorem dX2_waiterAt_13 : decode cX2_waiterAt 13 = .ok (.iconst 0, 1) := by decide +kernel
theorem dX2_waiterAt_14 : decode cX2_waiterAt 14 = .ok (.istore 5, 2) := by decide +kernel
theorem dX2_waiterAt_16 : decode cX2_waiterAt 16 = .ok (.iload 5, 2) := by decide +kernel
theorem dX2_waiterAt_18 : decode cX2_waiterAt 18 = .ok (.iload 4, 2) := by decide +kernel
theorem dX2_waiterAt_20 : decode cX2_waiterAt 20 = .ok (.if_icmp .ge 40, 3) := by decide +kernel
theorem dX2_waiterAt_23 : decode cX2_waiterAt 23 = .ok (.aload_n 3, 1) := by decide +kernel
theorem dX2_waiterAt_24 : decode cX2_waiterAt 24 = .ok (.iload 5, 2) := by decide +kernel
theorem dX2_waiterAt_26 : decode cX2_waiterAt 26 = .ok (.aaload, 1) := by decide +kernel
theorem dX2_waiterAt_27 : decode cX2_waiterAt 27 = .ok (.astore 6, 2) := by decide +kernel
theorem dX2_waiterAt_29 : decode cX2_waiterAt 29 = .ok (.aload 6, 2) := by decide +kernel
theorem dX2_waiterAt_31 : decode cX2_waiterAt 31 = .ok (.getfield 156, 3) := by decide +kernel
theorem dX2_waiterAt_34 : decode cX2_waiterAt 34 = .ok (.iload_n 1, 1) := by decide +kernel
theorem dX2_waiterAt_35 : decode cX2_waiterAt 35 = .ok (.if_icmp .ne 19, 3) := by decide +kernel
theorem dX2_waiterAt_38 : decode cX2_waiterAt 38 = .ok (.aload_n 0, 1) := by decide +kernel
theorem dX2_waiterAt_39 : decode cX2_waiterAt 39 = .ok (.aload 6, 2) := by decide +kernel
theorem dX2_waiterAt_41 : decode cX2_waiterAt 41 = .ok (.invokevirtual 169, 3) := by decide +kernel
theorem dX2_waiterAt_44 : decode cX2_waiterAt 44 = .ok (.iload_n 2, 1) := by decide +kernel
theorem dX2_waiterAt_45 : decode cX2_waiterAt 45 = .ok (.if_icmp .ne 9, 3) := by decide +kernel
theorem dX2_waiterAt_48 : decode cX2_waiterAt 48 = .ok (.aload 6, 2) := by decide +kernel
theorem dX2_waiterAt_50 : decode cX2_waiterAt 50 = .ok (.getfield 173, 3) := by decide +kernel
theorem dX2_waiterAt_53 : decode cX2_waiterAt 53 = .ok (.ireturn, 1) := by decide +kernel
theorem dX2_waiterAt_54 : decode cX2_waiterAt 54 = .ok (.iinc 5 1, 3) := by decide +kernel
theorem dX2_waiterAt_57 : decode cX2_waiterAt 57 = .ok (.goto (-41), 3) := by decide +kernel
theorem dX2_waiterAt_60 : decode cX2_waiterAt 60 = .ok (.new 105, 3) := by decide +kernel
theorem dX2_waiterAt_63 : decode cX2_waiterAt 63 = .ok (.dup, 1) := by decide +kernel
theorem dX2_waiterAt_64 : decode cX2_waiterAt 64 = .ok (.ldc 107, 2) := by decide +kernel
theorem dX2_waiterAt_66 : decode cX2_waiterAt 66 = .ok (.invokespecial 109, 3) := by decide +kernel
theorem dX2_waiterAt_69 : decode cX2_waiterAt 69 = .ok (.athrow, 1) := by decide +kernel
set_option maxRecDepth 20000 in
theorem ggX2_queueAt_X1_isQueued : GoodIn wsX2_queueAt wsX1_isQueued := goodIn_r _ [10, 11, 32, 33, 34, 35, 36, 37, 38, 39, 40, 41, 42] (by decide +kernel) (by decide +kernel)
set_option maxRecDepth 20000 in
theorem gX2_queueAt_X1_isQueued : GoodIn wsX2_queueAt (wsV RX2 126 RX1 yX1_isQueued wsX1_isQueued) := goodIn_app (goodIn_of _ (by decide +kernel)) ggX2_queueAt_X1_isQueued
set_option maxRecDepth 20000 in
theorem ggX2_queueAt_X2_bucketOf : GoodIn wsX2_queueAt wsX2_bucketOf := goodIn_r _ [15] (by decide +kernel) (by decide +kernel)
set_option maxRecDepth 20000 in
theorem gX2_queueAt_X2_bucketOf : GoodIn wsX2_queueAt (va_wsS RX2 178 yX2_bucketOf wsX2_bucketOf) := goodIn_app (goodIn_of _ (by decide +kernel)) ggX2_queueAt_X2_bucketOf
set_option maxRecDepth 20000 in
theorem ggX2_queueAt_X2_countAheadInBucket : GoodIn wsX2_queueAt wsX2_countAheadInBucket := goodIn_r _ [19, 3, 4, 6, 7, 8, 9, 10, 11, 12, 13, 14, 15, 20, 21, 22, 23, 24, 25, 26, 27, 28, 29, 30, 31, 32, 33, 34, 35, 36, 37, 38, 39, 40, 41, 42] (by decide +kernel) (by decide +kernel)
set_option maxRecDepth 20000 in
theorem gX2_queueAt_X2_countAheadInBucket : GoodIn wsX2_queueAt (wsV RX2 181 RX2 yX2_countAheadInBucket wsX2_countAheadInBucket) := goodIn_app (goodIn_of _ (by decide +kernel)) ggX2_queueAt_X2_countAheadInBucket
theorem dX2_queueAt_0 : decode cX2_queueAt 0 = .ok (.iload_n 1, 1) := by decide +kernel
theorem dX2_queueAt_1 : decode cX2_queueAt 1 = .ok (.ifCond .lt 12, 3) := by decide +kernel
theorem dX2_queueAt_4 : decode cX2_queueAt 4 = .ok (.iload_n 1, 1) := by decide +kernel
theorem dX2_queueAt_5 : decode cX2_queueAt 5 = .ok (.iconst 4, 1) := by decide +kernel
theorem dX2_queueAt_6 : decode cX2_queueAt 6 = .ok (.if_icmp .ge 7, 3) := by decide +kernel
theorem dX2_queueAt_9 : decode cX2_queueAt 9 = .ok (.iload_n 2, 1) := by decide +kernel
theorem dX2_queueAt_10 : decode cX2_queueAt 10 = .ok (.ifCond .ge 13, 3) := by decide +kernel
theorem dX2_queueAt_13 : decode cX2_queueAt 13 = .ok (.new 105, 3) := by decide +kernel
theorem dX2_queueAt_16 : decode cX2_queueAt 16 = .ok (.dup, 1) := by decide +kernel
theorem dX2_queueAt_17 : decode cX2_queueAt 17 = .ok (.ldc 176, 2) := by decide +kernel
theorem dX2_queueAt_19 : decode cX2_queueAt 19 = .ok (.invokespecial 109, 3) := by decide +kernel
theorem dX2_queueAt_22 : decode cX2_queueAt 22 = .ok (.athrow, 1) := by decide +kernel
theorem dX2_queueAt_23 : decode cX2_queueAt 23 = .ok (.aload_n 0, 1) := by decide +kernel
theorem dX2_queueAt_24 : decode cX2_queueAt 24 = .ok (.getfield 15, 3) := by decide +kernel
theorem dX2_queueAt_27 : decode cX2_queueAt 27 = .ok (.astore_n 3, 1) := by decide +kernel
theorem dX2_queueAt_28 : decode cX2_queueAt 28 = .ok (.aload_n 3, 1) := by decide +kernel
theorem dX2_queueAt_29 : decode cX2_queueAt 29 = .ok (.arraylength, 1) := by decide +kernel
theorem dX2_queueAt_30 : decode cX2_queueAt 30 = .ok (.istore 4, 2) := by decide +kernel
theorem dX2_queueAt_32 : decode cX2_queueAt 32 = .ok (.iconst 0, 1) := by decide +kernel
theorem dX2_queueAt_33 : decode cX2_queueAt 33 = .ok (.istore 5, 2) := by decide +kernel
theorem dX2_queueAt_35 : decode cX2_queueAt 35 = .ok (.iload 5, 2) := by decide +kernel
theorem dX2_queueAt_37 : decode cX2_queueAt 37 = .ok (.iload 4, 2) := by decide +kernel
theorem dX2_queueAt_39 : decode cX2_queueAt 39 = .ok (.if_icmp .ge 51, 3) := by decide +kernel
theorem dX2_queueAt_42 : decode cX2_queueAt 42 = .ok (.aload_n 3, 1) := by decide +kernel
theorem dX2_queueAt_43 : decode cX2_queueAt 43 = .ok (.iload 5, 2) := by decide +kernel
theorem dX2_queueAt_45 : decode cX2_queueAt 45 = .ok (.aaload, 1) := by decide +kernel
theorem dX2_queueAt_46 : decode cX2_queueAt 46 = .ok (.astore 6, 2) := by decide +kernel
theorem dX2_queueAt_48 : decode cX2_queueAt 48 = .ok (.aload 6, 2) := by decide +kernel
theorem dX2_queueAt_50 : decode cX2_queueAt 50 = .ok (.invokevirtual 126, 3) := by decide +kernel
theorem dX2_queueAt_53 : decode cX2_queueAt 53 = .ok (.ifCond .eq 31, 3) := by decide +kernel
theorem dX2_queueAt_56 : decode cX2_queueAt 56 = .ok (.aload 6, 2) := by decide +kernel
theorem dX2_queueAt_58 : decode cX2_queueAt 58 = .ok (.getfield 156, 3) := by decide +kernel
theorem dX2_queueAt_61 : decode cX2_queueAt 61 = .ok (.invokestatic 178, 3) := by decide +kernel
theorem dX2_queueAt_64 : decode cX2_queueAt 64 = .ok (.iload_n 1, 1) := by decide +kernel
theorem dX2_queueAt_65 : decode cX2_queueAt 65 = .ok (.if_icmp .ne 19, 3) := by decide +kernel
theorem dX2_queueAt_68 : decode cX2_queueAt 68 = .ok (.aload_n 0, 1) := by decide +kernel
theorem dX2_queueAt_69 : decode cX2_queueAt 69 = .ok (.aload 6, 2) := by decide +kernel
theorem dX2_queueAt_71 : decode cX2_queueAt 71 = .ok (.invokevirtual 181, 3) := by decide +kernel
theorem dX2_queueAt_74 : decode cX2_queueAt 74 = .ok (.iload_n 2, 1) := by decide +kernel
theorem dX2_queueAt_75 : decode cX2_queueAt 75 = .ok (.if_icmp .ne 9, 3) := by decide +kernel
theorem dX2_queueAt_78 : decode cX2_queueAt 78 = .ok (.aload 6, 2) := by decide +kernel
theorem dX2_queueAt_80 : decode cX2_queueAt 80 = .ok (.getfield 173, 3) := by decide +kernel
theorem dX2_queueAt_83 : decode cX2_queueAt 83 = .ok (.ireturn, 1) := by decide +kernel
theorem dX2_queueAt_84 : decode cX2_queueAt 84 = .ok (.iinc 5 1, 3) := by decide +kernel
theorem dX2_queueAt_87 : decode cX2_queueAt 87 = .ok (.goto (-52), 3) := by decide +kernel
theorem dX2_queueAt_90 : decode cX2_queueAt 90 = .ok (.iconst (-1), 1) := by decide +kernel
theorem dX2_queueAt_91 : decode cX2_queueAt 91 = .ok (.ireturn, 1) := by decide +kernel
theorem dX2_taskOf_0 : decode cX2_taskOf 0 = .ok (.iload_n 1, 1) := by decide +kernel
theorem dX2_taskOf_1 : decode cX2_taskOf 1 = .ok (.ifCond .lt 9, 3) := by decide +kernel
theorem dX2_taskOf_4 : decode cX2_taskOf 4 = .ok (.iload_n 1, 1) := by decide +kernel
theorem dX2_taskOf_5 : decode cX2_taskOf 5 = .ok (.bipush 8, 2) := by decide +kernel
theorem dX2_taskOf_7 : decode cX2_taskOf 7 = .ok (.if_icmp .lt 13, 3) := by decide +kernel
theorem dX2_taskOf_10 : decode cX2_taskOf 10 = .ok (.new 105, 3) := by decide +kernel
theorem dX2_taskOf_13 : decode cX2_taskOf 13 = .ok (.dup, 1) := by decide +kernel
theorem dX2_taskOf_14 : decode cX2_taskOf 14 = .ok (.ldc 184, 2) := by decide +kernel
theorem dX2_taskOf_16 : decode cX2_taskOf 16 = .ok (.invokespecial 109, 3) := by decide +kernel
theorem dX2_taskOf_19 : decode cX2_taskOf 19 = .ok (.athrow, 1) := by decide +kernel
theorem dX2_taskOf_20 : decode cX2_taskOf 20 = .ok (.aload_n 0, 1) := by decide +kernel
theorem dX2_taskOf_21 : decode cX2_taskOf 21 = .ok (.getfield 15, 3) := by decide +kernel
theorem dX2_taskOf_24 : decode cX2_taskOf 24 = .ok (.iload_n 1, 1) := by decide +kernel
theorem dX2_taskOf_25 : decode cX2_taskOf 25 = .ok (.aaload, 1) := by decide +kernel
theorem dX2_taskOf_26 : decode cX2_taskOf 26 = .ok (.areturn, 1) := by decide +kernel
theorem dX2_isAddress_0 : decode cX2_isAddress 0 = .ok (.iload_n 0, 1) := by decide +kernel
theorem dX2_isAddress_1 : decode cX2_isAddress 1 = .ok (.ifCond .lt 13, 3) := by decide +kernel
theorem dX2_isAddress_4 : decode cX2_isAddress 4 = .ok (.iload_n 0, 1) := by decide +kernel
theorem dX2_isAddress_5 : decode cX2_isAddress 5 = .ok (.bipush 16, 2) := by decide +kernel
theorem dX2_isAddress_7 : decode cX2_isAddress 7 = .ok (.if_icmp .ge 7, 3) := by decide +kernel
theorem dX2_isAddress_10 : decode cX2_isAddress 10 = .ok (.iconst 1, 1) := by decide +kernel
theorem dX2_isAddress_11 : decode cX2_isAddress 11 = .ok (.goto 4, 3) := by decide +kernel
theorem dX2_isAddress_14 : decode cX2_isAddress 14 = .ok (.iconst 0, 1) := by decide +kernel
theorem dX2_isAddress_15 : decode cX2_isAddress 15 = .ok (.ireturn, 1) := by decide +kernel
set_option maxRecDepth 20000 in
theorem ggX2_requireAddress_X2_isAddress : GoodIn wsX2_requireAddress wsX2_isAddress := goodIn_r _ [6] (by decide +kernel) (by decide +kernel)
set_option maxRecDepth 20000 in
theorem gX2_requireAddress_X2_isAddress : GoodIn wsX2_requireAddress (va_wsS RX2 186 yX2_isAddress wsX2_isAddress) := goodIn_app (goodIn_of _ (by decide +kernel)) ggX2_requireAddress_X2_isAddress
theorem dX2_requireAddress_0 : decode cX2_requireAddress 0 = .ok (.iload_n 0, 1) := by decide +kernel
theorem dX2_requireAddress_1 : decode cX2_requireAddress 1 = .ok (.invokestatic 186, 3) := by decide +kernel
theorem dX2_requireAddress_4 : decode cX2_requireAddress 4 = .ok (.ifCond .ne 13, 3) := by decide +kernel
theorem dX2_requireAddress_7 : decode cX2_requireAddress 7 = .ok (.new 105, 3) := by decide +kernel
theorem dX2_requireAddress_10 : decode cX2_requireAddress 10 = .ok (.dup, 1) := by decide +kernel
theorem dX2_requireAddress_11 : decode cX2_requireAddress 11 = .ok (.ldc 190, 2) := by decide +kernel
theorem dX2_requireAddress_13 : decode cX2_requireAddress 13 = .ok (.invokespecial 109, 3) := by decide +kernel
theorem dX2_requireAddress_16 : decode cX2_requireAddress 16 = .ok (.athrow, 1) := by decide +kernel
theorem dX2_requireAddress_17 : decode cX2_requireAddress 17 = .ok (.return_, 1) := by decide +kernel
theorem dX2_requireBetween_0 : decode cX2_requireBetween 0 = .ok (.iload_n 0, 1) := by decide +kernel
theorem dX2_requireBetween_1 : decode cX2_requireBetween 1 = .ok (.iload_n 1, 1) := by decide +kernel
theorem dX2_requireBetween_2 : decode cX2_requireBetween 2 = .ok (.if_icmp .lt 8, 3) := by decide +kernel
theorem dX2_requireBetween_5 : decode cX2_requireBetween 5 = .ok (.iload_n 0, 1) := by decide +kernel
theorem dX2_requireBetween_6 : decode cX2_requireBetween 6 = .ok (.iload_n 2, 1) := by decide +kernel
theorem dX2_requireBetween_7 : decode cX2_requireBetween 7 = .ok (.if_icmp .le 13, 3) := by decide +kernel
theorem dX2_requireBetween_10 : decode cX2_requireBetween 10 = .ok (.new 58, 3) := by decide +kernel
theorem dX2_requireBetween_13 : decode cX2_requireBetween 13 = .ok (.dup, 1) := by decide +kernel
theorem dX2_requireBetween_14 : decode cX2_requireBetween 14 = .ok (.ldc 192, 2) := by decide +kernel
theorem dX2_requireBetween_16 : decode cX2_requireBetween 16 = .ok (.invokespecial 62, 3) := by decide +kernel
theorem dX2_requireBetween_19 : decode cX2_requireBetween 19 = .ok (.athrow, 1) := by decide +kernel
theorem dX2_requireBetween_20 : decode cX2_requireBetween 20 = .ok (.return_, 1) := by decide +kernel
theorem dX2_requireRunning_0 : decode cX2_requireRunning 0 = .ok (.aload_n 0, 1) := by decide +kernel
theorem dX2_requireRunning_1 : decode cX2_requireRunning 1 = .ok (.getfield 76, 3) := by decide +kernel
theorem dX2_requireRunning_4 : decode cX2_requireRunning 4 = .ok (.ifCond .eq 13, 3) := by decide +kernel
theorem dX2_requireRunning_7 : decode cX2_requireRunning 7 = .ok (.new 84, 3) := by decide +kernel
theorem dX2_requireRunning_10 : decode cX2_requireRunning 10 = .ok (.dup, 1) := by decide +kernel
theorem dX2_requireRunning_11 : decode cX2_requireRunning 11 = .ok (.ldc 194, 2) := by decide +kernel
theorem dX2_requireRunning_13 : decode cX2_requireRunning 13 = .ok (.invokespecial 88, 3) := by decide +kernel
theorem dX2_requireRunning_16 : decode cX2_requireRunning 16 = .ok (.athrow, 1) := by decide +kernel
theorem dX2_requireRunning_17 : decode cX2_requireRunning 17 = .ok (.return_, 1) := by decide +kernel
theorem dX2_requireAlive_0 : decode cX2_requireAlive 0 = .ok (.aload_n 0, 1) := by decide +kernel
theorem dX2_requireAlive_1 : decode cX2_requireAlive 1 = .ok (.getfield 76, 3) := by decide +kernel
theorem dX2_requireAlive_4 : decode cX2_requireAlive 4 = .ok (.iconst 3, 1) := by decide +kernel
theorem dX2_requireAlive_5 : decode cX2_requireAlive 5 = .ok (.if_icmp .ne 13, 3) := by decide +kernel
theorem dX2_requireAlive_8 : decode cX2_requireAlive 8 = .ok (.new 84, 3) := by decide +kernel
theorem dX2_requireAlive_11 : decode cX2_requireAlive 11 = .ok (.dup, 1) := by decide +kernel
theorem dX2_requireAlive_12 : decode cX2_requireAlive 12 = .ok (.ldc 196, 2) := by decide +kernel
theorem dX2_requireAlive_14 : decode cX2_requireAlive 14 = .ok (.invokespecial 88, 3) := by decide +kernel
theorem dX2_requireAlive_17 : decode cX2_requireAlive 17 = .ok (.athrow, 1) := by decide +kernel
theorem dX2_requireAlive_18 : decode cX2_requireAlive 18 = .ok (.return_, 1) := by decide +kernel
theorem dX2_bucketOf_0 : decode cX2_bucketOf 0 = .ok (.iload_n 0, 1) := by decide +kernel
theorem dX2_bucketOf_1 : decode cX2_bucketOf 1 = .ok (.iload_n 0, 1) := by decide +kernel
theorem dX2_bucketOf_2 : decode cX2_bucketOf 2 = .ok (.iconst 4, 1) := by decide +kernel
theorem dX2_bucketOf_3 : decode cX2_bucketOf 3 = .ok (.idiv, 1) := by decide +kernel
theorem dX2_bucketOf_4 : decode cX2_bucketOf 4 = .ok (.iadd, 1) := by decide +kernel
theorem dX2_bucketOf_5 : decode cX2_bucketOf 5 = .ok (.iconst 4, 1) := by decide +kernel
theorem dX2_bucketOf_6 : decode cX2_bucketOf 6 = .ok (.irem, 1) := by decide +kernel
theorem dX2_bucketOf_7 : decode cX2_bucketOf 7 = .ok (.ireturn, 1) := by decide +kernel
theorem dX2_joinQueue_0 : decode cX2_joinQueue 0 = .ok (.aload_n 1, 1) := by decide +kernel
theorem dX2_joinQueue_1 : decode cX2_joinQueue 1 = .ok (.iload_n 2, 1) := by decide +kernel
theorem dX2_joinQueue_2 : decode cX2_joinQueue 2 = .ok (.putfield 156, 3) := by decide +kernel
theorem dX2_joinQueue_5 : decode cX2_joinQueue 5 = .ok (.aload_n 0, 1) := by decide +kernel
theorem dX2_joinQueue_6 : decode cX2_joinQueue 6 = .ok (.dup, 1) := by decide +kernel
theorem dX2_joinQueue_7 : decode cX2_joinQueue 7 = .ok (.getfield 29, 3) := by decide +kernel
theorem dX2_joinQueue_10 : decode cX2_joinQueue 10 = .ok (.iconst 1, 1) := by decide +kernel
theorem dX2_joinQueue_11 : decode cX2_joinQueue 11 = .ok (.iadd, 1) := by decide +kernel
theorem dX2_joinQueue_12 : decode cX2_joinQueue 12 = .ok (.putfield 29, 3) := by decide +kernel
theorem dX2_joinQueue_15 : decode cX2_joinQueue 15 = .ok (.aload_n 1, 1) := by decide +kernel
theorem dX2_joinQueue_16 : decode cX2_joinQueue 16 = .ok (.aload_n 0, 1) := by decide +kernel
theorem dX2_joinQueue_17 : decode cX2_joinQueue 17 = .ok (.getfield 29, 3) := by decide +kernel
theorem dX2_joinQueue_20 : decode cX2_joinQueue 20 = .ok (.putfield 198, 3) := by decide +kernel
theorem dX2_joinQueue_23 : decode cX2_joinQueue 23 = .ok (.return_, 1) := by decide +kernel
set_option maxRecDepth 20000 in
theorem ggX2_countAheadAtAddress_X1_isAheadOf : GoodIn wsX2_countAheadAtAddress wsX1_isAheadOf := goodIn_r _ [7, 8, 9, 16, 17, 18, 19, 20, 21, 22, 23, 24, 25, 26] (by decide +kernel) (by decide +kernel)
set_option maxRecDepth 20000 in
theorem gX2_countAheadAtAddress_X1_isAheadOf : GoodIn wsX2_countAheadAtAddress (wsV RX2 201 RX1 yX1_isAheadOf wsX1_isAheadOf) := goodIn_app (goodIn_of _ (by decide +kernel)) ggX2_countAheadAtAddress_X1_isAheadOf
theorem dX2_countAheadAtAddress_0 : decode cX2_countAheadAtAddress 0 = .ok (.iconst 0, 1) := by decide +kernel
theorem dX2_countAheadAtAddress_1 : decode cX2_countAheadAtAddress 1 = .ok (.istore_n 2, 1) := by decide +kernel
theorem dX2_countAheadAtAddress_2 : decode cX2_countAheadAtAddress 2 = .ok (.aload_n 0, 1) := by decide +kernel
theorem dX2_countAheadAtAddress_3 : decode cX2_countAheadAtAddress 3 = .ok (.getfield 15, 3) := by decide +kernel
theorem dX2_countAheadAtAddress_6 : decode cX2_countAheadAtAddress 6 = .ok (.astore_n 3, 1) := by decide +kernel
theorem dX2_countAheadAtAddress_7 : decode cX2_countAheadAtAddress 7 = .ok (.aload_n 3, 1) := by decide +kernel
theorem dX2_countAheadAtAddress_8 : decode cX2_countAheadAtAddress 8 = .ok (.arraylength, 1) := by decide +kernel
theorem dX2_countAheadAtAddress_9 : decode cX2_countAheadAtAddress 9 = .ok (.istore 4, 2) := by decide +kernel
theorem dX2_countAheadAtAddress_11 : decode cX2_countAheadAtAddress 11 = .ok (.iconst 0, 1) := by decide +kernel
theorem dX2_countAheadAtAddress_12 : decode cX2_countAheadAtAddress 12 = .ok (.istore 5, 2) := by decide +kernel
theorem dX2_countAheadAtAddress_14 : decode cX2_countAheadAtAddress 14 = .ok (.iload 5, 2) := by decide +kernel
theorem dX2_countAheadAtAddress_16 : decode cX2_countAheadAtAddress 16 = .ok (.iload 4, 2) := by decide +kernel
theorem dX2_countAheadAtAddress_18 : decode cX2_countAheadAtAddress 18 = .ok (.if_icmp .ge 39, 3) := by decide +kernel
theorem dX2_countAheadAtAddress_21 : decode cX2_countAheadAtAddress 21 = .ok (.aload_n 3, 1) := by decide +kernel
theorem dX2_countAheadAtAddress_22 : decode cX2_countAheadAtAddress 22 = .ok (.iload 5, 2) := by decide +kernel
theorem dX2_countAheadAtAddress_24 : decode cX2_countAheadAtAddress 24 = .ok (.aaload, 1) := by decide +kernel
theorem dX2_countAheadAtAddress_25 : decode cX2_countAheadAtAddress 25 = .ok (.astore 6, 2) := by decide +kernel
theorem dX2_countAheadAtAddress_27 : decode cX2_countAheadAtAddress 27 = .ok (.aload 6, 2) := by decide +kernel
theorem dX2_countAheadAtAddress_29 : decode cX2_countAheadAtAddress 29 = .ok (.getfield 156, 3) := by decide +kernel
theorem dX2_countAheadAtAddress_32 : decode cX2_countAheadAtAddress 32 = .ok (.aload_n 1, 1) := by decide +kernel
theorem dX2_countAheadAtAddress_33 : decode cX2_countAheadAtAddress 33 = .ok (.getfield 156, 3) := by decide +kernel
theorem dX2_countAheadAtAddress_36 : decode cX2_countAheadAtAddress 36 = .ok (.if_icmp .ne 15, 3) := by decide +kernel
theorem dX2_countAheadAtAddress_39 : decode cX2_countAheadAtAddress 39 = .ok (.aload 6, 2) := by decide +kernel
theorem dX2_countAheadAtAddress_41 : decode cX2_countAheadAtAddress 41 = .ok (.aload_n 1, 1) := by decide +kernel
theorem dX2_countAheadAtAddress_42 : decode cX2_countAheadAtAddress 42 = .ok (.invokevirtual 201, 3) := by decide +kernel
theorem dX2_countAheadAtAddress_45 : decode cX2_countAheadAtAddress 45 = .ok (.ifCond .eq 6, 3) := by decide +kernel
theorem dX2_countAheadAtAddress_48 : decode cX2_countAheadAtAddress 48 = .ok (.iinc 2 1, 3) := by decide +kernel
theorem dX2_countAheadAtAddress_51 : decode cX2_countAheadAtAddress 51 = .ok (.iinc 5 1, 3) := by decide +kernel
theorem dX2_countAheadAtAddress_54 : decode cX2_countAheadAtAddress 54 = .ok (.goto (-40), 3) := by decide +kernel
theorem dX2_countAheadAtAddress_57 : decode cX2_countAheadAtAddress 57 = .ok (.iload_n 2, 1) := by decide +kernel
theorem dX2_countAheadAtAddress_58 : decode cX2_countAheadAtAddress 58 = .ok (.ireturn, 1) := by decide +kernel
set_option maxRecDepth 20000 in
theorem ggX2_countAheadInBucket_X1_isQueued : GoodIn wsX2_countAheadInBucket wsX1_isQueued := goodIn_r _ [7, 8, 25, 26, 27, 28, 29, 30, 31, 32, 33, 34, 35] (by decide +kernel) (by decide +kernel)
set_option maxRecDepth 20000 in
theorem gX2_countAheadInBucket_X1_isQueued : GoodIn wsX2_countAheadInBucket (wsV RX2 126 RX1 yX1_isQueued wsX1_isQueued) := goodIn_app (goodIn_of _ (by decide +kernel)) ggX2_countAheadInBucket_X1_isQueued
set_option maxRecDepth 20000 in
theorem ggX2_countAheadInBucket_X2_bucketOf : GoodIn wsX2_countAheadInBucket wsX2_bucketOf := goodIn_r _ [12] (by decide +kernel) (by decide +kernel)
set_option maxRecDepth 20000 in
theorem gX2_countAheadInBucket_X2_bucketOf : GoodIn wsX2_countAheadInBucket (va_wsS RX2 178 yX2_bucketOf wsX2_bucketOf) := goodIn_app (goodIn_of _ (by decide +kernel)) ggX2_countAheadInBucket_X2_bucketOf
set_option maxRecDepth 20000 in
theorem ggX2_countAheadInBucket_X1_isAheadOf : GoodIn wsX2_countAheadInBucket wsX1_isAheadOf := goodIn_r _ [16, 17, 18, 25, 26, 27, 28, 29, 30, 31, 32, 33, 34, 35] (by decide +kernel) (by decide +kernel)
set_option maxRecDepth 20000 in
theorem gX2_countAheadInBucket_X1_isAheadOf : GoodIn wsX2_countAheadInBucket (wsV RX2 201 RX1 yX1_isAheadOf wsX1_isAheadOf) := goodIn_app (goodIn_of _ (by decide +kernel)) ggX2_countAheadInBucket_X1_isAheadOf
theorem dX2_countAheadInBucket_0 : decode cX2_countAheadInBucket 0 = .ok (.iconst 0, 1) := by decide +kernel
theorem dX2_countAheadInBucket_1 : decode cX2_countAheadInBucket 1 = .ok (.istore_n 2, 1) := by decide +kernel
theorem dX2_countAheadInBucket_2 : decode cX2_countAheadInBucket 2 = .ok (.aload_n 0, 1) := by decide +kernel
theorem dX2_countAheadInBucket_3 : decode cX2_countAheadInBucket 3 = .ok (.getfield 15, 3) := by decide +kernel
theorem dX2_countAheadInBucket_6 : decode cX2_countAheadInBucket 6 = .ok (.astore_n 3, 1) := by decide +kernel
theorem dX2_countAheadInBucket_7 : decode cX2_countAheadInBucket 7 = .ok (.aload_n 3, 1) := by decide +kernel
theorem dX2_countAheadInBucket_8 : decode cX2_countAheadInBucket 8 = .ok (.arraylength, 1) := by decide +kernel
theorem dX2_countAheadInBucket_9 : decode cX2_countAheadInBucket 9 = .ok (.istore 4, 2) := by decide +kernel
theorem dX2_countAheadInBucket_11 : decode cX2_countAheadInBucket 11 = .ok (.iconst 0, 1) := by decide +kernel
theorem dX2_countAheadInBucket_12 : decode cX2_countAheadInBucket 12 = .ok (.istore 5, 2) := by decide +kernel
theorem dX2_countAheadInBucket_14 : decode cX2_countAheadInBucket 14 = .ok (.iload 5, 2) := by decide +kernel
theorem dX2_countAheadInBucket_16 : decode cX2_countAheadInBucket 16 = .ok (.iload 4, 2) := by decide +kernel
theorem dX2_countAheadInBucket_18 : decode cX2_countAheadInBucket 18 = .ok (.if_icmp .ge 53, 3) := by decide +kernel
theorem dX2_countAheadInBucket_21 : decode cX2_countAheadInBucket 21 = .ok (.aload_n 3, 1) := by decide +kernel
theorem dX2_countAheadInBucket_22 : decode cX2_countAheadInBucket 22 = .ok (.iload 5, 2) := by decide +kernel
theorem dX2_countAheadInBucket_24 : decode cX2_countAheadInBucket 24 = .ok (.aaload, 1) := by decide +kernel
theorem dX2_countAheadInBucket_25 : decode cX2_countAheadInBucket 25 = .ok (.astore 6, 2) := by decide +kernel
theorem dX2_countAheadInBucket_27 : decode cX2_countAheadInBucket 27 = .ok (.aload 6, 2) := by decide +kernel
theorem dX2_countAheadInBucket_29 : decode cX2_countAheadInBucket 29 = .ok (.invokevirtual 126, 3) := by decide +kernel
theorem dX2_countAheadInBucket_32 : decode cX2_countAheadInBucket 32 = .ok (.ifCond .eq 33, 3) := by decide +kernel
theorem dX2_countAheadInBucket_35 : decode cX2_countAheadInBucket 35 = .ok (.aload 6, 2) := by decide +kernel
theorem dX2_countAheadInBucket_37 : decode cX2_countAheadInBucket 37 = .ok (.getfield 156, 3) := by decide +kernel
theorem dX2_countAheadInBucket_40 : decode cX2_countAheadInBucket 40 = .ok (.invokestatic 178, 3) := by decide +kernel
theorem dX2_countAheadInBucket_43 : decode cX2_countAheadInBucket 43 = .ok (.aload_n 1, 1) := by decide +kernel
theorem dX2_countAheadInBucket_44 : decode cX2_countAheadInBucket 44 = .ok (.getfield 156, 3) := by decide +kernel
theorem dX2_countAheadInBucket_47 : decode cX2_countAheadInBucket 47 = .ok (.invokestatic 178, 3) := by decide +kernel
theorem dX2_countAheadInBucket_50 : decode cX2_countAheadInBucket 50 = .ok (.if_icmp .ne 15, 3) := by decide +kernel
theorem dX2_countAheadInBucket_53 : decode cX2_countAheadInBucket 53 = .ok (.aload 6, 2) := by decide +kernel
theorem dX2_countAheadInBucket_55 : decode cX2_countAheadInBucket 55 = .ok (.aload_n 1, 1) := by decide +kernel
theorem dX2_countAheadInBucket_56 : decode cX2_countAheadInBucket 56 = .ok (.invokevirtual 201, 3) := by decide +kernel
theorem dX2_countAheadInBucket_59 : decode cX2_countAheadInBucket 59 = .ok (.ifCond .eq 6, 3) := by decide +kernel
theorem dX2_countAheadInBucket_62 : decode cX2_countAheadInBucket 62 = .ok (.iinc 2 1, 3) := by decide +kernel
theorem dX2_countAheadInBucket_65 : decode cX2_countAheadInBucket 65 = .ok (.iinc 5 1, 3) := by decide +kernel
theorem dX2_countAheadInBucket_68 : decode cX2_countAheadInBucket 68 = .ok (.goto (-54), 3) := by decide +kernel
theorem dX2_countAheadInBucket_71 : decode cX2_countAheadInBucket 71 = .ok (.iload_n 2, 1) := by decide +kernel
theorem dX2_countAheadInBucket_72 : decode cX2_countAheadInBucket 72 = .ok (.ireturn, 1) := by decide +kernel
set_option maxRecDepth 20000 in
theorem ggX2_firstAt_X1_isAheadOf : GoodIn wsX2_firstAt wsX1_isAheadOf := goodIn_r _ [9, 10, 11, 18, 19, 20, 21, 22, 23, 24, 25, 26, 27, 28] (by decide +kernel) (by decide +kernel)
set_option maxRecDepth 20000 in
theorem gX2_firstAt_X1_isAheadOf : GoodIn wsX2_firstAt (wsV RX2 201 RX1 yX1_isAheadOf wsX1_isAheadOf) := goodIn_app (goodIn_of _ (by decide +kernel)) ggX2_firstAt_X1_isAheadOf
theorem dX2_firstAt_0 : decode cX2_firstAt 0 = .ok (.aconst_null, 1) := by decide +kernel
theorem dX2_firstAt_1 : decode cX2_firstAt 1 = .ok (.astore 4, 2) := by decide +kernel
theorem dX2_firstAt_3 : decode cX2_firstAt 3 = .ok (.aload_n 0, 1) := by decide +kernel
theorem dX2_firstAt_4 : decode cX2_firstAt 4 = .ok (.getfield 15, 3) := by decide +kernel
theorem dX2_firstAt_7 : decode cX2_firstAt 7 = .ok (.astore 5, 2) := by decide +kernel
theorem dX2_firstAt_9 : decode cX2_firstAt 9 = .ok (.aload 5, 2) := by decide +kernel
theorem dX2_firstAt_11 : decode cX2_firstAt 11 = .ok (.arraylength, 1) := by decide +kernel
theorem dX2_firstAt_12 : decode cX2_firstAt 12 = .ok (.istore 6, 2) := by decide +kernel
theorem dX2_firstAt_14 : decode cX2_firstAt 14 = .ok (.iconst 0, 1) := by decide +kernel
theorem dX2_firstAt_15 : decode cX2_firstAt 15 = .ok (.istore 7, 2) := by decide +kernel
theorem dX2_firstAt_17 : decode cX2_firstAt 17 = .ok (.iload 7, 2) := by decide +kernel
theorem dX2_firstAt_19 : decode cX2_firstAt 19 = .ok (.iload 6, 2) := by decide +kernel
theorem dX2_firstAt_21 : decode cX2_firstAt 21 = .ok (.if_icmp .ge 75, 3) := by decide +kernel
theorem dX2_firstAt_24 : decode cX2_firstAt 24 = .ok (.aload 5, 2) := by decide +kernel
theorem dX2_firstAt_26 : decode cX2_firstAt 26 = .ok (.iload 7, 2) := by decide +kernel
theorem dX2_firstAt_28 : decode cX2_firstAt 28 = .ok (.aaload, 1) := by decide +kernel
theorem dX2_firstAt_29 : decode cX2_firstAt 29 = .ok (.astore 8, 2) := by decide +kernel
theorem dX2_firstAt_31 : decode cX2_firstAt 31 = .ok (.aload 8, 2) := by decide +kernel
theorem dX2_firstAt_33 : decode cX2_firstAt 33 = .ok (.getfield 156, 3) := by decide +kernel
theorem dX2_firstAt_36 : decode cX2_firstAt 36 = .ok (.iload_n 1, 1) := by decide +kernel
theorem dX2_firstAt_37 : decode cX2_firstAt 37 = .ok (.if_icmp .ne 26, 3) := by decide +kernel
theorem dX2_firstAt_40 : decode cX2_firstAt 40 = .ok (.aload 8, 2) := by decide +kernel
theorem dX2_firstAt_42 : decode cX2_firstAt 42 = .ok (.getfield 76, 3) := by decide +kernel
theorem dX2_firstAt_45 : decode cX2_firstAt 45 = .ok (.iload_n 2, 1) := by decide +kernel
theorem dX2_firstAt_46 : decode cX2_firstAt 46 = .ok (.if_icmp .ne 17, 3) := by decide +kernel
theorem dX2_firstAt_49 : decode cX2_firstAt 49 = .ok (.aload 8, 2) := by decide +kernel
theorem dX2_firstAt_51 : decode cX2_firstAt 51 = .ok (.getfield 205, 3) := by decide +kernel
theorem dX2_firstAt_54 : decode cX2_firstAt 54 = .ok (.iload_n 3, 1) := by decide +kernel
theorem dX2_firstAt_55 : decode cX2_firstAt 55 = .ok (.iand, 1) := by decide +kernel
theorem dX2_firstAt_56 : decode cX2_firstAt 56 = .ok (.ifCond .eq 7, 3) := by decide +kernel
theorem dX2_firstAt_59 : decode cX2_firstAt 59 = .ok (.iconst 1, 1) := by decide +kernel
theorem dX2_firstAt_60 : decode cX2_firstAt 60 = .ok (.goto 4, 3) := by decide +kernel
theorem dX2_firstAt_63 : decode cX2_firstAt 63 = .ok (.iconst 0, 1) := by decide +kernel
theorem dX2_firstAt_64 : decode cX2_firstAt 64 = .ok (.istore 9, 2) := by decide +kernel
theorem dX2_firstAt_66 : decode cX2_firstAt 66 = .ok (.iload 9, 2) := by decide +kernel
theorem dX2_firstAt_68 : decode cX2_firstAt 68 = .ok (.ifCond .eq 22, 3) := by decide +kernel
theorem dX2_firstAt_71 : decode cX2_firstAt 71 = .ok (.aload 4, 2) := by decide +kernel
theorem dX2_firstAt_73 : decode cX2_firstAt 73 = .ok (.ifnull 13, 3) := by decide +kernel
theorem dX2_firstAt_76 : decode cX2_firstAt 76 = .ok (.aload 8, 2) := by decide +kernel
theorem dX2_firstAt_78 : decode cX2_firstAt 78 = .ok (.aload 4, 2) := by decide +kernel
theorem dX2_firstAt_80 : decode cX2_firstAt 80 = .ok (.invokevirtual 201, 3) := by decide +kernel
theorem dX2_firstAt_83 : decode cX2_firstAt 83 = .ok (.ifCond .eq 7, 3) := by decide +kernel
theorem dX2_firstAt_86 : decode cX2_firstAt 86 = .ok (.aload 8, 2) := by decide +kernel
theorem dX2_firstAt_88 : decode cX2_firstAt 88 = .ok (.astore 4, 2) := by decide +kernel
theorem dX2_firstAt_90 : decode cX2_firstAt 90 = .ok (.iinc 7 1, 3) := by decide +kernel
theorem dX2_firstAt_93 : decode cX2_firstAt 93 = .ok (.goto (-76), 3) := by decide +kernel
theorem dX2_firstAt_96 : decode cX2_firstAt 96 = .ok (.aload 4, 2) := by decide +kernel
theorem dX2_firstAt_98 : decode cX2_firstAt 98 = .ok (.areturn, 1) := by decide +kernel
set_option maxRecDepth 20000 in
theorem ggX2_firstLockingAt_X2_firstAt : GoodIn wsX2_firstLockingAt wsX2_firstAt := goodIn_r _ [5, 6, 7, 8, 9, 10, 11, 12, 13, 14, 15, 16, 17, 18, 19, 20, 21, 22, 23, 24, 25, 26, 27, 28, 29, 30, 31, 32, 33] (by decide +kernel) (by decide +kernel)
set_option maxRecDepth 20000 in
theorem gX2_firstLockingAt_X2_firstAt : GoodIn wsX2_firstLockingAt (wsV RX2 208 RX2 yX2_firstAt wsX2_firstAt) := goodIn_app (goodIn_of _ (by decide +kernel)) ggX2_firstLockingAt_X2_firstAt
theorem dX2_firstLockingAt_0 : decode cX2_firstLockingAt 0 = .ok (.aload_n 0, 1) := by decide +kernel
theorem dX2_firstLockingAt_1 : decode cX2_firstLockingAt 1 = .ok (.iload_n 1, 1) := by decide +kernel
theorem dX2_firstLockingAt_2 : decode cX2_firstLockingAt 2 = .ok (.iconst 2, 1) := by decide +kernel
theorem dX2_firstLockingAt_3 : decode cX2_firstLockingAt 3 = .ok (.sipush 255, 3) := by decide +kernel
theorem dX2_firstLockingAt_6 : decode cX2_firstLockingAt 6 = .ok (.invokevirtual 208, 3) := by decide +kernel
theorem dX2_firstLockingAt_9 : decode cX2_firstLockingAt 9 = .ok (.areturn, 1) := by decide +kernel
set_option maxRecDepth 20000 in
theorem ggX2_beginWait_X2_joinQueue : GoodIn wsX2_beginWait wsX2_joinQueue := goodIn_r _ [11, 12, 13, 14, 15, 16, 17, 18, 19, 20, 21, 22, 23, 24, 25, 26, 27, 28, 29, 30, 31] (by decide +kernel) (by decide +kernel)
set_option maxRecDepth 20000 in
theorem gX2_beginWait_X2_joinQueue : GoodIn wsX2_beginWait (wsV RX2 159 RX2 yX2_joinQueue wsX2_joinQueue) := goodIn_app (goodIn_of _ (by decide +kernel)) ggX2_beginWait_X2_joinQueue
theorem dX2_beginWait_0 : decode cX2_beginWait 0 = .ok (.aload_n 1, 1) := by decide +kernel
theorem dX2_beginWait_1 : decode cX2_beginWait 1 = .ok (.iload_n 2, 1) := by decide +kernel
theorem dX2_beginWait_2 : decode cX2_beginWait 2 = .ok (.putfield 76, 3) := by decide +kernel
theorem dX2_beginWait_5 : decode cX2_beginWait 5 = .ok (.aload_n 1, 1) := by decide +kernel
theorem dX2_beginWait_6 : decode cX2_beginWait 6 = .ok (.iload 4, 2) := by decide +kernel
theorem dX2_beginWait_8 : decode cX2_beginWait 8 = .ok (.putfield 205, 3) := by decide +kernel
theorem dX2_beginWait_11 : decode cX2_beginWait 11 = .ok (.aload_n 1, 1) := by decide +kernel
theorem dX2_beginWait_12 : decode cX2_beginWait 12 = .ok (.iload 5, 2) := by decide +kernel
theorem dX2_beginWait_14 : decode cX2_beginWait 14 = .ok (.ifCond .ne 7, 3) := by decide +kernel
theorem dX2_beginWait_17 : decode cX2_beginWait 17 = .ok (.iconst (-1), 1) := by decide +kernel
theorem dX2_beginWait_18 : decode cX2_beginWait 18 = .ok (.goto 10, 3) := by decide +kernel
theorem dX2_beginWait_21 : decode cX2_beginWait 21 = .ok (.aload_n 0, 1) := by decide +kernel
theorem dX2_beginWait_22 : decode cX2_beginWait 22 = .ok (.getfield 19, 3) := by decide +kernel
theorem dX2_beginWait_25 : decode cX2_beginWait 25 = .ok (.iload 5, 2) := by decide +kernel
theorem dX2_beginWait_27 : decode cX2_beginWait 27 = .ok (.iadd, 1) := by decide +kernel
theorem dX2_beginWait_28 : decode cX2_beginWait 28 = .ok (.putfield 166, 3) := by decide +kernel
theorem dX2_beginWait_31 : decode cX2_beginWait 31 = .ok (.aload_n 0, 1) := by decide +kernel
theorem dX2_beginWait_32 : decode cX2_beginWait 32 = .ok (.dup, 1) := by decide +kernel
theorem dX2_beginWait_33 : decode cX2_beginWait 33 = .ok (.getfield 26, 3) := by decide +kernel
theorem dX2_beginWait_36 : decode cX2_beginWait 36 = .ok (.iconst 1, 1) := by decide +kernel
theorem dX2_beginWait_37 : decode cX2_beginWait 37 = .ok (.iadd, 1) := by decide +kernel
theorem dX2_beginWait_38 : decode cX2_beginWait 38 = .ok (.putfield 26, 3) := by decide +kernel
theorem dX2_beginWait_41 : decode cX2_beginWait 41 = .ok (.aload_n 1, 1) := by decide +kernel
theorem dX2_beginWait_42 : decode cX2_beginWait 42 = .ok (.aload_n 0, 1) := by decide +kernel
theorem dX2_beginWait_43 : decode cX2_beginWait 43 = .ok (.getfield 26, 3) := by decide +kernel
theorem dX2_beginWait_46 : decode cX2_beginWait 46 = .ok (.putfield 212, 3) := by decide +kernel
theorem dX2_beginWait_49 : decode cX2_beginWait 49 = .ok (.aload_n 0, 1) := by decide +kernel
theorem dX2_beginWait_50 : decode cX2_beginWait 50 = .ok (.aload_n 1, 1) := by decide +kernel
theorem dX2_beginWait_51 : decode cX2_beginWait 51 = .ok (.iload_n 3, 1) := by decide +kernel
theorem dX2_beginWait_52 : decode cX2_beginWait 52 = .ok (.invokevirtual 159, 3) := by decide +kernel
theorem dX2_beginWait_55 : decode cX2_beginWait 55 = .ok (.return_, 1) := by decide +kernel
set_option maxRecDepth 20000 in
theorem ggX2_endWait_X2_leaveQueue : GoodIn wsX2_endWait wsX2_leaveQueue := goodIn_r _ [8, 9, 10, 11, 12, 13, 14, 15, 7, 16, 17, 18, 19, 20, 21, 22, 23, 24, 25, 26, 27, 28, 29, 30, 31, 32, 33, 34, 35, 36, 37, 38, 39, 40, 41, 42, 43, 44, 45, 46, 47, 48, 49, 50] (by decide +kernel) (by decide +kernel)
set_option maxRecDepth 20000 in
theorem gX2_endWait_X2_leaveQueue : GoodIn wsX2_endWait (wsV RX2 139 RX2 yX2_leaveQueue wsX2_leaveQueue) := goodIn_app (goodIn_of _ (by decide +kernel)) ggX2_endWait_X2_leaveQueue
theorem dX2_endWait_0 : decode cX2_endWait 0 = .ok (.aload_n 0, 1) := by decide +kernel
theorem dX2_endWait_1 : decode cX2_endWait 1 = .ok (.aload_n 1, 1) := by decide +kernel
theorem dX2_endWait_2 : decode cX2_endWait 2 = .ok (.invokevirtual 139, 3) := by decide +kernel
theorem dX2_endWait_5 : decode cX2_endWait 5 = .ok (.aload_n 1, 1) := by decide +kernel
theorem dX2_endWait_6 : decode cX2_endWait 6 = .ok (.iload_n 2, 1) := by decide +kernel
theorem dX2_endWait_7 : decode cX2_endWait 7 = .ok (.putfield 150, 3) := by decide +kernel
theorem dX2_endWait_10 : decode cX2_endWait 10 = .ok (.aload_n 0, 1) := by decide +kernel
theorem dX2_endWait_11 : decode cX2_endWait 11 = .ok (.dup, 1) := by decide +kernel
theorem dX2_endWait_12 : decode cX2_endWait 12 = .ok (.getfield 23, 3) := by decide +kernel
theorem dX2_endWait_15 : decode cX2_endWait 15 = .ok (.iconst 1, 1) := by decide +kernel
theorem dX2_endWait_16 : decode cX2_endWait 16 = .ok (.iadd, 1) := by decide +kernel
theorem dX2_endWait_17 : decode cX2_endWait 17 = .ok (.putfield 23, 3) := by decide +kernel
theorem dX2_endWait_20 : decode cX2_endWait 20 = .ok (.aload_n 1, 1) := by decide +kernel
theorem dX2_endWait_21 : decode cX2_endWait 21 = .ok (.aload_n 0, 1) := by decide +kernel
theorem dX2_endWait_22 : decode cX2_endWait 22 = .ok (.getfield 23, 3) := by decide +kernel
theorem dX2_endWait_25 : decode cX2_endWait 25 = .ok (.putfield 153, 3) := by decide +kernel
theorem dX2_endWait_28 : decode cX2_endWait 28 = .ok (.return_, 1) := by decide +kernel
set_option maxRecDepth 20000 in
theorem ggX2_leaveQueue_X2_isAddress : GoodIn wsX2_leaveQueue wsX2_isAddress := goodIn_r _ [9] (by decide +kernel) (by decide +kernel)
set_option maxRecDepth 20000 in
theorem gX2_leaveQueue_X2_isAddress : GoodIn wsX2_leaveQueue (va_wsS RX2 186 yX2_isAddress wsX2_isAddress) := goodIn_app (goodIn_of _ (by decide +kernel)) ggX2_leaveQueue_X2_isAddress
set_option maxRecDepth 20000 in
theorem ggX2_leaveQueue_X2_firstLockingAt : GoodIn wsX2_leaveQueue wsX2_firstLockingAt := goodIn_r _ [13, 14, 15, 16, 8, 17, 18, 1, 2, 19, 20, 21, 22, 23, 24, 25, 26, 38, 39, 40, 41, 42, 43, 27, 28, 29, 30, 31, 32, 33, 34, 35, 36, 37] (by decide +kernel) (by decide +kernel)
set_option maxRecDepth 20000 in
theorem gX2_leaveQueue_X2_firstLockingAt : GoodIn wsX2_leaveQueue (wsV RX2 215 RX2 yX2_firstLockingAt wsX2_firstLockingAt) := goodIn_app (goodIn_of _ (by decide +kernel)) ggX2_leaveQueue_X2_firstLockingAt
theorem dX2_leaveQueue_0 : decode cX2_leaveQueue 0 = .ok (.aload_n 1, 1) := by decide +kernel
theorem dX2_leaveQueue_1 : decode cX2_leaveQueue 1 = .ok (.getfield 156, 3) := by decide +kernel
theorem dX2_leaveQueue_4 : decode cX2_leaveQueue 4 = .ok (.istore_n 2, 1) := by decide +kernel
theorem dX2_leaveQueue_5 : decode cX2_leaveQueue 5 = .ok (.aload_n 1, 1) := by decide +kernel
theorem dX2_leaveQueue_6 : decode cX2_leaveQueue 6 = .ok (.getfield 76, 3) := by decide +kernel
theorem dX2_leaveQueue_9 : decode cX2_leaveQueue 9 = .ok (.iconst 2, 1) := by decide +kernel
theorem dX2_leaveQueue_10 : decode cX2_leaveQueue 10 = .ok (.if_icmp .ne 7, 3) := by decide +kernel
theorem dX2_leaveQueue_13 : decode cX2_leaveQueue 13 = .ok (.iconst 1, 1) := by decide +kernel
theorem dX2_leaveQueue_14 : decode cX2_leaveQueue 14 = .ok (.goto 4, 3) := by decide +kernel
theorem dX2_leaveQueue_17 : decode cX2_leaveQueue 17 = .ok (.iconst 0, 1) := by decide +kernel
theorem dX2_leaveQueue_18 : decode cX2_leaveQueue 18 = .ok (.istore_n 3, 1) := by decide +kernel
theorem dX2_leaveQueue_19 : decode cX2_leaveQueue 19 = .ok (.aload_n 1, 1) := by decide +kernel
theorem dX2_leaveQueue_20 : decode cX2_leaveQueue 20 = .ok (.iconst 0, 1) := by decide +kernel
theorem dX2_leaveQueue_21 : decode cX2_leaveQueue 21 = .ok (.putfield 76, 3) := by decide +kernel
theorem dX2_leaveQueue_24 : decode cX2_leaveQueue 24 = .ok (.aload_n 1, 1) := by decide +kernel
theorem dX2_leaveQueue_25 : decode cX2_leaveQueue 25 = .ok (.iconst (-1), 1) := by decide +kernel
theorem dX2_leaveQueue_26 : decode cX2_leaveQueue 26 = .ok (.putfield 156, 3) := by decide +kernel
theorem dX2_leaveQueue_29 : decode cX2_leaveQueue 29 = .ok (.aload_n 1, 1) := by decide +kernel
theorem dX2_leaveQueue_30 : decode cX2_leaveQueue 30 = .ok (.iconst (-1), 1) := by decide +kernel
theorem dX2_leaveQueue_31 : decode cX2_leaveQueue 31 = .ok (.putfield 166, 3) := by decide +kernel
theorem dX2_leaveQueue_34 : decode cX2_leaveQueue 34 = .ok (.iload_n 3, 1) := by decide +kernel
theorem dX2_leaveQueue_35 : decode cX2_leaveQueue 35 = .ok (.ifCond .eq 33, 3) := by decide +kernel
theorem dX2_leaveQueue_38 : decode cX2_leaveQueue 38 = .ok (.iload_n 2, 1) := by decide +kernel
theorem dX2_leaveQueue_39 : decode cX2_leaveQueue 39 = .ok (.invokestatic 186, 3) := by decide +kernel
theorem dX2_leaveQueue_42 : decode cX2_leaveQueue 42 = .ok (.ifCond .eq 26, 3) := by decide +kernel
theorem dX2_leaveQueue_45 : decode cX2_leaveQueue 45 = .ok (.aload_n 0, 1) := by decide +kernel
theorem dX2_leaveQueue_46 : decode cX2_leaveQueue 46 = .ok (.iload_n 2, 1) := by decide +kernel
theorem dX2_leaveQueue_47 : decode cX2_leaveQueue 47 = .ok (.invokevirtual 215, 3) := by decide +kernel
theorem dX2_leaveQueue_50 : decode cX2_leaveQueue 50 = .ok (.ifnonnull 18, 3) := by decide +kernel
theorem dX2_leaveQueue_53 : decode cX2_leaveQueue 53 = .ok (.aload_n 0, 1) := by decide +kernel
theorem dX2_leaveQueue_54 : decode cX2_leaveQueue 54 = .ok (.getfield 9, 3) := by decide +kernel
theorem dX2_leaveQueue_57 : decode cX2_leaveQueue 57 = .ok (.iload_n 2, 1) := by decide +kernel
theorem dX2_leaveQueue_58 : decode cX2_leaveQueue 58 = .ok (.aload_n 0, 1) := by decide +kernel
theorem dX2_leaveQueue_59 : decode cX2_leaveQueue 59 = .ok (.getfield 9, 3) := by decide +kernel
theorem dX2_leaveQueue_62 : decode cX2_leaveQueue 62 = .ok (.iload_n 2, 1) := by decide +kernel
theorem dX2_leaveQueue_63 : decode cX2_leaveQueue 63 = .ok (.iaload, 1) := by decide +kernel
theorem dX2_leaveQueue_64 : decode cX2_leaveQueue 64 = .ok (.ldc 218, 2) := by decide +kernel
theorem dX2_leaveQueue_66 : decode cX2_leaveQueue 66 = .ok (.iand, 1) := by decide +kernel
theorem dX2_leaveQueue_67 : decode cX2_leaveQueue 67 = .ok (.iastore, 1) := by decide +kernel
theorem dX2_leaveQueue_68 : decode cX2_leaveQueue 68 = .ok (.return_, 1) := by decide +kernel
set_option maxRecDepth 20000 in
theorem ggX2_wakeFirst_X2_firstAt : GoodIn wsX2_wakeFirst wsX2_firstAt := goodIn_r _ [5, 6, 7, 8, 9, 10, 11, 12, 13, 14, 15, 16, 38, 39, 40, 41, 42, 43, 44, 45, 46, 47, 48, 49, 50, 51, 52, 53, 54] (by decide +kernel) (by decide +kernel)
set_option maxRecDepth 20000 in
theorem gX2_wakeFirst_X2_firstAt : GoodIn wsX2_wakeFirst (wsV RX2 208 RX2 yX2_firstAt wsX2_firstAt) := goodIn_app (goodIn_of _ (by decide +kernel)) ggX2_wakeFirst_X2_firstAt
set_option maxRecDepth 20000 in
theorem ggX2_wakeFirst_X2_endWait : GoodIn wsX2_wakeFirst wsX2_endWait := goodIn_r _ [20, 21, 22, 23, 24, 25, 26, 4, 27, 7, 8, 28, 29, 30, 31, 32, 33, 34, 35, 36, 37, 1, 2, 3, 5, 6, 9, 10, 11, 12, 13, 14, 15, 16, 44, 45, 46, 47, 48, 49, 50, 51, 52, 53, 54, 38, 39, 40, 41, 42, 43] (by decide +kernel) (by decide +kernel)
set_option maxRecDepth 20000 in
theorem gX2_wakeFirst_X2_endWait : GoodIn wsX2_wakeFirst (wsV RX2 132 RX2 yX2_endWait wsX2_endWait) := goodIn_app (goodIn_of _ (by decide +kernel)) ggX2_wakeFirst_X2_endWait
theorem dX2_wakeFirst_0 : decode cX2_wakeFirst 0 = .ok (.iconst 0, 1) := by decide +kernel
theorem dX2_wakeFirst_1 : decode cX2_wakeFirst 1 = .ok (.istore 4, 2) := by decide +kernel
theorem dX2_wakeFirst_3 : decode cX2_wakeFirst 3 = .ok (.iload 4, 2) := by decide +kernel
theorem dX2_wakeFirst_5 : decode cX2_wakeFirst 5 = .ok (.iload_n 2, 1) := by decide +kernel
theorem dX2_wakeFirst_6 : decode cX2_wakeFirst 6 = .ok (.if_icmp .ge 33, 3) := by decide +kernel
theorem dX2_wakeFirst_9 : decode cX2_wakeFirst 9 = .ok (.aload_n 0, 1) := by decide +kernel
theorem dX2_wakeFirst_10 : decode cX2_wakeFirst 10 = .ok (.iload_n 1, 1) := by decide +kernel
theorem dX2_wakeFirst_11 : decode cX2_wakeFirst 11 = .ok (.iconst 1, 1) := by decide +kernel
theorem dX2_wakeFirst_12 : decode cX2_wakeFirst 12 = .ok (.iload_n 3, 1) := by decide +kernel
theorem dX2_wakeFirst_13 : decode cX2_wakeFirst 13 = .ok (.invokevirtual 208, 3) := by decide +kernel
theorem dX2_wakeFirst_16 : decode cX2_wakeFirst 16 = .ok (.astore 5, 2) := by decide +kernel
theorem dX2_wakeFirst_18 : decode cX2_wakeFirst 18 = .ok (.aload 5, 2) := by decide +kernel
theorem dX2_wakeFirst_20 : decode cX2_wakeFirst 20 = .ok (.ifnonnull 6, 3) := by decide +kernel
theorem dX2_wakeFirst_23 : decode cX2_wakeFirst 23 = .ok (.iload 4, 2) := by decide +kernel
theorem dX2_wakeFirst_25 : decode cX2_wakeFirst 25 = .ok (.ireturn, 1) := by decide +kernel
theorem dX2_wakeFirst_26 : decode cX2_wakeFirst 26 = .ok (.aload_n 0, 1) := by decide +kernel
theorem dX2_wakeFirst_27 : decode cX2_wakeFirst 27 = .ok (.aload 5, 2) := by decide +kernel
theorem dX2_wakeFirst_29 : decode cX2_wakeFirst 29 = .ok (.iconst 0, 1) := by decide +kernel
theorem dX2_wakeFirst_30 : decode cX2_wakeFirst 30 = .ok (.invokevirtual 132, 3) := by decide +kernel
theorem dX2_wakeFirst_33 : decode cX2_wakeFirst 33 = .ok (.iinc 4 1, 3) := by decide +kernel
theorem dX2_wakeFirst_36 : decode cX2_wakeFirst 36 = .ok (.goto (-33), 3) := by decide +kernel
theorem dX2_wakeFirst_39 : decode cX2_wakeFirst 39 = .ok (.iload_n 2, 1) := by decide +kernel
theorem dX2_wakeFirst_40 : decode cX2_wakeFirst 40 = .ok (.ireturn, 1) := by decide +kernel
set_option maxRecDepth 20000 in
theorem ggX2_moveFirst_X2_firstAt : GoodIn wsX2_moveFirst wsX2_firstAt := goodIn_r _ [5, 6, 7, 8, 9, 10, 11, 12, 13, 14, 15, 16, 23, 24, 25, 26, 27, 28, 29, 30, 31, 32, 33, 34, 35, 36, 37, 38, 39] (by decide +kernel) (by decide +kernel)
set_option maxRecDepth 20000 in
theorem gX2_moveFirst_X2_firstAt : GoodIn wsX2_moveFirst (wsV RX2 208 RX2 yX2_firstAt wsX2_firstAt) := goodIn_app (goodIn_of _ (by decide +kernel)) ggX2_moveFirst_X2_firstAt
set_option maxRecDepth 20000 in
theorem ggX2_moveFirst_X2_joinQueue : GoodIn wsX2_moveFirst wsX2_joinQueue := goodIn_r _ [20, 7, 21, 22, 29, 30, 31, 32, 33, 34, 35, 36, 37, 38, 39, 23, 24, 25, 26, 27, 28] (by decide +kernel) (by decide +kernel)
set_option maxRecDepth 20000 in
theorem gX2_moveFirst_X2_joinQueue : GoodIn wsX2_moveFirst (wsV RX2 159 RX2 yX2_joinQueue wsX2_joinQueue) := goodIn_app (goodIn_of _ (by decide +kernel)) ggX2_moveFirst_X2_joinQueue
theorem dX2_moveFirst_0 : decode cX2_moveFirst 0 = .ok (.iconst 0, 1) := by decide +kernel
theorem dX2_moveFirst_1 : decode cX2_moveFirst 1 = .ok (.istore 4, 2) := by decide +kernel
theorem dX2_moveFirst_3 : decode cX2_moveFirst 3 = .ok (.iload 4, 2) := by decide +kernel
theorem dX2_moveFirst_5 : decode cX2_moveFirst 5 = .ok (.iload_n 3, 1) := by decide +kernel
theorem dX2_moveFirst_6 : decode cX2_moveFirst 6 = .ok (.if_icmp .ge 35, 3) := by decide +kernel
theorem dX2_moveFirst_9 : decode cX2_moveFirst 9 = .ok (.aload_n 0, 1) := by decide +kernel
theorem dX2_moveFirst_10 : decode cX2_moveFirst 10 = .ok (.iload_n 1, 1) := by decide +kernel
theorem dX2_moveFirst_11 : decode cX2_moveFirst 11 = .ok (.iconst 1, 1) := by decide +kernel
theorem dX2_moveFirst_12 : decode cX2_moveFirst 12 = .ok (.sipush 255, 3) := by decide +kernel
theorem dX2_moveFirst_15 : decode cX2_moveFirst 15 = .ok (.invokevirtual 208, 3) := by decide +kernel
theorem dX2_moveFirst_18 : decode cX2_moveFirst 18 = .ok (.astore 5, 2) := by decide +kernel
theorem dX2_moveFirst_20 : decode cX2_moveFirst 20 = .ok (.aload 5, 2) := by decide +kernel
theorem dX2_moveFirst_22 : decode cX2_moveFirst 22 = .ok (.ifnonnull 6, 3) := by decide +kernel
theorem dX2_moveFirst_25 : decode cX2_moveFirst 25 = .ok (.iload 4, 2) := by decide +kernel
theorem dX2_moveFirst_27 : decode cX2_moveFirst 27 = .ok (.ireturn, 1) := by decide +kernel
theorem dX2_moveFirst_28 : decode cX2_moveFirst 28 = .ok (.aload_n 0, 1) := by decide +kernel
theorem dX2_moveFirst_29 : decode cX2_moveFirst 29 = .ok (.aload 5, 2) := by decide +kernel
theorem dX2_moveFirst_31 : decode cX2_moveFirst 31 = .ok (.iload_n 2, 1) := by decide +kernel
theorem dX2_moveFirst_32 : decode cX2_moveFirst 32 = .ok (.invokevirtual 159, 3) := by decide +kernel
theorem dX2_moveFirst_35 : decode cX2_moveFirst 35 = .ok (.iinc 4 1, 3) := by decide +kernel
theorem dX2_moveFirst_38 : decode cX2_moveFirst 38 = .ok (.goto (-35), 3) := by decide +kernel
theorem dX2_moveFirst_41 : decode cX2_moveFirst 41 = .ok (.iload_n 3, 1) := by decide +kernel
theorem dX2_moveFirst_42 : decode cX2_moveFirst 42 = .ok (.ireturn, 1) := by decide +kernel
set_option maxRecDepth 20000 in
theorem ggX2_firstToTimeOut_X1_timesOutBefore : GoodIn wsX2_firstToTimeOut wsX1_timesOutBefore := goodIn_r _ [7, 8, 9, 16, 17, 18, 19, 20, 21, 22, 23, 24, 25, 26] (by decide +kernel) (by decide +kernel)
set_option maxRecDepth 20000 in
theorem gX2_firstToTimeOut_X1_timesOutBefore : GoodIn wsX2_firstToTimeOut (wsV RX2 219 RX1 yX1_timesOutBefore wsX1_timesOutBefore) := goodIn_app (goodIn_of _ (by decide +kernel)) ggX2_firstToTimeOut_X1_timesOutBefore
theorem dX2_firstToTimeOut_0 : decode cX2_firstToTimeOut 0 = .ok (.aconst_null, 1) := by decide +kernel
theorem dX2_firstToTimeOut_1 : decode cX2_firstToTimeOut 1 = .ok (.astore_n 1, 1) := by decide +kernel
theorem dX2_firstToTimeOut_2 : decode cX2_firstToTimeOut 2 = .ok (.aload_n 0, 1) := by decide +kernel
theorem dX2_firstToTimeOut_3 : decode cX2_firstToTimeOut 3 = .ok (.getfield 15, 3) := by decide +kernel
theorem dX2_firstToTimeOut_6 : decode cX2_firstToTimeOut 6 = .ok (.astore_n 2, 1) := by decide +kernel
theorem dX2_firstToTimeOut_7 : decode cX2_firstToTimeOut 7 = .ok (.aload_n 2, 1) := by decide +kernel
theorem dX2_firstToTimeOut_8 : decode cX2_firstToTimeOut 8 = .ok (.arraylength, 1) := by decide +kernel
theorem dX2_firstToTimeOut_9 : decode cX2_firstToTimeOut 9 = .ok (.istore_n 3, 1) := by decide +kernel
theorem dX2_firstToTimeOut_10 : decode cX2_firstToTimeOut 10 = .ok (.iconst 0, 1) := by decide +kernel
theorem dX2_firstToTimeOut_11 : decode cX2_firstToTimeOut 11 = .ok (.istore 4, 2) := by decide +kernel
theorem dX2_firstToTimeOut_13 : decode cX2_firstToTimeOut 13 = .ok (.iload 4, 2) := by decide +kernel
theorem dX2_firstToTimeOut_15 : decode cX2_firstToTimeOut 15 = .ok (.iload_n 3, 1) := by decide +kernel
theorem dX2_firstToTimeOut_16 : decode cX2_firstToTimeOut 16 = .ok (.if_icmp .ge 40, 3) := by decide +kernel
theorem dX2_firstToTimeOut_19 : decode cX2_firstToTimeOut 19 = .ok (.aload_n 2, 1) := by decide +kernel
theorem dX2_firstToTimeOut_20 : decode cX2_firstToTimeOut 20 = .ok (.iload 4, 2) := by decide +kernel
theorem dX2_firstToTimeOut_22 : decode cX2_firstToTimeOut 22 = .ok (.aaload, 1) := by decide +kernel
theorem dX2_firstToTimeOut_23 : decode cX2_firstToTimeOut 23 = .ok (.astore 5, 2) := by decide +kernel
theorem dX2_firstToTimeOut_25 : decode cX2_firstToTimeOut 25 = .ok (.aload 5, 2) := by decide +kernel
theorem dX2_firstToTimeOut_27 : decode cX2_firstToTimeOut 27 = .ok (.getfield 166, 3) := by decide +kernel
theorem dX2_firstToTimeOut_30 : decode cX2_firstToTimeOut 30 = .ok (.iconst (-1), 1) := by decide +kernel
theorem dX2_firstToTimeOut_31 : decode cX2_firstToTimeOut 31 = .ok (.if_icmp .eq 19, 3) := by decide +kernel
theorem dX2_firstToTimeOut_34 : decode cX2_firstToTimeOut 34 = .ok (.aload_n 1, 1) := by decide +kernel
theorem dX2_firstToTimeOut_35 : decode cX2_firstToTimeOut 35 = .ok (.ifnull 12, 3) := by decide +kernel
theorem dX2_firstToTimeOut_38 : decode cX2_firstToTimeOut 38 = .ok (.aload 5, 2) := by decide +kernel
theorem dX2_firstToTimeOut_40 : decode cX2_firstToTimeOut 40 = .ok (.aload_n 1, 1) := by decide +kernel
theorem dX2_firstToTimeOut_41 : decode cX2_firstToTimeOut 41 = .ok (.invokevirtual 219, 3) := by decide +kernel
theorem dX2_firstToTimeOut_44 : decode cX2_firstToTimeOut 44 = .ok (.ifCond .eq 6, 3) := by decide +kernel
theorem dX2_firstToTimeOut_47 : decode cX2_firstToTimeOut 47 = .ok (.aload 5, 2) := by decide +kernel
theorem dX2_firstToTimeOut_49 : decode cX2_firstToTimeOut 49 = .ok (.astore_n 1, 1) := by decide +kernel
theorem dX2_firstToTimeOut_50 : decode cX2_firstToTimeOut 50 = .ok (.iinc 4 1, 3) := by decide +kernel
theorem dX2_firstToTimeOut_53 : decode cX2_firstToTimeOut 53 = .ok (.goto (-40), 3) := by decide +kernel
theorem dX2_firstToTimeOut_56 : decode cX2_firstToTimeOut 56 = .ok (.aload_n 1, 1) := by decide +kernel
theorem dX2_firstToTimeOut_57 : decode cX2_firstToTimeOut 57 = .ok (.areturn, 1) := by decide +kernel
set_option maxRecDepth 20000 in
theorem ggX2_ownerAt_X2_isAddress : GoodIn wsX2_ownerAt wsX2_isAddress := goodIn_r _ [6] (by decide +kernel) (by decide +kernel)
set_option maxRecDepth 20000 in
theorem gX2_ownerAt_X2_isAddress : GoodIn wsX2_ownerAt (va_wsS RX2 186 yX2_isAddress wsX2_isAddress) := goodIn_app (goodIn_of _ (by decide +kernel)) ggX2_ownerAt_X2_isAddress
theorem dX2_ownerAt_0 : decode cX2_ownerAt 0 = .ok (.iload_n 1, 1) := by decide +kernel
theorem dX2_ownerAt_1 : decode cX2_ownerAt 1 = .ok (.invokestatic 186, 3) := by decide +kernel
theorem dX2_ownerAt_4 : decode cX2_ownerAt 4 = .ok (.ifCond .ne 5, 3) := by decide +kernel
theorem dX2_ownerAt_7 : decode cX2_ownerAt 7 = .ok (.aconst_null, 1) := by decide +kernel
theorem dX2_ownerAt_8 : decode cX2_ownerAt 8 = .ok (.areturn, 1) := by decide +kernel
theorem dX2_ownerAt_9 : decode cX2_ownerAt 9 = .ok (.aload_n 0, 1) := by decide +kernel
theorem dX2_ownerAt_10 : decode cX2_ownerAt 10 = .ok (.getfield 9, 3) := by decide +kernel
theorem dX2_ownerAt_13 : decode cX2_ownerAt 13 = .ok (.iload_n 1, 1) := by decide +kernel
theorem dX2_ownerAt_14 : decode cX2_ownerAt 14 = .ok (.iaload, 1) := by decide +kernel
theorem dX2_ownerAt_15 : decode cX2_ownerAt 15 = .ok (.sipush 255, 3) := by decide +kernel
theorem dX2_ownerAt_18 : decode cX2_ownerAt 18 = .ok (.iand, 1) := by decide +kernel
theorem dX2_ownerAt_19 : decode cX2_ownerAt 19 = .ok (.istore_n 2, 1) := by decide +kernel
theorem dX2_ownerAt_20 : decode cX2_ownerAt 20 = .ok (.iload_n 2, 1) := by decide +kernel
theorem dX2_ownerAt_21 : decode cX2_ownerAt 21 = .ok (.iconst 1, 1) := by decide +kernel
theorem dX2_ownerAt_22 : decode cX2_ownerAt 22 = .ok (.if_icmp .lt 20, 3) := by decide +kernel
theorem dX2_ownerAt_25 : decode cX2_ownerAt 25 = .ok (.iload_n 2, 1) := by decide +kernel
theorem dX2_ownerAt_26 : decode cX2_ownerAt 26 = .ok (.bipush 8, 2) := by decide +kernel
theorem dX2_ownerAt_28 : decode cX2_ownerAt 28 = .ok (.if_icmp .gt 14, 3) := by decide +kernel
theorem dX2_ownerAt_31 : decode cX2_ownerAt 31 = .ok (.aload_n 0, 1) := by decide +kernel
theorem dX2_ownerAt_32 : decode cX2_ownerAt 32 = .ok (.getfield 15, 3) := by decide +kernel
theorem dX2_ownerAt_35 : decode cX2_ownerAt 35 = .ok (.iload_n 2, 1) := by decide +kernel
theorem dX2_ownerAt_36 : decode cX2_ownerAt 36 = .ok (.iconst 1, 1) := by decide +kernel
theorem dX2_ownerAt_37 : decode cX2_ownerAt 37 = .ok (.isub, 1) := by decide +kernel
theorem dX2_ownerAt_38 : decode cX2_ownerAt 38 = .ok (.aaload, 1) := by decide +kernel
theorem dX2_ownerAt_39 : decode cX2_ownerAt 39 = .ok (.goto 4, 3) := by decide +kernel
theorem dX2_ownerAt_42 : decode cX2_ownerAt 42 = .ok (.aconst_null, 1) := by decide +kernel
theorem dX2_ownerAt_43 : decode cX2_ownerAt 43 = .ok (.areturn, 1) := by decide +kernel
set_option maxRecDepth 20000 in
theorem ggX2_giveLock_X2_isAddress : GoodIn wsX2_giveLock wsX2_isAddress := goodIn_r _ [8] (by decide +kernel) (by decide +kernel)
set_option maxRecDepth 20000 in
theorem gX2_giveLock_X2_isAddress : GoodIn wsX2_giveLock (va_wsS RX2 186 yX2_isAddress wsX2_isAddress) := goodIn_app (goodIn_of _ (by decide +kernel)) ggX2_giveLock_X2_isAddress
set_option maxRecDepth 20000 in
theorem ggX2_giveLock_X2_firstLockingAt : GoodIn wsX2_giveLock wsX2_firstLockingAt := goodIn_r _ [12, 13, 14, 15, 7, 16, 17, 18, 19, 20, 21, 22, 23, 24, 25, 26, 27, 39, 40, 41, 42, 43, 44, 45, 46, 47, 48, 49, 50, 51, 52, 53, 54, 55] (by decide +kernel) (by decide +kernel)
set_option maxRecDepth 20000 in
theorem gX2_giveLock_X2_firstLockingAt : GoodIn wsX2_giveLock (wsV RX2 215 RX2 yX2_firstLockingAt wsX2_firstLockingAt) := goodIn_app (goodIn_of _ (by decide +kernel)) ggX2_giveLock_X2_firstLockingAt
set_option maxRecDepth 20000 in
theorem ggX2_giveLock_X0_add : GoodIn wsX2_giveLock wsX0_add := goodIn_r _ [32, 33, 34, 35, 36, 37, 31, 38, 56, 57] (by decide +kernel) (by decide +kernel)
set_option maxRecDepth 20000 in
theorem gX2_giveLock_X0_add : GoodIn wsX2_giveLock (wsV RX2 222 RX0 yX0_add wsX0_add) := goodIn_app (goodIn_of _ (by decide +kernel)) ggX2_giveLock_X0_add
theorem dX2_giveLock_0 : decode cX2_giveLock 0 = .ok (.iload_n 2, 1) := by decide +kernel
theorem dX2_giveLock_1 : decode cX2_giveLock 1 = .ok (.invokestatic 186, 3) := by decide +kernel
theorem dX2_giveLock_4 : decode cX2_giveLock 4 = .ok (.ifCond .eq 44, 3) := by decide +kernel
theorem dX2_giveLock_7 : decode cX2_giveLock 7 = .ok (.aload_n 0, 1) := by decide +kernel
theorem dX2_giveLock_8 : decode cX2_giveLock 8 = .ok (.iload_n 2, 1) := by decide +kernel
theorem dX2_giveLock_9 : decode cX2_giveLock 9 = .ok (.invokevirtual 215, 3) := by decide +kernel
theorem dX2_giveLock_12 : decode cX2_giveLock 12 = .ok (.ifnonnull 7, 3) := by decide +kernel
theorem dX2_giveLock_15 : decode cX2_giveLock 15 = .ok (.iconst 0, 1) := by decide +kernel
theorem dX2_giveLock_16 : decode cX2_giveLock 16 = .ok (.goto 5, 3) := by decide +kernel
theorem dX2_giveLock_19 : decode cX2_giveLock 19 = .ok (.ldc 83, 2) := by decide +kernel
theorem dX2_giveLock_21 : decode cX2_giveLock 21 = .ok (.istore 4, 2) := by decide +kernel
theorem dX2_giveLock_23 : decode cX2_giveLock 23 = .ok (.aload_n 0, 1) := by decide +kernel
theorem dX2_giveLock_24 : decode cX2_giveLock 24 = .ok (.getfield 9, 3) := by decide +kernel
theorem dX2_giveLock_27 : decode cX2_giveLock 27 = .ok (.iload_n 2, 1) := by decide +kernel
theorem dX2_giveLock_28 : decode cX2_giveLock 28 = .ok (.aload_n 1, 1) := by decide +kernel
theorem dX2_giveLock_29 : decode cX2_giveLock 29 = .ok (.getfield 173, 3) := by decide +kernel
theorem dX2_giveLock_32 : decode cX2_giveLock 32 = .ok (.iconst 1, 1) := by decide +kernel
theorem dX2_giveLock_33 : decode cX2_giveLock 33 = .ok (.iadd, 1) := by decide +kernel
theorem dX2_giveLock_34 : decode cX2_giveLock 34 = .ok (.iload_n 3, 1) := by decide +kernel
theorem dX2_giveLock_35 : decode cX2_giveLock 35 = .ok (.ior, 1) := by decide +kernel
theorem dX2_giveLock_36 : decode cX2_giveLock 36 = .ok (.iload 4, 2) := by decide +kernel
theorem dX2_giveLock_38 : decode cX2_giveLock 38 = .ok (.ior, 1) := by decide +kernel
theorem dX2_giveLock_39 : decode cX2_giveLock 39 = .ok (.iastore, 1) := by decide +kernel
theorem dX2_giveLock_40 : decode cX2_giveLock 40 = .ok (.aload_n 1, 1) := by decide +kernel
theorem dX2_giveLock_41 : decode cX2_giveLock 41 = .ok (.getfield 89, 3) := by decide +kernel
theorem dX2_giveLock_44 : decode cX2_giveLock 44 = .ok (.iload_n 2, 1) := by decide +kernel
theorem dX2_giveLock_45 : decode cX2_giveLock 45 = .ok (.invokevirtual 222, 3) := by decide +kernel
theorem dX2_giveLock_48 : decode cX2_giveLock 48 = .ok (.return_, 1) := by decide +kernel
set_option maxRecDepth 20000 in
theorem ggX2_passOn_X2_firstLockingAt : GoodIn wsX2_passOn wsX2_firstLockingAt := goodIn_r _ [8, 9, 10, 11, 7, 12, 13, 14, 15, 16, 17, 18, 19, 20, 21, 22, 23, 68, 69, 70, 71, 72, 73, 57, 58, 59, 60, 61, 62, 63, 64, 65, 66, 67] (by decide +kernel) (by decide +kernel)
set_option maxRecDepth 20000 in
theorem gX2_passOn_X2_firstLockingAt : GoodIn wsX2_passOn (wsV RX2 215 RX2 yX2_firstLockingAt wsX2_firstLockingAt) := goodIn_app (goodIn_of _ (by decide +kernel)) ggX2_passOn_X2_firstLockingAt
set_option maxRecDepth 20000 in
theorem ggX2_passOn_X2_endWait : GoodIn wsX2_passOn wsX2_endWait := goodIn_r _ [27, 28, 29, 30, 31, 32, 33, 7, 34, 14, 15, 35, 3, 36, 37, 38, 39, 4, 5, 6, 8, 9, 10, 11, 12, 13, 16, 17, 18, 19, 20, 21, 22, 23, 57, 58, 59, 60, 61, 62, 63, 64, 65, 66, 67, 68, 69, 70, 71, 72, 73] (by decide +kernel) (by decide +kernel)
set_option maxRecDepth 20000 in
theorem gX2_passOn_X2_endWait : GoodIn wsX2_passOn (wsV RX2 132 RX2 yX2_endWait wsX2_endWait) := goodIn_app (goodIn_of _ (by decide +kernel)) ggX2_passOn_X2_endWait
set_option maxRecDepth 20000 in
theorem ggX2_passOn_X2_giveLock : GoodIn wsX2_passOn wsX2_giveLock := goodIn_r _ [43, 44, 3, 2, 45, 37, 38, 7, 39, 4, 5, 6, 8, 9, 10, 11, 12, 13, 14, 15, 16, 17, 18, 19, 20, 21, 22, 23, 46, 47, 48, 49, 50, 51, 52, 53, 54, 55, 56, 68, 69, 70, 71, 72, 73, 57, 58, 59, 60, 61, 62, 63, 64, 65, 66, 67, 74, 75] (by decide +kernel) (by decide +kernel)
set_option maxRecDepth 20000 in
theorem gX2_passOn_X2_giveLock : GoodIn wsX2_passOn (wsV RX2 69 RX2 yX2_giveLock wsX2_giveLock) := goodIn_app (goodIn_of _ (by decide +kernel)) ggX2_passOn_X2_giveLock
set_option maxRecDepth 20000 in
theorem ggX2_passOn_X2_isAddress : GoodIn wsX2_passOn wsX2_isAddress := goodIn_r _ [39] (by decide +kernel) (by decide +kernel)
set_option maxRecDepth 20000 in
theorem gX2_passOn_X2_isAddress : GoodIn wsX2_passOn (va_wsS RX2 186 yX2_isAddress wsX2_isAddress) := goodIn_app (goodIn_of _ (by decide +kernel)) ggX2_passOn_X2_isAddress
theorem dX2_passOn_0 : decode cX2_passOn 0 = .ok (.iload_n 2, 1) := by decide +kernel
theorem dX2_passOn_1 : decode cX2_passOn 1 = .ok (.ifCond .eq 8, 3) := by decide +kernel
theorem dX2_passOn_4 : decode cX2_passOn 4 = .ok (.ldc 68, 2) := by decide +kernel
theorem dX2_passOn_6 : decode cX2_passOn 6 = .ok (.goto 4, 3) := by decide +kernel
theorem dX2_passOn_9 : decode cX2_passOn 9 = .ok (.iconst 0, 1) := by decide +kernel
theorem dX2_passOn_10 : decode cX2_passOn 10 = .ok (.istore_n 3, 1) := by decide +kernel
theorem dX2_passOn_11 : decode cX2_passOn 11 = .ok (.aload_n 0, 1) := by decide +kernel
theorem dX2_passOn_12 : decode cX2_passOn 12 = .ok (.iload_n 1, 1) := by decide +kernel
theorem dX2_passOn_13 : decode cX2_passOn 13 = .ok (.invokevirtual 215, 3) := by decide +kernel
theorem dX2_passOn_16 : decode cX2_passOn 16 = .ok (.astore 4, 2) := by decide +kernel
theorem dX2_passOn_18 : decode cX2_passOn 18 = .ok (.aload 4, 2) := by decide +kernel
theorem dX2_passOn_20 : decode cX2_passOn 20 = .ok (.ifnull 32, 3) := by decide +kernel
theorem dX2_passOn_23 : decode cX2_passOn 23 = .ok (.aload_n 0, 1) := by decide +kernel
theorem dX2_passOn_24 : decode cX2_passOn 24 = .ok (.aload 4, 2) := by decide +kernel
theorem dX2_passOn_26 : decode cX2_passOn 26 = .ok (.iload_n 2, 1) := by decide +kernel
theorem dX2_passOn_27 : decode cX2_passOn 27 = .ok (.ifCond .eq 7, 3) := by decide +kernel
theorem dX2_passOn_30 : decode cX2_passOn 30 = .ok (.iconst 4, 1) := by decide +kernel
theorem dX2_passOn_31 : decode cX2_passOn 31 = .ok (.goto 4, 3) := by decide +kernel
theorem dX2_passOn_34 : decode cX2_passOn 34 = .ok (.iconst 3, 1) := by decide +kernel
theorem dX2_passOn_35 : decode cX2_passOn 35 = .ok (.invokevirtual 132, 3) := by decide +kernel
theorem dX2_passOn_38 : decode cX2_passOn 38 = .ok (.aload_n 0, 1) := by decide +kernel
theorem dX2_passOn_39 : decode cX2_passOn 39 = .ok (.aload 4, 2) := by decide +kernel
theorem dX2_passOn_41 : decode cX2_passOn 41 = .ok (.iload_n 1, 1) := by decide +kernel
theorem dX2_passOn_42 : decode cX2_passOn 42 = .ok (.iload_n 3, 1) := by decide +kernel
theorem dX2_passOn_43 : decode cX2_passOn 43 = .ok (.invokevirtual 69, 3) := by decide +kernel
theorem dX2_passOn_46 : decode cX2_passOn 46 = .ok (.aload 4, 2) := by decide +kernel
theorem dX2_passOn_48 : decode cX2_passOn 48 = .ok (.getfield 173, 3) := by decide +kernel
theorem dX2_passOn_51 : decode cX2_passOn 51 = .ok (.ireturn, 1) := by decide +kernel
theorem dX2_passOn_52 : decode cX2_passOn 52 = .ok (.iload_n 1, 1) := by decide +kernel
theorem dX2_passOn_53 : decode cX2_passOn 53 = .ok (.invokestatic 186, 3) := by decide +kernel
theorem dX2_passOn_56 : decode cX2_passOn 56 = .ok (.ifCond .eq 10, 3) := by decide +kernel
theorem dX2_passOn_59 : decode cX2_passOn 59 = .ok (.aload_n 0, 1) := by decide +kernel
theorem dX2_passOn_60 : decode cX2_passOn 60 = .ok (.getfield 9, 3) := by decide +kernel
theorem dX2_passOn_63 : decode cX2_passOn 63 = .ok (.iload_n 1, 1) := by decide +kernel
theorem dX2_passOn_64 : decode cX2_passOn 64 = .ok (.iload_n 3, 1) := by decide +kernel
theorem dX2_passOn_65 : decode cX2_passOn 65 = .ok (.iastore, 1) := by decide +kernel
theorem dX2_passOn_66 : decode cX2_passOn 66 = .ok (.iconst (-1), 1) := by decide +kernel
theorem dX2_passOn_67 : decode cX2_passOn 67 = .ok (.ireturn, 1) := by decide +kernel
set_option maxRecDepth 20000 in
theorem ggX2_isHeldUpBy_X2_ownerAt : GoodIn wsX2_isHeldUpBy wsX2_ownerAt := goodIn_r _ [7, 8, 9, 10, 11, 6, 12, 24, 25, 26, 27, 28, 29] (by decide +kernel) (by decide +kernel)
set_option maxRecDepth 20000 in
theorem gX2_isHeldUpBy_X2_ownerAt : GoodIn wsX2_isHeldUpBy (wsV RX2 73 RX2 yX2_ownerAt wsX2_ownerAt) := goodIn_app (goodIn_of _ (by decide +kernel)) ggX2_isHeldUpBy_X2_ownerAt
theorem dX2_isHeldUpBy_0 : decode cX2_isHeldUpBy 0 = .ok (.aload_n 1, 1) := by decide +kernel
theorem dX2_isHeldUpBy_1 : decode cX2_isHeldUpBy 1 = .ok (.astore_n 3, 1) := by decide +kernel
theorem dX2_isHeldUpBy_2 : decode cX2_isHeldUpBy 2 = .ok (.iconst 0, 1) := by decide +kernel
theorem dX2_isHeldUpBy_3 : decode cX2_isHeldUpBy 3 = .ok (.istore 4, 2) := by decide +kernel
theorem dX2_isHeldUpBy_5 : decode cX2_isHeldUpBy 5 = .ok (.iload 4, 2) := by decide +kernel
theorem dX2_isHeldUpBy_7 : decode cX2_isHeldUpBy 7 = .ok (.bipush 8, 2) := by decide +kernel
theorem dX2_isHeldUpBy_9 : decode cX2_isHeldUpBy 9 = .ok (.if_icmp .ge 39, 3) := by decide +kernel
theorem dX2_isHeldUpBy_12 : decode cX2_isHeldUpBy 12 = .ok (.aload_n 3, 1) := by decide +kernel
theorem dX2_isHeldUpBy_13 : decode cX2_isHeldUpBy 13 = .ok (.ifnull 11, 3) := by decide +kernel
theorem dX2_isHeldUpBy_16 : decode cX2_isHeldUpBy 16 = .ok (.aload_n 3, 1) := by decide +kernel
theorem dX2_isHeldUpBy_17 : decode cX2_isHeldUpBy 17 = .ok (.getfield 76, 3) := by decide +kernel
theorem dX2_isHeldUpBy_20 : decode cX2_isHeldUpBy 20 = .ok (.iconst 2, 1) := by decide +kernel
theorem dX2_isHeldUpBy_21 : decode cX2_isHeldUpBy 21 = .ok (.if_icmp .eq 5, 3) := by decide +kernel
theorem dX2_isHeldUpBy_24 : decode cX2_isHeldUpBy 24 = .ok (.iconst 0, 1) := by decide +kernel
theorem dX2_isHeldUpBy_25 : decode cX2_isHeldUpBy 25 = .ok (.ireturn, 1) := by decide +kernel
theorem dX2_isHeldUpBy_26 : decode cX2_isHeldUpBy 26 = .ok (.aload_n 0, 1) := by decide +kernel
theorem dX2_isHeldUpBy_27 : decode cX2_isHeldUpBy 27 = .ok (.aload_n 3, 1) := by decide +kernel
theorem dX2_isHeldUpBy_28 : decode cX2_isHeldUpBy 28 = .ok (.getfield 156, 3) := by decide +kernel
theorem dX2_isHeldUpBy_31 : decode cX2_isHeldUpBy 31 = .ok (.invokevirtual 73, 3) := by decide +kernel
theorem dX2_isHeldUpBy_34 : decode cX2_isHeldUpBy 34 = .ok (.astore_n 3, 1) := by decide +kernel
theorem dX2_isHeldUpBy_35 : decode cX2_isHeldUpBy 35 = .ok (.aload_n 3, 1) := by decide +kernel
theorem dX2_isHeldUpBy_36 : decode cX2_isHeldUpBy 36 = .ok (.aload_n 2, 1) := by decide +kernel
theorem dX2_isHeldUpBy_37 : decode cX2_isHeldUpBy 37 = .ok (.if_acmp .ne 5, 3) := by decide +kernel
theorem dX2_isHeldUpBy_40 : decode cX2_isHeldUpBy 40 = .ok (.iconst 1, 1) := by decide +kernel
theorem dX2_isHeldUpBy_41 : decode cX2_isHeldUpBy 41 = .ok (.ireturn, 1) := by decide +kernel
theorem dX2_isHeldUpBy_42 : decode cX2_isHeldUpBy 42 = .ok (.iinc 4 1, 3) := by decide +kernel
theorem dX2_isHeldUpBy_45 : decode cX2_isHeldUpBy 45 = .ok (.goto (-40), 3) := by decide +kernel
theorem dX2_isHeldUpBy_48 : decode cX2_isHeldUpBy 48 = .ok (.iconst 0, 1) := by decide +kernel
theorem dX2_isHeldUpBy_49 : decode cX2_isHeldUpBy 49 = .ok (.ireturn, 1) := by decide +kernel
set_option maxRecDepth 20000 in
theorem ggX2_blockedByOneOf_X2_ownerAt : GoodIn wsX2_blockedByOneOf wsX2_ownerAt := goodIn_r _ [8, 9, 1, 10, 11, 7, 12, 19, 20, 21, 22, 23, 24] (by decide +kernel) (by decide +kernel)
set_option maxRecDepth 20000 in
theorem gX2_blockedByOneOf_X2_ownerAt : GoodIn wsX2_blockedByOneOf (wsV RX2 73 RX2 yX2_ownerAt wsX2_ownerAt) := goodIn_app (goodIn_of _ (by decide +kernel)) ggX2_blockedByOneOf_X2_ownerAt
set_option maxRecDepth 20000 in
theorem ggX2_blockedByOneOf_X1_bit : GoodIn wsX2_blockedByOneOf wsX1_bit := goodIn_r _ [17, 18, 25, 26, 27, 28, 29, 30, 31, 32, 33, 34, 35] (by decide +kernel) (by decide +kernel)
set_option maxRecDepth 20000 in
theorem gX2_blockedByOneOf_X1_bit : GoodIn wsX2_blockedByOneOf (wsV RX2 114 RX1 yX1_bit wsX1_bit) := goodIn_app (goodIn_of _ (by decide +kernel)) ggX2_blockedByOneOf_X1_bit
theorem dX2_blockedByOneOf_0 : decode cX2_blockedByOneOf 0 = .ok (.iconst 0, 1) := by decide +kernel
theorem dX2_blockedByOneOf_1 : decode cX2_blockedByOneOf 1 = .ok (.istore_n 2, 1) := by decide +kernel
theorem dX2_blockedByOneOf_2 : decode cX2_blockedByOneOf 2 = .ok (.aload_n 0, 1) := by decide +kernel
theorem dX2_blockedByOneOf_3 : decode cX2_blockedByOneOf 3 = .ok (.getfield 15, 3) := by decide +kernel
theorem dX2_blockedByOneOf_6 : decode cX2_blockedByOneOf 6 = .ok (.astore_n 3, 1) := by decide +kernel
theorem dX2_blockedByOneOf_7 : decode cX2_blockedByOneOf 7 = .ok (.aload_n 3, 1) := by decide +kernel
theorem dX2_blockedByOneOf_8 : decode cX2_blockedByOneOf 8 = .ok (.arraylength, 1) := by decide +kernel
theorem dX2_blockedByOneOf_9 : decode cX2_blockedByOneOf 9 = .ok (.istore 4, 2) := by decide +kernel
theorem dX2_blockedByOneOf_11 : decode cX2_blockedByOneOf 11 = .ok (.iconst 0, 1) := by decide +kernel
theorem dX2_blockedByOneOf_12 : decode cX2_blockedByOneOf 12 = .ok (.istore 5, 2) := by decide +kernel
theorem dX2_blockedByOneOf_14 : decode cX2_blockedByOneOf 14 = .ok (.iload 5, 2) := by decide +kernel
theorem dX2_blockedByOneOf_16 : decode cX2_blockedByOneOf 16 = .ok (.iload 4, 2) := by decide +kernel
theorem dX2_blockedByOneOf_18 : decode cX2_blockedByOneOf 18 = .ok (.if_icmp .ge 62, 3) := by decide +kernel
theorem dX2_blockedByOneOf_21 : decode cX2_blockedByOneOf 21 = .ok (.aload_n 3, 1) := by decide +kernel
theorem dX2_blockedByOneOf_22 : decode cX2_blockedByOneOf 22 = .ok (.iload 5, 2) := by decide +kernel
theorem dX2_blockedByOneOf_24 : decode cX2_blockedByOneOf 24 = .ok (.aaload, 1) := by decide +kernel
theorem dX2_blockedByOneOf_25 : decode cX2_blockedByOneOf 25 = .ok (.astore 6, 2) := by decide +kernel
theorem dX2_blockedByOneOf_27 : decode cX2_blockedByOneOf 27 = .ok (.aload 6, 2) := by decide +kernel
theorem dX2_blockedByOneOf_29 : decode cX2_blockedByOneOf 29 = .ok (.getfield 76, 3) := by decide +kernel
theorem dX2_blockedByOneOf_32 : decode cX2_blockedByOneOf 32 = .ok (.iconst 2, 1) := by decide +kernel
theorem dX2_blockedByOneOf_33 : decode cX2_blockedByOneOf 33 = .ok (.if_icmp .ne 15, 3) := by decide +kernel
theorem dX2_blockedByOneOf_36 : decode cX2_blockedByOneOf 36 = .ok (.aload_n 0, 1) := by decide +kernel
theorem dX2_blockedByOneOf_37 : decode cX2_blockedByOneOf 37 = .ok (.aload 6, 2) := by decide +kernel
theorem dX2_blockedByOneOf_39 : decode cX2_blockedByOneOf 39 = .ok (.getfield 156, 3) := by decide +kernel
theorem dX2_blockedByOneOf_42 : decode cX2_blockedByOneOf 42 = .ok (.invokevirtual 73, 3) := by decide +kernel
theorem dX2_blockedByOneOf_45 : decode cX2_blockedByOneOf 45 = .ok (.goto 4, 3) := by decide +kernel
theorem dX2_blockedByOneOf_48 : decode cX2_blockedByOneOf 48 = .ok (.aconst_null, 1) := by decide +kernel
theorem dX2_blockedByOneOf_49 : decode cX2_blockedByOneOf 49 = .ok (.astore 7, 2) := by decide +kernel
theorem dX2_blockedByOneOf_51 : decode cX2_blockedByOneOf 51 = .ok (.aload 7, 2) := by decide +kernel
theorem dX2_blockedByOneOf_53 : decode cX2_blockedByOneOf 53 = .ok (.ifnull 21, 3) := by decide +kernel
theorem dX2_blockedByOneOf_56 : decode cX2_blockedByOneOf 56 = .ok (.aload 7, 2) := by decide +kernel
theorem dX2_blockedByOneOf_58 : decode cX2_blockedByOneOf 58 = .ok (.invokevirtual 114, 3) := by decide +kernel
theorem dX2_blockedByOneOf_61 : decode cX2_blockedByOneOf 61 = .ok (.iload_n 1, 1) := by decide +kernel
theorem dX2_blockedByOneOf_62 : decode cX2_blockedByOneOf 62 = .ok (.iand, 1) := by decide +kernel
theorem dX2_blockedByOneOf_63 : decode cX2_blockedByOneOf 63 = .ok (.ifCond .eq 11, 3) := by decide +kernel
theorem dX2_blockedByOneOf_66 : decode cX2_blockedByOneOf 66 = .ok (.iload_n 2, 1) := by decide +kernel
theorem dX2_blockedByOneOf_67 : decode cX2_blockedByOneOf 67 = .ok (.aload 6, 2) := by decide +kernel
theorem dX2_blockedByOneOf_69 : decode cX2_blockedByOneOf 69 = .ok (.invokevirtual 114, 3) := by decide +kernel
theorem dX2_blockedByOneOf_72 : decode cX2_blockedByOneOf 72 = .ok (.ior, 1) := by decide +kernel
theorem dX2_blockedByOneOf_73 : decode cX2_blockedByOneOf 73 = .ok (.istore_n 2, 1) := by decide +kernel
theorem dX2_blockedByOneOf_74 : decode cX2_blockedByOneOf 74 = .ok (.iinc 5 1, 3) := by decide +kernel
theorem dX2_blockedByOneOf_77 : decode cX2_blockedByOneOf 77 = .ok (.goto (-63), 3) := by decide +kernel
theorem dX2_blockedByOneOf_80 : decode cX2_blockedByOneOf 80 = .ok (.iload_n 2, 1) := by decide +kernel
theorem dX2_blockedByOneOf_81 : decode cX2_blockedByOneOf 81 = .ok (.ireturn, 1) := by decide +kernel
