theorem inJ9 : ∀ w ∈ wsJ90, w ∈ lw_tbl := by decide +kernel
theorem inJ10 : ∀ w ∈ wsJ100, w ∈ lw_tbl := by decide +kernel
theorem inJ7 : ∀ w ∈ wsJ70, w ∈ lw_tbl := by decide +kernel
theorem dX0_init_0 : decode cX0_init 0 = .ok (.aload_n 0, 1) := by decide +kernel
theorem dX0_init_1 : decode cX0_init 1 = .ok (.invokespecial 1, 3) := by decide +kernel
theorem dX0_init_4 : decode cX0_init 4 = .ok (.aload_n 0, 1) := by decide +kernel
theorem dX0_init_5 : decode cX0_init 5 = .ok (.iload_n 1, 1) := by decide +kernel
theorem dX0_init_6 : decode cX0_init 6 = .ok (.putfield 7, 3) := by decide +kernel
theorem dX0_init_9 : decode cX0_init 9 = .ok (.aload_n 0, 1) := by decide +kernel
theorem dX0_init_10 : decode cX0_init 10 = .ok (.iload_n 2, 1) := by decide +kernel
theorem dX0_init_11 : decode cX0_init 11 = .ok (.putfield 13, 3) := by decide +kernel
theorem dX0_init_14 : decode cX0_init 14 = .ok (.aload_n 0, 1) := by decide +kernel
theorem dX0_init_15 : decode cX0_init 15 = .ok (.iload_n 3, 1) := by decide +kernel
theorem dX0_init_16 : decode cX0_init 16 = .ok (.putfield 16, 3) := by decide +kernel
theorem dX0_init_19 : decode cX0_init 19 = .ok (.aload_n 0, 1) := by decide +kernel
theorem dX0_init_20 : decode cX0_init 20 = .ok (.iload 4, 2) := by decide +kernel
theorem dX0_init_22 : decode cX0_init 22 = .ok (.putfield 19, 3) := by decide +kernel
theorem dX0_init_25 : decode cX0_init 25 = .ok (.return_, 1) := by decide +kernel
theorem dX1_init_0 : decode cX1_init 0 = .ok (.aload_n 0, 1) := by decide +kernel
theorem dX1_init_1 : decode cX1_init 1 = .ok (.invokespecial 3, 3) := by decide +kernel
theorem dX1_init_4 : decode cX1_init 4 = .ok (.aload_n 0, 1) := by decide +kernel
theorem dX1_init_5 : decode cX1_init 5 = .ok (.bipush 30, 2) := by decide +kernel
theorem dX1_init_7 : decode cX1_init 7 = .ok (.newarray .int, 2) := by decide +kernel
theorem dX1_init_9 : decode cX1_init 9 = .ok (.putfield 9, 3) := by decide +kernel
theorem dX1_init_12 : decode cX1_init 12 = .ok (.aload_n 0, 1) := by decide +kernel
theorem dX1_init_13 : decode cX1_init 13 = .ok (.bipush 30, 2) := by decide +kernel
theorem dX1_init_15 : decode cX1_init 15 = .ok (.newarray .int, 2) := by decide +kernel
theorem dX1_init_17 : decode cX1_init 17 = .ok (.putfield 15, 3) := by decide +kernel
theorem dX1_init_20 : decode cX1_init 20 = .ok (.aload_n 0, 1) := by decide +kernel
theorem dX1_init_21 : decode cX1_init 21 = .ok (.bipush 30, 2) := by decide +kernel
theorem dX1_init_23 : decode cX1_init 23 = .ok (.newarray .int, 2) := by decide +kernel
theorem dX1_init_25 : decode cX1_init 25 = .ok (.putfield 18, 3) := by decide +kernel
theorem dX1_init_28 : decode cX1_init 28 = .ok (.return_, 1) := by decide +kernel
theorem dX1_keep_0 : decode cX1_keep 0 = .ok (.aload_n 0, 1) := by decide +kernel
theorem dX1_keep_1 : decode cX1_keep 1 = .ok (.getfield 21, 3) := by decide +kernel
theorem dX1_keep_4 : decode cX1_keep 4 = .ok (.bipush 30, 2) := by decide +kernel
theorem dX1_keep_6 : decode cX1_keep 6 = .ok (.if_icmp .lt 4, 3) := by decide +kernel
theorem dX1_keep_9 : decode cX1_keep 9 = .ok (.return_, 1) := by decide +kernel
theorem dX1_keep_10 : decode cX1_keep 10 = .ok (.aload_n 0, 1) := by decide +kernel
theorem dX1_keep_11 : decode cX1_keep 11 = .ok (.getfield 9, 3) := by decide +kernel
theorem dX1_keep_14 : decode cX1_keep 14 = .ok (.aload_n 0, 1) := by decide +kernel
theorem dX1_keep_15 : decode cX1_keep 15 = .ok (.getfield 21, 3) := by decide +kernel
theorem dX1_keep_18 : decode cX1_keep 18 = .ok (.iload_n 1, 1) := by decide +kernel
theorem dX1_keep_19 : decode cX1_keep 19 = .ok (.iastore, 1) := by decide +kernel
theorem dX1_keep_20 : decode cX1_keep 20 = .ok (.aload_n 0, 1) := by decide +kernel
theorem dX1_keep_21 : decode cX1_keep 21 = .ok (.getfield 15, 3) := by decide +kernel
theorem dX1_keep_24 : decode cX1_keep 24 = .ok (.aload_n 0, 1) := by decide +kernel
theorem dX1_keep_25 : decode cX1_keep 25 = .ok (.getfield 21, 3) := by decide +kernel
theorem dX1_keep_28 : decode cX1_keep 28 = .ok (.iload_n 2, 1) := by decide +kernel
theorem dX1_keep_29 : decode cX1_keep 29 = .ok (.iastore, 1) := by decide +kernel
theorem dX1_keep_30 : decode cX1_keep 30 = .ok (.aload_n 0, 1) := by decide +kernel
theorem dX1_keep_31 : decode cX1_keep 31 = .ok (.getfield 18, 3) := by decide +kernel
theorem dX1_keep_34 : decode cX1_keep 34 = .ok (.aload_n 0, 1) := by decide +kernel
theorem dX1_keep_35 : decode cX1_keep 35 = .ok (.getfield 21, 3) := by decide +kernel
theorem dX1_keep_38 : decode cX1_keep 38 = .ok (.iload_n 3, 1) := by decide +kernel
theorem dX1_keep_39 : decode cX1_keep 39 = .ok (.iastore, 1) := by decide +kernel
theorem dX1_keep_40 : decode cX1_keep 40 = .ok (.aload_n 0, 1) := by decide +kernel
theorem dX1_keep_41 : decode cX1_keep 41 = .ok (.dup, 1) := by decide +kernel
theorem dX1_keep_42 : decode cX1_keep 42 = .ok (.getfield 21, 3) := by decide +kernel
theorem dX1_keep_45 : decode cX1_keep 45 = .ok (.iconst 1, 1) := by decide +kernel
theorem dX1_keep_46 : decode cX1_keep 46 = .ok (.iadd, 1) := by decide +kernel
theorem dX1_keep_47 : decode cX1_keep 47 = .ok (.putfield 21, 3) := by decide +kernel
theorem dX1_keep_50 : decode cX1_keep 50 = .ok (.return_, 1) := by decide +kernel
set_option maxRecDepth 20000 in
theorem ggX1_actAt_X1_has : GoodIn wsX1_actAt wsX1_has := goodIn_r _ [6, 7, 8, 9, 10, 11] (by decide +kernel) (by decide +kernel)
set_option maxRecDepth 20000 in
theorem gX1_actAt_X1_has : GoodIn wsX1_actAt (wsV RX1 25 RX1 yX1_has wsX1_has) := goodIn_app (goodIn_of _ (by decide +kernel)) ggX1_actAt_X1_has
theorem dX1_actAt_0 : decode cX1_actAt 0 = .ok (.aload_n 0, 1) := by decide +kernel
theorem dX1_actAt_1 : decode cX1_actAt 1 = .ok (.iload_n 1, 1) := by decide +kernel
theorem dX1_actAt_2 : decode cX1_actAt 2 = .ok (.invokevirtual 25, 3) := by decide +kernel
theorem dX1_actAt_5 : decode cX1_actAt 5 = .ok (.ifCond .eq 12, 3) := by decide +kernel
theorem dX1_actAt_8 : decode cX1_actAt 8 = .ok (.aload_n 0, 1) := by decide +kernel
theorem dX1_actAt_9 : decode cX1_actAt 9 = .ok (.getfield 9, 3) := by decide +kernel
theorem dX1_actAt_12 : decode cX1_actAt 12 = .ok (.iload_n 1, 1) := by decide +kernel
theorem dX1_actAt_13 : decode cX1_actAt 13 = .ok (.iaload, 1) := by decide +kernel
theorem dX1_actAt_14 : decode cX1_actAt 14 = .ok (.goto 4, 3) := by decide +kernel
theorem dX1_actAt_17 : decode cX1_actAt 17 = .ok (.iconst (-1), 1) := by decide +kernel
theorem dX1_actAt_18 : decode cX1_actAt 18 = .ok (.ireturn, 1) := by decide +kernel
set_option maxRecDepth 20000 in
theorem ggX1_failureAt_X1_has : GoodIn wsX1_failureAt wsX1_has := goodIn_r _ [6, 7, 8, 9, 10, 11] (by decide +kernel) (by decide +kernel)
set_option maxRecDepth 20000 in
theorem gX1_failureAt_X1_has : GoodIn wsX1_failureAt (wsV RX1 25 RX1 yX1_has wsX1_has) := goodIn_app (goodIn_of _ (by decide +kernel)) ggX1_failureAt_X1_has
theorem dX1_failureAt_0 : decode cX1_failureAt 0 = .ok (.aload_n 0, 1) := by decide +kernel
theorem dX1_failureAt_1 : decode cX1_failureAt 1 = .ok (.iload_n 1, 1) := by decide +kernel
theorem dX1_failureAt_2 : decode cX1_failureAt 2 = .ok (.invokevirtual 25, 3) := by decide +kernel
theorem dX1_failureAt_5 : decode cX1_failureAt 5 = .ok (.ifCond .eq 12, 3) := by decide +kernel
theorem dX1_failureAt_8 : decode cX1_failureAt 8 = .ok (.aload_n 0, 1) := by decide +kernel
theorem dX1_failureAt_9 : decode cX1_failureAt 9 = .ok (.getfield 15, 3) := by decide +kernel
theorem dX1_failureAt_12 : decode cX1_failureAt 12 = .ok (.iload_n 1, 1) := by decide +kernel
theorem dX1_failureAt_13 : decode cX1_failureAt 13 = .ok (.iaload, 1) := by decide +kernel
theorem dX1_failureAt_14 : decode cX1_failureAt 14 = .ok (.goto 4, 3) := by decide +kernel
theorem dX1_failureAt_17 : decode cX1_failureAt 17 = .ok (.iconst (-1), 1) := by decide +kernel
theorem dX1_failureAt_18 : decode cX1_failureAt 18 = .ok (.ireturn, 1) := by decide +kernel
set_option maxRecDepth 20000 in
theorem ggX1_timeAt_X1_has : GoodIn wsX1_timeAt wsX1_has := goodIn_r _ [6, 7, 8, 9, 10, 11] (by decide +kernel) (by decide +kernel)
set_option maxRecDepth 20000 in
theorem gX1_timeAt_X1_has : GoodIn wsX1_timeAt (wsV RX1 25 RX1 yX1_has wsX1_has) := goodIn_app (goodIn_of _ (by decide +kernel)) ggX1_timeAt_X1_has
theorem dX1_timeAt_0 : decode cX1_timeAt 0 = .ok (.aload_n 0, 1) := by decide +kernel
theorem dX1_timeAt_1 : decode cX1_timeAt 1 = .ok (.iload_n 1, 1) := by decide +kernel
theorem dX1_timeAt_2 : decode cX1_timeAt 2 = .ok (.invokevirtual 25, 3) := by decide +kernel
theorem dX1_timeAt_5 : decode cX1_timeAt 5 = .ok (.ifCond .eq 12, 3) := by decide +kernel
theorem dX1_timeAt_8 : decode cX1_timeAt 8 = .ok (.aload_n 0, 1) := by decide +kernel
theorem dX1_timeAt_9 : decode cX1_timeAt 9 = .ok (.getfield 18, 3) := by decide +kernel
theorem dX1_timeAt_12 : decode cX1_timeAt 12 = .ok (.iload_n 1, 1) := by decide +kernel
theorem dX1_timeAt_13 : decode cX1_timeAt 13 = .ok (.iaload, 1) := by decide +kernel
theorem dX1_timeAt_14 : decode cX1_timeAt 14 = .ok (.goto 4, 3) := by decide +kernel
theorem dX1_timeAt_17 : decode cX1_timeAt 17 = .ok (.iconst (-1), 1) := by decide +kernel
theorem dX1_timeAt_18 : decode cX1_timeAt 18 = .ok (.ireturn, 1) := by decide +kernel
theorem dX1_has_0 : decode cX1_has 0 = .ok (.iload_n 1, 1) := by decide +kernel
theorem dX1_has_1 : decode cX1_has 1 = .ok (.ifCond .lt 21, 3) := by decide +kernel
theorem dX1_has_4 : decode cX1_has 4 = .ok (.iload_n 1, 1) := by decide +kernel
theorem dX1_has_5 : decode cX1_has 5 = .ok (.aload_n 0, 1) := by decide +kernel
theorem dX1_has_6 : decode cX1_has 6 = .ok (.getfield 21, 3) := by decide +kernel
theorem dX1_has_9 : decode cX1_has 9 = .ok (.if_icmp .ge 13, 3) := by decide +kernel
theorem dX1_has_12 : decode cX1_has 12 = .ok (.iload_n 1, 1) := by decide +kernel
theorem dX1_has_13 : decode cX1_has 13 = .ok (.bipush 30, 2) := by decide +kernel
theorem dX1_has_15 : decode cX1_has 15 = .ok (.if_icmp .ge 7, 3) := by decide +kernel
theorem dX1_has_18 : decode cX1_has 18 = .ok (.iconst 1, 1) := by decide +kernel
theorem dX1_has_19 : decode cX1_has 19 = .ok (.goto 4, 3) := by decide +kernel
theorem dX1_has_22 : decode cX1_has 22 = .ok (.iconst 0, 1) := by decide +kernel
theorem dX1_has_23 : decode cX1_has 23 = .ok (.ireturn, 1) := by decide +kernel
theorem dX2_init_0 : decode cX2_init 0 = .ok (.aload_n 0, 1) := by decide +kernel
theorem dX2_init_1 : decode cX2_init 1 = .ok (.invokespecial 1, 3) := by decide +kernel
theorem dX2_init_4 : decode cX2_init 4 = .ok (.aload_n 0, 1) := by decide +kernel
theorem dX2_init_5 : decode cX2_init 5 = .ok (.iload_n 1, 1) := by decide +kernel
theorem dX2_init_6 : decode cX2_init 6 = .ok (.putfield 7, 3) := by decide +kernel
theorem dX2_init_9 : decode cX2_init 9 = .ok (.aload_n 0, 1) := by decide +kernel
theorem dX2_init_10 : decode cX2_init 10 = .ok (.iload_n 2, 1) := by decide +kernel
theorem dX2_init_11 : decode cX2_init 11 = .ok (.putfield 13, 3) := by decide +kernel
theorem dX2_init_14 : decode cX2_init 14 = .ok (.aload_n 0, 1) := by decide +kernel
theorem dX2_init_15 : decode cX2_init 15 = .ok (.iload_n 3, 1) := by decide +kernel
theorem dX2_init_16 : decode cX2_init 16 = .ok (.putfield 16, 3) := by decide +kernel
theorem dX2_init_19 : decode cX2_init 19 = .ok (.aload_n 0, 1) := by decide +kernel
theorem dX2_init_20 : decode cX2_init 20 = .ok (.iload 4, 2) := by decide +kernel
theorem dX2_init_22 : decode cX2_init 22 = .ok (.putfield 19, 3) := by decide +kernel
theorem dX2_init_25 : decode cX2_init 25 = .ok (.aload_n 0, 1) := by decide +kernel
theorem dX2_init_26 : decode cX2_init 26 = .ok (.iload 5, 2) := by decide +kernel
theorem dX2_init_28 : decode cX2_init 28 = .ok (.putfield 22, 3) := by decide +kernel
theorem dX2_init_31 : decode cX2_init 31 = .ok (.return_, 1) := by decide +kernel
theorem dX3_init_0 : decode cX3_init 0 = .ok (.aload_n 0, 1) := by decide +kernel
theorem dX3_init_1 : decode cX3_init 1 = .ok (.invokespecial 3, 3) := by decide +kernel
theorem dX3_init_4 : decode cX3_init 4 = .ok (.aload_n 0, 1) := by decide +kernel
theorem dX3_init_5 : decode cX3_init 5 = .ok (.bipush 60, 2) := by decide +kernel
theorem dX3_init_7 : decode cX3_init 7 = .ok (.newarray .int, 2) := by decide +kernel
theorem dX3_init_9 : decode cX3_init 9 = .ok (.putfield 9, 3) := by decide +kernel
theorem dX3_init_12 : decode cX3_init 12 = .ok (.aload_n 0, 1) := by decide +kernel
theorem dX3_init_13 : decode cX3_init 13 = .ok (.bipush 60, 2) := by decide +kernel
theorem dX3_init_15 : decode cX3_init 15 = .ok (.newarray .int, 2) := by decide +kernel
theorem dX3_init_17 : decode cX3_init 17 = .ok (.putfield 15, 3) := by decide +kernel
theorem dX3_init_20 : decode cX3_init 20 = .ok (.return_, 1) := by decide +kernel
theorem dX3_join_0 : decode cX3_join 0 = .ok (.aload_n 0, 1) := by decide +kernel
theorem dX3_join_1 : decode cX3_join 1 = .ok (.getfield 18, 3) := by decide +kernel
theorem dX3_join_4 : decode cX3_join 4 = .ok (.bipush 60, 2) := by decide +kernel
theorem dX3_join_6 : decode cX3_join 6 = .ok (.if_icmp .lt 4, 3) := by decide +kernel
theorem dX3_join_9 : decode cX3_join 9 = .ok (.return_, 1) := by decide +kernel
theorem dX3_join_10 : decode cX3_join 10 = .ok (.aload_n 0, 1) := by decide +kernel
theorem dX3_join_11 : decode cX3_join 11 = .ok (.getfield 9, 3) := by decide +kernel
theorem dX3_join_14 : decode cX3_join 14 = .ok (.aload_n 0, 1) := by decide +kernel
theorem dX3_join_15 : decode cX3_join 15 = .ok (.getfield 18, 3) := by decide +kernel
theorem dX3_join_18 : decode cX3_join 18 = .ok (.iload_n 1, 1) := by decide +kernel
theorem dX3_join_19 : decode cX3_join 19 = .ok (.iastore, 1) := by decide +kernel
theorem dX3_join_20 : decode cX3_join 20 = .ok (.aload_n 0, 1) := by decide +kernel
theorem dX3_join_21 : decode cX3_join 21 = .ok (.getfield 15, 3) := by decide +kernel
theorem dX3_join_24 : decode cX3_join 24 = .ok (.aload_n 0, 1) := by decide +kernel
theorem dX3_join_25 : decode cX3_join 25 = .ok (.getfield 18, 3) := by decide +kernel
theorem dX3_join_28 : decode cX3_join 28 = .ok (.iload_n 2, 1) := by decide +kernel
theorem dX3_join_29 : decode cX3_join 29 = .ok (.iastore, 1) := by decide +kernel
theorem dX3_join_30 : decode cX3_join 30 = .ok (.aload_n 0, 1) := by decide +kernel
theorem dX3_join_31 : decode cX3_join 31 = .ok (.dup, 1) := by decide +kernel
theorem dX3_join_32 : decode cX3_join 32 = .ok (.getfield 18, 3) := by decide +kernel
theorem dX3_join_35 : decode cX3_join 35 = .ok (.iconst 1, 1) := by decide +kernel
theorem dX3_join_36 : decode cX3_join 36 = .ok (.iadd, 1) := by decide +kernel
theorem dX3_join_37 : decode cX3_join 37 = .ok (.putfield 18, 3) := by decide +kernel
theorem dX3_join_40 : decode cX3_join 40 = .ok (.return_, 1) := by decide +kernel
set_option maxRecDepth 20000 in
theorem ggX3_takeFirstFor_X3_closeGapAt : GoodIn wsX3_takeFirstFor wsX3_closeGapAt := goodIn_r _ [8, 1, 3, 2, 9, 10, 11] (by decide +kernel) (by decide +kernel)
set_option maxRecDepth 20000 in
theorem gX3_takeFirstFor_X3_closeGapAt : GoodIn wsX3_takeFirstFor (wsV RX3 22 RX3 yX3_closeGapAt wsX3_closeGapAt) := goodIn_app (goodIn_of _ (by decide +kernel)) ggX3_takeFirstFor_X3_closeGapAt
theorem dX3_takeFirstFor_0 : decode cX3_takeFirstFor 0 = .ok (.iconst 0, 1) := by decide +kernel
theorem dX3_takeFirstFor_1 : decode cX3_takeFirstFor 1 = .ok (.istore_n 2, 1) := by decide +kernel
theorem dX3_takeFirstFor_2 : decode cX3_takeFirstFor 2 = .ok (.iload_n 2, 1) := by decide +kernel
theorem dX3_takeFirstFor_3 : decode cX3_takeFirstFor 3 = .ok (.aload_n 0, 1) := by decide +kernel
theorem dX3_takeFirstFor_4 : decode cX3_takeFirstFor 4 = .ok (.getfield 18, 3) := by decide +kernel
theorem dX3_takeFirstFor_7 : decode cX3_takeFirstFor 7 = .ok (.if_icmp .ge 39, 3) := by decide +kernel
theorem dX3_takeFirstFor_10 : decode cX3_takeFirstFor 10 = .ok (.iload_n 2, 1) := by decide +kernel
theorem dX3_takeFirstFor_11 : decode cX3_takeFirstFor 11 = .ok (.bipush 60, 2) := by decide +kernel
theorem dX3_takeFirstFor_13 : decode cX3_takeFirstFor 13 = .ok (.if_icmp .ge 33, 3) := by decide +kernel
theorem dX3_takeFirstFor_16 : decode cX3_takeFirstFor 16 = .ok (.aload_n 0, 1) := by decide +kernel
theorem dX3_takeFirstFor_17 : decode cX3_takeFirstFor 17 = .ok (.getfield 15, 3) := by decide +kernel
theorem dX3_takeFirstFor_20 : decode cX3_takeFirstFor 20 = .ok (.iload_n 2, 1) := by decide +kernel
theorem dX3_takeFirstFor_21 : decode cX3_takeFirstFor 21 = .ok (.iaload, 1) := by decide +kernel
theorem dX3_takeFirstFor_22 : decode cX3_takeFirstFor 22 = .ok (.iload_n 1, 1) := by decide +kernel
theorem dX3_takeFirstFor_23 : decode cX3_takeFirstFor 23 = .ok (.if_icmp .ne 17, 3) := by decide +kernel
theorem dX3_takeFirstFor_26 : decode cX3_takeFirstFor 26 = .ok (.aload_n 0, 1) := by decide +kernel
theorem dX3_takeFirstFor_27 : decode cX3_takeFirstFor 27 = .ok (.getfield 9, 3) := by decide +kernel
theorem dX3_takeFirstFor_30 : decode cX3_takeFirstFor 30 = .ok (.iload_n 2, 1) := by decide +kernel
theorem dX3_takeFirstFor_31 : decode cX3_takeFirstFor 31 = .ok (.iaload, 1) := by decide +kernel
theorem dX3_takeFirstFor_32 : decode cX3_takeFirstFor 32 = .ok (.istore_n 3, 1) := by decide +kernel
theorem dX3_takeFirstFor_33 : decode cX3_takeFirstFor 33 = .ok (.aload_n 0, 1) := by decide +kernel
theorem dX3_takeFirstFor_34 : decode cX3_takeFirstFor 34 = .ok (.iload_n 2, 1) := by decide +kernel
theorem dX3_takeFirstFor_35 : decode cX3_takeFirstFor 35 = .ok (.invokevirtual 22, 3) := by decide +kernel
theorem dX3_takeFirstFor_38 : decode cX3_takeFirstFor 38 = .ok (.iload_n 3, 1) := by decide +kernel
theorem dX3_takeFirstFor_39 : decode cX3_takeFirstFor 39 = .ok (.ireturn, 1) := by decide +kernel
theorem dX3_takeFirstFor_40 : decode cX3_takeFirstFor 40 = .ok (.iinc 2 1, 3) := by decide +kernel
theorem dX3_takeFirstFor_43 : decode cX3_takeFirstFor 43 = .ok (.goto (-41), 3) := by decide +kernel
theorem dX3_takeFirstFor_46 : decode cX3_takeFirstFor 46 = .ok (.iconst (-1), 1) := by decide +kernel
theorem dX3_takeFirstFor_47 : decode cX3_takeFirstFor 47 = .ok (.ireturn, 1) := by decide +kernel
theorem dX3_closeGapAt_0 : decode cX3_closeGapAt 0 = .ok (.iload_n 1, 1) := by decide +kernel
theorem dX3_closeGapAt_1 : decode cX3_closeGapAt 1 = .ok (.istore_n 2, 1) := by decide +kernel
theorem dX3_closeGapAt_2 : decode cX3_closeGapAt 2 = .ok (.iload_n 2, 1) := by decide +kernel
theorem dX3_closeGapAt_3 : decode cX3_closeGapAt 3 = .ok (.iconst 1, 1) := by decide +kernel
theorem dX3_closeGapAt_4 : decode cX3_closeGapAt 4 = .ok (.iadd, 1) := by decide +kernel
theorem dX3_closeGapAt_5 : decode cX3_closeGapAt 5 = .ok (.aload_n 0, 1) := by decide +kernel
theorem dX3_closeGapAt_6 : decode cX3_closeGapAt 6 = .ok (.getfield 18, 3) := by decide +kernel
theorem dX3_closeGapAt_9 : decode cX3_closeGapAt 9 = .ok (.if_icmp .ge 45, 3) := by decide +kernel
theorem dX3_closeGapAt_12 : decode cX3_closeGapAt 12 = .ok (.iload_n 2, 1) := by decide +kernel
theorem dX3_closeGapAt_13 : decode cX3_closeGapAt 13 = .ok (.iconst 1, 1) := by decide +kernel
theorem dX3_closeGapAt_14 : decode cX3_closeGapAt 14 = .ok (.iadd, 1) := by decide +kernel
theorem dX3_closeGapAt_15 : decode cX3_closeGapAt 15 = .ok (.bipush 60, 2) := by decide +kernel
theorem dX3_closeGapAt_17 : decode cX3_closeGapAt 17 = .ok (.if_icmp .ge 37, 3) := by decide +kernel
theorem dX3_closeGapAt_20 : decode cX3_closeGapAt 20 = .ok (.aload_n 0, 1) := by decide +kernel
theorem dX3_closeGapAt_21 : decode cX3_closeGapAt 21 = .ok (.getfield 9, 3) := by decide +kernel
theorem dX3_closeGapAt_24 : decode cX3_closeGapAt 24 = .ok (.iload_n 2, 1) := by decide +kernel
theorem dX3_closeGapAt_25 : decode cX3_closeGapAt 25 = .ok (.aload_n 0, 1) := by decide +kernel
theorem dX3_closeGapAt_26 : decode cX3_closeGapAt 26 = .ok (.getfield 9, 3) := by decide +kernel
theorem dX3_closeGapAt_29 : decode cX3_closeGapAt 29 = .ok (.iload_n 2, 1) := by decide +kernel
theorem dX3_closeGapAt_30 : decode cX3_closeGapAt 30 = .ok (.iconst 1, 1) := by decide +kernel
theorem dX3_closeGapAt_31 : decode cX3_closeGapAt 31 = .ok (.iadd, 1) := by decide +kernel
theorem dX3_closeGapAt_32 : decode cX3_closeGapAt 32 = .ok (.iaload, 1) := by decide +kernel
theorem dX3_closeGapAt_33 : decode cX3_closeGapAt 33 = .ok (.iastore, 1) := by decide +kernel
theorem dX3_closeGapAt_34 : decode cX3_closeGapAt 34 = .ok (.aload_n 0, 1) := by decide +kernel
theorem dX3_closeGapAt_35 : decode cX3_closeGapAt 35 = .ok (.getfield 15, 3) := by decide +kernel
theorem dX3_closeGapAt_38 : decode cX3_closeGapAt 38 = .ok (.iload_n 2, 1) := by decide +kernel
theorem dX3_closeGapAt_39 : decode cX3_closeGapAt 39 = .ok (.aload_n 0, 1) := by decide +kernel
theorem dX3_closeGapAt_40 : decode cX3_closeGapAt 40 = .ok (.getfield 15, 3) := by decide +kernel
theorem dX3_closeGapAt_43 : decode cX3_closeGapAt 43 = .ok (.iload_n 2, 1) := by decide +kernel
theorem dX3_closeGapAt_44 : decode cX3_closeGapAt 44 = .ok (.iconst 1, 1) := by decide +kernel
theorem dX3_closeGapAt_45 : decode cX3_closeGapAt 45 = .ok (.iadd, 1) := by decide +kernel
theorem dX3_closeGapAt_46 : decode cX3_closeGapAt 46 = .ok (.iaload, 1) := by decide +kernel
theorem dX3_closeGapAt_47 : decode cX3_closeGapAt 47 = .ok (.iastore, 1) := by decide +kernel
theorem dX3_closeGapAt_48 : decode cX3_closeGapAt 48 = .ok (.iinc 2 1, 3) := by decide +kernel
theorem dX3_closeGapAt_51 : decode cX3_closeGapAt 51 = .ok (.goto (-49), 3) := by decide +kernel
theorem dX3_closeGapAt_54 : decode cX3_closeGapAt 54 = .ok (.aload_n 0, 1) := by decide +kernel
theorem dX3_closeGapAt_55 : decode cX3_closeGapAt 55 = .ok (.dup, 1) := by decide +kernel
theorem dX3_closeGapAt_56 : decode cX3_closeGapAt 56 = .ok (.getfield 18, 3) := by decide +kernel
theorem dX3_closeGapAt_59 : decode cX3_closeGapAt 59 = .ok (.iconst 1, 1) := by decide +kernel
theorem dX3_closeGapAt_60 : decode cX3_closeGapAt 60 = .ok (.isub, 1) := by decide +kernel
theorem dX3_closeGapAt_61 : decode cX3_closeGapAt 61 = .ok (.putfield 18, 3) := by decide +kernel
theorem dX3_closeGapAt_64 : decode cX3_closeGapAt 64 = .ok (.return_, 1) := by decide +kernel
set_option maxRecDepth 20000 in
theorem ggX4_init_X3_init : GoodIn wsX4_init wsX3_init := goodIn_r _ [22, 23, 2, 3, 4, 24, 25, 52, 53, 54] (by decide +kernel) (by decide +kernel)
set_option maxRecDepth 20000 in
theorem gX4_init_X3_init_n35 : GoodIn wsX4_init (wsX3_init) := ggX4_init_X3_init
set_option maxRecDepth 20000 in
theorem ggX4_init_X1_init : GoodIn wsX4_init wsX1_init := goodIn_r _ [27, 28, 2, 3, 4, 29, 30, 31, 55, 56, 57, 58] (by decide +kernel) (by decide +kernel)
set_option maxRecDepth 20000 in
theorem gX4_init_X1_init_n42 : GoodIn wsX4_init (wsX1_init) := ggX4_init_X1_init
set_option maxRecDepth 20000 in
theorem ggX4_init_J7_fill_53178 : GoodIn wsX4_init wsJ7_fill_53178 := goodIn_r _ [35] (by decide +kernel) (by decide +kernel)
set_option maxRecDepth 20000 in
theorem gX4_init_J7_fill_53178 : GoodIn wsX4_init (va_wsS RX4 47 yJ7_fill_53178 wsJ7_fill_53178) := goodIn_app (goodIn_of _ (by decide +kernel)) ggX4_init_J7_fill_53178
theorem dX4_init_0 : decode cX4_init 0 = .ok (.aload_n 0, 1) := by decide +kernel
theorem dX4_init_1 : decode cX4_init 1 = .ok (.invokespecial 1, 3) := by decide +kernel
theorem dX4_init_4 : decode cX4_init 4 = .ok (.aload_n 0, 1) := by decide +kernel
theorem dX4_init_5 : decode cX4_init 5 = .ok (.bipush 8, 2) := by decide +kernel
theorem dX4_init_7 : decode cX4_init 7 = .ok (.newarray .int, 2) := by decide +kernel
theorem dX4_init_9 : decode cX4_init 9 = .ok (.putfield 9, 3) := by decide +kernel
theorem dX4_init_12 : decode cX4_init 12 = .ok (.aload_n 0, 1) := by decide +kernel
theorem dX4_init_13 : decode cX4_init 13 = .ok (.bipush 6, 2) := by decide +kernel
theorem dX4_init_15 : decode cX4_init 15 = .ok (.newarray .int, 2) := by decide +kernel
theorem dX4_init_17 : decode cX4_init 17 = .ok (.putfield 13, 3) := by decide +kernel
theorem dX4_init_20 : decode cX4_init 20 = .ok (.aload_n 0, 1) := by decide +kernel
theorem dX4_init_21 : decode cX4_init 21 = .ok (.bipush 40, 2) := by decide +kernel
theorem dX4_init_23 : decode cX4_init 23 = .ok (.bipush 6, 2) := by decide +kernel
theorem dX4_init_25 : decode cX4_init 25 = .ok (.multianewarray 16 2, 4) := by decide +kernel
theorem dX4_init_29 : decode cX4_init 29 = .ok (.putfield 18, 3) := by decide +kernel
theorem dX4_init_32 : decode cX4_init 32 = .ok (.aload_n 0, 1) := by decide +kernel
theorem dX4_init_33 : decode cX4_init 33 = .ok (.bipush 40, 2) := by decide +kernel
theorem dX4_init_35 : decode cX4_init 35 = .ok (.anewarray 21, 3) := by decide +kernel
theorem dX4_init_38 : decode cX4_init 38 = .ok (.putfield 23, 3) := by decide +kernel
theorem dX4_init_41 : decode cX4_init 41 = .ok (.aload_n 0, 1) := by decide +kernel
theorem dX4_init_42 : decode cX4_init 42 = .ok (.bipush 40, 2) := by decide +kernel
theorem dX4_init_44 : decode cX4_init 44 = .ok (.anewarray 27, 3) := by decide +kernel
theorem dX4_init_47 : decode cX4_init 47 = .ok (.putfield 29, 3) := by decide +kernel
theorem dX4_init_50 : decode cX4_init 50 = .ok (.aload_n 0, 1) := by decide +kernel
theorem dX4_init_51 : decode cX4_init 51 = .ok (.new 33, 3) := by decide +kernel
theorem dX4_init_54 : decode cX4_init 54 = .ok (.dup, 1) := by decide +kernel
theorem dX4_init_55 : decode cX4_init 55 = .ok (.invokespecial 35, 3) := by decide +kernel
theorem dX4_init_58 : decode cX4_init 58 = .ok (.putfield 36, 3) := by decide +kernel
theorem dX4_init_61 : decode cX4_init 61 = .ok (.aload_n 0, 1) := by decide +kernel
theorem dX4_init_62 : decode cX4_init 62 = .ok (.new 40, 3) := by decide +kernel
theorem dX4_init_65 : decode cX4_init 65 = .ok (.dup, 1) := by decide +kernel
theorem dX4_init_66 : decode cX4_init 66 = .ok (.invokespecial 42, 3) := by decide +kernel
theorem dX4_init_69 : decode cX4_init 69 = .ok (.putfield 43, 3) := by decide +kernel
theorem dX4_init_72 : decode cX4_init 72 = .ok (.aload_n 0, 1) := by decide +kernel
theorem dX4_init_73 : decode cX4_init 73 = .ok (.getfield 13, 3) := by decide +kernel
theorem dX4_init_76 : decode cX4_init 76 = .ok (.bipush 100, 2) := by decide +kernel
theorem dX4_init_78 : decode cX4_init 78 = .ok (.invokestatic 47, 3) := by decide +kernel
theorem dX4_init_81 : decode cX4_init 81 = .ok (.return_, 1) := by decide +kernel
set_option maxRecDepth 20000 in
theorem ggX4_show_X4_isSensor : GoodIn wsX4_show wsX4_isSensor := goodIn_r _ [6] (by decide +kernel) (by decide +kernel)
set_option maxRecDepth 20000 in
theorem gX4_show_X4_isSensor : GoodIn wsX4_show (va_wsS RX4 53 yX4_isSensor wsX4_isSensor) := goodIn_app (goodIn_of _ (by decide +kernel)) ggX4_show_X4_isSensor
theorem dX4_show_0 : decode cX4_show 0 = .ok (.aload_n 0, 1) := by decide +kernel
theorem dX4_show_1 : decode cX4_show 1 = .ok (.iload_n 1, 1) := by decide +kernel
theorem dX4_show_2 : decode cX4_show 2 = .ok (.invokestatic 53, 3) := by decide +kernel
theorem dX4_show_5 : decode cX4_show 5 = .ok (.ifCond .eq 7, 3) := by decide +kernel
theorem dX4_show_8 : decode cX4_show 8 = .ok (.iconst 0, 1) := by decide +kernel
theorem dX4_show_9 : decode cX4_show 9 = .ok (.goto 5, 3) := by decide +kernel
theorem dX4_show_12 : decode cX4_show 12 = .ok (.bipush (-2), 2) := by decide +kernel
theorem dX4_show_14 : decode cX4_show 14 = .ok (.putfield 57, 3) := by decide +kernel
theorem dX4_show_17 : decode cX4_show 17 = .ok (.aload_n 0, 1) := by decide +kernel
theorem dX4_show_18 : decode cX4_show 18 = .ok (.getfield 57, 3) := by decide +kernel
theorem dX4_show_21 : decode cX4_show 21 = .ok (.ifCond .eq 5, 3) := by decide +kernel
theorem dX4_show_24 : decode cX4_show 24 = .ok (.iconst 0, 1) := by decide +kernel
theorem dX4_show_25 : decode cX4_show 25 = .ok (.ireturn, 1) := by decide +kernel
theorem dX4_show_26 : decode cX4_show 26 = .ok (.aload_n 0, 1) := by decide +kernel
theorem dX4_show_27 : decode cX4_show 27 = .ok (.getfield 9, 3) := by decide +kernel
theorem dX4_show_30 : decode cX4_show 30 = .ok (.iload_n 1, 1) := by decide +kernel
theorem dX4_show_31 : decode cX4_show 31 = .ok (.iaload, 1) := by decide +kernel
theorem dX4_show_32 : decode cX4_show 32 = .ok (.istore_n 3, 1) := by decide +kernel
theorem dX4_show_33 : decode cX4_show 33 = .ok (.aload_n 0, 1) := by decide +kernel
theorem dX4_show_34 : decode cX4_show 34 = .ok (.getfield 9, 3) := by decide +kernel
theorem dX4_show_37 : decode cX4_show 37 = .ok (.iload_n 1, 1) := by decide +kernel
theorem dX4_show_38 : decode cX4_show 38 = .ok (.iload_n 2, 1) := by decide +kernel
theorem dX4_show_39 : decode cX4_show 39 = .ok (.iastore, 1) := by decide +kernel
theorem dX4_show_40 : decode cX4_show 40 = .ok (.iload_n 3, 1) := by decide +kernel
theorem dX4_show_41 : decode cX4_show 41 = .ok (.ireturn, 1) := by decide +kernel
set_option maxRecDepth 20000 in
theorem ggX4_shown_X4_isSensor : GoodIn wsX4_shown wsX4_isSensor := goodIn_r _ [5] (by decide +kernel) (by decide +kernel)
set_option maxRecDepth 20000 in
theorem gX4_shown_X4_isSensor : GoodIn wsX4_shown (va_wsS RX4 53 yX4_isSensor wsX4_isSensor) := goodIn_app (goodIn_of _ (by decide +kernel)) ggX4_shown_X4_isSensor
set_option maxRecDepth 20000 in
theorem ggX4_shown_X4_reading : GoodIn wsX4_shown wsX4_reading := goodIn_r _ [9, 10, 11, 12, 13, 14, 15, 16, 17, 18, 19, 20, 21, 22, 23, 24, 25, 26] (by decide +kernel) (by decide +kernel)
set_option maxRecDepth 20000 in
theorem gX4_shown_X4_reading : GoodIn wsX4_shown (wsV RX4 61 RX4 yX4_reading wsX4_reading) := goodIn_app (goodIn_of _ (by decide +kernel)) ggX4_shown_X4_reading
theorem dX4_shown_0 : decode cX4_shown 0 = .ok (.aload_n 0, 1) := by decide +kernel
theorem dX4_shown_1 : decode cX4_shown 1 = .ok (.iload_n 1, 1) := by decide +kernel
theorem dX4_shown_2 : decode cX4_shown 2 = .ok (.invokestatic 53, 3) := by decide +kernel
theorem dX4_shown_5 : decode cX4_shown 5 = .ok (.ifCond .eq 7, 3) := by decide +kernel
theorem dX4_shown_8 : decode cX4_shown 8 = .ok (.iconst 0, 1) := by decide +kernel
theorem dX4_shown_9 : decode cX4_shown 9 = .ok (.goto 5, 3) := by decide +kernel
theorem dX4_shown_12 : decode cX4_shown 12 = .ok (.bipush (-2), 2) := by decide +kernel
theorem dX4_shown_14 : decode cX4_shown 14 = .ok (.putfield 57, 3) := by decide +kernel
theorem dX4_shown_17 : decode cX4_shown 17 = .ok (.aload_n 0, 1) := by decide +kernel
theorem dX4_shown_18 : decode cX4_shown 18 = .ok (.iload_n 1, 1) := by decide +kernel
theorem dX4_shown_19 : decode cX4_shown 19 = .ok (.invokevirtual 61, 3) := by decide +kernel
theorem dX4_shown_22 : decode cX4_shown 22 = .ok (.ireturn, 1) := by decide +kernel
set_option maxRecDepth 20000 in
theorem ggX4_fill_X4_isTank : GoodIn wsX4_fill wsX4_isTank := goodIn_r _ [6] (by decide +kernel) (by decide +kernel)
set_option maxRecDepth 20000 in
theorem gX4_fill_X4_isTank : GoodIn wsX4_fill (va_wsS RX4 65 yX4_isTank wsX4_isTank) := goodIn_app (goodIn_of _ (by decide +kernel)) ggX4_fill_X4_isTank
set_option maxRecDepth 20000 in
theorem ggX4_fill_X4_isWithin : GoodIn wsX4_fill wsX4_isWithin := goodIn_r _ [9] (by decide +kernel) (by decide +kernel)
set_option maxRecDepth 20000 in
theorem gX4_fill_X4_isWithin : GoodIn wsX4_fill (va_wsS RX4 69 yX4_isWithin wsX4_isWithin) := goodIn_app (goodIn_of _ (by decide +kernel)) ggX4_fill_X4_isWithin
theorem dX4_fill_0 : decode cX4_fill 0 = .ok (.iload_n 1, 1) := by decide +kernel
theorem dX4_fill_1 : decode cX4_fill 1 = .ok (.invokestatic 65, 3) := by decide +kernel
theorem dX4_fill_4 : decode cX4_fill 4 = .ok (.ifCond .ne 6, 3) := by decide +kernel
theorem dX4_fill_7 : decode cX4_fill 7 = .ok (.bipush (-2), 2) := by decide +kernel
theorem dX4_fill_9 : decode cX4_fill 9 = .ok (.ireturn, 1) := by decide +kernel
theorem dX4_fill_10 : decode cX4_fill 10 = .ok (.iload_n 2, 1) := by decide +kernel
theorem dX4_fill_11 : decode cX4_fill 11 = .ok (.iconst 0, 1) := by decide +kernel
theorem dX4_fill_12 : decode cX4_fill 12 = .ok (.ldc 68, 2) := by decide +kernel
theorem dX4_fill_14 : decode cX4_fill 14 = .ok (.invokestatic 69, 3) := by decide +kernel
theorem dX4_fill_17 : decode cX4_fill 17 = .ok (.ifCond .ne 6, 3) := by decide +kernel
theorem dX4_fill_20 : decode cX4_fill 20 = .ok (.bipush (-3), 2) := by decide +kernel
theorem dX4_fill_22 : decode cX4_fill 22 = .ok (.ireturn, 1) := by decide +kernel
theorem dX4_fill_23 : decode cX4_fill 23 = .ok (.aload_n 0, 1) := by decide +kernel
theorem dX4_fill_24 : decode cX4_fill 24 = .ok (.getfield 13, 3) := by decide +kernel
theorem dX4_fill_27 : decode cX4_fill 27 = .ok (.iload_n 1, 1) := by decide +kernel
theorem dX4_fill_28 : decode cX4_fill 28 = .ok (.iaload, 1) := by decide +kernel
theorem dX4_fill_29 : decode cX4_fill 29 = .ok (.istore_n 3, 1) := by decide +kernel
theorem dX4_fill_30 : decode cX4_fill 30 = .ok (.aload_n 0, 1) := by decide +kernel
theorem dX4_fill_31 : decode cX4_fill 31 = .ok (.getfield 13, 3) := by decide +kernel
theorem dX4_fill_34 : decode cX4_fill 34 = .ok (.iload_n 1, 1) := by decide +kernel
theorem dX4_fill_35 : decode cX4_fill 35 = .ok (.iload_n 2, 1) := by decide +kernel
theorem dX4_fill_36 : decode cX4_fill 36 = .ok (.iastore, 1) := by decide +kernel
theorem dX4_fill_37 : decode cX4_fill 37 = .ok (.iload_n 3, 1) := by decide +kernel
theorem dX4_fill_38 : decode cX4_fill 38 = .ok (.ireturn, 1) := by decide +kernel
set_option maxRecDepth 20000 in
theorem ggX4_tank_X4_isTank : GoodIn wsX4_tank wsX4_isTank := goodIn_r _ [5] (by decide +kernel) (by decide +kernel)
set_option maxRecDepth 20000 in
theorem gX4_tank_X4_isTank : GoodIn wsX4_tank (va_wsS RX4 65 yX4_isTank wsX4_isTank) := goodIn_app (goodIn_of _ (by decide +kernel)) ggX4_tank_X4_isTank
theorem dX4_tank_0 : decode cX4_tank 0 = .ok (.iload_n 1, 1) := by decide +kernel
theorem dX4_tank_1 : decode cX4_tank 1 = .ok (.invokestatic 65, 3) := by decide +kernel
theorem dX4_tank_4 : decode cX4_tank 4 = .ok (.ifCond .eq 12, 3) := by decide +kernel
theorem dX4_tank_7 : decode cX4_tank 7 = .ok (.aload_n 0, 1) := by decide +kernel
theorem dX4_tank_8 : decode cX4_tank 8 = .ok (.getfield 13, 3) := by decide +kernel
theorem dX4_tank_11 : decode cX4_tank 11 = .ok (.iload_n 1, 1) := by decide +kernel
theorem dX4_tank_12 : decode cX4_tank 12 = .ok (.iaload, 1) := by decide +kernel
theorem dX4_tank_13 : decode cX4_tank 13 = .ok (.goto 5, 3) := by decide +kernel
theorem dX4_tank_16 : decode cX4_tank 16 = .ok (.bipush (-2), 2) := by decide +kernel
theorem dX4_tank_18 : decode cX4_tank 18 = .ok (.ireturn, 1) := by decide +kernel
set_option maxRecDepth 20000 in
theorem ggX4_rule_X4_isWithin : GoodIn wsX4_rule wsX4_isWithin := goodIn_r _ [9] (by decide +kernel) (by decide +kernel)
set_option maxRecDepth 20000 in
theorem gX4_rule_X4_isWithin : GoodIn wsX4_rule (va_wsS RX4 69 yX4_isWithin wsX4_isWithin) := goodIn_app (goodIn_of _ (by decide +kernel)) ggX4_rule_X4_isWithin
set_option maxRecDepth 20000 in
theorem ggX4_rule_X4_knowsPartsOfRule : GoodIn wsX4_rule wsX4_knowsPartsOfRule := goodIn_r _ [13, 14, 15, 8, 16, 17, 18, 19, 20, 21, 22, 23, 24, 1, 2, 44, 45, 46, 47, 48, 49, 50, 51, 52, 53, 54, 55, 56, 57, 58, 59] (by decide +kernel) (by decide +kernel)
set_option maxRecDepth 20000 in
theorem gX4_rule_X4_knowsPartsOfRule : GoodIn wsX4_rule (wsV RX4 73 RX4 yX4_knowsPartsOfRule wsX4_knowsPartsOfRule) := goodIn_app (goodIn_of _ (by decide +kernel)) ggX4_rule_X4_knowsPartsOfRule
set_option maxRecDepth 20000 in
theorem ggX4_rule_X4_hasNumbersOfRule : GoodIn wsX4_rule wsX4_hasNumbersOfRule := goodIn_r _ [27, 6, 7, 8, 9] (by decide +kernel) (by decide +kernel)
set_option maxRecDepth 20000 in
theorem gX4_rule_X4_hasNumbersOfRule : GoodIn wsX4_rule (va_wsS RX4 76 yX4_hasNumbersOfRule wsX4_hasNumbersOfRule) := goodIn_app (goodIn_of _ (by decide +kernel)) ggX4_rule_X4_hasNumbersOfRule
set_option maxRecDepth 20000 in
theorem ggX4_rule_X4_reading : GoodIn wsX4_rule wsX4_reading := goodIn_r _ [31, 32, 44, 45, 46, 47, 48, 49, 50, 51, 52, 53, 54, 55, 56, 57, 58, 59] (by decide +kernel) (by decide +kernel)
set_option maxRecDepth 20000 in
theorem gX4_rule_X4_reading : GoodIn wsX4_rule (wsV RX4 61 RX4 yX4_reading wsX4_reading) := goodIn_app (goodIn_of _ (by decide +kernel)) ggX4_rule_X4_reading
set_option maxRecDepth 20000 in
theorem ggX4_rule_X2_init : GoodIn wsX4_rule wsX2_init := goodIn_r _ [35, 36, 37, 38, 39, 40, 41, 42, 43, 60, 61, 62, 63, 64, 65] (by decide +kernel) (by decide +kernel)
set_option maxRecDepth 20000 in
theorem gX4_rule_X2_init : GoodIn wsX4_rule (wsX2_init) := ggX4_rule_X2_init
theorem dX4_rule_0 : decode cX4_rule 0 = .ok (.iload_n 1, 1) := by decide +kernel
theorem dX4_rule_1 : decode cX4_rule 1 = .ok (.iconst 0, 1) := by decide +kernel
theorem dX4_rule_2 : decode cX4_rule 2 = .ok (.bipush 9, 2) := by decide +kernel
theorem dX4_rule_4 : decode cX4_rule 4 = .ok (.invokestatic 69, 3) := by decide +kernel
theorem dX4_rule_7 : decode cX4_rule 7 = .ok (.ifCond .ne 6, 3) := by decide +kernel
theorem dX4_rule_10 : decode cX4_rule 10 = .ok (.bipush (-3), 2) := by decide +kernel
theorem dX4_rule_12 : decode cX4_rule 12 = .ok (.ireturn, 1) := by decide +kernel
theorem dX4_rule_13 : decode cX4_rule 13 = .ok (.aload_n 0, 1) := by decide +kernel
theorem dX4_rule_14 : decode cX4_rule 14 = .ok (.iload_n 1, 1) := by decide +kernel
theorem dX4_rule_15 : decode cX4_rule 15 = .ok (.iload_n 2, 1) := by decide +kernel
theorem dX4_rule_16 : decode cX4_rule 16 = .ok (.iload_n 3, 1) := by decide +kernel
theorem dX4_rule_17 : decode cX4_rule 17 = .ok (.invokevirtual 73, 3) := by decide +kernel
theorem dX4_rule_20 : decode cX4_rule 20 = .ok (.ifCond .ne 6, 3) := by decide +kernel
theorem dX4_rule_23 : decode cX4_rule 23 = .ok (.bipush (-2), 2) := by decide +kernel
theorem dX4_rule_25 : decode cX4_rule 25 = .ok (.ireturn, 1) := by decide +kernel
theorem dX4_rule_26 : decode cX4_rule 26 = .ok (.iload_n 1, 1) := by decide +kernel
theorem dX4_rule_27 : decode cX4_rule 27 = .ok (.iload_n 3, 1) := by decide +kernel
theorem dX4_rule_28 : decode cX4_rule 28 = .ok (.iload 4, 2) := by decide +kernel
theorem dX4_rule_30 : decode cX4_rule 30 = .ok (.invokestatic 76, 3) := by decide +kernel
theorem dX4_rule_33 : decode cX4_rule 33 = .ok (.ifCond .ne 6, 3) := by decide +kernel
theorem dX4_rule_36 : decode cX4_rule 36 = .ok (.bipush (-3), 2) := by decide +kernel
theorem dX4_rule_38 : decode cX4_rule 38 = .ok (.ireturn, 1) := by decide +kernel
theorem dX4_rule_39 : decode cX4_rule 39 = .ok (.aload_n 0, 1) := by decide +kernel
theorem dX4_rule_40 : decode cX4_rule 40 = .ok (.getfield 79, 3) := by decide +kernel
theorem dX4_rule_43 : decode cX4_rule 43 = .ok (.bipush 40, 2) := by decide +kernel
theorem dX4_rule_45 : decode cX4_rule 45 = .ok (.if_icmp .lt 6, 3) := by decide +kernel
theorem dX4_rule_48 : decode cX4_rule 48 = .ok (.bipush (-4), 2) := by decide +kernel
theorem dX4_rule_50 : decode cX4_rule 50 = .ok (.ireturn, 1) := by decide +kernel
theorem dX4_rule_51 : decode cX4_rule 51 = .ok (.aload_n 0, 1) := by decide +kernel
theorem dX4_rule_52 : decode cX4_rule 52 = .ok (.getfield 23, 3) := by decide +kernel
theorem dX4_rule_55 : decode cX4_rule 55 = .ok (.aload_n 0, 1) := by decide +kernel
theorem dX4_rule_56 : decode cX4_rule 56 = .ok (.getfield 79, 3) := by decide +kernel
theorem dX4_rule_59 : decode cX4_rule 59 = .ok (.new 21, 3) := by decide +kernel
theorem dX4_rule_62 : decode cX4_rule 62 = .ok (.dup, 1) := by decide +kernel
theorem dX4_rule_63 : decode cX4_rule 63 = .ok (.iload_n 1, 1) := by decide +kernel
theorem dX4_rule_64 : decode cX4_rule 64 = .ok (.iload_n 2, 1) := by decide +kernel
theorem dX4_rule_65 : decode cX4_rule 65 = .ok (.iload_n 3, 1) := by decide +kernel
theorem dX4_rule_66 : decode cX4_rule 66 = .ok (.iload 4, 2) := by decide +kernel
theorem dX4_rule_68 : decode cX4_rule 68 = .ok (.aload_n 0, 1) := by decide +kernel
theorem dX4_rule_69 : decode cX4_rule 69 = .ok (.iload_n 2, 1) := by decide +kernel
theorem dX4_rule_70 : decode cX4_rule 70 = .ok (.invokevirtual 61, 3) := by decide +kernel
theorem dX4_rule_73 : decode cX4_rule 73 = .ok (.invokespecial 82, 3) := by decide +kernel
theorem dX4_rule_76 : decode cX4_rule 76 = .ok (.aastore, 1) := by decide +kernel
theorem dX4_rule_77 : decode cX4_rule 77 = .ok (.aload_n 0, 1) := by decide +kernel
theorem dX4_rule_78 : decode cX4_rule 78 = .ok (.dup, 1) := by decide +kernel
theorem dX4_rule_79 : decode cX4_rule 79 = .ok (.getfield 79, 3) := by decide +kernel
theorem dX4_rule_82 : decode cX4_rule 82 = .ok (.dup_x1, 1) := by decide +kernel
theorem dX4_rule_83 : decode cX4_rule 83 = .ok (.iconst 1, 1) := by decide +kernel
theorem dX4_rule_84 : decode cX4_rule 84 = .ok (.iadd, 1) := by decide +kernel
theorem dX4_rule_85 : decode cX4_rule 85 = .ok (.putfield 79, 3) := by decide +kernel
theorem dX4_rule_88 : decode cX4_rule 88 = .ok (.ireturn, 1) := by decide +kernel
set_option maxRecDepth 20000 in
theorem ggX4_ask_X4_ruleAt : GoodIn wsX4_ask wsX4_ruleAt := goodIn_r _ [9, 10, 11, 70, 71, 72, 73, 74, 75, 76, 77, 78, 79, 80, 81, 82, 83, 84, 85] (by decide +kernel) (by decide +kernel)
set_option maxRecDepth 20000 in
theorem gX4_ask_X4_ruleAt : GoodIn wsX4_ask (wsV RX4 85 RX4 yX4_ruleAt wsX4_ruleAt) := goodIn_app (goodIn_of _ (by decide +kernel)) ggX4_ask_X4_ruleAt
set_option maxRecDepth 20000 in
theorem ggX4_ask_X4_startWork : GoodIn wsX4_ask wsX4_startWork := goodIn_r _ [15, 2, 4, 70, 71, 72, 73, 74, 75, 76, 77, 78, 79, 80, 81, 82, 83, 84, 85] (by decide +kernel) (by decide +kernel)
set_option maxRecDepth 20000 in
theorem gX4_ask_X4_startWork : GoodIn wsX4_ask (wsV RX4 92 RX4 yX4_startWork wsX4_startWork) := goodIn_app (goodIn_of _ (by decide +kernel)) ggX4_ask_X4_startWork
set_option maxRecDepth 20000 in
theorem ggX4_ask_X4_says : GoodIn wsX4_ask wsX4_says := goodIn_r _ [19, 4, 20, 21, 22, 23, 24, 25, 26, 27, 28, 29, 30, 31, 8, 32, 2, 1, 5, 6, 7, 9, 10, 11, 33, 34, 35, 36, 37, 38, 39, 40, 41, 42, 43, 44, 45, 46, 47, 48, 16, 17, 18, 49, 50, 51, 52, 53, 54, 55, 56, 57, 58, 59, 60, 61, 62, 63, 64, 65, 66, 67, 68, 69, 70, 71, 72, 73, 74, 75, 76, 77, 78, 79, 80, 81, 82, 83, 84, 85, 86, 87, 88, 89, 90, 91] (by decide +kernel) (by decide +kernel)
set_option maxRecDepth 20000 in
theorem gX4_ask_X4_says : GoodIn wsX4_ask (wsV RX4 95 RX4 yX4_says wsX4_says) := goodIn_app (goodIn_of _ (by decide +kernel)) ggX4_ask_X4_says
theorem dX4_ask_0 : decode cX4_ask 0 = .ok (.aload_n 0, 1) := by decide +kernel
theorem dX4_ask_1 : decode cX4_ask 1 = .ok (.iload_n 1, 1) := by decide +kernel
theorem dX4_ask_2 : decode cX4_ask 2 = .ok (.invokevirtual 85, 3) := by decide +kernel
theorem dX4_ask_5 : decode cX4_ask 5 = .ok (.ifnonnull 6, 3) := by decide +kernel
theorem dX4_ask_8 : decode cX4_ask 8 = .ok (.bipush (-2), 2) := by decide +kernel
theorem dX4_ask_10 : decode cX4_ask 10 = .ok (.ireturn, 1) := by decide +kernel
theorem dX4_ask_11 : decode cX4_ask 11 = .ok (.aload_n 0, 1) := by decide +kernel
theorem dX4_ask_12 : decode cX4_ask 12 = .ok (.getfield 89, 3) := by decide +kernel
theorem dX4_ask_15 : decode cX4_ask 15 = .ok (.sipush 20000, 3) := by decide +kernel
theorem dX4_ask_18 : decode cX4_ask 18 = .ok (.if_icmp .lt 6, 3) := by decide +kernel
theorem dX4_ask_21 : decode cX4_ask 21 = .ok (.bipush (-4), 2) := by decide +kernel
theorem dX4_ask_23 : decode cX4_ask 23 = .ok (.ireturn, 1) := by decide +kernel
theorem dX4_ask_24 : decode cX4_ask 24 = .ok (.aload_n 0, 1) := by decide +kernel
theorem dX4_ask_25 : decode cX4_ask 25 = .ok (.invokevirtual 92, 3) := by decide +kernel
theorem dX4_ask_28 : decode cX4_ask 28 = .ok (.aload_n 0, 1) := by decide +kernel
theorem dX4_ask_29 : decode cX4_ask 29 = .ok (.iload_n 1, 1) := by decide +kernel
theorem dX4_ask_30 : decode cX4_ask 30 = .ok (.iconst 0, 1) := by decide +kernel
theorem dX4_ask_31 : decode cX4_ask 31 = .ok (.invokevirtual 95, 3) := by decide +kernel
theorem dX4_ask_34 : decode cX4_ask 34 = .ok (.istore_n 2, 1) := by decide +kernel
theorem dX4_ask_35 : decode cX4_ask 35 = .ok (.aload_n 0, 1) := by decide +kernel
theorem dX4_ask_36 : decode cX4_ask 36 = .ok (.aload_n 0, 1) := by decide +kernel
theorem dX4_ask_37 : decode cX4_ask 37 = .ok (.getfield 99, 3) := by decide +kernel
theorem dX4_ask_40 : decode cX4_ask 40 = .ok (.putfield 102, 3) := by decide +kernel
theorem dX4_ask_43 : decode cX4_ask 43 = .ok (.aload_n 0, 1) := by decide +kernel
theorem dX4_ask_44 : decode cX4_ask 44 = .ok (.getfield 105, 3) := by decide +kernel
theorem dX4_ask_47 : decode cX4_ask 47 = .ok (.ifCond .eq 11, 3) := by decide +kernel
theorem dX4_ask_50 : decode cX4_ask 50 = .ok (.bipush (-10), 2) := by decide +kernel
theorem dX4_ask_52 : decode cX4_ask 52 = .ok (.aload_n 0, 1) := by decide +kernel
theorem dX4_ask_53 : decode cX4_ask 53 = .ok (.getfield 105, 3) := by decide +kernel
theorem dX4_ask_56 : decode cX4_ask 56 = .ok (.isub, 1) := by decide +kernel
theorem dX4_ask_57 : decode cX4_ask 57 = .ok (.ireturn, 1) := by decide +kernel
theorem dX4_ask_58 : decode cX4_ask 58 = .ok (.iload_n 2, 1) := by decide +kernel
theorem dX4_ask_59 : decode cX4_ask 59 = .ok (.ifCond .eq 7, 3) := by decide +kernel
theorem dX4_ask_62 : decode cX4_ask 62 = .ok (.iconst 1, 1) := by decide +kernel
theorem dX4_ask_63 : decode cX4_ask 63 = .ok (.goto 4, 3) := by decide +kernel
theorem dX4_ask_66 : decode cX4_ask 66 = .ok (.iconst 0, 1) := by decide +kernel
theorem dX4_ask_67 : decode cX4_ask 67 = .ok (.ireturn, 1) := by decide +kernel
set_option maxRecDepth 20000 in
theorem ggX4_act_X4_isWithin : GoodIn wsX4_act wsX4_isWithin := goodIn_r _ [9] (by decide +kernel) (by decide +kernel)
set_option maxRecDepth 20000 in
theorem gX4_act_X4_isWithin : GoodIn wsX4_act (va_wsS RX4 69 yX4_isWithin wsX4_isWithin) := goodIn_app (goodIn_of _ (by decide +kernel)) ggX4_act_X4_isWithin
set_option maxRecDepth 20000 in
theorem ggX4_act_X4_knowsPartsOfAct : GoodIn wsX4_act wsX4_knowsPartsOfAct := goodIn_r _ [13, 14, 15, 8, 16, 17, 18, 19, 20, 21, 22, 23, 24, 25, 26, 27, 28, 29, 30, 31, 32, 33, 34, 35, 36, 37, 38, 1, 2, 39, 40, 41, 55, 56, 57, 58, 59, 60, 61, 62, 63, 64, 65, 66, 67, 68, 69, 70] (by decide +kernel) (by decide +kernel)
set_option maxRecDepth 20000 in
theorem gX4_act_X4_knowsPartsOfAct : GoodIn wsX4_act (wsV RX4 108 RX4 yX4_knowsPartsOfAct wsX4_knowsPartsOfAct) := goodIn_app (goodIn_of _ (by decide +kernel)) ggX4_act_X4_knowsPartsOfAct
set_option maxRecDepth 20000 in
theorem ggX4_act_X4_hasNumbersOfAct : GoodIn wsX4_act wsX4_hasNumbersOfAct := goodIn_r _ [44, 6, 7, 8, 9] (by decide +kernel) (by decide +kernel)
set_option maxRecDepth 20000 in
theorem gX4_act_X4_hasNumbersOfAct : GoodIn wsX4_act (va_wsS RX4 112 yX4_hasNumbersOfAct wsX4_hasNumbersOfAct) := goodIn_app (goodIn_of _ (by decide +kernel)) ggX4_act_X4_hasNumbersOfAct
set_option maxRecDepth 20000 in
theorem ggX4_act_X0_init : GoodIn wsX4_act wsX0_init := goodIn_r _ [47, 48, 49, 50, 51, 52, 53, 54, 71, 72, 73, 74] (by decide +kernel) (by decide +kernel)
set_option maxRecDepth 20000 in
theorem gX4_act_X0_init : GoodIn wsX4_act (wsX0_init) := ggX4_act_X0_init
theorem dX4_act_0 : decode cX4_act 0 = .ok (.iload_n 1, 1) := by decide +kernel
theorem dX4_act_1 : decode cX4_act 1 = .ok (.iconst 0, 1) := by decide +kernel
theorem dX4_act_2 : decode cX4_act 2 = .ok (.bipush 8, 2) := by decide +kernel
theorem dX4_act_4 : decode cX4_act 4 = .ok (.invokestatic 69, 3) := by decide +kernel
theorem dX4_act_7 : decode cX4_act 7 = .ok (.ifCond .ne 6, 3) := by decide +kernel
theorem dX4_act_10 : decode cX4_act 10 = .ok (.bipush (-3), 2) := by decide +kernel
theorem dX4_act_12 : decode cX4_act 12 = .ok (.ireturn, 1) := by decide +kernel
theorem dX4_act_13 : decode cX4_act 13 = .ok (.aload_n 0, 1) := by decide +kernel
theorem dX4_act_14 : decode cX4_act 14 = .ok (.iload_n 1, 1) := by decide +kernel
theorem dX4_act_15 : decode cX4_act 15 = .ok (.iload_n 2, 1) := by decide +kernel
theorem dX4_act_16 : decode cX4_act 16 = .ok (.iload_n 3, 1) := by decide +kernel
theorem dX4_act_17 : decode cX4_act 17 = .ok (.iload 4, 2) := by decide +kernel
theorem dX4_act_19 : decode cX4_act 19 = .ok (.invokevirtual 108, 3) := by decide +kernel
theorem dX4_act_22 : decode cX4_act 22 = .ok (.ifCond .ne 6, 3) := by decide +kernel
theorem dX4_act_25 : decode cX4_act 25 = .ok (.bipush (-2), 2) := by decide +kernel
theorem dX4_act_27 : decode cX4_act 27 = .ok (.ireturn, 1) := by decide +kernel
theorem dX4_act_28 : decode cX4_act 28 = .ok (.iload_n 1, 1) := by decide +kernel
theorem dX4_act_29 : decode cX4_act 29 = .ok (.iload_n 3, 1) := by decide +kernel
theorem dX4_act_30 : decode cX4_act 30 = .ok (.iload 4, 2) := by decide +kernel
theorem dX4_act_32 : decode cX4_act 32 = .ok (.invokestatic 112, 3) := by decide +kernel
theorem dX4_act_35 : decode cX4_act 35 = .ok (.ifCond .ne 6, 3) := by decide +kernel
theorem dX4_act_38 : decode cX4_act 38 = .ok (.bipush (-3), 2) := by decide +kernel
theorem dX4_act_40 : decode cX4_act 40 = .ok (.ireturn, 1) := by decide +kernel
theorem dX4_act_41 : decode cX4_act 41 = .ok (.aload_n 0, 1) := by decide +kernel
theorem dX4_act_42 : decode cX4_act 42 = .ok (.getfield 115, 3) := by decide +kernel
theorem dX4_act_45 : decode cX4_act 45 = .ok (.bipush 40, 2) := by decide +kernel
theorem dX4_act_47 : decode cX4_act 47 = .ok (.if_icmp .lt 6, 3) := by decide +kernel
theorem dX4_act_50 : decode cX4_act 50 = .ok (.bipush (-4), 2) := by decide +kernel
theorem dX4_act_52 : decode cX4_act 52 = .ok (.ireturn, 1) := by decide +kernel
theorem dX4_act_53 : decode cX4_act 53 = .ok (.iload_n 1, 1) := by decide +kernel
theorem dX4_act_54 : decode cX4_act 54 = .ok (.bipush 7, 2) := by decide +kernel
theorem dX4_act_56 : decode cX4_act 56 = .ok (.if_icmp .ne 12, 3) := by decide +kernel
theorem dX4_act_59 : decode cX4_act 59 = .ok (.aload_n 0, 1) := by decide +kernel
theorem dX4_act_60 : decode cX4_act 60 = .ok (.getfield 115, 3) := by decide +kernel
theorem dX4_act_63 : decode cX4_act 63 = .ok (.iconst 1, 1) := by decide +kernel
theorem dX4_act_64 : decode cX4_act 64 = .ok (.isub, 1) := by decide +kernel
theorem dX4_act_65 : decode cX4_act 65 = .ok (.goto 4, 3) := by decide +kernel
theorem dX4_act_68 : decode cX4_act 68 = .ok (.iload_n 2, 1) := by decide +kernel
theorem dX4_act_69 : decode cX4_act 69 = .ok (.istore 5, 2) := by decide +kernel
theorem dX4_act_71 : decode cX4_act 71 = .ok (.aload_n 0, 1) := by decide +kernel
theorem dX4_act_72 : decode cX4_act 72 = .ok (.getfield 29, 3) := by decide +kernel
theorem dX4_act_75 : decode cX4_act 75 = .ok (.aload_n 0, 1) := by decide +kernel
theorem dX4_act_76 : decode cX4_act 76 = .ok (.getfield 115, 3) := by decide +kernel
theorem dX4_act_79 : decode cX4_act 79 = .ok (.new 27, 3) := by decide +kernel
theorem dX4_act_82 : decode cX4_act 82 = .ok (.dup, 1) := by decide +kernel
theorem dX4_act_83 : decode cX4_act 83 = .ok (.iload_n 1, 1) := by decide +kernel
theorem dX4_act_84 : decode cX4_act 84 = .ok (.iload 5, 2) := by decide +kernel
theorem dX4_act_86 : decode cX4_act 86 = .ok (.iload_n 3, 1) := by decide +kernel
theorem dX4_act_87 : decode cX4_act 87 = .ok (.iload 4, 2) := by decide +kernel
theorem dX4_act_89 : decode cX4_act 89 = .ok (.invokespecial 118, 3) := by decide +kernel
theorem dX4_act_92 : decode cX4_act 92 = .ok (.aastore, 1) := by decide +kernel
theorem dX4_act_93 : decode cX4_act 93 = .ok (.aload_n 0, 1) := by decide +kernel
theorem dX4_act_94 : decode cX4_act 94 = .ok (.dup, 1) := by decide +kernel
theorem dX4_act_95 : decode cX4_act 95 = .ok (.getfield 115, 3) := by decide +kernel
theorem dX4_act_98 : decode cX4_act 98 = .ok (.dup_x1, 1) := by decide +kernel
theorem dX4_act_99 : decode cX4_act 99 = .ok (.iconst 1, 1) := by decide +kernel
theorem dX4_act_100 : decode cX4_act 100 = .ok (.iadd, 1) := by decide +kernel
theorem dX4_act_101 : decode cX4_act 101 = .ok (.putfield 115, 3) := by decide +kernel
theorem dX4_act_104 : decode cX4_act 104 = .ok (.ireturn, 1) := by decide +kernel
set_option maxRecDepth 20000 in
theorem ggX4_run_X4_actAt : GoodIn wsX4_run wsX4_actAt := goodIn_r _ [10, 11, 12, 143, 144, 145, 146, 147, 148, 149, 150, 151, 152, 153, 154, 155, 156, 157, 158] (by decide +kernel) (by decide +kernel)
set_option maxRecDepth 20000 in
theorem gX4_run_X4_actAt : GoodIn wsX4_run (wsV RX4 121 RX4 yX4_actAt wsX4_actAt) := goodIn_app (goodIn_of _ (by decide +kernel)) ggX4_run_X4_actAt
set_option maxRecDepth 20000 in
theorem ggX4_run_X4_startWork : GoodIn wsX4_run wsX4_startWork := goodIn_r _ [16, 2, 4, 143, 144, 145, 146, 147, 148, 149, 150, 151, 152, 153, 154, 155, 156, 157, 158] (by decide +kernel) (by decide +kernel)
set_option maxRecDepth 20000 in
theorem gX4_run_X4_startWork : GoodIn wsX4_run (wsV RX4 92 RX4 yX4_startWork wsX4_startWork) := goodIn_app (goodIn_of _ (by decide +kernel)) ggX4_run_X4_startWork
set_option maxRecDepth 20000 in
theorem ggX4_run_X4_does : GoodIn wsX4_run wsX4_does := goodIn_r _ [20, 4, 21, 22, 23, 24, 25, 9, 26, 2, 1, 6, 7, 8, 10, 11, 12, 27, 28, 29, 30, 31, 32, 33, 34, 35, 36, 37, 38, 39, 40, 41, 42, 43, 44, 45, 46, 47, 48, 49, 50, 51, 52, 53, 54, 55, 56, 57, 58, 59, 60, 61, 62, 63, 64, 65, 66, 67, 68, 69, 70, 17, 18, 19, 71, 72, 73, 74, 75, 76, 77, 78, 79, 80, 81, 82, 83, 84, 85, 86, 87, 88, 89, 90, 91, 92, 93, 94, 95, 96, 97, 98, 99, 100, 101, 102, 103, 104, 105, 106, 107, 108, 109, 110, 111, 112, 113, 114, 115, 116, 117, 118, 119, 120, 121, 122, 123, 124, 125, 126, 127, 128, 129, 130, 131, 132, 133, 134, 135, 136, 137, 138, 139, 140, 141, 142, 143, 144, 145, 146, 147, 148, 149, 150, 151, 152, 153, 154, 155, 156, 157, 158, 159, 160, 161, 162, 163, 164, 165, 166, 167, 168, 169, 170, 171] (by decide +kernel) (by decide +kernel)
set_option maxRecDepth 20000 in
theorem gX4_run_X4_does : GoodIn wsX4_run (wsV RX4 125 RX4 yX4_does wsX4_does) := goodIn_app (goodIn_of _ (by decide +kernel)) ggX4_run_X4_does
