theorem dX4_run_0 : decode cX4_run 0 = .ok (.aload_n 0, 1) := by decide +kernel
theorem dX4_run_1 : decode cX4_run 1 = .ok (.iload_n 1, 1) := by decide +kernel
theorem dX4_run_2 : decode cX4_run 2 = .ok (.invokevirtual 121, 3) := by decide +kernel
theorem dX4_run_5 : decode cX4_run 5 = .ok (.ifnonnull 6, 3) := by decide +kernel
theorem dX4_run_8 : decode cX4_run 8 = .ok (.bipush (-2), 2) := by decide +kernel
theorem dX4_run_10 : decode cX4_run 10 = .ok (.ireturn, 1) := by decide +kernel
theorem dX4_run_11 : decode cX4_run 11 = .ok (.aload_n 0, 1) := by decide +kernel
theorem dX4_run_12 : decode cX4_run 12 = .ok (.getfield 89, 3) := by decide +kernel
theorem dX4_run_15 : decode cX4_run 15 = .ok (.sipush 20000, 3) := by decide +kernel
theorem dX4_run_18 : decode cX4_run 18 = .ok (.if_icmp .lt 6, 3) := by decide +kernel
theorem dX4_run_21 : decode cX4_run 21 = .ok (.bipush (-4), 2) := by decide +kernel
theorem dX4_run_23 : decode cX4_run 23 = .ok (.ireturn, 1) := by decide +kernel
theorem dX4_run_24 : decode cX4_run 24 = .ok (.aload_n 0, 1) := by decide +kernel
theorem dX4_run_25 : decode cX4_run 25 = .ok (.invokevirtual 92, 3) := by decide +kernel
theorem dX4_run_28 : decode cX4_run 28 = .ok (.aload_n 0, 1) := by decide +kernel
theorem dX4_run_29 : decode cX4_run 29 = .ok (.iload_n 1, 1) := by decide +kernel
theorem dX4_run_30 : decode cX4_run 30 = .ok (.iconst 0, 1) := by decide +kernel
theorem dX4_run_31 : decode cX4_run 31 = .ok (.invokevirtual 125, 3) := by decide +kernel
theorem dX4_run_34 : decode cX4_run 34 = .ok (.istore_n 2, 1) := by decide +kernel
theorem dX4_run_35 : decode cX4_run 35 = .ok (.aload_n 0, 1) := by decide +kernel
theorem dX4_run_36 : decode cX4_run 36 = .ok (.aload_n 0, 1) := by decide +kernel
theorem dX4_run_37 : decode cX4_run 37 = .ok (.getfield 99, 3) := by decide +kernel
theorem dX4_run_40 : decode cX4_run 40 = .ok (.putfield 102, 3) := by decide +kernel
theorem dX4_run_43 : decode cX4_run 43 = .ok (.aload_n 0, 1) := by decide +kernel
theorem dX4_run_44 : decode cX4_run 44 = .ok (.aload_n 0, 1) := by decide +kernel
theorem dX4_run_45 : decode cX4_run 45 = .ok (.getfield 105, 3) := by decide +kernel
theorem dX4_run_48 : decode cX4_run 48 = .ok (.ifCond .ne 7, 3) := by decide +kernel
theorem dX4_run_51 : decode cX4_run 51 = .ok (.iload_n 2, 1) := by decide +kernel
theorem dX4_run_52 : decode cX4_run 52 = .ok (.goto 4, 3) := by decide +kernel
theorem dX4_run_55 : decode cX4_run 55 = .ok (.iconst 0, 1) := by decide +kernel
theorem dX4_run_56 : decode cX4_run 56 = .ok (.putfield 129, 3) := by decide +kernel
theorem dX4_run_59 : decode cX4_run 59 = .ok (.aload_n 0, 1) := by decide +kernel
theorem dX4_run_60 : decode cX4_run 60 = .ok (.getfield 105, 3) := by decide +kernel
theorem dX4_run_63 : decode cX4_run 63 = .ok (.ifCond .ne 7, 3) := by decide +kernel
theorem dX4_run_66 : decode cX4_run 66 = .ok (.iconst 1, 1) := by decide +kernel
theorem dX4_run_67 : decode cX4_run 67 = .ok (.goto 10, 3) := by decide +kernel
theorem dX4_run_70 : decode cX4_run 70 = .ok (.bipush (-10), 2) := by decide +kernel
theorem dX4_run_72 : decode cX4_run 72 = .ok (.aload_n 0, 1) := by decide +kernel
theorem dX4_run_73 : decode cX4_run 73 = .ok (.getfield 105, 3) := by decide +kernel
theorem dX4_run_76 : decode cX4_run 76 = .ok (.isub, 1) := by decide +kernel
theorem dX4_run_77 : decode cX4_run 77 = .ok (.ireturn, 1) := by decide +kernel
theorem dX4_amount_0 : decode cX4_amount 0 = .ok (.aload_n 0, 1) := by decide +kernel
theorem dX4_amount_1 : decode cX4_amount 1 = .ok (.getfield 129, 3) := by decide +kernel
theorem dX4_amount_4 : decode cX4_amount 4 = .ok (.ireturn, 1) := by decide +kernel
set_option maxRecDepth 20000 in
theorem ggX4_tick_X4_isWithin : GoodIn wsX4_tick wsX4_isWithin := goodIn_r _ [5] (by decide +kernel) (by decide +kernel)
set_option maxRecDepth 20000 in
theorem gX4_tick_X4_isWithin : GoodIn wsX4_tick (va_wsS RX4 69 yX4_isWithin wsX4_isWithin) := goodIn_app (goodIn_of _ (by decide +kernel)) ggX4_tick_X4_isWithin
set_option maxRecDepth 20000 in
theorem ggX4_tick_X4_doThoseDue : GoodIn wsX4_tick wsX4_doThoseDue := goodIn_r _ [9, 10, 11, 1, 12, 13, 14, 15, 16, 17, 18, 19, 20, 21, 22, 23, 24, 25, 26, 4, 27, 28, 29, 30, 31, 32, 33, 34, 35, 36, 37, 38, 39, 40, 41, 42, 43, 44, 45, 46, 47, 48, 49, 50, 51, 52, 53, 54, 55, 56, 57, 58, 59, 60, 61, 62, 63, 64, 65, 66, 67, 68, 69, 70, 71, 72, 73, 74, 75, 76, 77, 78, 79, 80, 81, 82, 83, 84, 85, 86, 87, 88, 89, 90, 91, 92, 93, 94, 95, 96, 97, 98, 99, 100, 101, 102, 103, 104, 2, 3, 5, 105, 106, 107, 108, 109, 110, 111, 112, 113, 114, 115, 116, 117, 118, 119, 120, 121, 122, 123, 124, 125, 126, 127, 128, 129, 130, 131, 132, 133, 134, 135, 136, 137, 138, 139, 140, 141, 142, 143, 144, 145, 146, 147, 148, 149, 150, 151, 152, 153, 154, 155, 156, 157, 158, 159, 160, 161, 162, 163, 164, 165, 166, 167, 168, 169, 170, 171, 172, 173, 174, 175, 176, 177, 178, 179, 180, 181, 182, 183, 184, 185, 186, 187, 188, 189, 190, 191, 192, 193, 194, 195, 196, 197, 198, 199] (by decide +kernel) (by decide +kernel)
set_option maxRecDepth 20000 in
theorem gX4_tick_X4_doThoseDue : GoodIn wsX4_tick (wsV RX4 135 RX4 yX4_doThoseDue wsX4_doThoseDue) := goodIn_app (goodIn_of _ (by decide +kernel)) ggX4_tick_X4_doThoseDue
theorem dX4_tick_0 : decode cX4_tick 0 = .ok (.iload_n 1, 1) := by decide +kernel
theorem dX4_tick_1 : decode cX4_tick 1 = .ok (.iconst 1, 1) := by decide +kernel
theorem dX4_tick_2 : decode cX4_tick 2 = .ok (.bipush 50, 2) := by decide +kernel
theorem dX4_tick_4 : decode cX4_tick 4 = .ok (.invokestatic 69, 3) := by decide +kernel
theorem dX4_tick_7 : decode cX4_tick 7 = .ok (.ifCond .ne 6, 3) := by decide +kernel
theorem dX4_tick_10 : decode cX4_tick 10 = .ok (.bipush (-3), 2) := by decide +kernel
theorem dX4_tick_12 : decode cX4_tick 12 = .ok (.ireturn, 1) := by decide +kernel
theorem dX4_tick_13 : decode cX4_tick 13 = .ok (.iconst 0, 1) := by decide +kernel
theorem dX4_tick_14 : decode cX4_tick 14 = .ok (.istore_n 2, 1) := by decide +kernel
theorem dX4_tick_15 : decode cX4_tick 15 = .ok (.iconst 0, 1) := by decide +kernel
theorem dX4_tick_16 : decode cX4_tick 16 = .ok (.istore_n 3, 1) := by decide +kernel
theorem dX4_tick_17 : decode cX4_tick 17 = .ok (.iload_n 3, 1) := by decide +kernel
theorem dX4_tick_18 : decode cX4_tick 18 = .ok (.iload_n 1, 1) := by decide +kernel
theorem dX4_tick_19 : decode cX4_tick 19 = .ok (.if_icmp .ge 26, 3) := by decide +kernel
theorem dX4_tick_22 : decode cX4_tick 22 = .ok (.aload_n 0, 1) := by decide +kernel
theorem dX4_tick_23 : decode cX4_tick 23 = .ok (.dup, 1) := by decide +kernel
theorem dX4_tick_24 : decode cX4_tick 24 = .ok (.getfield 132, 3) := by decide +kernel
theorem dX4_tick_27 : decode cX4_tick 27 = .ok (.iconst 1, 1) := by decide +kernel
theorem dX4_tick_28 : decode cX4_tick 28 = .ok (.iadd, 1) := by decide +kernel
theorem dX4_tick_29 : decode cX4_tick 29 = .ok (.putfield 132, 3) := by decide +kernel
theorem dX4_tick_32 : decode cX4_tick 32 = .ok (.iload_n 2, 1) := by decide +kernel
theorem dX4_tick_33 : decode cX4_tick 33 = .ok (.aload_n 0, 1) := by decide +kernel
theorem dX4_tick_34 : decode cX4_tick 34 = .ok (.invokevirtual 135, 3) := by decide +kernel
theorem dX4_tick_37 : decode cX4_tick 37 = .ok (.iadd, 1) := by decide +kernel
theorem dX4_tick_38 : decode cX4_tick 38 = .ok (.istore_n 2, 1) := by decide +kernel
theorem dX4_tick_39 : decode cX4_tick 39 = .ok (.iinc 3 1, 3) := by decide +kernel
theorem dX4_tick_42 : decode cX4_tick 42 = .ok (.goto (-25), 3) := by decide +kernel
theorem dX4_tick_45 : decode cX4_tick 45 = .ok (.iload_n 2, 1) := by decide +kernel
theorem dX4_tick_46 : decode cX4_tick 46 = .ok (.ireturn, 1) := by decide +kernel
set_option maxRecDepth 20000 in
theorem ggX4_failed_X1_actAt : GoodIn wsX4_failed wsX1_actAt := goodIn_r _ [6, 7, 8, 9, 10, 5, 11, 12, 39, 40, 41, 42] (by decide +kernel) (by decide +kernel)
set_option maxRecDepth 20000 in
theorem gX4_failed_X1_actAt : GoodIn wsX4_failed (wsV RX4 139 RX1 yX1_actAt wsX1_actAt) := goodIn_app (goodIn_of _ (by decide +kernel)) ggX4_failed_X1_actAt
set_option maxRecDepth 20000 in
theorem ggX4_failed_X1_failureAt : GoodIn wsX4_failed wsX1_failureAt := goodIn_r _ [16, 17, 8, 9, 10, 5, 11, 12, 39, 40, 41, 42] (by decide +kernel) (by decide +kernel)
set_option maxRecDepth 20000 in
theorem gX4_failed_X1_failureAt : GoodIn wsX4_failed (wsV RX4 141 RX1 yX1_failureAt wsX1_failureAt) := goodIn_app (goodIn_of _ (by decide +kernel)) ggX4_failed_X1_failureAt
set_option maxRecDepth 20000 in
theorem ggX4_failed_X1_timeAt : GoodIn wsX4_failed wsX1_timeAt := goodIn_r _ [21, 22, 8, 9, 10, 5, 11, 12, 39, 40, 41, 42] (by decide +kernel) (by decide +kernel)
set_option maxRecDepth 20000 in
theorem gX4_failed_X1_timeAt : GoodIn wsX4_failed (wsV RX4 144 RX1 yX1_timeAt wsX1_timeAt) := goodIn_app (goodIn_of _ (by decide +kernel)) ggX4_failed_X1_timeAt
theorem dX4_failed_0 : decode cX4_failed 0 = .ok (.iload_n 2, 1) := by decide +kernel
theorem dX4_failed_1 : decode cX4_failed 1 = .ok (.tableswitch 54 0 2 #[27, 36, 45], 27) := by decide +kernel
theorem dX4_failed_28 : decode cX4_failed 28 = .ok (.aload_n 0, 1) := by decide +kernel
theorem dX4_failed_29 : decode cX4_failed 29 = .ok (.getfield 43, 3) := by decide +kernel
theorem dX4_failed_32 : decode cX4_failed 32 = .ok (.iload_n 1, 1) := by decide +kernel
theorem dX4_failed_33 : decode cX4_failed 33 = .ok (.invokevirtual 139, 3) := by decide +kernel
theorem dX4_failed_36 : decode cX4_failed 36 = .ok (.ireturn, 1) := by decide +kernel
theorem dX4_failed_37 : decode cX4_failed 37 = .ok (.aload_n 0, 1) := by decide +kernel
theorem dX4_failed_38 : decode cX4_failed 38 = .ok (.getfield 43, 3) := by decide +kernel
theorem dX4_failed_41 : decode cX4_failed 41 = .ok (.iload_n 1, 1) := by decide +kernel
theorem dX4_failed_42 : decode cX4_failed 42 = .ok (.invokevirtual 141, 3) := by decide +kernel
theorem dX4_failed_45 : decode cX4_failed 45 = .ok (.ireturn, 1) := by decide +kernel
theorem dX4_failed_46 : decode cX4_failed 46 = .ok (.aload_n 0, 1) := by decide +kernel
theorem dX4_failed_47 : decode cX4_failed 47 = .ok (.getfield 43, 3) := by decide +kernel
theorem dX4_failed_50 : decode cX4_failed 50 = .ok (.iload_n 1, 1) := by decide +kernel
theorem dX4_failed_51 : decode cX4_failed 51 = .ok (.invokevirtual 144, 3) := by decide +kernel
theorem dX4_failed_54 : decode cX4_failed 54 = .ok (.ireturn, 1) := by decide +kernel
theorem dX4_failed_55 : decode cX4_failed 55 = .ok (.bipush (-3), 2) := by decide +kernel
theorem dX4_failed_57 : decode cX4_failed 57 = .ok (.ireturn, 1) := by decide +kernel
theorem dX4_count_0 : decode cX4_count 0 = .ok (.iload_n 1, 1) := by decide +kernel
theorem dX4_count_1 : decode cX4_count 1 = .ok (.tableswitch 84 0 6 #[43, 48, 53, 61, 66, 74, 79], 43) := by decide +kernel
theorem dX4_count_44 : decode cX4_count 44 = .ok (.aload_n 0, 1) := by decide +kernel
theorem dX4_count_45 : decode cX4_count 45 = .ok (.getfield 79, 3) := by decide +kernel
theorem dX4_count_48 : decode cX4_count 48 = .ok (.ireturn, 1) := by decide +kernel
theorem dX4_count_49 : decode cX4_count 49 = .ok (.aload_n 0, 1) := by decide +kernel
theorem dX4_count_50 : decode cX4_count 50 = .ok (.getfield 115, 3) := by decide +kernel
theorem dX4_count_53 : decode cX4_count 53 = .ok (.ireturn, 1) := by decide +kernel
theorem dX4_count_54 : decode cX4_count 54 = .ok (.aload_n 0, 1) := by decide +kernel
theorem dX4_count_55 : decode cX4_count 55 = .ok (.getfield 36, 3) := by decide +kernel
theorem dX4_count_58 : decode cX4_count 58 = .ok (.getfield 147, 3) := by decide +kernel
theorem dX4_count_61 : decode cX4_count 61 = .ok (.ireturn, 1) := by decide +kernel
theorem dX4_count_62 : decode cX4_count 62 = .ok (.aload_n 0, 1) := by decide +kernel
theorem dX4_count_63 : decode cX4_count 63 = .ok (.getfield 132, 3) := by decide +kernel
theorem dX4_count_66 : decode cX4_count 66 = .ok (.ireturn, 1) := by decide +kernel
theorem dX4_count_67 : decode cX4_count 67 = .ok (.aload_n 0, 1) := by decide +kernel
theorem dX4_count_68 : decode cX4_count 68 = .ok (.getfield 43, 3) := by decide +kernel
theorem dX4_count_71 : decode cX4_count 71 = .ok (.getfield 150, 3) := by decide +kernel
theorem dX4_count_74 : decode cX4_count 74 = .ok (.ireturn, 1) := by decide +kernel
theorem dX4_count_75 : decode cX4_count 75 = .ok (.aload_n 0, 1) := by decide +kernel
theorem dX4_count_76 : decode cX4_count 76 = .ok (.getfield 102, 3) := by decide +kernel
theorem dX4_count_79 : decode cX4_count 79 = .ok (.ireturn, 1) := by decide +kernel
theorem dX4_count_80 : decode cX4_count 80 = .ok (.aload_n 0, 1) := by decide +kernel
theorem dX4_count_81 : decode cX4_count 81 = .ok (.getfield 89, 3) := by decide +kernel
theorem dX4_count_84 : decode cX4_count 84 = .ok (.ireturn, 1) := by decide +kernel
theorem dX4_count_85 : decode cX4_count 85 = .ok (.bipush (-3), 2) := by decide +kernel
theorem dX4_count_87 : decode cX4_count 87 = .ok (.ireturn, 1) := by decide +kernel
theorem dX4_why_0 : decode cX4_why 0 = .ok (.aload_n 0, 1) := by decide +kernel
theorem dX4_why_1 : decode cX4_why 1 = .ok (.getfield 57, 3) := by decide +kernel
theorem dX4_why_4 : decode cX4_why 4 = .ok (.ireturn, 1) := by decide +kernel
theorem dX4_isWithin_0 : decode cX4_isWithin 0 = .ok (.iload_n 0, 1) := by decide +kernel
theorem dX4_isWithin_1 : decode cX4_isWithin 1 = .ok (.iload_n 1, 1) := by decide +kernel
theorem dX4_isWithin_2 : decode cX4_isWithin 2 = .ok (.if_icmp .lt 12, 3) := by decide +kernel
theorem dX4_isWithin_5 : decode cX4_isWithin 5 = .ok (.iload_n 0, 1) := by decide +kernel
theorem dX4_isWithin_6 : decode cX4_isWithin 6 = .ok (.iload_n 2, 1) := by decide +kernel
theorem dX4_isWithin_7 : decode cX4_isWithin 7 = .ok (.if_icmp .gt 7, 3) := by decide +kernel
theorem dX4_isWithin_10 : decode cX4_isWithin 10 = .ok (.iconst 1, 1) := by decide +kernel
theorem dX4_isWithin_11 : decode cX4_isWithin 11 = .ok (.goto 4, 3) := by decide +kernel
theorem dX4_isWithin_14 : decode cX4_isWithin 14 = .ok (.iconst 0, 1) := by decide +kernel
theorem dX4_isWithin_15 : decode cX4_isWithin 15 = .ok (.ireturn, 1) := by decide +kernel
theorem dX4_isSensor_0 : decode cX4_isSensor 0 = .ok (.iload_n 0, 1) := by decide +kernel
theorem dX4_isSensor_1 : decode cX4_isSensor 1 = .ok (.ifCond .lt 13, 3) := by decide +kernel
theorem dX4_isSensor_4 : decode cX4_isSensor 4 = .ok (.iload_n 0, 1) := by decide +kernel
theorem dX4_isSensor_5 : decode cX4_isSensor 5 = .ok (.bipush 8, 2) := by decide +kernel
theorem dX4_isSensor_7 : decode cX4_isSensor 7 = .ok (.if_icmp .ge 7, 3) := by decide +kernel
theorem dX4_isSensor_10 : decode cX4_isSensor 10 = .ok (.iconst 1, 1) := by decide +kernel
theorem dX4_isSensor_11 : decode cX4_isSensor 11 = .ok (.goto 4, 3) := by decide +kernel
theorem dX4_isSensor_14 : decode cX4_isSensor 14 = .ok (.iconst 0, 1) := by decide +kernel
theorem dX4_isSensor_15 : decode cX4_isSensor 15 = .ok (.ireturn, 1) := by decide +kernel
theorem dX4_isTank_0 : decode cX4_isTank 0 = .ok (.iload_n 0, 1) := by decide +kernel
theorem dX4_isTank_1 : decode cX4_isTank 1 = .ok (.ifCond .lt 13, 3) := by decide +kernel
theorem dX4_isTank_4 : decode cX4_isTank 4 = .ok (.iload_n 0, 1) := by decide +kernel
theorem dX4_isTank_5 : decode cX4_isTank 5 = .ok (.bipush 6, 2) := by decide +kernel
theorem dX4_isTank_7 : decode cX4_isTank 7 = .ok (.if_icmp .ge 7, 3) := by decide +kernel
theorem dX4_isTank_10 : decode cX4_isTank 10 = .ok (.iconst 1, 1) := by decide +kernel
theorem dX4_isTank_11 : decode cX4_isTank 11 = .ok (.goto 4, 3) := by decide +kernel
theorem dX4_isTank_14 : decode cX4_isTank 14 = .ok (.iconst 0, 1) := by decide +kernel
theorem dX4_isTank_15 : decode cX4_isTank 15 = .ok (.ireturn, 1) := by decide +kernel
theorem dX4_reading_0 : decode cX4_reading 0 = .ok (.iload_n 1, 1) := by decide +kernel
theorem dX4_reading_1 : decode cX4_reading 1 = .ok (.ifCond .lt 18, 3) := by decide +kernel
theorem dX4_reading_4 : decode cX4_reading 4 = .ok (.iload_n 1, 1) := by decide +kernel
theorem dX4_reading_5 : decode cX4_reading 5 = .ok (.bipush 8, 2) := by decide +kernel
theorem dX4_reading_7 : decode cX4_reading 7 = .ok (.if_icmp .ge 12, 3) := by decide +kernel
theorem dX4_reading_10 : decode cX4_reading 10 = .ok (.aload_n 0, 1) := by decide +kernel
theorem dX4_reading_11 : decode cX4_reading 11 = .ok (.getfield 9, 3) := by decide +kernel
theorem dX4_reading_14 : decode cX4_reading 14 = .ok (.iload_n 1, 1) := by decide +kernel
theorem dX4_reading_15 : decode cX4_reading 15 = .ok (.iaload, 1) := by decide +kernel
theorem dX4_reading_16 : decode cX4_reading 16 = .ok (.goto 4, 3) := by decide +kernel
theorem dX4_reading_19 : decode cX4_reading 19 = .ok (.iconst 0, 1) := by decide +kernel
theorem dX4_reading_20 : decode cX4_reading 20 = .ok (.ireturn, 1) := by decide +kernel
theorem dX4_ruleAt_0 : decode cX4_ruleAt 0 = .ok (.iload_n 1, 1) := by decide +kernel
theorem dX4_ruleAt_1 : decode cX4_ruleAt 1 = .ok (.ifCond .lt 26, 3) := by decide +kernel
theorem dX4_ruleAt_4 : decode cX4_ruleAt 4 = .ok (.iload_n 1, 1) := by decide +kernel
theorem dX4_ruleAt_5 : decode cX4_ruleAt 5 = .ok (.aload_n 0, 1) := by decide +kernel
theorem dX4_ruleAt_6 : decode cX4_ruleAt 6 = .ok (.getfield 79, 3) := by decide +kernel
theorem dX4_ruleAt_9 : decode cX4_ruleAt 9 = .ok (.if_icmp .ge 18, 3) := by decide +kernel
theorem dX4_ruleAt_12 : decode cX4_ruleAt 12 = .ok (.iload_n 1, 1) := by decide +kernel
theorem dX4_ruleAt_13 : decode cX4_ruleAt 13 = .ok (.bipush 40, 2) := by decide +kernel
theorem dX4_ruleAt_15 : decode cX4_ruleAt 15 = .ok (.if_icmp .ge 12, 3) := by decide +kernel
theorem dX4_ruleAt_18 : decode cX4_ruleAt 18 = .ok (.aload_n 0, 1) := by decide +kernel
theorem dX4_ruleAt_19 : decode cX4_ruleAt 19 = .ok (.getfield 23, 3) := by decide +kernel
theorem dX4_ruleAt_22 : decode cX4_ruleAt 22 = .ok (.iload_n 1, 1) := by decide +kernel
theorem dX4_ruleAt_23 : decode cX4_ruleAt 23 = .ok (.aaload, 1) := by decide +kernel
theorem dX4_ruleAt_24 : decode cX4_ruleAt 24 = .ok (.goto 4, 3) := by decide +kernel
theorem dX4_ruleAt_27 : decode cX4_ruleAt 27 = .ok (.aconst_null, 1) := by decide +kernel
theorem dX4_ruleAt_28 : decode cX4_ruleAt 28 = .ok (.areturn, 1) := by decide +kernel
theorem dX4_actAt_0 : decode cX4_actAt 0 = .ok (.iload_n 1, 1) := by decide +kernel
theorem dX4_actAt_1 : decode cX4_actAt 1 = .ok (.ifCond .lt 26, 3) := by decide +kernel
theorem dX4_actAt_4 : decode cX4_actAt 4 = .ok (.iload_n 1, 1) := by decide +kernel
theorem dX4_actAt_5 : decode cX4_actAt 5 = .ok (.aload_n 0, 1) := by decide +kernel
theorem dX4_actAt_6 : decode cX4_actAt 6 = .ok (.getfield 115, 3) := by decide +kernel
theorem dX4_actAt_9 : decode cX4_actAt 9 = .ok (.if_icmp .ge 18, 3) := by decide +kernel
theorem dX4_actAt_12 : decode cX4_actAt 12 = .ok (.iload_n 1, 1) := by decide +kernel
theorem dX4_actAt_13 : decode cX4_actAt 13 = .ok (.bipush 40, 2) := by decide +kernel
theorem dX4_actAt_15 : decode cX4_actAt 15 = .ok (.if_icmp .ge 12, 3) := by decide +kernel
theorem dX4_actAt_18 : decode cX4_actAt 18 = .ok (.aload_n 0, 1) := by decide +kernel
theorem dX4_actAt_19 : decode cX4_actAt 19 = .ok (.getfield 29, 3) := by decide +kernel
theorem dX4_actAt_22 : decode cX4_actAt 22 = .ok (.iload_n 1, 1) := by decide +kernel
theorem dX4_actAt_23 : decode cX4_actAt 23 = .ok (.aaload, 1) := by decide +kernel
theorem dX4_actAt_24 : decode cX4_actAt 24 = .ok (.goto 4, 3) := by decide +kernel
theorem dX4_actAt_27 : decode cX4_actAt 27 = .ok (.aconst_null, 1) := by decide +kernel
theorem dX4_actAt_28 : decode cX4_actAt 28 = .ok (.areturn, 1) := by decide +kernel
set_option maxRecDepth 20000 in
theorem ggX4_isRule_X4_ruleAt : GoodIn wsX4_isRule wsX4_ruleAt := goodIn_r _ [5, 6, 7, 8, 9, 10, 11, 12, 13, 14, 15, 16, 17, 18, 19, 20, 21, 22, 23] (by decide +kernel) (by decide +kernel)
set_option maxRecDepth 20000 in
theorem gX4_isRule_X4_ruleAt : GoodIn wsX4_isRule (wsV RX4 85 RX4 yX4_ruleAt wsX4_ruleAt) := goodIn_app (goodIn_of _ (by decide +kernel)) ggX4_isRule_X4_ruleAt
theorem dX4_isRule_0 : decode cX4_isRule 0 = .ok (.aload_n 0, 1) := by decide +kernel
theorem dX4_isRule_1 : decode cX4_isRule 1 = .ok (.iload_n 1, 1) := by decide +kernel
theorem dX4_isRule_2 : decode cX4_isRule 2 = .ok (.invokevirtual 85, 3) := by decide +kernel
theorem dX4_isRule_5 : decode cX4_isRule 5 = .ok (.ifnull 7, 3) := by decide +kernel
theorem dX4_isRule_8 : decode cX4_isRule 8 = .ok (.iconst 1, 1) := by decide +kernel
theorem dX4_isRule_9 : decode cX4_isRule 9 = .ok (.goto 4, 3) := by decide +kernel
theorem dX4_isRule_12 : decode cX4_isRule 12 = .ok (.iconst 0, 1) := by decide +kernel
theorem dX4_isRule_13 : decode cX4_isRule 13 = .ok (.ireturn, 1) := by decide +kernel
set_option maxRecDepth 20000 in
theorem ggX4_isAct_X4_actAt : GoodIn wsX4_isAct wsX4_actAt := goodIn_r _ [5, 6, 7, 8, 9, 10, 11, 12, 13, 14, 15, 16, 17, 18, 19, 20, 21, 22, 23] (by decide +kernel) (by decide +kernel)
set_option maxRecDepth 20000 in
theorem gX4_isAct_X4_actAt : GoodIn wsX4_isAct (wsV RX4 121 RX4 yX4_actAt wsX4_actAt) := goodIn_app (goodIn_of _ (by decide +kernel)) ggX4_isAct_X4_actAt
theorem dX4_isAct_0 : decode cX4_isAct 0 = .ok (.aload_n 0, 1) := by decide +kernel
theorem dX4_isAct_1 : decode cX4_isAct 1 = .ok (.iload_n 1, 1) := by decide +kernel
theorem dX4_isAct_2 : decode cX4_isAct 2 = .ok (.invokevirtual 121, 3) := by decide +kernel
theorem dX4_isAct_5 : decode cX4_isAct 5 = .ok (.ifnull 7, 3) := by decide +kernel
theorem dX4_isAct_8 : decode cX4_isAct 8 = .ok (.iconst 1, 1) := by decide +kernel
theorem dX4_isAct_9 : decode cX4_isAct 9 = .ok (.goto 4, 3) := by decide +kernel
theorem dX4_isAct_12 : decode cX4_isAct 12 = .ok (.iconst 0, 1) := by decide +kernel
theorem dX4_isAct_13 : decode cX4_isAct 13 = .ok (.ireturn, 1) := by decide +kernel
set_option maxRecDepth 20000 in
theorem ggX4_knowsPartsOfRule_X4_isSensor : GoodIn wsX4_knowsPartsOfRule wsX4_isSensor := goodIn_r _ [4] (by decide +kernel) (by decide +kernel)
set_option maxRecDepth 20000 in
theorem gX4_knowsPartsOfRule_X4_isSensor : GoodIn wsX4_knowsPartsOfRule (va_wsS RX4 53 yX4_isSensor wsX4_isSensor) := goodIn_app (goodIn_of _ (by decide +kernel)) ggX4_knowsPartsOfRule_X4_isSensor
set_option maxRecDepth 20000 in
theorem ggX4_knowsPartsOfRule_X4_isRule : GoodIn wsX4_knowsPartsOfRule wsX4_isRule := goodIn_r _ [8, 9, 10, 11, 3, 12, 13, 14, 15, 16, 17, 18, 19, 20, 21, 22, 23, 24, 25, 26, 27, 28, 29, 30] (by decide +kernel) (by decide +kernel)
set_option maxRecDepth 20000 in
theorem gX4_knowsPartsOfRule_X4_isRule : GoodIn wsX4_knowsPartsOfRule (wsV RX4 151 RX4 yX4_isRule wsX4_isRule) := goodIn_app (goodIn_of _ (by decide +kernel)) ggX4_knowsPartsOfRule_X4_isRule
theorem dX4_knowsPartsOfRule_0 : decode cX4_knowsPartsOfRule 0 = .ok (.iload_n 1, 1) := by decide +kernel
theorem dX4_knowsPartsOfRule_1 : decode cX4_knowsPartsOfRule 1 = .ok (.tableswitch 91 3 9 #[43, 91, 63, 69, 69, 63, 69], 43) := by decide +kernel
theorem dX4_knowsPartsOfRule_44 : decode cX4_knowsPartsOfRule 44 = .ok (.iload_n 2, 1) := by decide +kernel
theorem dX4_knowsPartsOfRule_45 : decode cX4_knowsPartsOfRule 45 = .ok (.invokestatic 53, 3) := by decide +kernel
theorem dX4_knowsPartsOfRule_48 : decode cX4_knowsPartsOfRule 48 = .ok (.ifCond .eq 14, 3) := by decide +kernel
theorem dX4_knowsPartsOfRule_51 : decode cX4_knowsPartsOfRule 51 = .ok (.iload_n 3, 1) := by decide +kernel
theorem dX4_knowsPartsOfRule_52 : decode cX4_knowsPartsOfRule 52 = .ok (.invokestatic 53, 3) := by decide +kernel
theorem dX4_knowsPartsOfRule_55 : decode cX4_knowsPartsOfRule 55 = .ok (.ifCond .eq 7, 3) := by decide +kernel
theorem dX4_knowsPartsOfRule_58 : decode cX4_knowsPartsOfRule 58 = .ok (.iconst 1, 1) := by decide +kernel
theorem dX4_knowsPartsOfRule_59 : decode cX4_knowsPartsOfRule 59 = .ok (.goto 4, 3) := by decide +kernel
theorem dX4_knowsPartsOfRule_62 : decode cX4_knowsPartsOfRule 62 = .ok (.iconst 0, 1) := by decide +kernel
theorem dX4_knowsPartsOfRule_63 : decode cX4_knowsPartsOfRule 63 = .ok (.ireturn, 1) := by decide +kernel
theorem dX4_knowsPartsOfRule_64 : decode cX4_knowsPartsOfRule 64 = .ok (.aload_n 0, 1) := by decide +kernel
theorem dX4_knowsPartsOfRule_65 : decode cX4_knowsPartsOfRule 65 = .ok (.iload_n 2, 1) := by decide +kernel
theorem dX4_knowsPartsOfRule_66 : decode cX4_knowsPartsOfRule 66 = .ok (.invokevirtual 151, 3) := by decide +kernel
theorem dX4_knowsPartsOfRule_69 : decode cX4_knowsPartsOfRule 69 = .ok (.ireturn, 1) := by decide +kernel
theorem dX4_knowsPartsOfRule_70 : decode cX4_knowsPartsOfRule 70 = .ok (.aload_n 0, 1) := by decide +kernel
theorem dX4_knowsPartsOfRule_71 : decode cX4_knowsPartsOfRule 71 = .ok (.iload_n 2, 1) := by decide +kernel
theorem dX4_knowsPartsOfRule_72 : decode cX4_knowsPartsOfRule 72 = .ok (.invokevirtual 151, 3) := by decide +kernel
theorem dX4_knowsPartsOfRule_75 : decode cX4_knowsPartsOfRule 75 = .ok (.ifCond .eq 15, 3) := by decide +kernel
theorem dX4_knowsPartsOfRule_78 : decode cX4_knowsPartsOfRule 78 = .ok (.aload_n 0, 1) := by decide +kernel
theorem dX4_knowsPartsOfRule_79 : decode cX4_knowsPartsOfRule 79 = .ok (.iload_n 3, 1) := by decide +kernel
theorem dX4_knowsPartsOfRule_80 : decode cX4_knowsPartsOfRule 80 = .ok (.invokevirtual 151, 3) := by decide +kernel
theorem dX4_knowsPartsOfRule_83 : decode cX4_knowsPartsOfRule 83 = .ok (.ifCond .eq 7, 3) := by decide +kernel
theorem dX4_knowsPartsOfRule_86 : decode cX4_knowsPartsOfRule 86 = .ok (.iconst 1, 1) := by decide +kernel
theorem dX4_knowsPartsOfRule_87 : decode cX4_knowsPartsOfRule 87 = .ok (.goto 4, 3) := by decide +kernel
theorem dX4_knowsPartsOfRule_90 : decode cX4_knowsPartsOfRule 90 = .ok (.iconst 0, 1) := by decide +kernel
theorem dX4_knowsPartsOfRule_91 : decode cX4_knowsPartsOfRule 91 = .ok (.ireturn, 1) := by decide +kernel
theorem dX4_knowsPartsOfRule_92 : decode cX4_knowsPartsOfRule 92 = .ok (.iload_n 2, 1) := by decide +kernel
theorem dX4_knowsPartsOfRule_93 : decode cX4_knowsPartsOfRule 93 = .ok (.invokestatic 53, 3) := by decide +kernel
theorem dX4_knowsPartsOfRule_96 : decode cX4_knowsPartsOfRule 96 = .ok (.ireturn, 1) := by decide +kernel
set_option maxRecDepth 20000 in
theorem ggX4_hasNumbersOfRule_X4_isWithin : GoodIn wsX4_hasNumbersOfRule wsX4_isWithin := goodIn_r _ [4] (by decide +kernel) (by decide +kernel)
set_option maxRecDepth 20000 in
theorem gX4_hasNumbersOfRule_X4_isWithin : GoodIn wsX4_hasNumbersOfRule (va_wsS RX4 69 yX4_isWithin wsX4_isWithin) := goodIn_app (goodIn_of _ (by decide +kernel)) ggX4_hasNumbersOfRule_X4_isWithin
theorem dX4_hasNumbersOfRule_0 : decode cX4_hasNumbersOfRule 0 = .ok (.iload_n 0, 1) := by decide +kernel
theorem dX4_hasNumbersOfRule_1 : decode cX4_hasNumbersOfRule 1 = .ok (.lookupswitch 45 #[(1, 27), (8, 37)], 27) := by decide +kernel
theorem dX4_hasNumbersOfRule_28 : decode cX4_hasNumbersOfRule 28 = .ok (.iload_n 2, 1) := by decide +kernel
theorem dX4_hasNumbersOfRule_29 : decode cX4_hasNumbersOfRule 29 = .ok (.ifCond .lt 7, 3) := by decide +kernel
theorem dX4_hasNumbersOfRule_32 : decode cX4_hasNumbersOfRule 32 = .ok (.iconst 1, 1) := by decide +kernel
theorem dX4_hasNumbersOfRule_33 : decode cX4_hasNumbersOfRule 33 = .ok (.goto 4, 3) := by decide +kernel
theorem dX4_hasNumbersOfRule_36 : decode cX4_hasNumbersOfRule 36 = .ok (.iconst 0, 1) := by decide +kernel
theorem dX4_hasNumbersOfRule_37 : decode cX4_hasNumbersOfRule 37 = .ok (.ireturn, 1) := by decide +kernel
theorem dX4_hasNumbersOfRule_38 : decode cX4_hasNumbersOfRule 38 = .ok (.iload_n 1, 1) := by decide +kernel
theorem dX4_hasNumbersOfRule_39 : decode cX4_hasNumbersOfRule 39 = .ok (.iconst 1, 1) := by decide +kernel
theorem dX4_hasNumbersOfRule_40 : decode cX4_hasNumbersOfRule 40 = .ok (.bipush 100, 2) := by decide +kernel
theorem dX4_hasNumbersOfRule_42 : decode cX4_hasNumbersOfRule 42 = .ok (.invokestatic 69, 3) := by decide +kernel
theorem dX4_hasNumbersOfRule_45 : decode cX4_hasNumbersOfRule 45 = .ok (.ireturn, 1) := by decide +kernel
theorem dX4_hasNumbersOfRule_46 : decode cX4_hasNumbersOfRule 46 = .ok (.iconst 1, 1) := by decide +kernel
theorem dX4_hasNumbersOfRule_47 : decode cX4_hasNumbersOfRule 47 = .ok (.ireturn, 1) := by decide +kernel
set_option maxRecDepth 20000 in
theorem ggX4_knowsPartsOfAct_X4_isTank : GoodIn wsX4_knowsPartsOfAct wsX4_isTank := goodIn_r _ [4] (by decide +kernel) (by decide +kernel)
set_option maxRecDepth 20000 in
theorem gX4_knowsPartsOfAct_X4_isTank : GoodIn wsX4_knowsPartsOfAct (va_wsS RX4 65 yX4_isTank wsX4_isTank) := goodIn_app (goodIn_of _ (by decide +kernel)) ggX4_knowsPartsOfAct_X4_isTank
set_option maxRecDepth 20000 in
theorem ggX4_knowsPartsOfAct_X4_isRule : GoodIn wsX4_knowsPartsOfAct wsX4_isRule := goodIn_r _ [8, 9, 10, 11, 3, 12, 13, 14, 32, 33, 34, 35, 36, 37, 38, 39, 40, 41, 42, 43, 44, 45, 46, 47] (by decide +kernel) (by decide +kernel)
set_option maxRecDepth 20000 in
theorem gX4_knowsPartsOfAct_X4_isRule : GoodIn wsX4_knowsPartsOfAct (wsV RX4 151 RX4 yX4_isRule wsX4_isRule) := goodIn_app (goodIn_of _ (by decide +kernel)) ggX4_knowsPartsOfAct_X4_isRule
set_option maxRecDepth 20000 in
theorem ggX4_knowsPartsOfAct_X4_isActOrNone : GoodIn wsX4_knowsPartsOfAct wsX4_isActOrNone := goodIn_r _ [18, 19, 20, 21, 3, 22, 23, 24, 25, 26, 27, 28, 32, 33, 34, 35, 36, 37, 38, 39, 40, 41, 42, 43, 44, 45, 46, 47] (by decide +kernel) (by decide +kernel)
set_option maxRecDepth 20000 in
theorem gX4_knowsPartsOfAct_X4_isActOrNone : GoodIn wsX4_knowsPartsOfAct (wsV RX4 154 RX4 yX4_isActOrNone wsX4_isActOrNone) := goodIn_app (goodIn_of _ (by decide +kernel)) ggX4_knowsPartsOfAct_X4_isActOrNone
set_option maxRecDepth 20000 in
theorem ggX4_knowsPartsOfAct_X4_isAct : GoodIn wsX4_knowsPartsOfAct wsX4_isAct := goodIn_r _ [22, 23, 24, 25, 3, 26, 27, 28, 32, 33, 34, 35, 36, 37, 38, 39, 40, 41, 42, 43, 44, 45, 46, 47] (by decide +kernel) (by decide +kernel)
set_option maxRecDepth 20000 in
theorem gX4_knowsPartsOfAct_X4_isAct : GoodIn wsX4_knowsPartsOfAct (wsV RX4 157 RX4 yX4_isAct wsX4_isAct) := goodIn_app (goodIn_of _ (by decide +kernel)) ggX4_knowsPartsOfAct_X4_isAct
set_option maxRecDepth 20000 in
theorem ggX4_knowsPartsOfAct_X4_isSensor : GoodIn wsX4_knowsPartsOfAct wsX4_isSensor := goodIn_r _ [31] (by decide +kernel) (by decide +kernel)
set_option maxRecDepth 20000 in
theorem gX4_knowsPartsOfAct_X4_isSensor : GoodIn wsX4_knowsPartsOfAct (va_wsS RX4 53 yX4_isSensor wsX4_isSensor) := goodIn_app (goodIn_of _ (by decide +kernel)) ggX4_knowsPartsOfAct_X4_isSensor
theorem dX4_knowsPartsOfAct_0 : decode cX4_knowsPartsOfAct 0 = .ok (.iload_n 1, 1) := by decide +kernel
theorem dX4_knowsPartsOfAct_1 : decode cX4_knowsPartsOfAct 1 = .ok (.tableswitch 155 0 8 #[51, 56, 76, 107, 129, 129, 107, 155, 135], 51) := by decide +kernel
theorem dX4_knowsPartsOfAct_52 : decode cX4_knowsPartsOfAct 52 = .ok (.iload_n 2, 1) := by decide +kernel
theorem dX4_knowsPartsOfAct_53 : decode cX4_knowsPartsOfAct 53 = .ok (.invokestatic 65, 3) := by decide +kernel
theorem dX4_knowsPartsOfAct_56 : decode cX4_knowsPartsOfAct 56 = .ok (.ireturn, 1) := by decide +kernel
theorem dX4_knowsPartsOfAct_57 : decode cX4_knowsPartsOfAct 57 = .ok (.iload_n 2, 1) := by decide +kernel
theorem dX4_knowsPartsOfAct_58 : decode cX4_knowsPartsOfAct 58 = .ok (.invokestatic 65, 3) := by decide +kernel
theorem dX4_knowsPartsOfAct_61 : decode cX4_knowsPartsOfAct 61 = .ok (.ifCond .eq 14, 3) := by decide +kernel
theorem dX4_knowsPartsOfAct_64 : decode cX4_knowsPartsOfAct 64 = .ok (.iload_n 3, 1) := by decide +kernel
theorem dX4_knowsPartsOfAct_65 : decode cX4_knowsPartsOfAct 65 = .ok (.invokestatic 65, 3) := by decide +kernel
theorem dX4_knowsPartsOfAct_68 : decode cX4_knowsPartsOfAct 68 = .ok (.ifCond .eq 7, 3) := by decide +kernel
theorem dX4_knowsPartsOfAct_71 : decode cX4_knowsPartsOfAct 71 = .ok (.iconst 1, 1) := by decide +kernel
theorem dX4_knowsPartsOfAct_72 : decode cX4_knowsPartsOfAct 72 = .ok (.goto 4, 3) := by decide +kernel
theorem dX4_knowsPartsOfAct_75 : decode cX4_knowsPartsOfAct 75 = .ok (.iconst 0, 1) := by decide +kernel
theorem dX4_knowsPartsOfAct_76 : decode cX4_knowsPartsOfAct 76 = .ok (.ireturn, 1) := by decide +kernel
theorem dX4_knowsPartsOfAct_77 : decode cX4_knowsPartsOfAct 77 = .ok (.aload_n 0, 1) := by decide +kernel
theorem dX4_knowsPartsOfAct_78 : decode cX4_knowsPartsOfAct 78 = .ok (.iload_n 2, 1) := by decide +kernel
theorem dX4_knowsPartsOfAct_79 : decode cX4_knowsPartsOfAct 79 = .ok (.invokevirtual 151, 3) := by decide +kernel
theorem dX4_knowsPartsOfAct_82 : decode cX4_knowsPartsOfAct 82 = .ok (.ifCond .eq 24, 3) := by decide +kernel
theorem dX4_knowsPartsOfAct_85 : decode cX4_knowsPartsOfAct 85 = .ok (.aload_n 0, 1) := by decide +kernel
theorem dX4_knowsPartsOfAct_86 : decode cX4_knowsPartsOfAct 86 = .ok (.iload_n 3, 1) := by decide +kernel
theorem dX4_knowsPartsOfAct_87 : decode cX4_knowsPartsOfAct 87 = .ok (.invokevirtual 154, 3) := by decide +kernel
theorem dX4_knowsPartsOfAct_90 : decode cX4_knowsPartsOfAct 90 = .ok (.ifCond .eq 16, 3) := by decide +kernel
theorem dX4_knowsPartsOfAct_93 : decode cX4_knowsPartsOfAct 93 = .ok (.aload_n 0, 1) := by decide +kernel
theorem dX4_knowsPartsOfAct_94 : decode cX4_knowsPartsOfAct 94 = .ok (.iload 4, 2) := by decide +kernel
theorem dX4_knowsPartsOfAct_96 : decode cX4_knowsPartsOfAct 96 = .ok (.invokevirtual 154, 3) := by decide +kernel
theorem dX4_knowsPartsOfAct_99 : decode cX4_knowsPartsOfAct 99 = .ok (.ifCond .eq 7, 3) := by decide +kernel
theorem dX4_knowsPartsOfAct_102 : decode cX4_knowsPartsOfAct 102 = .ok (.iconst 1, 1) := by decide +kernel
theorem dX4_knowsPartsOfAct_103 : decode cX4_knowsPartsOfAct 103 = .ok (.goto 4, 3) := by decide +kernel
theorem dX4_knowsPartsOfAct_106 : decode cX4_knowsPartsOfAct 106 = .ok (.iconst 0, 1) := by decide +kernel
theorem dX4_knowsPartsOfAct_107 : decode cX4_knowsPartsOfAct 107 = .ok (.ireturn, 1) := by decide +kernel
theorem dX4_knowsPartsOfAct_108 : decode cX4_knowsPartsOfAct 108 = .ok (.aload_n 0, 1) := by decide +kernel
theorem dX4_knowsPartsOfAct_109 : decode cX4_knowsPartsOfAct 109 = .ok (.iload_n 2, 1) := by decide +kernel
theorem dX4_knowsPartsOfAct_110 : decode cX4_knowsPartsOfAct 110 = .ok (.invokevirtual 157, 3) := by decide +kernel
theorem dX4_knowsPartsOfAct_113 : decode cX4_knowsPartsOfAct 113 = .ok (.ifCond .eq 15, 3) := by decide +kernel
theorem dX4_knowsPartsOfAct_116 : decode cX4_knowsPartsOfAct 116 = .ok (.aload_n 0, 1) := by decide +kernel
theorem dX4_knowsPartsOfAct_117 : decode cX4_knowsPartsOfAct 117 = .ok (.iload_n 3, 1) := by decide +kernel
theorem dX4_knowsPartsOfAct_118 : decode cX4_knowsPartsOfAct 118 = .ok (.invokevirtual 157, 3) := by decide +kernel
theorem dX4_knowsPartsOfAct_121 : decode cX4_knowsPartsOfAct 121 = .ok (.ifCond .eq 7, 3) := by decide +kernel
theorem dX4_knowsPartsOfAct_124 : decode cX4_knowsPartsOfAct 124 = .ok (.iconst 1, 1) := by decide +kernel
theorem dX4_knowsPartsOfAct_125 : decode cX4_knowsPartsOfAct 125 = .ok (.goto 4, 3) := by decide +kernel
theorem dX4_knowsPartsOfAct_128 : decode cX4_knowsPartsOfAct 128 = .ok (.iconst 0, 1) := by decide +kernel
theorem dX4_knowsPartsOfAct_129 : decode cX4_knowsPartsOfAct 129 = .ok (.ireturn, 1) := by decide +kernel
theorem dX4_knowsPartsOfAct_130 : decode cX4_knowsPartsOfAct 130 = .ok (.aload_n 0, 1) := by decide +kernel
theorem dX4_knowsPartsOfAct_131 : decode cX4_knowsPartsOfAct 131 = .ok (.iload_n 2, 1) := by decide +kernel
theorem dX4_knowsPartsOfAct_132 : decode cX4_knowsPartsOfAct 132 = .ok (.invokevirtual 157, 3) := by decide +kernel
theorem dX4_knowsPartsOfAct_135 : decode cX4_knowsPartsOfAct 135 = .ok (.ireturn, 1) := by decide +kernel
theorem dX4_knowsPartsOfAct_136 : decode cX4_knowsPartsOfAct 136 = .ok (.iload_n 2, 1) := by decide +kernel
theorem dX4_knowsPartsOfAct_137 : decode cX4_knowsPartsOfAct 137 = .ok (.invokestatic 53, 3) := by decide +kernel
theorem dX4_knowsPartsOfAct_140 : decode cX4_knowsPartsOfAct 140 = .ok (.ifCond .eq 14, 3) := by decide +kernel
theorem dX4_knowsPartsOfAct_143 : decode cX4_knowsPartsOfAct 143 = .ok (.iload_n 3, 1) := by decide +kernel
theorem dX4_knowsPartsOfAct_144 : decode cX4_knowsPartsOfAct 144 = .ok (.invokestatic 65, 3) := by decide +kernel
theorem dX4_knowsPartsOfAct_147 : decode cX4_knowsPartsOfAct 147 = .ok (.ifCond .eq 7, 3) := by decide +kernel
theorem dX4_knowsPartsOfAct_150 : decode cX4_knowsPartsOfAct 150 = .ok (.iconst 1, 1) := by decide +kernel
theorem dX4_knowsPartsOfAct_151 : decode cX4_knowsPartsOfAct 151 = .ok (.goto 4, 3) := by decide +kernel
theorem dX4_knowsPartsOfAct_154 : decode cX4_knowsPartsOfAct 154 = .ok (.iconst 0, 1) := by decide +kernel
theorem dX4_knowsPartsOfAct_155 : decode cX4_knowsPartsOfAct 155 = .ok (.ireturn, 1) := by decide +kernel
theorem dX4_knowsPartsOfAct_156 : decode cX4_knowsPartsOfAct 156 = .ok (.iconst 1, 1) := by decide +kernel
theorem dX4_knowsPartsOfAct_157 : decode cX4_knowsPartsOfAct 157 = .ok (.ireturn, 1) := by decide +kernel
set_option maxRecDepth 20000 in
theorem ggX4_isActOrNone_X4_isAct : GoodIn wsX4_isActOrNone wsX4_isAct := goodIn_r _ [5, 6, 7, 8, 4, 9, 10, 11, 12, 13, 14, 15, 16, 17, 18, 19, 20, 21, 22, 23, 24, 25, 26, 27] (by decide +kernel) (by decide +kernel)
set_option maxRecDepth 20000 in
theorem gX4_isActOrNone_X4_isAct : GoodIn wsX4_isActOrNone (wsV RX4 157 RX4 yX4_isAct wsX4_isAct) := goodIn_app (goodIn_of _ (by decide +kernel)) ggX4_isActOrNone_X4_isAct
theorem dX4_isActOrNone_0 : decode cX4_isActOrNone 0 = .ok (.iload_n 1, 1) := by decide +kernel
theorem dX4_isActOrNone_1 : decode cX4_isActOrNone 1 = .ok (.iconst (-1), 1) := by decide +kernel
theorem dX4_isActOrNone_2 : decode cX4_isActOrNone 2 = .ok (.if_icmp .eq 11, 3) := by decide +kernel
theorem dX4_isActOrNone_5 : decode cX4_isActOrNone 5 = .ok (.aload_n 0, 1) := by decide +kernel
theorem dX4_isActOrNone_6 : decode cX4_isActOrNone 6 = .ok (.iload_n 1, 1) := by decide +kernel
theorem dX4_isActOrNone_7 : decode cX4_isActOrNone 7 = .ok (.invokevirtual 157, 3) := by decide +kernel
theorem dX4_isActOrNone_10 : decode cX4_isActOrNone 10 = .ok (.ifCond .eq 7, 3) := by decide +kernel
theorem dX4_isActOrNone_13 : decode cX4_isActOrNone 13 = .ok (.iconst 1, 1) := by decide +kernel
theorem dX4_isActOrNone_14 : decode cX4_isActOrNone 14 = .ok (.goto 4, 3) := by decide +kernel
theorem dX4_isActOrNone_17 : decode cX4_isActOrNone 17 = .ok (.iconst 0, 1) := by decide +kernel
theorem dX4_isActOrNone_18 : decode cX4_isActOrNone 18 = .ok (.ireturn, 1) := by decide +kernel
set_option maxRecDepth 20000 in
theorem ggX4_hasNumbersOfAct_X4_isWithin : GoodIn wsX4_hasNumbersOfAct wsX4_isWithin := goodIn_r _ [4] (by decide +kernel) (by decide +kernel)
set_option maxRecDepth 20000 in
theorem gX4_hasNumbersOfAct_X4_isWithin : GoodIn wsX4_hasNumbersOfAct (va_wsS RX4 69 yX4_isWithin wsX4_isWithin) := goodIn_app (goodIn_of _ (by decide +kernel)) ggX4_hasNumbersOfAct_X4_isWithin
theorem dX4_hasNumbersOfAct_0 : decode cX4_hasNumbersOfAct 0 = .ok (.iload_n 0, 1) := by decide +kernel
theorem dX4_hasNumbersOfAct_1 : decode cX4_hasNumbersOfAct 1 = .ok (.tableswitch 73 0 5 #[39, 48, 73, 73, 57, 65], 39) := by decide +kernel
theorem dX4_hasNumbersOfAct_40 : decode cX4_hasNumbersOfAct 40 = .ok (.iload_n 1, 1) := by decide +kernel
theorem dX4_hasNumbersOfAct_41 : decode cX4_hasNumbersOfAct 41 = .ok (.iconst 0, 1) := by decide +kernel
theorem dX4_hasNumbersOfAct_42 : decode cX4_hasNumbersOfAct 42 = .ok (.sipush 1000, 3) := by decide +kernel
theorem dX4_hasNumbersOfAct_45 : decode cX4_hasNumbersOfAct 45 = .ok (.invokestatic 69, 3) := by decide +kernel
theorem dX4_hasNumbersOfAct_48 : decode cX4_hasNumbersOfAct 48 = .ok (.ireturn, 1) := by decide +kernel
theorem dX4_hasNumbersOfAct_49 : decode cX4_hasNumbersOfAct 49 = .ok (.iload_n 2, 1) := by decide +kernel
theorem dX4_hasNumbersOfAct_50 : decode cX4_hasNumbersOfAct 50 = .ok (.iconst 0, 1) := by decide +kernel
theorem dX4_hasNumbersOfAct_51 : decode cX4_hasNumbersOfAct 51 = .ok (.sipush 1000, 3) := by decide +kernel
theorem dX4_hasNumbersOfAct_54 : decode cX4_hasNumbersOfAct 54 = .ok (.invokestatic 69, 3) := by decide +kernel
theorem dX4_hasNumbersOfAct_57 : decode cX4_hasNumbersOfAct 57 = .ok (.ireturn, 1) := by decide +kernel
theorem dX4_hasNumbersOfAct_58 : decode cX4_hasNumbersOfAct 58 = .ok (.iload_n 1, 1) := by decide +kernel
theorem dX4_hasNumbersOfAct_59 : decode cX4_hasNumbersOfAct 59 = .ok (.iconst 0, 1) := by decide +kernel
theorem dX4_hasNumbersOfAct_60 : decode cX4_hasNumbersOfAct 60 = .ok (.bipush 9, 2) := by decide +kernel
theorem dX4_hasNumbersOfAct_62 : decode cX4_hasNumbersOfAct 62 = .ok (.invokestatic 69, 3) := by decide +kernel
theorem dX4_hasNumbersOfAct_65 : decode cX4_hasNumbersOfAct 65 = .ok (.ireturn, 1) := by decide +kernel
theorem dX4_hasNumbersOfAct_66 : decode cX4_hasNumbersOfAct 66 = .ok (.iload_n 1, 1) := by decide +kernel
theorem dX4_hasNumbersOfAct_67 : decode cX4_hasNumbersOfAct 67 = .ok (.iconst 0, 1) := by decide +kernel
theorem dX4_hasNumbersOfAct_68 : decode cX4_hasNumbersOfAct 68 = .ok (.bipush 100, 2) := by decide +kernel
theorem dX4_hasNumbersOfAct_70 : decode cX4_hasNumbersOfAct 70 = .ok (.invokestatic 69, 3) := by decide +kernel
theorem dX4_hasNumbersOfAct_73 : decode cX4_hasNumbersOfAct 73 = .ok (.ireturn, 1) := by decide +kernel
theorem dX4_hasNumbersOfAct_74 : decode cX4_hasNumbersOfAct 74 = .ok (.iconst 1, 1) := by decide +kernel
theorem dX4_hasNumbersOfAct_75 : decode cX4_hasNumbersOfAct 75 = .ok (.ireturn, 1) := by decide +kernel
theorem dX4_startWork_0 : decode cX4_startWork 0 = .ok (.aload_n 0, 1) := by decide +kernel
theorem dX4_startWork_1 : decode cX4_startWork 1 = .ok (.iconst 0, 1) := by decide +kernel
theorem dX4_startWork_2 : decode cX4_startWork 2 = .ok (.putfield 99, 3) := by decide +kernel
theorem dX4_startWork_5 : decode cX4_startWork 5 = .ok (.aload_n 0, 1) := by decide +kernel
theorem dX4_startWork_6 : decode cX4_startWork 6 = .ok (.iconst 0, 1) := by decide +kernel
theorem dX4_startWork_7 : decode cX4_startWork 7 = .ok (.putfield 105, 3) := by decide +kernel
theorem dX4_startWork_10 : decode cX4_startWork 10 = .ok (.return_, 1) := by decide +kernel
theorem dX4_begins_0 : decode cX4_begins 0 = .ok (.aload_n 0, 1) := by decide +kernel
theorem dX4_begins_1 : decode cX4_begins 1 = .ok (.getfield 99, 3) := by decide +kernel
theorem dX4_begins_4 : decode cX4_begins 4 = .ok (.sipush 300, 3) := by decide +kernel
theorem dX4_begins_7 : decode cX4_begins 7 = .ok (.if_icmp .lt 10, 3) := by decide +kernel
theorem dX4_begins_10 : decode cX4_begins 10 = .ok (.aload_n 0, 1) := by decide +kernel
theorem dX4_begins_11 : decode cX4_begins 11 = .ok (.iconst 5, 1) := by decide +kernel
theorem dX4_begins_12 : decode cX4_begins 12 = .ok (.putfield 105, 3) := by decide +kernel
theorem dX4_begins_15 : decode cX4_begins 15 = .ok (.iconst 0, 1) := by decide +kernel
theorem dX4_begins_16 : decode cX4_begins 16 = .ok (.ireturn, 1) := by decide +kernel
theorem dX4_begins_17 : decode cX4_begins 17 = .ok (.aload_n 0, 1) := by decide +kernel
theorem dX4_begins_18 : decode cX4_begins 18 = .ok (.dup, 1) := by decide +kernel
theorem dX4_begins_19 : decode cX4_begins 19 = .ok (.getfield 99, 3) := by decide +kernel
theorem dX4_begins_22 : decode cX4_begins 22 = .ok (.iconst 1, 1) := by decide +kernel
theorem dX4_begins_23 : decode cX4_begins 23 = .ok (.iadd, 1) := by decide +kernel
theorem dX4_begins_24 : decode cX4_begins 24 = .ok (.putfield 99, 3) := by decide +kernel
theorem dX4_begins_27 : decode cX4_begins 27 = .ok (.aload_n 0, 1) := by decide +kernel
theorem dX4_begins_28 : decode cX4_begins 28 = .ok (.dup, 1) := by decide +kernel
theorem dX4_begins_29 : decode cX4_begins 29 = .ok (.getfield 89, 3) := by decide +kernel
theorem dX4_begins_32 : decode cX4_begins 32 = .ok (.iconst 1, 1) := by decide +kernel
theorem dX4_begins_33 : decode cX4_begins 33 = .ok (.iadd, 1) := by decide +kernel
theorem dX4_begins_34 : decode cX4_begins 34 = .ok (.putfield 89, 3) := by decide +kernel
theorem dX4_begins_37 : decode cX4_begins 37 = .ok (.iconst 1, 1) := by decide +kernel
theorem dX4_begins_38 : decode cX4_begins 38 = .ok (.ireturn, 1) := by decide +kernel
theorem dX4_canBeCaught_0 : decode cX4_canBeCaught 0 = .ok (.aload_n 0, 1) := by decide +kernel
theorem dX4_canBeCaught_1 : decode cX4_canBeCaught 1 = .ok (.getfield 105, 3) := by decide +kernel
theorem dX4_canBeCaught_4 : decode cX4_canBeCaught 4 = .ok (.ifCond .eq 15, 3) := by decide +kernel
theorem dX4_canBeCaught_7 : decode cX4_canBeCaught 7 = .ok (.aload_n 0, 1) := by decide +kernel
theorem dX4_canBeCaught_8 : decode cX4_canBeCaught 8 = .ok (.getfield 105, 3) := by decide +kernel
theorem dX4_canBeCaught_11 : decode cX4_canBeCaught 11 = .ok (.iconst 5, 1) := by decide +kernel
theorem dX4_canBeCaught_12 : decode cX4_canBeCaught 12 = .ok (.if_icmp .eq 7, 3) := by decide +kernel
theorem dX4_canBeCaught_15 : decode cX4_canBeCaught 15 = .ok (.iconst 1, 1) := by decide +kernel
theorem dX4_canBeCaught_16 : decode cX4_canBeCaught 16 = .ok (.goto 4, 3) := by decide +kernel
theorem dX4_canBeCaught_19 : decode cX4_canBeCaught 19 = .ok (.iconst 0, 1) := by decide +kernel
theorem dX4_canBeCaught_20 : decode cX4_canBeCaught 20 = .ok (.ireturn, 1) := by decide +kernel
set_option maxRecDepth 20000 in
theorem ggX4_says_X4_begins : GoodIn wsX4_says wsX4_begins := goodIn_r _ [15, 16, 1, 17, 64, 65, 66, 67, 68, 69, 70, 71, 72, 73, 74, 75, 76, 77, 78, 79] (by decide +kernel) (by decide +kernel)
set_option maxRecDepth 20000 in
theorem gX4_says_X4_begins : GoodIn wsX4_says (wsV RX4 160 RX4 yX4_begins wsX4_begins) := goodIn_app (goodIn_of _ (by decide +kernel)) ggX4_says_X4_begins
set_option maxRecDepth 20000 in
theorem ggX4_says_X4_ruleAt : GoodIn wsX4_says wsX4_ruleAt := goodIn_r _ [21, 22, 23, 64, 65, 66, 67, 68, 69, 70, 71, 72, 73, 74, 75, 76, 77, 78, 79] (by decide +kernel) (by decide +kernel)
set_option maxRecDepth 20000 in
theorem gX4_says_X4_ruleAt : GoodIn wsX4_says (wsV RX4 85 RX4 yX4_ruleAt wsX4_ruleAt) := goodIn_app (goodIn_of _ (by decide +kernel)) ggX4_says_X4_ruleAt
set_option maxRecDepth 20000 in
theorem ggX4_says_X4_reading : GoodIn wsX4_says wsX4_reading := goodIn_r _ [27, 28, 64, 65, 66, 67, 68, 69, 70, 71, 72, 73, 74, 75, 76, 77, 78, 79] (by decide +kernel) (by decide +kernel)
set_option maxRecDepth 20000 in
theorem gX4_says_X4_reading : GoodIn wsX4_says (wsV RX4 61 RX4 yX4_reading wsX4_reading) := goodIn_app (goodIn_of _ (by decide +kernel)) ggX4_says_X4_reading
set_option maxRecDepth 20000 in
theorem ggX4_says_X4_saysShare : GoodIn wsX4_says wsX4_saysShare := goodIn_r _ [32, 3, 4, 1, 9, 24, 25, 26, 14, 27, 28, 80, 81, 82, 83, 84, 85, 64, 65, 66, 67, 68, 69, 70, 71, 72, 73, 74, 75, 76, 77, 78, 79] (by decide +kernel) (by decide +kernel)
set_option maxRecDepth 20000 in
theorem gX4_says_X4_saysShare : GoodIn wsX4_says (wsV RX4 185 RX4 yX4_saysShare wsX4_saysShare) := goodIn_app (goodIn_of _ (by decide +kernel)) ggX4_says_X4_saysShare
set_option maxRecDepth 20000 in
theorem ggX4_says_X4_saysPointed : GoodIn wsX4_says wsX4_saysPointed := goodIn_r _ [36, 3, 1, 4, 24, 25, 26, 14, 27, 28, 37, 38, 39, 80, 81, 82, 83, 84, 85, 64, 65, 66, 67, 68, 69, 70, 71, 72, 73, 74, 75, 76, 77, 78, 79] (by decide +kernel) (by decide +kernel)
set_option maxRecDepth 20000 in
theorem gX4_says_X4_saysPointed : GoodIn wsX4_says (wsV RX4 189 RX4 yX4_saysPointed wsX4_saysPointed) := goodIn_app (goodIn_of _ (by decide +kernel)) ggX4_says_X4_saysPointed
set_option maxRecDepth 20000 in
theorem ggX4_says_X4_says : GoodIn wsX4_says wsX4_says := goodIn_r _ [0, 1, 2, 3, 4, 5, 6, 7, 8, 9, 10, 11, 12, 13, 14, 15, 16, 17, 18, 19, 20, 21, 22, 23, 24, 25, 26, 27, 28, 29, 30, 31, 32, 33, 34, 35, 36, 37, 38, 39, 40, 41, 42, 43, 44, 45, 46, 47, 48, 49, 50, 51, 52, 53, 54, 55, 56, 57, 58, 59, 60, 61, 62, 63, 64, 65, 66, 67, 68, 69, 70, 71, 72, 73, 74, 75, 76, 77, 78, 79, 80, 81, 82, 83, 84, 85] (by decide +kernel) (by decide +kernel)
set_option maxRecDepth 20000 in
theorem gX4_says_X4_says : GoodIn wsX4_says (wsV RX4 95 RX4 yX4_says wsX4_says) := goodIn_app (goodIn_of _ (by decide +kernel)) ggX4_says_X4_says
set_option maxRecDepth 20000 in
theorem ggX4_says_X4_saysBoth : GoodIn wsX4_says wsX4_saysBoth := goodIn_r _ [55, 3, 1, 4, 40, 41, 42, 14, 0, 2, 5, 6, 7, 8, 9, 10, 11, 12, 13, 15, 16, 17, 18, 19, 20, 21, 22, 23, 24, 25, 26, 27, 28, 29, 30, 31, 32, 33, 34, 35, 36, 37, 38, 39, 43, 44, 45, 46, 47, 48, 49, 50, 51, 52, 53, 54, 56, 57, 58, 59, 60, 61, 62, 63, 64, 65, 66, 67, 68, 69, 70, 71, 72, 73, 74, 75, 76, 77, 78, 79, 80, 81, 82, 83, 84, 85] (by decide +kernel) (by decide +kernel)
set_option maxRecDepth 20000 in
theorem gX4_says_X4_saysBoth : GoodIn wsX4_says (wsV RX4 192 RX4 yX4_saysBoth wsX4_saysBoth) := goodIn_app (goodIn_of _ (by decide +kernel)) ggX4_says_X4_saysBoth
set_option maxRecDepth 20000 in
theorem ggX4_says_X4_saysEither : GoodIn wsX4_says wsX4_saysEither := goodIn_r _ [56, 3, 1, 4, 40, 41, 42, 14, 0, 2, 5, 6, 7, 8, 9, 10, 11, 12, 13, 15, 16, 17, 18, 19, 20, 21, 22, 23, 24, 25, 26, 27, 28, 29, 30, 31, 32, 33, 34, 35, 36, 37, 38, 39, 43, 44, 45, 46, 47, 48, 49, 50, 51, 52, 53, 54, 55, 57, 58, 59, 60, 61, 62, 63, 64, 65, 66, 67, 68, 69, 70, 71, 72, 73, 74, 75, 76, 77, 78, 79, 80, 81, 82, 83, 84, 85] (by decide +kernel) (by decide +kernel)
set_option maxRecDepth 20000 in
theorem gX4_says_X4_saysEither : GoodIn wsX4_says (wsV RX4 196 RX4 yX4_saysEither wsX4_saysEither) := goodIn_app (goodIn_of _ (by decide +kernel)) ggX4_says_X4_saysEither
set_option maxRecDepth 20000 in
theorem ggX4_says_X4_saysOften : GoodIn wsX4_says wsX4_saysOften := goodIn_r _ [62, 3, 1, 63, 4, 40, 41, 42, 14, 0, 2, 5, 6, 7, 8, 9, 10, 11, 12, 13, 15, 16, 17, 18, 19, 20, 21, 22, 23, 24, 25, 26, 27, 28, 29, 30, 31, 32, 33, 34, 35, 36, 37, 38, 39, 43, 44, 45, 46, 47, 48, 49, 50, 51, 52, 53, 54, 55, 56, 57, 58, 59, 60, 61, 64, 65, 66, 67, 68, 69, 70, 71, 72, 73, 74, 75, 76, 77, 78, 79, 80, 81, 82, 83, 84, 85] (by decide +kernel) (by decide +kernel)
set_option maxRecDepth 20000 in
theorem gX4_says_X4_saysOften : GoodIn wsX4_says (wsV RX4 199 RX4 yX4_saysOften wsX4_saysOften) := goodIn_app (goodIn_of _ (by decide +kernel)) ggX4_says_X4_saysOften
set_option maxRecDepth 20000 in
theorem ggX4_says_X4_saysElse : GoodIn wsX4_says wsX4_saysElse := goodIn_r _ [57, 3, 1, 4, 40, 41, 42, 14, 58, 59, 60, 61, 0, 2, 5, 6, 7, 8, 9, 10, 11, 12, 13, 15, 16, 17, 18, 19, 20, 21, 22, 23, 24, 25, 26, 27, 28, 29, 30, 31, 32, 33, 34, 35, 36, 37, 38, 39, 43, 44, 45, 46, 47, 48, 49, 50, 51, 52, 53, 54, 55, 56, 62, 63, 64, 65, 66, 67, 68, 69, 70, 71, 72, 73, 74, 75, 76, 77, 78, 79, 80, 81, 82, 83, 84, 85] (by decide +kernel) (by decide +kernel)
set_option maxRecDepth 20000 in
theorem gX4_says_X4_saysElse : GoodIn wsX4_says (wsV RX4 202 RX4 yX4_saysElse wsX4_saysElse) := goodIn_app (goodIn_of _ (by decide +kernel)) ggX4_says_X4_saysElse
theorem dX4_says_0 : decode cX4_says 0 = .ok (.aload_n 0, 1) := by decide +kernel
theorem dX4_says_1 : decode cX4_says 1 = .ok (.invokevirtual 160, 3) := by decide +kernel
theorem dX4_says_4 : decode cX4_says 4 = .ok (.ifCond .ne 5, 3) := by decide +kernel
theorem dX4_says_7 : decode cX4_says 7 = .ok (.iconst 0, 1) := by decide +kernel
theorem dX4_says_8 : decode cX4_says 8 = .ok (.ireturn, 1) := by decide +kernel
theorem dX4_says_9 : decode cX4_says 9 = .ok (.aload_n 0, 1) := by decide +kernel
theorem dX4_says_10 : decode cX4_says 10 = .ok (.iload_n 1, 1) := by decide +kernel
theorem dX4_says_11 : decode cX4_says 11 = .ok (.invokevirtual 85, 3) := by decide +kernel
theorem dX4_says_14 : decode cX4_says 14 = .ok (.astore_n 3, 1) := by decide +kernel
theorem dX4_says_15 : decode cX4_says 15 = .ok (.aload_n 3, 1) := by decide +kernel
theorem dX4_says_16 : decode cX4_says 16 = .ok (.ifnull 9, 3) := by decide +kernel
theorem dX4_says_19 : decode cX4_says 19 = .ok (.iload_n 2, 1) := by decide +kernel
theorem dX4_says_20 : decode cX4_says 20 = .ok (.bipush 40, 2) := by decide +kernel
theorem dX4_says_22 : decode cX4_says 22 = .ok (.if_icmp .lt 10, 3) := by decide +kernel
theorem dX4_says_25 : decode cX4_says 25 = .ok (.aload_n 0, 1) := by decide +kernel
theorem dX4_says_26 : decode cX4_says 26 = .ok (.iconst 4, 1) := by decide +kernel
theorem dX4_says_27 : decode cX4_says 27 = .ok (.putfield 105, 3) := by decide +kernel
theorem dX4_says_30 : decode cX4_says 30 = .ok (.iconst 0, 1) := by decide +kernel
theorem dX4_says_31 : decode cX4_says 31 = .ok (.ireturn, 1) := by decide +kernel
theorem dX4_says_32 : decode cX4_says 32 = .ok (.aload_n 3, 1) := by decide +kernel
theorem dX4_says_33 : decode cX4_says 33 = .ok (.getfield 164, 3) := by decide +kernel
theorem dX4_says_36 : decode cX4_says 36 = .ok (.tableswitch 180 0 8 #[52, 73, 106, 127, 133, 139, 159, 166, 173], 52) := by decide +kernel
theorem dX4_says_88 : decode cX4_says 88 = .ok (.aload_n 0, 1) := by decide +kernel
theorem dX4_says_89 : decode cX4_says 89 = .ok (.aload_n 3, 1) := by decide +kernel
theorem dX4_says_90 : decode cX4_says 90 = .ok (.getfield 167, 3) := by decide +kernel
theorem dX4_says_93 : decode cX4_says 93 = .ok (.invokevirtual 61, 3) := by decide +kernel
theorem dX4_says_96 : decode cX4_says 96 = .ok (.aload_n 3, 1) := by decide +kernel
theorem dX4_says_97 : decode cX4_says 97 = .ok (.getfield 170, 3) := by decide +kernel
theorem dX4_says_100 : decode cX4_says 100 = .ok (.if_icmp .le 7, 3) := by decide +kernel
theorem dX4_says_103 : decode cX4_says 103 = .ok (.iconst 1, 1) := by decide +kernel
theorem dX4_says_104 : decode cX4_says 104 = .ok (.goto 4, 3) := by decide +kernel
theorem dX4_says_107 : decode cX4_says 107 = .ok (.iconst 0, 1) := by decide +kernel
theorem dX4_says_108 : decode cX4_says 108 = .ok (.ireturn, 1) := by decide +kernel
theorem dX4_says_109 : decode cX4_says 109 = .ok (.aload_n 0, 1) := by decide +kernel
theorem dX4_says_110 : decode cX4_says 110 = .ok (.aload_n 3, 1) := by decide +kernel
theorem dX4_says_111 : decode cX4_says 111 = .ok (.getfield 167, 3) := by decide +kernel
theorem dX4_says_114 : decode cX4_says 114 = .ok (.invokevirtual 61, 3) := by decide +kernel
theorem dX4_says_117 : decode cX4_says 117 = .ok (.i2l, 1) := by decide +kernel
theorem dX4_says_118 : decode cX4_says 118 = .ok (.aload_n 3, 1) := by decide +kernel
theorem dX4_says_119 : decode cX4_says 119 = .ok (.getfield 170, 3) := by decide +kernel
theorem dX4_says_122 : decode cX4_says 122 = .ok (.i2l, 1) := by decide +kernel
theorem dX4_says_123 : decode cX4_says 123 = .ok (.lsub, 1) := by decide +kernel
theorem dX4_says_124 : decode cX4_says 124 = .ok (.invokestatic 173, 3) := by decide +kernel
theorem dX4_says_127 : decode cX4_says 127 = .ok (.aload_n 3, 1) := by decide +kernel
theorem dX4_says_128 : decode cX4_says 128 = .ok (.getfield 179, 3) := by decide +kernel
theorem dX4_says_131 : decode cX4_says 131 = .ok (.i2l, 1) := by decide +kernel
theorem dX4_says_132 : decode cX4_says 132 = .ok (.lcmp, 1) := by decide +kernel
theorem dX4_says_133 : decode cX4_says 133 = .ok (.ifCond .gt 7, 3) := by decide +kernel
theorem dX4_says_136 : decode cX4_says 136 = .ok (.iconst 1, 1) := by decide +kernel
theorem dX4_says_137 : decode cX4_says 137 = .ok (.goto 4, 3) := by decide +kernel
theorem dX4_says_140 : decode cX4_says 140 = .ok (.iconst 0, 1) := by decide +kernel
theorem dX4_says_141 : decode cX4_says 141 = .ok (.ireturn, 1) := by decide +kernel
theorem dX4_says_142 : decode cX4_says 142 = .ok (.aload_n 0, 1) := by decide +kernel
theorem dX4_says_143 : decode cX4_says 143 = .ok (.aload_n 3, 1) := by decide +kernel
theorem dX4_says_144 : decode cX4_says 144 = .ok (.getfield 167, 3) := by decide +kernel
theorem dX4_says_147 : decode cX4_says 147 = .ok (.invokevirtual 61, 3) := by decide +kernel
theorem dX4_says_150 : decode cX4_says 150 = .ok (.aload_n 3, 1) := by decide +kernel
theorem dX4_says_151 : decode cX4_says 151 = .ok (.getfield 182, 3) := by decide +kernel
theorem dX4_says_154 : decode cX4_says 154 = .ok (.if_icmp .eq 7, 3) := by decide +kernel
theorem dX4_says_157 : decode cX4_says 157 = .ok (.iconst 1, 1) := by decide +kernel
theorem dX4_says_158 : decode cX4_says 158 = .ok (.goto 4, 3) := by decide +kernel
theorem dX4_says_161 : decode cX4_says 161 = .ok (.iconst 0, 1) := by decide +kernel
theorem dX4_says_162 : decode cX4_says 162 = .ok (.ireturn, 1) := by decide +kernel
theorem dX4_says_163 : decode cX4_says 163 = .ok (.aload_n 0, 1) := by decide +kernel
theorem dX4_says_164 : decode cX4_says 164 = .ok (.aload_n 3, 1) := by decide +kernel
theorem dX4_says_165 : decode cX4_says 165 = .ok (.invokevirtual 185, 3) := by decide +kernel
theorem dX4_says_168 : decode cX4_says 168 = .ok (.ireturn, 1) := by decide +kernel
theorem dX4_says_169 : decode cX4_says 169 = .ok (.aload_n 0, 1) := by decide +kernel
theorem dX4_says_170 : decode cX4_says 170 = .ok (.aload_n 3, 1) := by decide +kernel
theorem dX4_says_171 : decode cX4_says 171 = .ok (.invokevirtual 189, 3) := by decide +kernel
theorem dX4_says_174 : decode cX4_says 174 = .ok (.ireturn, 1) := by decide +kernel
theorem dX4_says_175 : decode cX4_says 175 = .ok (.aload_n 0, 1) := by decide +kernel
theorem dX4_says_176 : decode cX4_says 176 = .ok (.aload_n 3, 1) := by decide +kernel
theorem dX4_says_177 : decode cX4_says 177 = .ok (.getfield 167, 3) := by decide +kernel
theorem dX4_says_180 : decode cX4_says 180 = .ok (.iload_n 2, 1) := by decide +kernel
theorem dX4_says_181 : decode cX4_says 181 = .ok (.iconst 1, 1) := by decide +kernel
theorem dX4_says_182 : decode cX4_says 182 = .ok (.iadd, 1) := by decide +kernel
theorem dX4_says_183 : decode cX4_says 183 = .ok (.invokevirtual 95, 3) := by decide +kernel
theorem dX4_says_186 : decode cX4_says 186 = .ok (.ifCond .ne 7, 3) := by decide +kernel
theorem dX4_says_189 : decode cX4_says 189 = .ok (.iconst 1, 1) := by decide +kernel
theorem dX4_says_190 : decode cX4_says 190 = .ok (.goto 4, 3) := by decide +kernel
theorem dX4_says_193 : decode cX4_says 193 = .ok (.iconst 0, 1) := by decide +kernel
theorem dX4_says_194 : decode cX4_says 194 = .ok (.ireturn, 1) := by decide +kernel
theorem dX4_says_195 : decode cX4_says 195 = .ok (.aload_n 0, 1) := by decide +kernel
theorem dX4_says_196 : decode cX4_says 196 = .ok (.aload_n 3, 1) := by decide +kernel
theorem dX4_says_197 : decode cX4_says 197 = .ok (.iload_n 2, 1) := by decide +kernel
theorem dX4_says_198 : decode cX4_says 198 = .ok (.invokevirtual 192, 3) := by decide +kernel
theorem dX4_says_201 : decode cX4_says 201 = .ok (.ireturn, 1) := by decide +kernel
theorem dX4_says_202 : decode cX4_says 202 = .ok (.aload_n 0, 1) := by decide +kernel
theorem dX4_says_203 : decode cX4_says 203 = .ok (.aload_n 3, 1) := by decide +kernel
theorem dX4_says_204 : decode cX4_says 204 = .ok (.iload_n 2, 1) := by decide +kernel
theorem dX4_says_205 : decode cX4_says 205 = .ok (.invokevirtual 196, 3) := by decide +kernel
theorem dX4_says_208 : decode cX4_says 208 = .ok (.ireturn, 1) := by decide +kernel
theorem dX4_says_209 : decode cX4_says 209 = .ok (.aload_n 0, 1) := by decide +kernel
theorem dX4_says_210 : decode cX4_says 210 = .ok (.aload_n 3, 1) := by decide +kernel
theorem dX4_says_211 : decode cX4_says 211 = .ok (.iload_n 2, 1) := by decide +kernel
theorem dX4_says_212 : decode cX4_says 212 = .ok (.invokevirtual 199, 3) := by decide +kernel
theorem dX4_says_215 : decode cX4_says 215 = .ok (.ireturn, 1) := by decide +kernel
theorem dX4_says_216 : decode cX4_says 216 = .ok (.aload_n 0, 1) := by decide +kernel
theorem dX4_says_217 : decode cX4_says 217 = .ok (.aload_n 3, 1) := by decide +kernel
