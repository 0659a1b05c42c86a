theorem dX5_act_133 : decode cX5_act 133 = .ok (.iconst 1, 1) := by decide +kernel
theorem dX5_act_134 : decode cX5_act 134 = .ok (.isub, 1) := by decide +kernel
theorem dX5_act_135 : decode cX5_act 135 = .ok (.goto 4, 3) := by decide +kernel
theorem dX5_act_138 : decode cX5_act 138 = .ok (.iload_n 2, 1) := by decide +kernel
theorem dX5_act_139 : decode cX5_act 139 = .ok (.iastore, 1) := by decide +kernel
theorem dX5_act_140 : decode cX5_act 140 = .ok (.aload_n 0, 1) := by decide +kernel
theorem dX5_act_141 : decode cX5_act 141 = .ok (.getfield 37, 3) := by decide +kernel
theorem dX5_act_144 : decode cX5_act 144 = .ok (.aload_n 0, 1) := by decide +kernel
theorem dX5_act_145 : decode cX5_act 145 = .ok (.getfield 95, 3) := by decide +kernel
theorem dX5_act_148 : decode cX5_act 148 = .ok (.iload_n 3, 1) := by decide +kernel
theorem dX5_act_149 : decode cX5_act 149 = .ok (.iastore, 1) := by decide +kernel
theorem dX5_act_150 : decode cX5_act 150 = .ok (.aload_n 0, 1) := by decide +kernel
theorem dX5_act_151 : decode cX5_act 151 = .ok (.getfield 40, 3) := by decide +kernel
theorem dX5_act_154 : decode cX5_act 154 = .ok (.aload_n 0, 1) := by decide +kernel
theorem dX5_act_155 : decode cX5_act 155 = .ok (.getfield 95, 3) := by decide +kernel
theorem dX5_act_158 : decode cX5_act 158 = .ok (.iload 4, 2) := by decide +kernel
theorem dX5_act_160 : decode cX5_act 160 = .ok (.iastore, 1) := by decide +kernel
theorem dX5_act_161 : decode cX5_act 161 = .ok (.aload_n 0, 1) := by decide +kernel
theorem dX5_act_162 : decode cX5_act 162 = .ok (.dup, 1) := by decide +kernel
theorem dX5_act_163 : decode cX5_act 163 = .ok (.getfield 95, 3) := by decide +kernel
theorem dX5_act_166 : decode cX5_act 166 = .ok (.iconst 1, 1) := by decide +kernel
theorem dX5_act_167 : decode cX5_act 167 = .ok (.iadd, 1) := by decide +kernel
theorem dX5_act_168 : decode cX5_act 168 = .ok (.putfield 95, 3) := by decide +kernel
theorem dX5_act_171 : decode cX5_act 171 = .ok (.aload_n 0, 1) := by decide +kernel
theorem dX5_act_172 : decode cX5_act 172 = .ok (.getfield 95, 3) := by decide +kernel
theorem dX5_act_175 : decode cX5_act 175 = .ok (.iconst 1, 1) := by decide +kernel
theorem dX5_act_176 : decode cX5_act 176 = .ok (.isub, 1) := by decide +kernel
theorem dX5_act_177 : decode cX5_act 177 = .ok (.ireturn, 1) := by decide +kernel
theorem dX5_call_0 : decode cX5_call 0 = .ok (.aload_n 0, 1) := by decide +kernel
theorem dX5_call_1 : decode cX5_call 1 = .ok (.getfield 111, 3) := by decide +kernel
theorem dX5_call_4 : decode cX5_call 4 = .ok (.sipush 300, 3) := by decide +kernel
theorem dX5_call_7 : decode cX5_call 7 = .ok (.if_icmp .ne 14, 3) := by decide +kernel
theorem dX5_call_10 : decode cX5_call 10 = .ok (.aload_n 0, 1) := by decide +kernel
theorem dX5_call_11 : decode cX5_call 11 = .ok (.iconst 1, 1) := by decide +kernel
theorem dX5_call_12 : decode cX5_call 12 = .ok (.putfield 114, 3) := by decide +kernel
theorem dX5_call_15 : decode cX5_call 15 = .ok (.aload_n 0, 1) := by decide +kernel
theorem dX5_call_16 : decode cX5_call 16 = .ok (.iconst 5, 1) := by decide +kernel
theorem dX5_call_17 : decode cX5_call 17 = .ok (.putfield 118, 3) := by decide +kernel
theorem dX5_call_20 : decode cX5_call 20 = .ok (.return_, 1) := by decide +kernel
theorem dX5_call_21 : decode cX5_call 21 = .ok (.aload_n 0, 1) := by decide +kernel
theorem dX5_call_22 : decode cX5_call 22 = .ok (.dup, 1) := by decide +kernel
theorem dX5_call_23 : decode cX5_call 23 = .ok (.getfield 111, 3) := by decide +kernel
theorem dX5_call_26 : decode cX5_call 26 = .ok (.iconst 1, 1) := by decide +kernel
theorem dX5_call_27 : decode cX5_call 27 = .ok (.iadd, 1) := by decide +kernel
theorem dX5_call_28 : decode cX5_call 28 = .ok (.putfield 111, 3) := by decide +kernel
theorem dX5_call_31 : decode cX5_call 31 = .ok (.aload_n 0, 1) := by decide +kernel
theorem dX5_call_32 : decode cX5_call 32 = .ok (.getfield 58, 3) := by decide +kernel
theorem dX5_call_35 : decode cX5_call 35 = .ok (.aload_n 0, 1) := by decide +kernel
theorem dX5_call_36 : decode cX5_call 36 = .ok (.getfield 121, 3) := by decide +kernel
theorem dX5_call_39 : decode cX5_call 39 = .ok (.iload_n 1, 1) := by decide +kernel
theorem dX5_call_40 : decode cX5_call 40 = .ok (.iastore, 1) := by decide +kernel
theorem dX5_call_41 : decode cX5_call 41 = .ok (.aload_n 0, 1) := by decide +kernel
theorem dX5_call_42 : decode cX5_call 42 = .ok (.getfield 61, 3) := by decide +kernel
theorem dX5_call_45 : decode cX5_call 45 = .ok (.aload_n 0, 1) := by decide +kernel
theorem dX5_call_46 : decode cX5_call 46 = .ok (.getfield 121, 3) := by decide +kernel
theorem dX5_call_49 : decode cX5_call 49 = .ok (.iload_n 2, 1) := by decide +kernel
theorem dX5_call_50 : decode cX5_call 50 = .ok (.iastore, 1) := by decide +kernel
theorem dX5_call_51 : decode cX5_call 51 = .ok (.aload_n 0, 1) := by decide +kernel
theorem dX5_call_52 : decode cX5_call 52 = .ok (.getfield 64, 3) := by decide +kernel
theorem dX5_call_55 : decode cX5_call 55 = .ok (.aload_n 0, 1) := by decide +kernel
theorem dX5_call_56 : decode cX5_call 56 = .ok (.getfield 121, 3) := by decide +kernel
theorem dX5_call_59 : decode cX5_call 59 = .ok (.iconst 0, 1) := by decide +kernel
theorem dX5_call_60 : decode cX5_call 60 = .ok (.iastore, 1) := by decide +kernel
theorem dX5_call_61 : decode cX5_call 61 = .ok (.aload_n 0, 1) := by decide +kernel
theorem dX5_call_62 : decode cX5_call 62 = .ok (.iconst 0, 1) := by decide +kernel
theorem dX5_call_63 : decode cX5_call 63 = .ok (.putfield 114, 3) := by decide +kernel
theorem dX5_call_66 : decode cX5_call 66 = .ok (.aload_n 0, 1) := by decide +kernel
theorem dX5_call_67 : decode cX5_call 67 = .ok (.dup, 1) := by decide +kernel
theorem dX5_call_68 : decode cX5_call 68 = .ok (.getfield 121, 3) := by decide +kernel
theorem dX5_call_71 : decode cX5_call 71 = .ok (.iconst 1, 1) := by decide +kernel
theorem dX5_call_72 : decode cX5_call 72 = .ok (.iadd, 1) := by decide +kernel
theorem dX5_call_73 : decode cX5_call 73 = .ok (.putfield 121, 3) := by decide +kernel
theorem dX5_call_76 : decode cX5_call 76 = .ok (.return_, 1) := by decide +kernel
theorem dX5_ends_0 : decode cX5_ends 0 = .ok (.aload_n 0, 1) := by decide +kernel
theorem dX5_ends_1 : decode cX5_ends 1 = .ok (.dup, 1) := by decide +kernel
theorem dX5_ends_2 : decode cX5_ends 2 = .ok (.getfield 121, 3) := by decide +kernel
theorem dX5_ends_5 : decode cX5_ends 5 = .ok (.iconst 1, 1) := by decide +kernel
theorem dX5_ends_6 : decode cX5_ends 6 = .ok (.isub, 1) := by decide +kernel
theorem dX5_ends_7 : decode cX5_ends 7 = .ok (.putfield 121, 3) := by decide +kernel
theorem dX5_ends_10 : decode cX5_ends 10 = .ok (.aload_n 0, 1) := by decide +kernel
theorem dX5_ends_11 : decode cX5_ends 11 = .ok (.iconst 1, 1) := by decide +kernel
theorem dX5_ends_12 : decode cX5_ends 12 = .ok (.putfield 114, 3) := by decide +kernel
theorem dX5_ends_15 : decode cX5_ends 15 = .ok (.aload_n 0, 1) := by decide +kernel
theorem dX5_ends_16 : decode cX5_ends 16 = .ok (.iload_n 1, 1) := by decide +kernel
theorem dX5_ends_17 : decode cX5_ends 17 = .ok (.putfield 124, 3) := by decide +kernel
theorem dX5_ends_20 : decode cX5_ends 20 = .ok (.aload_n 0, 1) := by decide +kernel
theorem dX5_ends_21 : decode cX5_ends 21 = .ok (.iconst 0, 1) := by decide +kernel
theorem dX5_ends_22 : decode cX5_ends 22 = .ok (.putfield 118, 3) := by decide +kernel
theorem dX5_ends_25 : decode cX5_ends 25 = .ok (.return_, 1) := by decide +kernel
theorem dX5_fails_0 : decode cX5_fails 0 = .ok (.aload_n 0, 1) := by decide +kernel
theorem dX5_fails_1 : decode cX5_fails 1 = .ok (.dup, 1) := by decide +kernel
theorem dX5_fails_2 : decode cX5_fails 2 = .ok (.getfield 121, 3) := by decide +kernel
theorem dX5_fails_5 : decode cX5_fails 5 = .ok (.iconst 1, 1) := by decide +kernel
theorem dX5_fails_6 : decode cX5_fails 6 = .ok (.isub, 1) := by decide +kernel
theorem dX5_fails_7 : decode cX5_fails 7 = .ok (.putfield 121, 3) := by decide +kernel
theorem dX5_fails_10 : decode cX5_fails 10 = .ok (.aload_n 0, 1) := by decide +kernel
theorem dX5_fails_11 : decode cX5_fails 11 = .ok (.iconst 1, 1) := by decide +kernel
theorem dX5_fails_12 : decode cX5_fails 12 = .ok (.putfield 114, 3) := by decide +kernel
theorem dX5_fails_15 : decode cX5_fails 15 = .ok (.aload_n 0, 1) := by decide +kernel
theorem dX5_fails_16 : decode cX5_fails 16 = .ok (.iconst 0, 1) := by decide +kernel
theorem dX5_fails_17 : decode cX5_fails 17 = .ok (.putfield 124, 3) := by decide +kernel
theorem dX5_fails_20 : decode cX5_fails 20 = .ok (.aload_n 0, 1) := by decide +kernel
theorem dX5_fails_21 : decode cX5_fails 21 = .ok (.iload_n 1, 1) := by decide +kernel
theorem dX5_fails_22 : decode cX5_fails 22 = .ok (.putfield 118, 3) := by decide +kernel
theorem dX5_fails_25 : decode cX5_fails 25 = .ok (.return_, 1) := by decide +kernel
set_option maxRecDepth 20000 in
theorem ggX5_goOn_X5_call : GoodIn wsX5_goOn wsX5_call := goodIn_r _ [6, 7, 8, 9, 10, 11, 12, 1, 13, 14, 15, 16, 17, 18, 19, 20, 21, 22, 23, 24, 25, 26, 27, 28, 29, 30, 31, 32, 33, 34, 35, 36, 37, 38, 39, 40, 41, 42, 43, 44, 45, 46, 47, 48] (by decide +kernel) (by decide +kernel)
set_option maxRecDepth 20000 in
theorem gX5_goOn_X5_call : GoodIn wsX5_goOn (wsV RX5 127 RX5 yX5_call wsX5_call) := goodIn_app (goodIn_of _ (by decide +kernel)) ggX5_goOn_X5_call
theorem dX5_goOn_0 : decode cX5_goOn 0 = .ok (.aload_n 0, 1) := by decide +kernel
theorem dX5_goOn_1 : decode cX5_goOn 1 = .ok (.getfield 64, 3) := by decide +kernel
theorem dX5_goOn_4 : decode cX5_goOn 4 = .ok (.iload_n 1, 1) := by decide +kernel
theorem dX5_goOn_5 : decode cX5_goOn 5 = .ok (.aload_n 0, 1) := by decide +kernel
theorem dX5_goOn_6 : decode cX5_goOn 6 = .ok (.getfield 64, 3) := by decide +kernel
theorem dX5_goOn_9 : decode cX5_goOn 9 = .ok (.iload_n 1, 1) := by decide +kernel
theorem dX5_goOn_10 : decode cX5_goOn 10 = .ok (.iaload, 1) := by decide +kernel
theorem dX5_goOn_11 : decode cX5_goOn 11 = .ok (.iconst 1, 1) := by decide +kernel
theorem dX5_goOn_12 : decode cX5_goOn 12 = .ok (.iadd, 1) := by decide +kernel
theorem dX5_goOn_13 : decode cX5_goOn 13 = .ok (.iastore, 1) := by decide +kernel
theorem dX5_goOn_14 : decode cX5_goOn 14 = .ok (.aload_n 0, 1) := by decide +kernel
theorem dX5_goOn_15 : decode cX5_goOn 15 = .ok (.iload_n 2, 1) := by decide +kernel
theorem dX5_goOn_16 : decode cX5_goOn 16 = .ok (.iload_n 3, 1) := by decide +kernel
theorem dX5_goOn_17 : decode cX5_goOn 17 = .ok (.invokevirtual 127, 3) := by decide +kernel
theorem dX5_goOn_20 : decode cX5_goOn 20 = .ok (.return_, 1) := by decide +kernel
set_option maxRecDepth 20000 in
theorem ggX5_go_X5_call : GoodIn wsX5_go wsX5_call := goodIn_r _ [10, 2, 11, 12, 3, 1, 4, 13, 75, 76, 77, 78, 79, 80, 81, 82, 83, 84, 85, 86, 87, 88, 89, 90, 91, 92, 93, 94, 95, 96, 97, 98, 99, 100, 101, 102, 103, 104, 105, 106, 107, 108, 109, 110] (by decide +kernel) (by decide +kernel)
set_option maxRecDepth 20000 in
theorem gX5_go_X5_call : GoodIn wsX5_go (wsV RX5 127 RX5 yX5_call wsX5_call) := goodIn_app (goodIn_of _ (by decide +kernel)) ggX5_go_X5_call
set_option maxRecDepth 20000 in
theorem ggX5_go_X5_goRule : GoodIn wsX5_go wsX5_goRule := goodIn_r _ [17, 18, 13, 19, 12, 20, 21, 22, 23, 24, 25, 9, 26, 27, 28, 29, 30, 31, 32, 1, 11, 33, 34, 35, 36, 37, 38, 39, 40, 41, 42, 43, 44, 45, 46, 6, 7, 8, 10, 2, 3, 4, 47, 48, 49, 50, 75, 76, 77, 78, 79, 80, 81, 82, 83, 84, 85, 86, 87, 88, 89, 90, 91, 92, 93, 94, 95, 96, 97, 98, 99, 100, 101, 102, 103, 104, 105, 106, 107, 108, 109, 110] (by decide +kernel) (by decide +kernel)
set_option maxRecDepth 20000 in
theorem gX5_go_X5_goRule : GoodIn wsX5_go (wsV RX5 131 RX5 yX5_goRule wsX5_goRule) := goodIn_app (goodIn_of _ (by decide +kernel)) ggX5_go_X5_goRule
set_option maxRecDepth 20000 in
theorem ggX5_go_X5_goAct : GoodIn wsX5_go wsX5_goAct := goodIn_r _ [54, 13, 55, 12, 56, 57, 58, 21, 59, 60, 61, 62, 63, 64, 65, 9, 66, 67, 2, 27, 33, 34, 35, 36, 1, 11, 29, 30, 31, 32, 43, 44, 45, 46, 6, 7, 8, 10, 3, 4, 68, 69, 70, 71, 72, 73, 74, 47, 48, 49, 50, 75, 76, 77, 78, 79, 80, 81, 82, 83, 84, 85, 86, 87, 88, 89, 90, 91, 92, 93, 94, 95, 96, 97, 98, 99, 100, 101, 102, 103, 104, 105, 106, 107, 108, 109, 110] (by decide +kernel) (by decide +kernel)
set_option maxRecDepth 20000 in
theorem gX5_go_X5_goAct : GoodIn wsX5_go (wsV RX5 134 RX5 yX5_goAct wsX5_goAct) := goodIn_app (goodIn_of _ (by decide +kernel)) ggX5_go_X5_goAct
theorem dX5_go_0 : decode cX5_go 0 = .ok (.aload_n 0, 1) := by decide +kernel
theorem dX5_go_1 : decode cX5_go 1 = .ok (.iconst 0, 1) := by decide +kernel
theorem dX5_go_2 : decode cX5_go 2 = .ok (.putfield 121, 3) := by decide +kernel
theorem dX5_go_5 : decode cX5_go 5 = .ok (.aload_n 0, 1) := by decide +kernel
theorem dX5_go_6 : decode cX5_go 6 = .ok (.iconst 0, 1) := by decide +kernel
theorem dX5_go_7 : decode cX5_go 7 = .ok (.putfield 111, 3) := by decide +kernel
theorem dX5_go_10 : decode cX5_go 10 = .ok (.aload_n 0, 1) := by decide +kernel
theorem dX5_go_11 : decode cX5_go 11 = .ok (.iload_n 1, 1) := by decide +kernel
theorem dX5_go_12 : decode cX5_go 12 = .ok (.iload_n 2, 1) := by decide +kernel
theorem dX5_go_13 : decode cX5_go 13 = .ok (.invokevirtual 127, 3) := by decide +kernel
theorem dX5_go_16 : decode cX5_go 16 = .ok (.aload_n 0, 1) := by decide +kernel
theorem dX5_go_17 : decode cX5_go 17 = .ok (.getfield 121, 3) := by decide +kernel
theorem dX5_go_20 : decode cX5_go 20 = .ok (.ifCond .le 47, 3) := by decide +kernel
theorem dX5_go_23 : decode cX5_go 23 = .ok (.aload_n 0, 1) := by decide +kernel
theorem dX5_go_24 : decode cX5_go 24 = .ok (.getfield 121, 3) := by decide +kernel
theorem dX5_go_27 : decode cX5_go 27 = .ok (.iconst 1, 1) := by decide +kernel
theorem dX5_go_28 : decode cX5_go 28 = .ok (.isub, 1) := by decide +kernel
theorem dX5_go_29 : decode cX5_go 29 = .ok (.istore_n 3, 1) := by decide +kernel
theorem dX5_go_30 : decode cX5_go 30 = .ok (.aload_n 0, 1) := by decide +kernel
theorem dX5_go_31 : decode cX5_go 31 = .ok (.getfield 58, 3) := by decide +kernel
theorem dX5_go_34 : decode cX5_go 34 = .ok (.iload_n 3, 1) := by decide +kernel
theorem dX5_go_35 : decode cX5_go 35 = .ok (.iaload, 1) := by decide +kernel
theorem dX5_go_36 : decode cX5_go 36 = .ok (.ifCond .ne 17, 3) := by decide +kernel
theorem dX5_go_39 : decode cX5_go 39 = .ok (.aload_n 0, 1) := by decide +kernel
theorem dX5_go_40 : decode cX5_go 40 = .ok (.iload_n 3, 1) := by decide +kernel
theorem dX5_go_41 : decode cX5_go 41 = .ok (.aload_n 0, 1) := by decide +kernel
theorem dX5_go_42 : decode cX5_go 42 = .ok (.getfield 61, 3) := by decide +kernel
theorem dX5_go_45 : decode cX5_go 45 = .ok (.iload_n 3, 1) := by decide +kernel
theorem dX5_go_46 : decode cX5_go 46 = .ok (.iaload, 1) := by decide +kernel
theorem dX5_go_47 : decode cX5_go 47 = .ok (.invokevirtual 131, 3) := by decide +kernel
theorem dX5_go_50 : decode cX5_go 50 = .ok (.goto 14, 3) := by decide +kernel
theorem dX5_go_53 : decode cX5_go 53 = .ok (.aload_n 0, 1) := by decide +kernel
theorem dX5_go_54 : decode cX5_go 54 = .ok (.iload_n 3, 1) := by decide +kernel
theorem dX5_go_55 : decode cX5_go 55 = .ok (.aload_n 0, 1) := by decide +kernel
theorem dX5_go_56 : decode cX5_go 56 = .ok (.getfield 61, 3) := by decide +kernel
theorem dX5_go_59 : decode cX5_go 59 = .ok (.iload_n 3, 1) := by decide +kernel
theorem dX5_go_60 : decode cX5_go 60 = .ok (.iaload, 1) := by decide +kernel
theorem dX5_go_61 : decode cX5_go 61 = .ok (.invokevirtual 134, 3) := by decide +kernel
theorem dX5_go_64 : decode cX5_go 64 = .ok (.goto (-48), 3) := by decide +kernel
theorem dX5_go_67 : decode cX5_go 67 = .ok (.aload_n 0, 1) := by decide +kernel
theorem dX5_go_68 : decode cX5_go 68 = .ok (.dup, 1) := by decide +kernel
theorem dX5_go_69 : decode cX5_go 69 = .ok (.getfield 137, 3) := by decide +kernel
theorem dX5_go_72 : decode cX5_go 72 = .ok (.aload_n 0, 1) := by decide +kernel
theorem dX5_go_73 : decode cX5_go 73 = .ok (.getfield 111, 3) := by decide +kernel
theorem dX5_go_76 : decode cX5_go 76 = .ok (.iadd, 1) := by decide +kernel
theorem dX5_go_77 : decode cX5_go 77 = .ok (.putfield 137, 3) := by decide +kernel
theorem dX5_go_80 : decode cX5_go 80 = .ok (.return_, 1) := by decide +kernel
theorem dX5_passes_0 : decode cX5_passes 0 = .ok (.aload_n 0, 1) := by decide +kernel
theorem dX5_passes_1 : decode cX5_passes 1 = .ok (.dup, 1) := by decide +kernel
theorem dX5_passes_2 : decode cX5_passes 2 = .ok (.getfield 121, 3) := by decide +kernel
theorem dX5_passes_5 : decode cX5_passes 5 = .ok (.iconst 1, 1) := by decide +kernel
theorem dX5_passes_6 : decode cX5_passes 6 = .ok (.isub, 1) := by decide +kernel
theorem dX5_passes_7 : decode cX5_passes 7 = .ok (.putfield 121, 3) := by decide +kernel
theorem dX5_passes_10 : decode cX5_passes 10 = .ok (.return_, 1) := by decide +kernel
set_option maxRecDepth 20000 in
theorem ggX5_goRule_X5_says : GoodIn wsX5_goRule wsX5_says := goodIn_r _ [12, 5, 13, 3, 14, 7, 15, 16, 17, 11, 18, 19, 20, 6, 4, 21, 22, 23, 24, 25, 26, 27, 28, 29, 30, 46, 47, 48, 49, 50, 51, 52, 53, 54, 55, 56, 57, 58, 59, 60, 61, 62, 63, 64, 65, 66, 67, 68, 69, 70, 71, 72, 73, 74, 75, 76, 77, 78, 79, 80, 81] (by decide +kernel) (by decide +kernel)
set_option maxRecDepth 20000 in
theorem gX5_goRule_X5_says : GoodIn wsX5_goRule (wsV RX5 140 RX5 yX5_says wsX5_says) := goodIn_app (goodIn_of _ (by decide +kernel)) ggX5_goRule_X5_says
set_option maxRecDepth 20000 in
theorem ggX5_goRule_X5_goOn : GoodIn wsX5_goRule wsX5_goOn := goodIn_r _ [34, 2, 35, 36, 37, 11, 38, 39, 20, 4, 40, 19, 41, 46, 47, 48, 49, 50, 51, 52, 53, 54, 55, 56, 57, 58, 59, 60, 61, 62, 63, 64, 65, 66, 67, 68, 69, 70, 71, 72, 73, 74, 75, 76, 77, 78, 79, 80, 81] (by decide +kernel) (by decide +kernel)
set_option maxRecDepth 20000 in
theorem gX5_goRule_X5_goOn : GoodIn wsX5_goRule (wsV RX5 143 RX5 yX5_goOn wsX5_goOn) := goodIn_app (goodIn_of _ (by decide +kernel)) ggX5_goRule_X5_goOn
set_option maxRecDepth 20000 in
theorem ggX5_goRule_X5_passes : GoodIn wsX5_goRule wsX5_passes := goodIn_r _ [45, 19, 46, 47, 48, 49, 50, 51, 52, 53, 54, 55, 56, 57, 58, 59, 60, 61, 62, 63, 64, 65, 66, 67, 68, 69, 70, 71, 72, 73, 74, 75, 76, 77, 78, 79, 80, 81] (by decide +kernel) (by decide +kernel)
set_option maxRecDepth 20000 in
theorem gX5_goRule_X5_passes : GoodIn wsX5_goRule (wsV RX5 147 RX5 yX5_passes wsX5_passes) := goodIn_app (goodIn_of _ (by decide +kernel)) ggX5_goRule_X5_passes
set_option maxRecDepth 20000 in
theorem ggX5_goRule_X5_ends : GoodIn wsX5_goRule wsX5_ends := goodIn_r _ [18, 19, 20, 6, 4, 46, 47, 48, 49, 50, 51, 52, 53, 54, 55, 56, 57, 58, 59, 60, 61, 62, 63, 64, 65, 66, 67, 68, 69, 70, 71, 72, 73, 74, 75, 76, 77, 78, 79, 80, 81] (by decide +kernel) (by decide +kernel)
set_option maxRecDepth 20000 in
theorem gX5_goRule_X5_ends : GoodIn wsX5_goRule (wsV RX5 150 RX5 yX5_ends wsX5_ends) := goodIn_app (goodIn_of _ (by decide +kernel)) ggX5_goRule_X5_ends
theorem dX5_goRule_0 : decode cX5_goRule 0 = .ok (.aload_n 0, 1) := by decide +kernel
theorem dX5_goRule_1 : decode cX5_goRule 1 = .ok (.getfield 19, 3) := by decide +kernel
theorem dX5_goRule_4 : decode cX5_goRule 4 = .ok (.iload_n 2, 1) := by decide +kernel
theorem dX5_goRule_5 : decode cX5_goRule 5 = .ok (.iaload, 1) := by decide +kernel
theorem dX5_goRule_6 : decode cX5_goRule 6 = .ok (.istore_n 3, 1) := by decide +kernel
theorem dX5_goRule_7 : decode cX5_goRule 7 = .ok (.aload_n 0, 1) := by decide +kernel
theorem dX5_goRule_8 : decode cX5_goRule 8 = .ok (.getfield 64, 3) := by decide +kernel
theorem dX5_goRule_11 : decode cX5_goRule 11 = .ok (.iload_n 1, 1) := by decide +kernel
theorem dX5_goRule_12 : decode cX5_goRule 12 = .ok (.iaload, 1) := by decide +kernel
theorem dX5_goRule_13 : decode cX5_goRule 13 = .ok (.ifCond .ne 30, 3) := by decide +kernel
theorem dX5_goRule_16 : decode cX5_goRule 16 = .ok (.aload_n 0, 1) := by decide +kernel
theorem dX5_goRule_17 : decode cX5_goRule 17 = .ok (.getfield 16, 3) := by decide +kernel
theorem dX5_goRule_20 : decode cX5_goRule 20 = .ok (.iload_n 2, 1) := by decide +kernel
theorem dX5_goRule_21 : decode cX5_goRule 21 = .ok (.iaload, 1) := by decide +kernel
theorem dX5_goRule_22 : decode cX5_goRule 22 = .ok (.iconst 5, 1) := by decide +kernel
theorem dX5_goRule_23 : decode cX5_goRule 23 = .ok (.if_icmp .ge 12, 3) := by decide +kernel
theorem dX5_goRule_26 : decode cX5_goRule 26 = .ok (.aload_n 0, 1) := by decide +kernel
theorem dX5_goRule_27 : decode cX5_goRule 27 = .ok (.iload_n 2, 1) := by decide +kernel
theorem dX5_goRule_28 : decode cX5_goRule 28 = .ok (.iload_n 3, 1) := by decide +kernel
theorem dX5_goRule_29 : decode cX5_goRule 29 = .ok (.invokevirtual 140, 3) := by decide +kernel
theorem dX5_goRule_32 : decode cX5_goRule 32 = .ok (.goto 10, 3) := by decide +kernel
theorem dX5_goRule_35 : decode cX5_goRule 35 = .ok (.aload_n 0, 1) := by decide +kernel
theorem dX5_goRule_36 : decode cX5_goRule 36 = .ok (.iload_n 1, 1) := by decide +kernel
theorem dX5_goRule_37 : decode cX5_goRule 37 = .ok (.iconst 0, 1) := by decide +kernel
theorem dX5_goRule_38 : decode cX5_goRule 38 = .ok (.iload_n 3, 1) := by decide +kernel
theorem dX5_goRule_39 : decode cX5_goRule 39 = .ok (.invokevirtual 143, 3) := by decide +kernel
theorem dX5_goRule_42 : decode cX5_goRule 42 = .ok (.return_, 1) := by decide +kernel
theorem dX5_goRule_43 : decode cX5_goRule 43 = .ok (.aload_n 0, 1) := by decide +kernel
theorem dX5_goRule_44 : decode cX5_goRule 44 = .ok (.getfield 64, 3) := by decide +kernel
theorem dX5_goRule_47 : decode cX5_goRule 47 = .ok (.iload_n 1, 1) := by decide +kernel
theorem dX5_goRule_48 : decode cX5_goRule 48 = .ok (.iaload, 1) := by decide +kernel
theorem dX5_goRule_49 : decode cX5_goRule 49 = .ok (.iconst 2, 1) := by decide +kernel
theorem dX5_goRule_50 : decode cX5_goRule 50 = .ok (.if_icmp .ne 8, 3) := by decide +kernel
theorem dX5_goRule_53 : decode cX5_goRule 53 = .ok (.aload_n 0, 1) := by decide +kernel
theorem dX5_goRule_54 : decode cX5_goRule 54 = .ok (.invokevirtual 147, 3) := by decide +kernel
theorem dX5_goRule_57 : decode cX5_goRule 57 = .ok (.return_, 1) := by decide +kernel
theorem dX5_goRule_58 : decode cX5_goRule 58 = .ok (.aload_n 0, 1) := by decide +kernel
theorem dX5_goRule_59 : decode cX5_goRule 59 = .ok (.getfield 16, 3) := by decide +kernel
theorem dX5_goRule_62 : decode cX5_goRule 62 = .ok (.iload_n 2, 1) := by decide +kernel
theorem dX5_goRule_63 : decode cX5_goRule 63 = .ok (.iaload, 1) := by decide +kernel
theorem dX5_goRule_64 : decode cX5_goRule 64 = .ok (.bipush 9, 2) := by decide +kernel
theorem dX5_goRule_66 : decode cX5_goRule 66 = .ok (.if_icmp .ne 38, 3) := by decide +kernel
theorem dX5_goRule_69 : decode cX5_goRule 69 = .ok (.aload_n 0, 1) := by decide +kernel
theorem dX5_goRule_70 : decode cX5_goRule 70 = .ok (.getfield 118, 3) := by decide +kernel
theorem dX5_goRule_73 : decode cX5_goRule 73 = .ok (.ifCond .eq 26, 3) := by decide +kernel
theorem dX5_goRule_76 : decode cX5_goRule 76 = .ok (.aload_n 0, 1) := by decide +kernel
theorem dX5_goRule_77 : decode cX5_goRule 77 = .ok (.getfield 118, 3) := by decide +kernel
theorem dX5_goRule_80 : decode cX5_goRule 80 = .ok (.iconst 5, 1) := by decide +kernel
theorem dX5_goRule_81 : decode cX5_goRule 81 = .ok (.if_icmp .eq 18, 3) := by decide +kernel
theorem dX5_goRule_84 : decode cX5_goRule 84 = .ok (.aload_n 0, 1) := by decide +kernel
theorem dX5_goRule_85 : decode cX5_goRule 85 = .ok (.iload_n 1, 1) := by decide +kernel
theorem dX5_goRule_86 : decode cX5_goRule 86 = .ok (.iconst 0, 1) := by decide +kernel
theorem dX5_goRule_87 : decode cX5_goRule 87 = .ok (.aload_n 0, 1) := by decide +kernel
theorem dX5_goRule_88 : decode cX5_goRule 88 = .ok (.getfield 22, 3) := by decide +kernel
theorem dX5_goRule_91 : decode cX5_goRule 91 = .ok (.iload_n 2, 1) := by decide +kernel
theorem dX5_goRule_92 : decode cX5_goRule 92 = .ok (.iaload, 1) := by decide +kernel
theorem dX5_goRule_93 : decode cX5_goRule 93 = .ok (.invokevirtual 143, 3) := by decide +kernel
theorem dX5_goRule_96 : decode cX5_goRule 96 = .ok (.goto 7, 3) := by decide +kernel
theorem dX5_goRule_99 : decode cX5_goRule 99 = .ok (.aload_n 0, 1) := by decide +kernel
theorem dX5_goRule_100 : decode cX5_goRule 100 = .ok (.invokevirtual 147, 3) := by decide +kernel
theorem dX5_goRule_103 : decode cX5_goRule 103 = .ok (.return_, 1) := by decide +kernel
theorem dX5_goRule_104 : decode cX5_goRule 104 = .ok (.aload_n 0, 1) := by decide +kernel
theorem dX5_goRule_105 : decode cX5_goRule 105 = .ok (.getfield 118, 3) := by decide +kernel
theorem dX5_goRule_108 : decode cX5_goRule 108 = .ok (.ifCond .eq 8, 3) := by decide +kernel
theorem dX5_goRule_111 : decode cX5_goRule 111 = .ok (.aload_n 0, 1) := by decide +kernel
theorem dX5_goRule_112 : decode cX5_goRule 112 = .ok (.invokevirtual 147, 3) := by decide +kernel
theorem dX5_goRule_115 : decode cX5_goRule 115 = .ok (.return_, 1) := by decide +kernel
theorem dX5_goRule_116 : decode cX5_goRule 116 = .ok (.aload_n 0, 1) := by decide +kernel
theorem dX5_goRule_117 : decode cX5_goRule 117 = .ok (.getfield 16, 3) := by decide +kernel
theorem dX5_goRule_120 : decode cX5_goRule 120 = .ok (.iload_n 2, 1) := by decide +kernel
theorem dX5_goRule_121 : decode cX5_goRule 121 = .ok (.iaload, 1) := by decide +kernel
theorem dX5_goRule_122 : decode cX5_goRule 122 = .ok (.tableswitch 84 5 7 #[26, 39, 39], 26) := by decide +kernel
theorem dX5_goRule_148 : decode cX5_goRule 148 = .ok (.aload_n 0, 1) := by decide +kernel
theorem dX5_goRule_149 : decode cX5_goRule 149 = .ok (.iconst 1, 1) := by decide +kernel
theorem dX5_goRule_150 : decode cX5_goRule 150 = .ok (.aload_n 0, 1) := by decide +kernel
theorem dX5_goRule_151 : decode cX5_goRule 151 = .ok (.getfield 124, 3) := by decide +kernel
theorem dX5_goRule_154 : decode cX5_goRule 154 = .ok (.isub, 1) := by decide +kernel
theorem dX5_goRule_155 : decode cX5_goRule 155 = .ok (.invokevirtual 150, 3) := by decide +kernel
theorem dX5_goRule_158 : decode cX5_goRule 158 = .ok (.goto 85, 3) := by decide +kernel
theorem dX5_goRule_161 : decode cX5_goRule 161 = .ok (.aload_n 0, 1) := by decide +kernel
theorem dX5_goRule_162 : decode cX5_goRule 162 = .ok (.getfield 124, 3) := by decide +kernel
theorem dX5_goRule_165 : decode cX5_goRule 165 = .ok (.aload_n 0, 1) := by decide +kernel
theorem dX5_goRule_166 : decode cX5_goRule 166 = .ok (.getfield 16, 3) := by decide +kernel
theorem dX5_goRule_169 : decode cX5_goRule 169 = .ok (.iload_n 2, 1) := by decide +kernel
theorem dX5_goRule_170 : decode cX5_goRule 170 = .ok (.iaload, 1) := by decide +kernel
theorem dX5_goRule_171 : decode cX5_goRule 171 = .ok (.bipush 6, 2) := by decide +kernel
theorem dX5_goRule_173 : decode cX5_goRule 173 = .ok (.if_icmp .ne 7, 3) := by decide +kernel
theorem dX5_goRule_176 : decode cX5_goRule 176 = .ok (.iconst 1, 1) := by decide +kernel
theorem dX5_goRule_177 : decode cX5_goRule 177 = .ok (.goto 4, 3) := by decide +kernel
theorem dX5_goRule_180 : decode cX5_goRule 180 = .ok (.iconst 0, 1) := by decide +kernel
theorem dX5_goRule_181 : decode cX5_goRule 181 = .ok (.if_icmp .ne 18, 3) := by decide +kernel
theorem dX5_goRule_184 : decode cX5_goRule 184 = .ok (.aload_n 0, 1) := by decide +kernel
theorem dX5_goRule_185 : decode cX5_goRule 185 = .ok (.iload_n 1, 1) := by decide +kernel
theorem dX5_goRule_186 : decode cX5_goRule 186 = .ok (.iconst 0, 1) := by decide +kernel
theorem dX5_goRule_187 : decode cX5_goRule 187 = .ok (.aload_n 0, 1) := by decide +kernel
theorem dX5_goRule_188 : decode cX5_goRule 188 = .ok (.getfield 22, 3) := by decide +kernel
theorem dX5_goRule_191 : decode cX5_goRule 191 = .ok (.iload_n 2, 1) := by decide +kernel
theorem dX5_goRule_192 : decode cX5_goRule 192 = .ok (.iaload, 1) := by decide +kernel
theorem dX5_goRule_193 : decode cX5_goRule 193 = .ok (.invokevirtual 143, 3) := by decide +kernel
theorem dX5_goRule_196 : decode cX5_goRule 196 = .ok (.goto 47, 3) := by decide +kernel
theorem dX5_goRule_199 : decode cX5_goRule 199 = .ok (.aload_n 0, 1) := by decide +kernel
theorem dX5_goRule_200 : decode cX5_goRule 200 = .ok (.invokevirtual 147, 3) := by decide +kernel
theorem dX5_goRule_203 : decode cX5_goRule 203 = .ok (.goto 40, 3) := by decide +kernel
theorem dX5_goRule_206 : decode cX5_goRule 206 = .ok (.aload_n 0, 1) := by decide +kernel
theorem dX5_goRule_207 : decode cX5_goRule 207 = .ok (.getfield 28, 3) := by decide +kernel
theorem dX5_goRule_210 : decode cX5_goRule 210 = .ok (.iload_n 2, 1) := by decide +kernel
theorem dX5_goRule_211 : decode cX5_goRule 211 = .ok (.dup2, 1) := by decide +kernel
theorem dX5_goRule_212 : decode cX5_goRule 212 = .ok (.iaload, 1) := by decide +kernel
theorem dX5_goRule_213 : decode cX5_goRule 213 = .ok (.aload_n 0, 1) := by decide +kernel
theorem dX5_goRule_214 : decode cX5_goRule 214 = .ok (.getfield 124, 3) := by decide +kernel
theorem dX5_goRule_217 : decode cX5_goRule 217 = .ok (.iadd, 1) := by decide +kernel
theorem dX5_goRule_218 : decode cX5_goRule 218 = .ok (.iastore, 1) := by decide +kernel
theorem dX5_goRule_219 : decode cX5_goRule 219 = .ok (.aload_n 0, 1) := by decide +kernel
theorem dX5_goRule_220 : decode cX5_goRule 220 = .ok (.aload_n 0, 1) := by decide +kernel
theorem dX5_goRule_221 : decode cX5_goRule 221 = .ok (.getfield 28, 3) := by decide +kernel
theorem dX5_goRule_224 : decode cX5_goRule 224 = .ok (.iload_n 2, 1) := by decide +kernel
theorem dX5_goRule_225 : decode cX5_goRule 225 = .ok (.iaload, 1) := by decide +kernel
theorem dX5_goRule_226 : decode cX5_goRule 226 = .ok (.aload_n 0, 1) := by decide +kernel
theorem dX5_goRule_227 : decode cX5_goRule 227 = .ok (.getfield 22, 3) := by decide +kernel
theorem dX5_goRule_230 : decode cX5_goRule 230 = .ok (.iload_n 2, 1) := by decide +kernel
theorem dX5_goRule_231 : decode cX5_goRule 231 = .ok (.iaload, 1) := by decide +kernel
theorem dX5_goRule_232 : decode cX5_goRule 232 = .ok (.if_icmp .lt 7, 3) := by decide +kernel
theorem dX5_goRule_235 : decode cX5_goRule 235 = .ok (.iconst 1, 1) := by decide +kernel
theorem dX5_goRule_236 : decode cX5_goRule 236 = .ok (.goto 4, 3) := by decide +kernel
theorem dX5_goRule_239 : decode cX5_goRule 239 = .ok (.iconst 0, 1) := by decide +kernel
theorem dX5_goRule_240 : decode cX5_goRule 240 = .ok (.invokevirtual 150, 3) := by decide +kernel
theorem dX5_goRule_243 : decode cX5_goRule 243 = .ok (.return_, 1) := by decide +kernel
set_option maxRecDepth 20000 in
theorem ggX5_says_X5_ends : GoodIn wsX5_says wsX5_ends := goodIn_r _ [10, 11, 12, 13, 14, 25, 26, 27, 28, 29, 30, 31, 32, 33, 34, 35, 36, 37, 38, 39, 40, 41, 42, 43, 44, 45, 46, 47, 48, 49, 50, 51, 52, 53, 54, 55, 56, 57, 58, 59, 60] (by decide +kernel) (by decide +kernel)
set_option maxRecDepth 20000 in
theorem gX5_says_X5_ends : GoodIn wsX5_says (wsV RX5 150 RX5 yX5_ends wsX5_ends) := goodIn_app (goodIn_of _ (by decide +kernel)) ggX5_says_X5_ends
set_option maxRecDepth 20000 in
theorem ggX5_says_X5_fails : GoodIn wsX5_says wsX5_fails := goodIn_r _ [18, 11, 12, 13, 14, 25, 26, 27, 28, 29, 30, 31, 32, 33, 34, 35, 36, 37, 38, 39, 40, 41, 42, 43, 44, 45, 46, 47, 48, 49, 50, 51, 52, 53, 54, 55, 56, 57, 58, 59, 60] (by decide +kernel) (by decide +kernel)
set_option maxRecDepth 20000 in
theorem gX5_says_X5_fails : GoodIn wsX5_says (wsV RX5 154 RX5 yX5_fails wsX5_fails) := goodIn_app (goodIn_of _ (by decide +kernel)) ggX5_says_X5_fails
set_option maxRecDepth 20000 in
theorem ggX5_says_X5_isSensor : GoodIn wsX5_says wsX5_isSensor := goodIn_r _ [21, 22, 23, 9, 24] (by decide +kernel) (by decide +kernel)
set_option maxRecDepth 20000 in
theorem gX5_says_X5_isSensor : GoodIn wsX5_says (va_wsS RX5 80 yX5_isSensor wsX5_isSensor) := goodIn_app (goodIn_of _ (by decide +kernel)) ggX5_says_X5_isSensor
theorem dX5_says_0 : decode cX5_says 0 = .ok (.aload_n 0, 1) := by decide +kernel
theorem dX5_says_1 : decode cX5_says 1 = .ok (.getfield 22, 3) := by decide +kernel
theorem dX5_says_4 : decode cX5_says 4 = .ok (.iload_n 1, 1) := by decide +kernel
theorem dX5_says_5 : decode cX5_says 5 = .ok (.iaload, 1) := by decide +kernel
theorem dX5_says_6 : decode cX5_says 6 = .ok (.istore_n 3, 1) := by decide +kernel
theorem dX5_says_7 : decode cX5_says 7 = .ok (.aload_n 0, 1) := by decide +kernel
theorem dX5_says_8 : decode cX5_says 8 = .ok (.getfield 7, 3) := by decide +kernel
theorem dX5_says_11 : decode cX5_says 11 = .ok (.iload_n 2, 1) := by decide +kernel
theorem dX5_says_12 : decode cX5_says 12 = .ok (.iaload, 1) := by decide +kernel
theorem dX5_says_13 : decode cX5_says 13 = .ok (.istore 4, 2) := by decide +kernel
theorem dX5_says_15 : decode cX5_says 15 = .ok (.aload_n 0, 1) := by decide +kernel
theorem dX5_says_16 : decode cX5_says 16 = .ok (.getfield 16, 3) := by decide +kernel
theorem dX5_says_19 : decode cX5_says 19 = .ok (.iload_n 1, 1) := by decide +kernel
theorem dX5_says_20 : decode cX5_says 20 = .ok (.iaload, 1) := by decide +kernel
theorem dX5_says_21 : decode cX5_says 21 = .ok (.tableswitch 165 0 3 #[31, 49, 95, 118], 31) := by decide +kernel
theorem dX5_says_52 : decode cX5_says 52 = .ok (.aload_n 0, 1) := by decide +kernel
theorem dX5_says_53 : decode cX5_says 53 = .ok (.iload 4, 2) := by decide +kernel
theorem dX5_says_55 : decode cX5_says 55 = .ok (.iload_n 3, 1) := by decide +kernel
theorem dX5_says_56 : decode cX5_says 56 = .ok (.if_icmp .le 7, 3) := by decide +kernel
theorem dX5_says_59 : decode cX5_says 59 = .ok (.iconst 1, 1) := by decide +kernel
theorem dX5_says_60 : decode cX5_says 60 = .ok (.goto 4, 3) := by decide +kernel
theorem dX5_says_63 : decode cX5_says 63 = .ok (.iconst 0, 1) := by decide +kernel
theorem dX5_says_64 : decode cX5_says 64 = .ok (.invokevirtual 150, 3) := by decide +kernel
theorem dX5_says_67 : decode cX5_says 67 = .ok (.goto 155, 3) := by decide +kernel
theorem dX5_says_70 : decode cX5_says 70 = .ok (.iload 4, 2) := by decide +kernel
theorem dX5_says_72 : decode cX5_says 72 = .ok (.i2l, 1) := by decide +kernel
theorem dX5_says_73 : decode cX5_says 73 = .ok (.iload_n 3, 1) := by decide +kernel
theorem dX5_says_74 : decode cX5_says 74 = .ok (.i2l, 1) := by decide +kernel
theorem dX5_says_75 : decode cX5_says 75 = .ok (.lsub, 1) := by decide +kernel
theorem dX5_says_76 : decode cX5_says 76 = .ok (.lstore 5, 2) := by decide +kernel
theorem dX5_says_78 : decode cX5_says 78 = .ok (.aload_n 0, 1) := by decide +kernel
theorem dX5_says_79 : decode cX5_says 79 = .ok (.lload 5, 2) := by decide +kernel
theorem dX5_says_81 : decode cX5_says 81 = .ok (.lconst 0, 1) := by decide +kernel
theorem dX5_says_82 : decode cX5_says 82 = .ok (.lcmp, 1) := by decide +kernel
theorem dX5_says_83 : decode cX5_says 83 = .ok (.ifCond .ge 9, 3) := by decide +kernel
theorem dX5_says_86 : decode cX5_says 86 = .ok (.lload 5, 2) := by decide +kernel
theorem dX5_says_88 : decode cX5_says 88 = .ok (.lneg, 1) := by decide +kernel
theorem dX5_says_89 : decode cX5_says 89 = .ok (.goto 5, 3) := by decide +kernel
theorem dX5_says_92 : decode cX5_says 92 = .ok (.lload 5, 2) := by decide +kernel
theorem dX5_says_94 : decode cX5_says 94 = .ok (.aload_n 0, 1) := by decide +kernel
theorem dX5_says_95 : decode cX5_says 95 = .ok (.getfield 25, 3) := by decide +kernel
theorem dX5_says_98 : decode cX5_says 98 = .ok (.iload_n 1, 1) := by decide +kernel
theorem dX5_says_99 : decode cX5_says 99 = .ok (.iaload, 1) := by decide +kernel
theorem dX5_says_100 : decode cX5_says 100 = .ok (.i2l, 1) := by decide +kernel
theorem dX5_says_101 : decode cX5_says 101 = .ok (.lcmp, 1) := by decide +kernel
theorem dX5_says_102 : decode cX5_says 102 = .ok (.ifCond .gt 7, 3) := by decide +kernel
theorem dX5_says_105 : decode cX5_says 105 = .ok (.iconst 1, 1) := by decide +kernel
theorem dX5_says_106 : decode cX5_says 106 = .ok (.goto 4, 3) := by decide +kernel
theorem dX5_says_109 : decode cX5_says 109 = .ok (.iconst 0, 1) := by decide +kernel
theorem dX5_says_110 : decode cX5_says 110 = .ok (.invokevirtual 150, 3) := by decide +kernel
theorem dX5_says_113 : decode cX5_says 113 = .ok (.goto 109, 3) := by decide +kernel
theorem dX5_says_116 : decode cX5_says 116 = .ok (.aload_n 0, 1) := by decide +kernel
theorem dX5_says_117 : decode cX5_says 117 = .ok (.iload 4, 2) := by decide +kernel
theorem dX5_says_119 : decode cX5_says 119 = .ok (.aload_n 0, 1) := by decide +kernel
theorem dX5_says_120 : decode cX5_says 120 = .ok (.getfield 28, 3) := by decide +kernel
theorem dX5_says_123 : decode cX5_says 123 = .ok (.iload_n 1, 1) := by decide +kernel
theorem dX5_says_124 : decode cX5_says 124 = .ok (.iaload, 1) := by decide +kernel
theorem dX5_says_125 : decode cX5_says 125 = .ok (.if_icmp .eq 7, 3) := by decide +kernel
theorem dX5_says_128 : decode cX5_says 128 = .ok (.iconst 1, 1) := by decide +kernel
theorem dX5_says_129 : decode cX5_says 129 = .ok (.goto 4, 3) := by decide +kernel
theorem dX5_says_132 : decode cX5_says 132 = .ok (.iconst 0, 1) := by decide +kernel
theorem dX5_says_133 : decode cX5_says 133 = .ok (.invokevirtual 150, 3) := by decide +kernel
theorem dX5_says_136 : decode cX5_says 136 = .ok (.goto 86, 3) := by decide +kernel
theorem dX5_says_139 : decode cX5_says 139 = .ok (.aload_n 0, 1) := by decide +kernel
theorem dX5_says_140 : decode cX5_says 140 = .ok (.getfield 7, 3) := by decide +kernel
theorem dX5_says_143 : decode cX5_says 143 = .ok (.iload_n 3, 1) := by decide +kernel
theorem dX5_says_144 : decode cX5_says 144 = .ok (.iaload, 1) := by decide +kernel
theorem dX5_says_145 : decode cX5_says 145 = .ok (.ifCond .ne 11, 3) := by decide +kernel
theorem dX5_says_148 : decode cX5_says 148 = .ok (.aload_n 0, 1) := by decide +kernel
theorem dX5_says_149 : decode cX5_says 149 = .ok (.iconst 1, 1) := by decide +kernel
theorem dX5_says_150 : decode cX5_says 150 = .ok (.invokevirtual 154, 3) := by decide +kernel
theorem dX5_says_153 : decode cX5_says 153 = .ok (.goto 69, 3) := by decide +kernel
theorem dX5_says_156 : decode cX5_says 156 = .ok (.aload_n 0, 1) := by decide +kernel
theorem dX5_says_157 : decode cX5_says 157 = .ok (.iload 4, 2) := by decide +kernel
theorem dX5_says_159 : decode cX5_says 159 = .ok (.aload_n 0, 1) := by decide +kernel
theorem dX5_says_160 : decode cX5_says 160 = .ok (.getfield 7, 3) := by decide +kernel
theorem dX5_says_163 : decode cX5_says 163 = .ok (.iload_n 3, 1) := by decide +kernel
theorem dX5_says_164 : decode cX5_says 164 = .ok (.iaload, 1) := by decide +kernel
theorem dX5_says_165 : decode cX5_says 165 = .ok (.idiv, 1) := by decide +kernel
theorem dX5_says_166 : decode cX5_says 166 = .ok (.aload_n 0, 1) := by decide +kernel
theorem dX5_says_167 : decode cX5_says 167 = .ok (.getfield 25, 3) := by decide +kernel
theorem dX5_says_170 : decode cX5_says 170 = .ok (.iload_n 1, 1) := by decide +kernel
theorem dX5_says_171 : decode cX5_says 171 = .ok (.iaload, 1) := by decide +kernel
theorem dX5_says_172 : decode cX5_says 172 = .ok (.if_icmp .lt 7, 3) := by decide +kernel
theorem dX5_says_175 : decode cX5_says 175 = .ok (.iconst 1, 1) := by decide +kernel
theorem dX5_says_176 : decode cX5_says 176 = .ok (.goto 4, 3) := by decide +kernel
theorem dX5_says_179 : decode cX5_says 179 = .ok (.iconst 0, 1) := by decide +kernel
theorem dX5_says_180 : decode cX5_says 180 = .ok (.invokevirtual 150, 3) := by decide +kernel
theorem dX5_says_183 : decode cX5_says 183 = .ok (.goto 39, 3) := by decide +kernel
theorem dX5_says_186 : decode cX5_says 186 = .ok (.iload 4, 2) := by decide +kernel
theorem dX5_says_188 : decode cX5_says 188 = .ok (.invokestatic 80, 3) := by decide +kernel
theorem dX5_says_191 : decode cX5_says 191 = .ok (.ifCond .ne 11, 3) := by decide +kernel
theorem dX5_says_194 : decode cX5_says 194 = .ok (.aload_n 0, 1) := by decide +kernel
theorem dX5_says_195 : decode cX5_says 195 = .ok (.iconst 2, 1) := by decide +kernel
theorem dX5_says_196 : decode cX5_says 196 = .ok (.invokevirtual 154, 3) := by decide +kernel
theorem dX5_says_199 : decode cX5_says 199 = .ok (.goto 23, 3) := by decide +kernel
theorem dX5_says_202 : decode cX5_says 202 = .ok (.aload_n 0, 1) := by decide +kernel
theorem dX5_says_203 : decode cX5_says 203 = .ok (.aload_n 0, 1) := by decide +kernel
theorem dX5_says_204 : decode cX5_says 204 = .ok (.getfield 7, 3) := by decide +kernel
theorem dX5_says_207 : decode cX5_says 207 = .ok (.iload 4, 2) := by decide +kernel
theorem dX5_says_209 : decode cX5_says 209 = .ok (.iaload, 1) := by decide +kernel
theorem dX5_says_210 : decode cX5_says 210 = .ok (.iload_n 3, 1) := by decide +kernel
theorem dX5_says_211 : decode cX5_says 211 = .ok (.if_icmp .le 7, 3) := by decide +kernel
theorem dX5_says_214 : decode cX5_says 214 = .ok (.iconst 1, 1) := by decide +kernel
theorem dX5_says_215 : decode cX5_says 215 = .ok (.goto 4, 3) := by decide +kernel
theorem dX5_says_218 : decode cX5_says 218 = .ok (.iconst 0, 1) := by decide +kernel
theorem dX5_says_219 : decode cX5_says 219 = .ok (.invokevirtual 150, 3) := by decide +kernel
theorem dX5_says_222 : decode cX5_says 222 = .ok (.return_, 1) := by decide +kernel
set_option maxRecDepth 20000 in
theorem ggX5_goAct_X5_begins : GoodIn wsX5_goAct wsX5_begins := goodIn_r _ [16, 11, 6, 8, 9, 10, 2, 4, 17, 5, 18, 19, 20, 21, 22, 15, 23, 24, 25, 7, 3, 26, 27, 28, 29, 30, 31, 32, 33, 1, 34, 35, 36, 37, 38, 39, 40, 41, 42, 43, 44, 45, 46, 51, 52, 53, 54, 55, 56, 57, 58, 59, 60, 61, 62, 63, 64, 65, 66, 67, 68, 69, 70, 71, 72, 73, 74, 75, 76, 77, 78, 79, 80, 81, 82, 83, 84, 85, 86] (by decide +kernel) (by decide +kernel)
set_option maxRecDepth 20000 in
theorem gX5_goAct_X5_begins : GoodIn wsX5_goAct (wsV RX5 157 RX5 yX5_begins wsX5_begins) := goodIn_app (goodIn_of _ (by decide +kernel)) ggX5_goAct_X5_begins
set_option maxRecDepth 20000 in
theorem ggX5_goAct_X5_goOn : GoodIn wsX5_goAct wsX5_goOn := goodIn_r _ [33, 1, 34, 35, 36, 15, 37, 18, 25, 3, 38, 24, 39, 51, 52, 53, 54, 55, 56, 57, 58, 59, 60, 61, 62, 63, 64, 65, 66, 67, 68, 69, 70, 71, 72, 73, 74, 75, 76, 77, 78, 79, 80, 81, 82, 83, 84, 85, 86] (by decide +kernel) (by decide +kernel)
set_option maxRecDepth 20000 in
theorem gX5_goAct_X5_goOn : GoodIn wsX5_goAct (wsV RX5 143 RX5 yX5_goOn wsX5_goOn) := goodIn_app (goodIn_of _ (by decide +kernel)) ggX5_goAct_X5_goOn
set_option maxRecDepth 20000 in
theorem ggX5_goAct_X5_passes : GoodIn wsX5_goAct wsX5_passes := goodIn_r _ [50, 24, 51, 52, 53, 54, 55, 56, 57, 58, 59, 60, 61, 62, 63, 64, 65, 66, 67, 68, 69, 70, 71, 72, 73, 74, 75, 76, 77, 78, 79, 80, 81, 82, 83, 84, 85, 86] (by decide +kernel) (by decide +kernel)
set_option maxRecDepth 20000 in
theorem gX5_goAct_X5_passes : GoodIn wsX5_goAct (wsV RX5 147 RX5 yX5_passes wsX5_passes) := goodIn_app (goodIn_of _ (by decide +kernel)) ggX5_goAct_X5_passes
set_option maxRecDepth 20000 in
theorem ggX5_goAct_X5_ends : GoodIn wsX5_goAct wsX5_ends := goodIn_r _ [29, 24, 25, 7, 3, 51, 52, 53, 54, 55, 56, 57, 58, 59, 60, 61, 62, 63, 64, 65, 66, 67, 68, 69, 70, 71, 72, 73, 74, 75, 76, 77, 78, 79, 80, 81, 82, 83, 84, 85, 86] (by decide +kernel) (by decide +kernel)
set_option maxRecDepth 20000 in
theorem gX5_goAct_X5_ends : GoodIn wsX5_goAct (wsV RX5 150 RX5 yX5_ends wsX5_ends) := goodIn_app (goodIn_of _ (by decide +kernel)) ggX5_goAct_X5_ends
theorem dX5_goAct_0 : decode cX5_goAct 0 = .ok (.aload_n 0, 1) := by decide +kernel
theorem dX5_goAct_1 : decode cX5_goAct 1 = .ok (.getfield 64, 3) := by decide +kernel
theorem dX5_goAct_4 : decode cX5_goAct 4 = .ok (.iload_n 1, 1) := by decide +kernel
theorem dX5_goAct_5 : decode cX5_goAct 5 = .ok (.iaload, 1) := by decide +kernel
theorem dX5_goAct_6 : decode cX5_goAct 6 = .ok (.ifCond .ne 10, 3) := by decide +kernel
theorem dX5_goAct_9 : decode cX5_goAct 9 = .ok (.aload_n 0, 1) := by decide +kernel
theorem dX5_goAct_10 : decode cX5_goAct 10 = .ok (.iload_n 1, 1) := by decide +kernel
theorem dX5_goAct_11 : decode cX5_goAct 11 = .ok (.iload_n 2, 1) := by decide +kernel
theorem dX5_goAct_12 : decode cX5_goAct 12 = .ok (.invokevirtual 157, 3) := by decide +kernel
theorem dX5_goAct_15 : decode cX5_goAct 15 = .ok (.return_, 1) := by decide +kernel
theorem dX5_goAct_16 : decode cX5_goAct 16 = .ok (.aload_n 0, 1) := by decide +kernel
theorem dX5_goAct_17 : decode cX5_goAct 17 = .ok (.getfield 31, 3) := by decide +kernel
theorem dX5_goAct_20 : decode cX5_goAct 20 = .ok (.iload_n 2, 1) := by decide +kernel
theorem dX5_goAct_21 : decode cX5_goAct 21 = .ok (.iaload, 1) := by decide +kernel
theorem dX5_goAct_22 : decode cX5_goAct 22 = .ok (.istore_n 3, 1) := by decide +kernel
theorem dX5_goAct_23 : decode cX5_goAct 23 = .ok (.iload_n 3, 1) := by decide +kernel
theorem dX5_goAct_24 : decode cX5_goAct 24 = .ok (.bipush 6, 2) := by decide +kernel
theorem dX5_goAct_26 : decode cX5_goAct 26 = .ok (.if_icmp .ne 76, 3) := by decide +kernel
theorem dX5_goAct_29 : decode cX5_goAct 29 = .ok (.aload_n 0, 1) := by decide +kernel
theorem dX5_goAct_30 : decode cX5_goAct 30 = .ok (.getfield 64, 3) := by decide +kernel
theorem dX5_goAct_33 : decode cX5_goAct 33 = .ok (.iload_n 1, 1) := by decide +kernel
theorem dX5_goAct_34 : decode cX5_goAct 34 = .ok (.iaload, 1) := by decide +kernel
theorem dX5_goAct_35 : decode cX5_goAct 35 = .ok (.iconst 1, 1) := by decide +kernel
theorem dX5_goAct_36 : decode cX5_goAct 36 = .ok (.if_icmp .ne 66, 3) := by decide +kernel
theorem dX5_goAct_39 : decode cX5_goAct 39 = .ok (.aload_n 0, 1) := by decide +kernel
theorem dX5_goAct_40 : decode cX5_goAct 40 = .ok (.getfield 118, 3) := by decide +kernel
theorem dX5_goAct_43 : decode cX5_goAct 43 = .ok (.ifCond .eq 59, 3) := by decide +kernel
theorem dX5_goAct_46 : decode cX5_goAct 46 = .ok (.aload_n 0, 1) := by decide +kernel
theorem dX5_goAct_47 : decode cX5_goAct 47 = .ok (.getfield 118, 3) := by decide +kernel
theorem dX5_goAct_50 : decode cX5_goAct 50 = .ok (.iconst 5, 1) := by decide +kernel
theorem dX5_goAct_51 : decode cX5_goAct 51 = .ok (.if_icmp .eq 51, 3) := by decide +kernel
theorem dX5_goAct_54 : decode cX5_goAct 54 = .ok (.iconst 0, 1) := by decide +kernel
theorem dX5_goAct_55 : decode cX5_goAct 55 = .ok (.istore 4, 2) := by decide +kernel
theorem dX5_goAct_57 : decode cX5_goAct 57 = .ok (.iload 4, 2) := by decide +kernel
theorem dX5_goAct_59 : decode cX5_goAct 59 = .ok (.bipush 6, 2) := by decide +kernel
theorem dX5_goAct_61 : decode cX5_goAct 61 = .ok (.if_icmp .ge 28, 3) := by decide +kernel
theorem dX5_goAct_64 : decode cX5_goAct 64 = .ok (.aload_n 0, 1) := by decide +kernel
theorem dX5_goAct_65 : decode cX5_goAct 65 = .ok (.getfield 13, 3) := by decide +kernel
theorem dX5_goAct_68 : decode cX5_goAct 68 = .ok (.iload 4, 2) := by decide +kernel
theorem dX5_goAct_70 : decode cX5_goAct 70 = .ok (.aload_n 0, 1) := by decide +kernel
theorem dX5_goAct_71 : decode cX5_goAct 71 = .ok (.getfield 73, 3) := by decide +kernel
theorem dX5_goAct_74 : decode cX5_goAct 74 = .ok (.bipush 6, 2) := by decide +kernel
theorem dX5_goAct_76 : decode cX5_goAct 76 = .ok (.iload_n 1, 1) := by decide +kernel
theorem dX5_goAct_77 : decode cX5_goAct 77 = .ok (.imul, 1) := by decide +kernel
theorem dX5_goAct_78 : decode cX5_goAct 78 = .ok (.iload 4, 2) := by decide +kernel
theorem dX5_goAct_80 : decode cX5_goAct 80 = .ok (.iadd, 1) := by decide +kernel
theorem dX5_goAct_81 : decode cX5_goAct 81 = .ok (.iaload, 1) := by decide +kernel
theorem dX5_goAct_82 : decode cX5_goAct 82 = .ok (.iastore, 1) := by decide +kernel
theorem dX5_goAct_83 : decode cX5_goAct 83 = .ok (.iinc 4 1, 3) := by decide +kernel
theorem dX5_goAct_86 : decode cX5_goAct 86 = .ok (.goto (-29), 3) := by decide +kernel
theorem dX5_goAct_89 : decode cX5_goAct 89 = .ok (.aload_n 0, 1) := by decide +kernel
theorem dX5_goAct_90 : decode cX5_goAct 90 = .ok (.iload_n 1, 1) := by decide +kernel
theorem dX5_goAct_91 : decode cX5_goAct 91 = .ok (.iconst 1, 1) := by decide +kernel
theorem dX5_goAct_92 : decode cX5_goAct 92 = .ok (.aload_n 0, 1) := by decide +kernel
theorem dX5_goAct_93 : decode cX5_goAct 93 = .ok (.getfield 37, 3) := by decide +kernel
theorem dX5_goAct_96 : decode cX5_goAct 96 = .ok (.iload_n 2, 1) := by decide +kernel
theorem dX5_goAct_97 : decode cX5_goAct 97 = .ok (.iaload, 1) := by decide +kernel
theorem dX5_goAct_98 : decode cX5_goAct 98 = .ok (.invokevirtual 143, 3) := by decide +kernel
theorem dX5_goAct_101 : decode cX5_goAct 101 = .ok (.return_, 1) := by decide +kernel
theorem dX5_goAct_102 : decode cX5_goAct 102 = .ok (.aload_n 0, 1) := by decide +kernel
theorem dX5_goAct_103 : decode cX5_goAct 103 = .ok (.getfield 118, 3) := by decide +kernel
theorem dX5_goAct_106 : decode cX5_goAct 106 = .ok (.ifCond .ne 8, 3) := by decide +kernel
theorem dX5_goAct_109 : decode cX5_goAct 109 = .ok (.iload_n 3, 1) := by decide +kernel
theorem dX5_goAct_110 : decode cX5_goAct 110 = .ok (.iconst 5, 1) := by decide +kernel
theorem dX5_goAct_111 : decode cX5_goAct 111 = .ok (.if_icmp .le 8, 3) := by decide +kernel
theorem dX5_goAct_114 : decode cX5_goAct 114 = .ok (.aload_n 0, 1) := by decide +kernel
theorem dX5_goAct_115 : decode cX5_goAct 115 = .ok (.invokevirtual 147, 3) := by decide +kernel
theorem dX5_goAct_118 : decode cX5_goAct 118 = .ok (.return_, 1) := by decide +kernel
theorem dX5_goAct_119 : decode cX5_goAct 119 = .ok (.iload_n 3, 1) := by decide +kernel
theorem dX5_goAct_120 : decode cX5_goAct 120 = .ok (.iconst 2, 1) := by decide +kernel
theorem dX5_goAct_121 : decode cX5_goAct 121 = .ok (.if_icmp .ne 68, 3) := by decide +kernel
theorem dX5_goAct_124 : decode cX5_goAct 124 = .ok (.aload_n 0, 1) := by decide +kernel
theorem dX5_goAct_125 : decode cX5_goAct 125 = .ok (.getfield 124, 3) := by decide +kernel
theorem dX5_goAct_128 : decode cX5_goAct 128 = .ok (.iconst 1, 1) := by decide +kernel
theorem dX5_goAct_129 : decode cX5_goAct 129 = .ok (.if_icmp .ne 12, 3) := by decide +kernel
theorem dX5_goAct_132 : decode cX5_goAct 132 = .ok (.aload_n 0, 1) := by decide +kernel
theorem dX5_goAct_133 : decode cX5_goAct 133 = .ok (.getfield 37, 3) := by decide +kernel
theorem dX5_goAct_136 : decode cX5_goAct 136 = .ok (.iload_n 2, 1) := by decide +kernel
theorem dX5_goAct_137 : decode cX5_goAct 137 = .ok (.iaload, 1) := by decide +kernel
theorem dX5_goAct_138 : decode cX5_goAct 138 = .ok (.goto 9, 3) := by decide +kernel
theorem dX5_goAct_141 : decode cX5_goAct 141 = .ok (.aload_n 0, 1) := by decide +kernel
theorem dX5_goAct_142 : decode cX5_goAct 142 = .ok (.getfield 40, 3) := by decide +kernel
theorem dX5_goAct_145 : decode cX5_goAct 145 = .ok (.iload_n 2, 1) := by decide +kernel
theorem dX5_goAct_146 : decode cX5_goAct 146 = .ok (.iaload, 1) := by decide +kernel
theorem dX5_goAct_147 : decode cX5_goAct 147 = .ok (.istore 4, 2) := by decide +kernel
theorem dX5_goAct_149 : decode cX5_goAct 149 = .ok (.aload_n 0, 1) := by decide +kernel
theorem dX5_goAct_150 : decode cX5_goAct 150 = .ok (.getfield 64, 3) := by decide +kernel
theorem dX5_goAct_153 : decode cX5_goAct 153 = .ok (.iload_n 1, 1) := by decide +kernel
theorem dX5_goAct_154 : decode cX5_goAct 154 = .ok (.iaload, 1) := by decide +kernel
theorem dX5_goAct_155 : decode cX5_goAct 155 = .ok (.iconst 2, 1) := by decide +kernel
theorem dX5_goAct_156 : decode cX5_goAct 156 = .ok (.if_icmp .ne 10, 3) := by decide +kernel
theorem dX5_goAct_159 : decode cX5_goAct 159 = .ok (.aload_n 0, 1) := by decide +kernel
theorem dX5_goAct_160 : decode cX5_goAct 160 = .ok (.invokevirtual 147, 3) := by decide +kernel
theorem dX5_goAct_163 : decode cX5_goAct 163 = .ok (.goto 25, 3) := by decide +kernel
theorem dX5_goAct_166 : decode cX5_goAct 166 = .ok (.iload 4, 2) := by decide +kernel
theorem dX5_goAct_168 : decode cX5_goAct 168 = .ok (.iconst (-1), 1) := by decide +kernel
theorem dX5_goAct_169 : decode cX5_goAct 169 = .ok (.if_icmp .ne 11, 3) := by decide +kernel
theorem dX5_goAct_172 : decode cX5_goAct 172 = .ok (.aload_n 0, 1) := by decide +kernel
theorem dX5_goAct_173 : decode cX5_goAct 173 = .ok (.iconst 0, 1) := by decide +kernel
theorem dX5_goAct_174 : decode cX5_goAct 174 = .ok (.invokevirtual 150, 3) := by decide +kernel
theorem dX5_goAct_177 : decode cX5_goAct 177 = .ok (.goto 11, 3) := by decide +kernel
theorem dX5_goAct_180 : decode cX5_goAct 180 = .ok (.aload_n 0, 1) := by decide +kernel
theorem dX5_goAct_181 : decode cX5_goAct 181 = .ok (.iload_n 1, 1) := by decide +kernel
theorem dX5_goAct_182 : decode cX5_goAct 182 = .ok (.iconst 1, 1) := by decide +kernel
theorem dX5_goAct_183 : decode cX5_goAct 183 = .ok (.iload 4, 2) := by decide +kernel
theorem dX5_goAct_185 : decode cX5_goAct 185 = .ok (.invokevirtual 143, 3) := by decide +kernel
theorem dX5_goAct_188 : decode cX5_goAct 188 = .ok (.return_, 1) := by decide +kernel
theorem dX5_goAct_189 : decode cX5_goAct 189 = .ok (.aload_n 0, 1) := by decide +kernel
theorem dX5_goAct_190 : decode cX5_goAct 190 = .ok (.getfield 67, 3) := by decide +kernel
theorem dX5_goAct_193 : decode cX5_goAct 193 = .ok (.iload_n 1, 1) := by decide +kernel
theorem dX5_goAct_194 : decode cX5_goAct 194 = .ok (.dup2, 1) := by decide +kernel
theorem dX5_goAct_195 : decode cX5_goAct 195 = .ok (.iaload, 1) := by decide +kernel
theorem dX5_goAct_196 : decode cX5_goAct 196 = .ok (.aload_n 0, 1) := by decide +kernel
theorem dX5_goAct_197 : decode cX5_goAct 197 = .ok (.getfield 124, 3) := by decide +kernel
theorem dX5_goAct_200 : decode cX5_goAct 200 = .ok (.iadd, 1) := by decide +kernel
theorem dX5_goAct_201 : decode cX5_goAct 201 = .ok (.iastore, 1) := by decide +kernel
theorem dX5_goAct_202 : decode cX5_goAct 202 = .ok (.aload_n 0, 1) := by decide +kernel
theorem dX5_goAct_203 : decode cX5_goAct 203 = .ok (.getfield 70, 3) := by decide +kernel
theorem dX5_goAct_206 : decode cX5_goAct 206 = .ok (.iload_n 1, 1) := by decide +kernel
theorem dX5_goAct_207 : decode cX5_goAct 207 = .ok (.dup2, 1) := by decide +kernel
theorem dX5_goAct_208 : decode cX5_goAct 208 = .ok (.iaload, 1) := by decide +kernel
theorem dX5_goAct_209 : decode cX5_goAct 209 = .ok (.iconst 1, 1) := by decide +kernel
theorem dX5_goAct_210 : decode cX5_goAct 210 = .ok (.iadd, 1) := by decide +kernel
theorem dX5_goAct_211 : decode cX5_goAct 211 = .ok (.iastore, 1) := by decide +kernel
theorem dX5_goAct_212 : decode cX5_goAct 212 = .ok (.aload_n 0, 1) := by decide +kernel
theorem dX5_goAct_213 : decode cX5_goAct 213 = .ok (.getfield 70, 3) := by decide +kernel
theorem dX5_goAct_216 : decode cX5_goAct 216 = .ok (.iload_n 1, 1) := by decide +kernel
theorem dX5_goAct_217 : decode cX5_goAct 217 = .ok (.iaload, 1) := by decide +kernel
theorem dX5_goAct_218 : decode cX5_goAct 218 = .ok (.iload_n 3, 1) := by decide +kernel
theorem dX5_goAct_219 : decode cX5_goAct 219 = .ok (.iconst 3, 1) := by decide +kernel
theorem dX5_goAct_220 : decode cX5_goAct 220 = .ok (.if_icmp .ne 7, 3) := by decide +kernel
