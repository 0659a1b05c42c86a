theorem dX4_doThoseDue_15 : decode cX4_doThoseDue 15 = .ok (.if_icmp .ge 34, 3) := by decide +kernel
theorem dX4_doThoseDue_18 : decode cX4_doThoseDue 18 = .ok (.aload_n 0, 1) := by decide +kernel
theorem dX4_doThoseDue_19 : decode cX4_doThoseDue 19 = .ok (.getfield 36, 3) := by decide +kernel
theorem dX4_doThoseDue_22 : decode cX4_doThoseDue 22 = .ok (.aload_n 0, 1) := by decide +kernel
theorem dX4_doThoseDue_23 : decode cX4_doThoseDue 23 = .ok (.getfield 132, 3) := by decide +kernel
theorem dX4_doThoseDue_26 : decode cX4_doThoseDue 26 = .ok (.invokevirtual 254, 3) := by decide +kernel
theorem dX4_doThoseDue_29 : decode cX4_doThoseDue 29 = .ok (.istore_n 2, 1) := by decide +kernel
theorem dX4_doThoseDue_30 : decode cX4_doThoseDue 30 = .ok (.iload_n 2, 1) := by decide +kernel
theorem dX4_doThoseDue_31 : decode cX4_doThoseDue 31 = .ok (.iconst (-1), 1) := by decide +kernel
theorem dX4_doThoseDue_32 : decode cX4_doThoseDue 32 = .ok (.if_icmp .ne 6, 3) := by decide +kernel
theorem dX4_doThoseDue_35 : decode cX4_doThoseDue 35 = .ok (.goto 14, 3) := by decide +kernel
theorem dX4_doThoseDue_38 : decode cX4_doThoseDue 38 = .ok (.aload_n 0, 1) := by decide +kernel
theorem dX4_doThoseDue_39 : decode cX4_doThoseDue 39 = .ok (.iload_n 2, 1) := by decide +kernel
theorem dX4_doThoseDue_40 : decode cX4_doThoseDue 40 = .ok (.invokevirtual 257, 3) := by decide +kernel
theorem dX4_doThoseDue_43 : decode cX4_doThoseDue 43 = .ok (.iinc 1 1, 3) := by decide +kernel
theorem dX4_doThoseDue_46 : decode cX4_doThoseDue 46 = .ok (.goto (-44), 3) := by decide +kernel
theorem dX4_doThoseDue_49 : decode cX4_doThoseDue 49 = .ok (.iload_n 1, 1) := by decide +kernel
theorem dX4_doThoseDue_50 : decode cX4_doThoseDue 50 = .ok (.ireturn, 1) := by decide +kernel
set_option maxRecDepth 20000 in
theorem ggX4_doOneThatWaited_X4_startWork : GoodIn wsX4_doOneThatWaited wsX4_startWork := goodIn_r _ [8, 9, 1, 151, 152, 153, 154, 155, 156, 157, 158, 159, 160, 161, 162, 163, 164, 165, 166] (by decide +kernel) (by decide +kernel)
set_option maxRecDepth 20000 in
theorem gX4_doOneThatWaited_X4_startWork : GoodIn wsX4_doOneThatWaited (wsV RX4 92 RX4 yX4_startWork wsX4_startWork) := goodIn_app (goodIn_of _ (by decide +kernel)) ggX4_doOneThatWaited_X4_startWork
set_option maxRecDepth 20000 in
theorem ggX4_doOneThatWaited_X4_does : GoodIn wsX4_doOneThatWaited wsX4_does := goodIn_r _ [13, 1, 14, 15, 16, 17, 18, 7, 19, 9, 20, 21, 22, 23, 24, 25, 26, 27, 28, 29, 30, 31, 32, 33, 34, 35, 36, 37, 38, 39, 40, 41, 42, 43, 44, 45, 46, 47, 48, 49, 50, 51, 52, 53, 54, 55, 56, 57, 58, 3, 59, 60, 61, 62, 63, 64, 65, 66, 67, 68, 69, 10, 11, 12, 70, 71, 72, 73, 74, 75, 76, 77, 78, 79, 80, 81, 82, 83, 84, 85, 86, 87, 88, 89, 90, 91, 92, 93, 94, 95, 96, 97, 98, 99, 100, 101, 102, 103, 104, 105, 106, 107, 108, 109, 110, 111, 112, 113, 114, 115, 116, 117, 118, 119, 120, 121, 122, 123, 124, 125, 126, 127, 128, 129, 130, 131, 132, 133, 134, 135, 136, 137, 138, 139, 140, 141, 151, 152, 153, 154, 155, 156, 157, 158, 159, 160, 161, 162, 163, 164, 165, 166, 167, 168, 169, 170, 171, 172, 173, 174, 175, 176, 177, 178, 179] (by decide +kernel) (by decide +kernel)
set_option maxRecDepth 20000 in
theorem gX4_doOneThatWaited_X4_does : GoodIn wsX4_doOneThatWaited (wsV RX4 125 RX4 yX4_does wsX4_does) := goodIn_app (goodIn_of _ (by decide +kernel)) ggX4_doOneThatWaited_X4_does
set_option maxRecDepth 20000 in
theorem ggX4_doOneThatWaited_X1_keep : GoodIn wsX4_doOneThatWaited wsX1_keep := goodIn_r _ [146, 147, 148, 149, 150, 180, 181, 182, 183] (by decide +kernel) (by decide +kernel)
set_option maxRecDepth 20000 in
theorem gX4_doOneThatWaited_X1_keep : GoodIn wsX4_doOneThatWaited (wsV RX4 261 RX1 yX1_keep wsX1_keep) := goodIn_app (goodIn_of _ (by decide +kernel)) ggX4_doOneThatWaited_X1_keep
theorem dX4_doOneThatWaited_0 : decode cX4_doOneThatWaited 0 = .ok (.aload_n 0, 1) := by decide +kernel
theorem dX4_doOneThatWaited_1 : decode cX4_doOneThatWaited 1 = .ok (.invokevirtual 92, 3) := by decide +kernel
theorem dX4_doOneThatWaited_4 : decode cX4_doOneThatWaited 4 = .ok (.aload_n 0, 1) := by decide +kernel
theorem dX4_doOneThatWaited_5 : decode cX4_doOneThatWaited 5 = .ok (.iload_n 1, 1) := by decide +kernel
theorem dX4_doOneThatWaited_6 : decode cX4_doOneThatWaited 6 = .ok (.iconst 0, 1) := by decide +kernel
theorem dX4_doOneThatWaited_7 : decode cX4_doOneThatWaited 7 = .ok (.invokevirtual 125, 3) := by decide +kernel
theorem dX4_doOneThatWaited_10 : decode cX4_doOneThatWaited 10 = .ok (.pop, 1) := by decide +kernel
theorem dX4_doOneThatWaited_11 : decode cX4_doOneThatWaited 11 = .ok (.aload_n 0, 1) := by decide +kernel
theorem dX4_doOneThatWaited_12 : decode cX4_doOneThatWaited 12 = .ok (.getfield 105, 3) := by decide +kernel
theorem dX4_doOneThatWaited_15 : decode cX4_doOneThatWaited 15 = .ok (.ifCond .eq 19, 3) := by decide +kernel
theorem dX4_doOneThatWaited_18 : decode cX4_doOneThatWaited 18 = .ok (.aload_n 0, 1) := by decide +kernel
theorem dX4_doOneThatWaited_19 : decode cX4_doOneThatWaited 19 = .ok (.getfield 43, 3) := by decide +kernel
theorem dX4_doOneThatWaited_22 : decode cX4_doOneThatWaited 22 = .ok (.iload_n 1, 1) := by decide +kernel
theorem dX4_doOneThatWaited_23 : decode cX4_doOneThatWaited 23 = .ok (.aload_n 0, 1) := by decide +kernel
theorem dX4_doOneThatWaited_24 : decode cX4_doOneThatWaited 24 = .ok (.getfield 105, 3) := by decide +kernel
theorem dX4_doOneThatWaited_27 : decode cX4_doOneThatWaited 27 = .ok (.aload_n 0, 1) := by decide +kernel
theorem dX4_doOneThatWaited_28 : decode cX4_doOneThatWaited 28 = .ok (.getfield 132, 3) := by decide +kernel
theorem dX4_doOneThatWaited_31 : decode cX4_doOneThatWaited 31 = .ok (.invokevirtual 261, 3) := by decide +kernel
theorem dX4_doOneThatWaited_34 : decode cX4_doOneThatWaited 34 = .ok (.return_, 1) := by decide +kernel
theorem dX5_init_0 : decode cX5_init 0 = .ok (.aload_n 0, 1) := by decide +kernel
theorem dX5_init_1 : decode cX5_init 1 = .ok (.invokespecial 1, 3) := by decide +kernel
theorem dX5_init_4 : decode cX5_init 4 = .ok (.aload_n 0, 1) := by decide +kernel
theorem dX5_init_5 : decode cX5_init 5 = .ok (.bipush 8, 2) := by decide +kernel
theorem dX5_init_7 : decode cX5_init 7 = .ok (.newarray .int, 2) := by decide +kernel
theorem dX5_init_9 : decode cX5_init 9 = .ok (.putfield 7, 3) := by decide +kernel
theorem dX5_init_12 : decode cX5_init 12 = .ok (.aload_n 0, 1) := by decide +kernel
theorem dX5_init_13 : decode cX5_init 13 = .ok (.bipush 6, 2) := by decide +kernel
theorem dX5_init_15 : decode cX5_init 15 = .ok (.newarray .int, 2) := by decide +kernel
theorem dX5_init_17 : decode cX5_init 17 = .ok (.putfield 13, 3) := by decide +kernel
theorem dX5_init_20 : decode cX5_init 20 = .ok (.aload_n 0, 1) := by decide +kernel
theorem dX5_init_21 : decode cX5_init 21 = .ok (.bipush 40, 2) := by decide +kernel
theorem dX5_init_23 : decode cX5_init 23 = .ok (.newarray .int, 2) := by decide +kernel
theorem dX5_init_25 : decode cX5_init 25 = .ok (.putfield 16, 3) := by decide +kernel
theorem dX5_init_28 : decode cX5_init 28 = .ok (.aload_n 0, 1) := by decide +kernel
theorem dX5_init_29 : decode cX5_init 29 = .ok (.bipush 40, 2) := by decide +kernel
theorem dX5_init_31 : decode cX5_init 31 = .ok (.newarray .int, 2) := by decide +kernel
theorem dX5_init_33 : decode cX5_init 33 = .ok (.putfield 19, 3) := by decide +kernel
theorem dX5_init_36 : decode cX5_init 36 = .ok (.aload_n 0, 1) := by decide +kernel
theorem dX5_init_37 : decode cX5_init 37 = .ok (.bipush 40, 2) := by decide +kernel
theorem dX5_init_39 : decode cX5_init 39 = .ok (.newarray .int, 2) := by decide +kernel
theorem dX5_init_41 : decode cX5_init 41 = .ok (.putfield 22, 3) := by decide +kernel
theorem dX5_init_44 : decode cX5_init 44 = .ok (.aload_n 0, 1) := by decide +kernel
theorem dX5_init_45 : decode cX5_init 45 = .ok (.bipush 40, 2) := by decide +kernel
theorem dX5_init_47 : decode cX5_init 47 = .ok (.newarray .int, 2) := by decide +kernel
theorem dX5_init_49 : decode cX5_init 49 = .ok (.putfield 25, 3) := by decide +kernel
theorem dX5_init_52 : decode cX5_init 52 = .ok (.aload_n 0, 1) := by decide +kernel
theorem dX5_init_53 : decode cX5_init 53 = .ok (.bipush 40, 2) := by decide +kernel
theorem dX5_init_55 : decode cX5_init 55 = .ok (.newarray .int, 2) := by decide +kernel
theorem dX5_init_57 : decode cX5_init 57 = .ok (.putfield 28, 3) := by decide +kernel
theorem dX5_init_60 : decode cX5_init 60 = .ok (.aload_n 0, 1) := by decide +kernel
theorem dX5_init_61 : decode cX5_init 61 = .ok (.bipush 40, 2) := by decide +kernel
theorem dX5_init_63 : decode cX5_init 63 = .ok (.newarray .int, 2) := by decide +kernel
theorem dX5_init_65 : decode cX5_init 65 = .ok (.putfield 31, 3) := by decide +kernel
theorem dX5_init_68 : decode cX5_init 68 = .ok (.aload_n 0, 1) := by decide +kernel
theorem dX5_init_69 : decode cX5_init 69 = .ok (.bipush 40, 2) := by decide +kernel
theorem dX5_init_71 : decode cX5_init 71 = .ok (.newarray .int, 2) := by decide +kernel
theorem dX5_init_73 : decode cX5_init 73 = .ok (.putfield 34, 3) := by decide +kernel
theorem dX5_init_76 : decode cX5_init 76 = .ok (.aload_n 0, 1) := by decide +kernel
theorem dX5_init_77 : decode cX5_init 77 = .ok (.bipush 40, 2) := by decide +kernel
theorem dX5_init_79 : decode cX5_init 79 = .ok (.newarray .int, 2) := by decide +kernel
theorem dX5_init_81 : decode cX5_init 81 = .ok (.putfield 37, 3) := by decide +kernel
theorem dX5_init_84 : decode cX5_init 84 = .ok (.aload_n 0, 1) := by decide +kernel
theorem dX5_init_85 : decode cX5_init 85 = .ok (.bipush 40, 2) := by decide +kernel
theorem dX5_init_87 : decode cX5_init 87 = .ok (.newarray .int, 2) := by decide +kernel
theorem dX5_init_89 : decode cX5_init 89 = .ok (.putfield 40, 3) := by decide +kernel
theorem dX5_init_92 : decode cX5_init 92 = .ok (.aload_n 0, 1) := by decide +kernel
theorem dX5_init_93 : decode cX5_init 93 = .ok (.bipush 60, 2) := by decide +kernel
theorem dX5_init_95 : decode cX5_init 95 = .ok (.newarray .int, 2) := by decide +kernel
theorem dX5_init_97 : decode cX5_init 97 = .ok (.putfield 43, 3) := by decide +kernel
theorem dX5_init_100 : decode cX5_init 100 = .ok (.aload_n 0, 1) := by decide +kernel
theorem dX5_init_101 : decode cX5_init 101 = .ok (.bipush 60, 2) := by decide +kernel
theorem dX5_init_103 : decode cX5_init 103 = .ok (.newarray .int, 2) := by decide +kernel
theorem dX5_init_105 : decode cX5_init 105 = .ok (.putfield 46, 3) := by decide +kernel
theorem dX5_init_108 : decode cX5_init 108 = .ok (.aload_n 0, 1) := by decide +kernel
theorem dX5_init_109 : decode cX5_init 109 = .ok (.bipush 30, 2) := by decide +kernel
theorem dX5_init_111 : decode cX5_init 111 = .ok (.newarray .int, 2) := by decide +kernel
theorem dX5_init_113 : decode cX5_init 113 = .ok (.putfield 49, 3) := by decide +kernel
theorem dX5_init_116 : decode cX5_init 116 = .ok (.aload_n 0, 1) := by decide +kernel
theorem dX5_init_117 : decode cX5_init 117 = .ok (.bipush 30, 2) := by decide +kernel
theorem dX5_init_119 : decode cX5_init 119 = .ok (.newarray .int, 2) := by decide +kernel
theorem dX5_init_121 : decode cX5_init 121 = .ok (.putfield 52, 3) := by decide +kernel
theorem dX5_init_124 : decode cX5_init 124 = .ok (.aload_n 0, 1) := by decide +kernel
theorem dX5_init_125 : decode cX5_init 125 = .ok (.bipush 30, 2) := by decide +kernel
theorem dX5_init_127 : decode cX5_init 127 = .ok (.newarray .int, 2) := by decide +kernel
theorem dX5_init_129 : decode cX5_init 129 = .ok (.putfield 55, 3) := by decide +kernel
theorem dX5_init_132 : decode cX5_init 132 = .ok (.aload_n 0, 1) := by decide +kernel
theorem dX5_init_133 : decode cX5_init 133 = .ok (.sipush 300, 3) := by decide +kernel
theorem dX5_init_136 : decode cX5_init 136 = .ok (.newarray .int, 2) := by decide +kernel
theorem dX5_init_138 : decode cX5_init 138 = .ok (.putfield 58, 3) := by decide +kernel
theorem dX5_init_141 : decode cX5_init 141 = .ok (.aload_n 0, 1) := by decide +kernel
theorem dX5_init_142 : decode cX5_init 142 = .ok (.sipush 300, 3) := by decide +kernel
theorem dX5_init_145 : decode cX5_init 145 = .ok (.newarray .int, 2) := by decide +kernel
theorem dX5_init_147 : decode cX5_init 147 = .ok (.putfield 61, 3) := by decide +kernel
theorem dX5_init_150 : decode cX5_init 150 = .ok (.aload_n 0, 1) := by decide +kernel
theorem dX5_init_151 : decode cX5_init 151 = .ok (.sipush 300, 3) := by decide +kernel
theorem dX5_init_154 : decode cX5_init 154 = .ok (.newarray .int, 2) := by decide +kernel
theorem dX5_init_156 : decode cX5_init 156 = .ok (.putfield 64, 3) := by decide +kernel
theorem dX5_init_159 : decode cX5_init 159 = .ok (.aload_n 0, 1) := by decide +kernel
theorem dX5_init_160 : decode cX5_init 160 = .ok (.sipush 300, 3) := by decide +kernel
theorem dX5_init_163 : decode cX5_init 163 = .ok (.newarray .int, 2) := by decide +kernel
theorem dX5_init_165 : decode cX5_init 165 = .ok (.putfield 67, 3) := by decide +kernel
theorem dX5_init_168 : decode cX5_init 168 = .ok (.aload_n 0, 1) := by decide +kernel
theorem dX5_init_169 : decode cX5_init 169 = .ok (.sipush 300, 3) := by decide +kernel
theorem dX5_init_172 : decode cX5_init 172 = .ok (.newarray .int, 2) := by decide +kernel
theorem dX5_init_174 : decode cX5_init 174 = .ok (.putfield 70, 3) := by decide +kernel
theorem dX5_init_177 : decode cX5_init 177 = .ok (.aload_n 0, 1) := by decide +kernel
theorem dX5_init_178 : decode cX5_init 178 = .ok (.sipush 1800, 3) := by decide +kernel
theorem dX5_init_181 : decode cX5_init 181 = .ok (.newarray .int, 2) := by decide +kernel
theorem dX5_init_183 : decode cX5_init 183 = .ok (.putfield 73, 3) := by decide +kernel
theorem dX5_init_186 : decode cX5_init 186 = .ok (.iconst 0, 1) := by decide +kernel
theorem dX5_init_187 : decode cX5_init 187 = .ok (.istore_n 1, 1) := by decide +kernel
theorem dX5_init_188 : decode cX5_init 188 = .ok (.iload_n 1, 1) := by decide +kernel
theorem dX5_init_189 : decode cX5_init 189 = .ok (.bipush 6, 2) := by decide +kernel
theorem dX5_init_191 : decode cX5_init 191 = .ok (.if_icmp .ge 17, 3) := by decide +kernel
theorem dX5_init_194 : decode cX5_init 194 = .ok (.aload_n 0, 1) := by decide +kernel
theorem dX5_init_195 : decode cX5_init 195 = .ok (.getfield 13, 3) := by decide +kernel
theorem dX5_init_198 : decode cX5_init 198 = .ok (.iload_n 1, 1) := by decide +kernel
theorem dX5_init_199 : decode cX5_init 199 = .ok (.bipush 100, 2) := by decide +kernel
theorem dX5_init_201 : decode cX5_init 201 = .ok (.iastore, 1) := by decide +kernel
theorem dX5_init_202 : decode cX5_init 202 = .ok (.iinc 1 1, 3) := by decide +kernel
theorem dX5_init_205 : decode cX5_init 205 = .ok (.goto (-17), 3) := by decide +kernel
theorem dX5_init_208 : decode cX5_init 208 = .ok (.return_, 1) := by decide +kernel
theorem dX5_in_0 : decode cX5_in 0 = .ok (.iload_n 0, 1) := by decide +kernel
theorem dX5_in_1 : decode cX5_in 1 = .ok (.iload_n 1, 1) := by decide +kernel
theorem dX5_in_2 : decode cX5_in 2 = .ok (.if_icmp .lt 12, 3) := by decide +kernel
theorem dX5_in_5 : decode cX5_in 5 = .ok (.iload_n 0, 1) := by decide +kernel
theorem dX5_in_6 : decode cX5_in 6 = .ok (.iload_n 2, 1) := by decide +kernel
theorem dX5_in_7 : decode cX5_in 7 = .ok (.if_icmp .gt 7, 3) := by decide +kernel
theorem dX5_in_10 : decode cX5_in 10 = .ok (.iconst 1, 1) := by decide +kernel
theorem dX5_in_11 : decode cX5_in 11 = .ok (.goto 4, 3) := by decide +kernel
theorem dX5_in_14 : decode cX5_in 14 = .ok (.iconst 0, 1) := by decide +kernel
theorem dX5_in_15 : decode cX5_in 15 = .ok (.ireturn, 1) := by decide +kernel
set_option maxRecDepth 20000 in
theorem ggX5_isSensor_X5_in : GoodIn wsX5_isSensor wsX5_in := goodIn_r _ [4] (by decide +kernel) (by decide +kernel)
set_option maxRecDepth 20000 in
theorem gX5_isSensor_X5_in : GoodIn wsX5_isSensor (va_wsS RX5 76 yX5_in wsX5_in) := goodIn_app (goodIn_of _ (by decide +kernel)) ggX5_isSensor_X5_in
theorem dX5_isSensor_0 : decode cX5_isSensor 0 = .ok (.iload_n 0, 1) := by decide +kernel
theorem dX5_isSensor_1 : decode cX5_isSensor 1 = .ok (.iconst 0, 1) := by decide +kernel
theorem dX5_isSensor_2 : decode cX5_isSensor 2 = .ok (.bipush 7, 2) := by decide +kernel
theorem dX5_isSensor_4 : decode cX5_isSensor 4 = .ok (.invokestatic 76, 3) := by decide +kernel
theorem dX5_isSensor_7 : decode cX5_isSensor 7 = .ok (.ireturn, 1) := by decide +kernel
set_option maxRecDepth 20000 in
theorem ggX5_isTank_X5_in : GoodIn wsX5_isTank wsX5_in := goodIn_r _ [4] (by decide +kernel) (by decide +kernel)
set_option maxRecDepth 20000 in
theorem gX5_isTank_X5_in : GoodIn wsX5_isTank (va_wsS RX5 76 yX5_in wsX5_in) := goodIn_app (goodIn_of _ (by decide +kernel)) ggX5_isTank_X5_in
theorem dX5_isTank_0 : decode cX5_isTank 0 = .ok (.iload_n 0, 1) := by decide +kernel
theorem dX5_isTank_1 : decode cX5_isTank 1 = .ok (.iconst 0, 1) := by decide +kernel
theorem dX5_isTank_2 : decode cX5_isTank 2 = .ok (.iconst 5, 1) := by decide +kernel
theorem dX5_isTank_3 : decode cX5_isTank 3 = .ok (.invokestatic 76, 3) := by decide +kernel
theorem dX5_isTank_6 : decode cX5_isTank 6 = .ok (.ireturn, 1) := by decide +kernel
set_option maxRecDepth 20000 in
theorem ggX5_show_X5_isSensor : GoodIn wsX5_show wsX5_isSensor := goodIn_r _ [6, 7, 8, 5, 9] (by decide +kernel) (by decide +kernel)
set_option maxRecDepth 20000 in
theorem gX5_show_X5_isSensor : GoodIn wsX5_show (va_wsS RX5 80 yX5_isSensor wsX5_isSensor) := goodIn_app (goodIn_of _ (by decide +kernel)) ggX5_show_X5_isSensor
theorem dX5_show_0 : decode cX5_show 0 = .ok (.aload_n 0, 1) := by decide +kernel
theorem dX5_show_1 : decode cX5_show 1 = .ok (.iload_n 1, 1) := by decide +kernel
theorem dX5_show_2 : decode cX5_show 2 = .ok (.invokestatic 80, 3) := by decide +kernel
theorem dX5_show_5 : decode cX5_show 5 = .ok (.ifCond .eq 7, 3) := by decide +kernel
theorem dX5_show_8 : decode cX5_show 8 = .ok (.iconst 0, 1) := by decide +kernel
theorem dX5_show_9 : decode cX5_show 9 = .ok (.goto 5, 3) := by decide +kernel
theorem dX5_show_12 : decode cX5_show 12 = .ok (.bipush (-2), 2) := by decide +kernel
theorem dX5_show_14 : decode cX5_show 14 = .ok (.putfield 84, 3) := by decide +kernel
theorem dX5_show_17 : decode cX5_show 17 = .ok (.aload_n 0, 1) := by decide +kernel
theorem dX5_show_18 : decode cX5_show 18 = .ok (.getfield 84, 3) := by decide +kernel
theorem dX5_show_21 : decode cX5_show 21 = .ok (.ifCond .ge 5, 3) := by decide +kernel
theorem dX5_show_24 : decode cX5_show 24 = .ok (.iconst 0, 1) := by decide +kernel
theorem dX5_show_25 : decode cX5_show 25 = .ok (.ireturn, 1) := by decide +kernel
theorem dX5_show_26 : decode cX5_show 26 = .ok (.aload_n 0, 1) := by decide +kernel
theorem dX5_show_27 : decode cX5_show 27 = .ok (.getfield 7, 3) := by decide +kernel
theorem dX5_show_30 : decode cX5_show 30 = .ok (.iload_n 1, 1) := by decide +kernel
theorem dX5_show_31 : decode cX5_show 31 = .ok (.iaload, 1) := by decide +kernel
theorem dX5_show_32 : decode cX5_show 32 = .ok (.istore_n 3, 1) := by decide +kernel
theorem dX5_show_33 : decode cX5_show 33 = .ok (.aload_n 0, 1) := by decide +kernel
theorem dX5_show_34 : decode cX5_show 34 = .ok (.getfield 7, 3) := by decide +kernel
theorem dX5_show_37 : decode cX5_show 37 = .ok (.iload_n 1, 1) := by decide +kernel
theorem dX5_show_38 : decode cX5_show 38 = .ok (.iload_n 2, 1) := by decide +kernel
theorem dX5_show_39 : decode cX5_show 39 = .ok (.iastore, 1) := by decide +kernel
theorem dX5_show_40 : decode cX5_show 40 = .ok (.iload_n 3, 1) := by decide +kernel
theorem dX5_show_41 : decode cX5_show 41 = .ok (.ireturn, 1) := by decide +kernel
set_option maxRecDepth 20000 in
theorem ggX5_shown_X5_isSensor : GoodIn wsX5_shown wsX5_isSensor := goodIn_r _ [6, 7, 8, 5, 9] (by decide +kernel) (by decide +kernel)
set_option maxRecDepth 20000 in
theorem gX5_shown_X5_isSensor : GoodIn wsX5_shown (va_wsS RX5 80 yX5_isSensor wsX5_isSensor) := goodIn_app (goodIn_of _ (by decide +kernel)) ggX5_shown_X5_isSensor
theorem dX5_shown_0 : decode cX5_shown 0 = .ok (.aload_n 0, 1) := by decide +kernel
theorem dX5_shown_1 : decode cX5_shown 1 = .ok (.iload_n 1, 1) := by decide +kernel
theorem dX5_shown_2 : decode cX5_shown 2 = .ok (.invokestatic 80, 3) := by decide +kernel
theorem dX5_shown_5 : decode cX5_shown 5 = .ok (.ifCond .eq 7, 3) := by decide +kernel
theorem dX5_shown_8 : decode cX5_shown 8 = .ok (.iconst 0, 1) := by decide +kernel
theorem dX5_shown_9 : decode cX5_shown 9 = .ok (.goto 5, 3) := by decide +kernel
theorem dX5_shown_12 : decode cX5_shown 12 = .ok (.bipush (-2), 2) := by decide +kernel
theorem dX5_shown_14 : decode cX5_shown 14 = .ok (.putfield 84, 3) := by decide +kernel
theorem dX5_shown_17 : decode cX5_shown 17 = .ok (.aload_n 0, 1) := by decide +kernel
theorem dX5_shown_18 : decode cX5_shown 18 = .ok (.getfield 84, 3) := by decide +kernel
theorem dX5_shown_21 : decode cX5_shown 21 = .ok (.ifCond .ge 7, 3) := by decide +kernel
theorem dX5_shown_24 : decode cX5_shown 24 = .ok (.iconst 0, 1) := by decide +kernel
theorem dX5_shown_25 : decode cX5_shown 25 = .ok (.goto 9, 3) := by decide +kernel
theorem dX5_shown_28 : decode cX5_shown 28 = .ok (.aload_n 0, 1) := by decide +kernel
theorem dX5_shown_29 : decode cX5_shown 29 = .ok (.getfield 7, 3) := by decide +kernel
theorem dX5_shown_32 : decode cX5_shown 32 = .ok (.iload_n 1, 1) := by decide +kernel
theorem dX5_shown_33 : decode cX5_shown 33 = .ok (.iaload, 1) := by decide +kernel
theorem dX5_shown_34 : decode cX5_shown 34 = .ok (.ireturn, 1) := by decide +kernel
set_option maxRecDepth 20000 in
theorem ggX5_fill_X5_isTank : GoodIn wsX5_fill wsX5_isTank := goodIn_r _ [6, 7, 8, 5, 9] (by decide +kernel) (by decide +kernel)
set_option maxRecDepth 20000 in
theorem gX5_fill_X5_isTank : GoodIn wsX5_fill (va_wsS RX5 88 yX5_isTank wsX5_isTank) := goodIn_app (goodIn_of _ (by decide +kernel)) ggX5_fill_X5_isTank
set_option maxRecDepth 20000 in
theorem ggX5_fill_X5_in : GoodIn wsX5_fill wsX5_in := goodIn_r _ [9] (by decide +kernel) (by decide +kernel)
set_option maxRecDepth 20000 in
theorem gX5_fill_X5_in : GoodIn wsX5_fill (va_wsS RX5 76 yX5_in wsX5_in) := goodIn_app (goodIn_of _ (by decide +kernel)) ggX5_fill_X5_in
theorem dX5_fill_0 : decode cX5_fill 0 = .ok (.iload_n 1, 1) := by decide +kernel
theorem dX5_fill_1 : decode cX5_fill 1 = .ok (.invokestatic 88, 3) := by decide +kernel
theorem dX5_fill_4 : decode cX5_fill 4 = .ok (.ifCond .ne 6, 3) := by decide +kernel
theorem dX5_fill_7 : decode cX5_fill 7 = .ok (.bipush (-2), 2) := by decide +kernel
theorem dX5_fill_9 : decode cX5_fill 9 = .ok (.ireturn, 1) := by decide +kernel
theorem dX5_fill_10 : decode cX5_fill 10 = .ok (.iload_n 2, 1) := by decide +kernel
theorem dX5_fill_11 : decode cX5_fill 11 = .ok (.iconst 0, 1) := by decide +kernel
theorem dX5_fill_12 : decode cX5_fill 12 = .ok (.ldc 91, 2) := by decide +kernel
theorem dX5_fill_14 : decode cX5_fill 14 = .ok (.invokestatic 76, 3) := by decide +kernel
theorem dX5_fill_17 : decode cX5_fill 17 = .ok (.ifCond .ne 6, 3) := by decide +kernel
theorem dX5_fill_20 : decode cX5_fill 20 = .ok (.bipush (-3), 2) := by decide +kernel
theorem dX5_fill_22 : decode cX5_fill 22 = .ok (.ireturn, 1) := by decide +kernel
theorem dX5_fill_23 : decode cX5_fill 23 = .ok (.aload_n 0, 1) := by decide +kernel
theorem dX5_fill_24 : decode cX5_fill 24 = .ok (.getfield 13, 3) := by decide +kernel
theorem dX5_fill_27 : decode cX5_fill 27 = .ok (.iload_n 1, 1) := by decide +kernel
theorem dX5_fill_28 : decode cX5_fill 28 = .ok (.iaload, 1) := by decide +kernel
theorem dX5_fill_29 : decode cX5_fill 29 = .ok (.istore_n 3, 1) := by decide +kernel
theorem dX5_fill_30 : decode cX5_fill 30 = .ok (.aload_n 0, 1) := by decide +kernel
theorem dX5_fill_31 : decode cX5_fill 31 = .ok (.getfield 13, 3) := by decide +kernel
theorem dX5_fill_34 : decode cX5_fill 34 = .ok (.iload_n 1, 1) := by decide +kernel
theorem dX5_fill_35 : decode cX5_fill 35 = .ok (.iload_n 2, 1) := by decide +kernel
theorem dX5_fill_36 : decode cX5_fill 36 = .ok (.iastore, 1) := by decide +kernel
theorem dX5_fill_37 : decode cX5_fill 37 = .ok (.iload_n 3, 1) := by decide +kernel
theorem dX5_fill_38 : decode cX5_fill 38 = .ok (.ireturn, 1) := by decide +kernel
set_option maxRecDepth 20000 in
theorem ggX5_tank_X5_isTank : GoodIn wsX5_tank wsX5_isTank := goodIn_r _ [5, 6, 7, 4, 8] (by decide +kernel) (by decide +kernel)
set_option maxRecDepth 20000 in
theorem gX5_tank_X5_isTank : GoodIn wsX5_tank (va_wsS RX5 88 yX5_isTank wsX5_isTank) := goodIn_app (goodIn_of _ (by decide +kernel)) ggX5_tank_X5_isTank
theorem dX5_tank_0 : decode cX5_tank 0 = .ok (.iload_n 1, 1) := by decide +kernel
theorem dX5_tank_1 : decode cX5_tank 1 = .ok (.invokestatic 88, 3) := by decide +kernel
theorem dX5_tank_4 : decode cX5_tank 4 = .ok (.ifCond .eq 12, 3) := by decide +kernel
theorem dX5_tank_7 : decode cX5_tank 7 = .ok (.aload_n 0, 1) := by decide +kernel
theorem dX5_tank_8 : decode cX5_tank 8 = .ok (.getfield 13, 3) := by decide +kernel
theorem dX5_tank_11 : decode cX5_tank 11 = .ok (.iload_n 1, 1) := by decide +kernel
theorem dX5_tank_12 : decode cX5_tank 12 = .ok (.iaload, 1) := by decide +kernel
theorem dX5_tank_13 : decode cX5_tank 13 = .ok (.goto 5, 3) := by decide +kernel
theorem dX5_tank_16 : decode cX5_tank 16 = .ok (.bipush (-2), 2) := by decide +kernel
theorem dX5_tank_18 : decode cX5_tank 18 = .ok (.ireturn, 1) := by decide +kernel
set_option maxRecDepth 20000 in
theorem ggX5_isRule_X5_in : GoodIn wsX5_isRule wsX5_in := goodIn_r _ [5] (by decide +kernel) (by decide +kernel)
set_option maxRecDepth 20000 in
theorem gX5_isRule_X5_in : GoodIn wsX5_isRule (va_wsS RX5 76 yX5_in wsX5_in) := goodIn_app (goodIn_of _ (by decide +kernel)) ggX5_isRule_X5_in
theorem dX5_isRule_0 : decode cX5_isRule 0 = .ok (.iload_n 1, 1) := by decide +kernel
theorem dX5_isRule_1 : decode cX5_isRule 1 = .ok (.iconst 0, 1) := by decide +kernel
theorem dX5_isRule_2 : decode cX5_isRule 2 = .ok (.aload_n 0, 1) := by decide +kernel
theorem dX5_isRule_3 : decode cX5_isRule 3 = .ok (.getfield 92, 3) := by decide +kernel
theorem dX5_isRule_6 : decode cX5_isRule 6 = .ok (.iconst 1, 1) := by decide +kernel
theorem dX5_isRule_7 : decode cX5_isRule 7 = .ok (.isub, 1) := by decide +kernel
theorem dX5_isRule_8 : decode cX5_isRule 8 = .ok (.invokestatic 76, 3) := by decide +kernel
theorem dX5_isRule_11 : decode cX5_isRule 11 = .ok (.ireturn, 1) := by decide +kernel
set_option maxRecDepth 20000 in
theorem ggX5_isAct_X5_in : GoodIn wsX5_isAct wsX5_in := goodIn_r _ [5] (by decide +kernel) (by decide +kernel)
set_option maxRecDepth 20000 in
theorem gX5_isAct_X5_in : GoodIn wsX5_isAct (va_wsS RX5 76 yX5_in wsX5_in) := goodIn_app (goodIn_of _ (by decide +kernel)) ggX5_isAct_X5_in
theorem dX5_isAct_0 : decode cX5_isAct 0 = .ok (.iload_n 1, 1) := by decide +kernel
theorem dX5_isAct_1 : decode cX5_isAct 1 = .ok (.iconst 0, 1) := by decide +kernel
theorem dX5_isAct_2 : decode cX5_isAct 2 = .ok (.aload_n 0, 1) := by decide +kernel
theorem dX5_isAct_3 : decode cX5_isAct 3 = .ok (.getfield 95, 3) := by decide +kernel
theorem dX5_isAct_6 : decode cX5_isAct 6 = .ok (.iconst 1, 1) := by decide +kernel
theorem dX5_isAct_7 : decode cX5_isAct 7 = .ok (.isub, 1) := by decide +kernel
theorem dX5_isAct_8 : decode cX5_isAct 8 = .ok (.invokestatic 76, 3) := by decide +kernel
theorem dX5_isAct_11 : decode cX5_isAct 11 = .ok (.ireturn, 1) := by decide +kernel
set_option maxRecDepth 20000 in
theorem ggX5_rule_X5_in : GoodIn wsX5_rule wsX5_in := goodIn_r _ [11] (by decide +kernel) (by decide +kernel)
set_option maxRecDepth 20000 in
theorem gX5_rule_X5_in : GoodIn wsX5_rule (va_wsS RX5 76 yX5_in wsX5_in) := goodIn_app (goodIn_of _ (by decide +kernel)) ggX5_rule_X5_in
set_option maxRecDepth 20000 in
theorem ggX5_rule_X5_isSensor : GoodIn wsX5_rule wsX5_isSensor := goodIn_r _ [14, 8, 9, 10, 11] (by decide +kernel) (by decide +kernel)
set_option maxRecDepth 20000 in
theorem gX5_rule_X5_isSensor : GoodIn wsX5_rule (va_wsS RX5 80 yX5_isSensor wsX5_isSensor) := goodIn_app (goodIn_of _ (by decide +kernel)) ggX5_rule_X5_isSensor
set_option maxRecDepth 20000 in
theorem ggX5_rule_X5_isRule : GoodIn wsX5_rule wsX5_isRule := goodIn_r _ [18, 1, 8, 9, 10, 11, 19, 20, 21, 22, 23, 24, 25, 26, 27, 28, 29, 30, 31, 32, 33, 34, 35, 36, 37, 38, 39, 40, 41, 42, 43, 44, 45, 46, 47, 48, 49, 50, 51, 52, 53, 54] (by decide +kernel) (by decide +kernel)
set_option maxRecDepth 20000 in
theorem gX5_rule_X5_isRule : GoodIn wsX5_rule (wsV RX5 98 RX5 yX5_isRule wsX5_isRule) := goodIn_app (goodIn_of _ (by decide +kernel)) ggX5_rule_X5_isRule
theorem dX5_rule_0 : decode cX5_rule 0 = .ok (.iload_n 1, 1) := by decide +kernel
theorem dX5_rule_1 : decode cX5_rule 1 = .ok (.iconst 0, 1) := by decide +kernel
theorem dX5_rule_2 : decode cX5_rule 2 = .ok (.bipush 9, 2) := by decide +kernel
theorem dX5_rule_4 : decode cX5_rule 4 = .ok (.invokestatic 76, 3) := by decide +kernel
theorem dX5_rule_7 : decode cX5_rule 7 = .ok (.ifCond .ne 6, 3) := by decide +kernel
theorem dX5_rule_10 : decode cX5_rule 10 = .ok (.bipush (-3), 2) := by decide +kernel
theorem dX5_rule_12 : decode cX5_rule 12 = .ok (.ireturn, 1) := by decide +kernel
theorem dX5_rule_13 : decode cX5_rule 13 = .ok (.iload_n 1, 1) := by decide +kernel
theorem dX5_rule_14 : decode cX5_rule 14 = .ok (.iconst 5, 1) := by decide +kernel
theorem dX5_rule_15 : decode cX5_rule 15 = .ok (.if_icmp .ge 30, 3) := by decide +kernel
theorem dX5_rule_18 : decode cX5_rule 18 = .ok (.iload_n 2, 1) := by decide +kernel
theorem dX5_rule_19 : decode cX5_rule 19 = .ok (.invokestatic 80, 3) := by decide +kernel
theorem dX5_rule_22 : decode cX5_rule 22 = .ok (.ifCond .eq 19, 3) := by decide +kernel
theorem dX5_rule_25 : decode cX5_rule 25 = .ok (.iload_n 1, 1) := by decide +kernel
theorem dX5_rule_26 : decode cX5_rule 26 = .ok (.iconst 3, 1) := by decide +kernel
theorem dX5_rule_27 : decode cX5_rule 27 = .ok (.if_icmp .ne 10, 3) := by decide +kernel
theorem dX5_rule_30 : decode cX5_rule 30 = .ok (.iload_n 3, 1) := by decide +kernel
theorem dX5_rule_31 : decode cX5_rule 31 = .ok (.invokestatic 80, 3) := by decide +kernel
theorem dX5_rule_34 : decode cX5_rule 34 = .ok (.ifCond .eq 7, 3) := by decide +kernel
theorem dX5_rule_37 : decode cX5_rule 37 = .ok (.iconst 1, 1) := by decide +kernel
theorem dX5_rule_38 : decode cX5_rule 38 = .ok (.goto 39, 3) := by decide +kernel
theorem dX5_rule_41 : decode cX5_rule 41 = .ok (.iconst 0, 1) := by decide +kernel
theorem dX5_rule_42 : decode cX5_rule 42 = .ok (.goto 35, 3) := by decide +kernel
theorem dX5_rule_45 : decode cX5_rule 45 = .ok (.aload_n 0, 1) := by decide +kernel
theorem dX5_rule_46 : decode cX5_rule 46 = .ok (.iload_n 2, 1) := by decide +kernel
theorem dX5_rule_47 : decode cX5_rule 47 = .ok (.invokevirtual 98, 3) := by decide +kernel
theorem dX5_rule_50 : decode cX5_rule 50 = .ok (.ifCond .eq 26, 3) := by decide +kernel
theorem dX5_rule_53 : decode cX5_rule 53 = .ok (.iload_n 1, 1) := by decide +kernel
theorem dX5_rule_54 : decode cX5_rule 54 = .ok (.iconst 5, 1) := by decide +kernel
theorem dX5_rule_55 : decode cX5_rule 55 = .ok (.if_icmp .eq 17, 3) := by decide +kernel
theorem dX5_rule_58 : decode cX5_rule 58 = .ok (.iload_n 1, 1) := by decide +kernel
theorem dX5_rule_59 : decode cX5_rule 59 = .ok (.bipush 8, 2) := by decide +kernel
theorem dX5_rule_61 : decode cX5_rule 61 = .ok (.if_icmp .eq 11, 3) := by decide +kernel
theorem dX5_rule_64 : decode cX5_rule 64 = .ok (.aload_n 0, 1) := by decide +kernel
theorem dX5_rule_65 : decode cX5_rule 65 = .ok (.iload_n 3, 1) := by decide +kernel
theorem dX5_rule_66 : decode cX5_rule 66 = .ok (.invokevirtual 98, 3) := by decide +kernel
theorem dX5_rule_69 : decode cX5_rule 69 = .ok (.ifCond .eq 7, 3) := by decide +kernel
theorem dX5_rule_72 : decode cX5_rule 72 = .ok (.iconst 1, 1) := by decide +kernel
theorem dX5_rule_73 : decode cX5_rule 73 = .ok (.goto 4, 3) := by decide +kernel
theorem dX5_rule_76 : decode cX5_rule 76 = .ok (.iconst 0, 1) := by decide +kernel
theorem dX5_rule_77 : decode cX5_rule 77 = .ok (.istore 5, 2) := by decide +kernel
theorem dX5_rule_79 : decode cX5_rule 79 = .ok (.iload 5, 2) := by decide +kernel
theorem dX5_rule_81 : decode cX5_rule 81 = .ok (.ifCond .ne 6, 3) := by decide +kernel
theorem dX5_rule_84 : decode cX5_rule 84 = .ok (.bipush (-2), 2) := by decide +kernel
theorem dX5_rule_86 : decode cX5_rule 86 = .ok (.ireturn, 1) := by decide +kernel
theorem dX5_rule_87 : decode cX5_rule 87 = .ok (.iload_n 1, 1) := by decide +kernel
theorem dX5_rule_88 : decode cX5_rule 88 = .ok (.bipush 8, 2) := by decide +kernel
theorem dX5_rule_90 : decode cX5_rule 90 = .ok (.if_icmp .ne 13, 3) := by decide +kernel
theorem dX5_rule_93 : decode cX5_rule 93 = .ok (.iload_n 3, 1) := by decide +kernel
theorem dX5_rule_94 : decode cX5_rule 94 = .ok (.iconst 1, 1) := by decide +kernel
theorem dX5_rule_95 : decode cX5_rule 95 = .ok (.bipush 100, 2) := by decide +kernel
theorem dX5_rule_97 : decode cX5_rule 97 = .ok (.invokestatic 76, 3) := by decide +kernel
theorem dX5_rule_100 : decode cX5_rule 100 = .ok (.ifCond .eq 13, 3) := by decide +kernel
theorem dX5_rule_103 : decode cX5_rule 103 = .ok (.iload_n 1, 1) := by decide +kernel
theorem dX5_rule_104 : decode cX5_rule 104 = .ok (.iconst 1, 1) := by decide +kernel
theorem dX5_rule_105 : decode cX5_rule 105 = .ok (.if_icmp .ne 11, 3) := by decide +kernel
theorem dX5_rule_108 : decode cX5_rule 108 = .ok (.iload 4, 2) := by decide +kernel
theorem dX5_rule_110 : decode cX5_rule 110 = .ok (.ifCond .ge 6, 3) := by decide +kernel
theorem dX5_rule_113 : decode cX5_rule 113 = .ok (.bipush (-3), 2) := by decide +kernel
theorem dX5_rule_115 : decode cX5_rule 115 = .ok (.ireturn, 1) := by decide +kernel
theorem dX5_rule_116 : decode cX5_rule 116 = .ok (.aload_n 0, 1) := by decide +kernel
theorem dX5_rule_117 : decode cX5_rule 117 = .ok (.getfield 92, 3) := by decide +kernel
theorem dX5_rule_120 : decode cX5_rule 120 = .ok (.bipush 40, 2) := by decide +kernel
theorem dX5_rule_122 : decode cX5_rule 122 = .ok (.if_icmp .ne 6, 3) := by decide +kernel
theorem dX5_rule_125 : decode cX5_rule 125 = .ok (.bipush (-4), 2) := by decide +kernel
theorem dX5_rule_127 : decode cX5_rule 127 = .ok (.ireturn, 1) := by decide +kernel
theorem dX5_rule_128 : decode cX5_rule 128 = .ok (.aload_n 0, 1) := by decide +kernel
theorem dX5_rule_129 : decode cX5_rule 129 = .ok (.getfield 16, 3) := by decide +kernel
theorem dX5_rule_132 : decode cX5_rule 132 = .ok (.aload_n 0, 1) := by decide +kernel
theorem dX5_rule_133 : decode cX5_rule 133 = .ok (.getfield 92, 3) := by decide +kernel
theorem dX5_rule_136 : decode cX5_rule 136 = .ok (.iload_n 1, 1) := by decide +kernel
theorem dX5_rule_137 : decode cX5_rule 137 = .ok (.iastore, 1) := by decide +kernel
theorem dX5_rule_138 : decode cX5_rule 138 = .ok (.aload_n 0, 1) := by decide +kernel
theorem dX5_rule_139 : decode cX5_rule 139 = .ok (.getfield 19, 3) := by decide +kernel
theorem dX5_rule_142 : decode cX5_rule 142 = .ok (.aload_n 0, 1) := by decide +kernel
theorem dX5_rule_143 : decode cX5_rule 143 = .ok (.getfield 92, 3) := by decide +kernel
theorem dX5_rule_146 : decode cX5_rule 146 = .ok (.iload_n 2, 1) := by decide +kernel
theorem dX5_rule_147 : decode cX5_rule 147 = .ok (.iastore, 1) := by decide +kernel
theorem dX5_rule_148 : decode cX5_rule 148 = .ok (.aload_n 0, 1) := by decide +kernel
theorem dX5_rule_149 : decode cX5_rule 149 = .ok (.getfield 22, 3) := by decide +kernel
theorem dX5_rule_152 : decode cX5_rule 152 = .ok (.aload_n 0, 1) := by decide +kernel
theorem dX5_rule_153 : decode cX5_rule 153 = .ok (.getfield 92, 3) := by decide +kernel
theorem dX5_rule_156 : decode cX5_rule 156 = .ok (.iload_n 3, 1) := by decide +kernel
theorem dX5_rule_157 : decode cX5_rule 157 = .ok (.iastore, 1) := by decide +kernel
theorem dX5_rule_158 : decode cX5_rule 158 = .ok (.aload_n 0, 1) := by decide +kernel
theorem dX5_rule_159 : decode cX5_rule 159 = .ok (.getfield 25, 3) := by decide +kernel
theorem dX5_rule_162 : decode cX5_rule 162 = .ok (.aload_n 0, 1) := by decide +kernel
theorem dX5_rule_163 : decode cX5_rule 163 = .ok (.getfield 92, 3) := by decide +kernel
theorem dX5_rule_166 : decode cX5_rule 166 = .ok (.iload 4, 2) := by decide +kernel
theorem dX5_rule_168 : decode cX5_rule 168 = .ok (.iastore, 1) := by decide +kernel
theorem dX5_rule_169 : decode cX5_rule 169 = .ok (.aload_n 0, 1) := by decide +kernel
theorem dX5_rule_170 : decode cX5_rule 170 = .ok (.getfield 28, 3) := by decide +kernel
theorem dX5_rule_173 : decode cX5_rule 173 = .ok (.aload_n 0, 1) := by decide +kernel
theorem dX5_rule_174 : decode cX5_rule 174 = .ok (.getfield 92, 3) := by decide +kernel
theorem dX5_rule_177 : decode cX5_rule 177 = .ok (.iload_n 1, 1) := by decide +kernel
theorem dX5_rule_178 : decode cX5_rule 178 = .ok (.iconst 2, 1) := by decide +kernel
theorem dX5_rule_179 : decode cX5_rule 179 = .ok (.if_icmp .ne 12, 3) := by decide +kernel
theorem dX5_rule_182 : decode cX5_rule 182 = .ok (.aload_n 0, 1) := by decide +kernel
theorem dX5_rule_183 : decode cX5_rule 183 = .ok (.getfield 7, 3) := by decide +kernel
theorem dX5_rule_186 : decode cX5_rule 186 = .ok (.iload_n 2, 1) := by decide +kernel
theorem dX5_rule_187 : decode cX5_rule 187 = .ok (.iaload, 1) := by decide +kernel
theorem dX5_rule_188 : decode cX5_rule 188 = .ok (.goto 4, 3) := by decide +kernel
theorem dX5_rule_191 : decode cX5_rule 191 = .ok (.iconst 0, 1) := by decide +kernel
theorem dX5_rule_192 : decode cX5_rule 192 = .ok (.iastore, 1) := by decide +kernel
theorem dX5_rule_193 : decode cX5_rule 193 = .ok (.aload_n 0, 1) := by decide +kernel
theorem dX5_rule_194 : decode cX5_rule 194 = .ok (.dup, 1) := by decide +kernel
theorem dX5_rule_195 : decode cX5_rule 195 = .ok (.getfield 92, 3) := by decide +kernel
theorem dX5_rule_198 : decode cX5_rule 198 = .ok (.iconst 1, 1) := by decide +kernel
theorem dX5_rule_199 : decode cX5_rule 199 = .ok (.iadd, 1) := by decide +kernel
theorem dX5_rule_200 : decode cX5_rule 200 = .ok (.putfield 92, 3) := by decide +kernel
theorem dX5_rule_203 : decode cX5_rule 203 = .ok (.aload_n 0, 1) := by decide +kernel
theorem dX5_rule_204 : decode cX5_rule 204 = .ok (.getfield 92, 3) := by decide +kernel
theorem dX5_rule_207 : decode cX5_rule 207 = .ok (.iconst 1, 1) := by decide +kernel
theorem dX5_rule_208 : decode cX5_rule 208 = .ok (.isub, 1) := by decide +kernel
theorem dX5_rule_209 : decode cX5_rule 209 = .ok (.ireturn, 1) := by decide +kernel
set_option maxRecDepth 20000 in
theorem ggX5_isActOrNone_X5_isAct : GoodIn wsX5_isActOrNone wsX5_isAct := goodIn_r _ [5, 6, 7, 8, 4, 9, 10, 11, 12, 13, 14, 15, 16, 17, 18, 19, 20, 21, 22, 23, 24, 25, 26, 27, 28, 29, 30, 31, 32, 33, 34, 35, 36, 37, 38, 39, 40, 41, 42, 43, 44, 45] (by decide +kernel) (by decide +kernel)
set_option maxRecDepth 20000 in
theorem gX5_isActOrNone_X5_isAct : GoodIn wsX5_isActOrNone (wsV RX5 101 RX5 yX5_isAct wsX5_isAct) := goodIn_app (goodIn_of _ (by decide +kernel)) ggX5_isActOrNone_X5_isAct
theorem dX5_isActOrNone_0 : decode cX5_isActOrNone 0 = .ok (.iload_n 1, 1) := by decide +kernel
theorem dX5_isActOrNone_1 : decode cX5_isActOrNone 1 = .ok (.iconst (-1), 1) := by decide +kernel
theorem dX5_isActOrNone_2 : decode cX5_isActOrNone 2 = .ok (.if_icmp .eq 11, 3) := by decide +kernel
theorem dX5_isActOrNone_5 : decode cX5_isActOrNone 5 = .ok (.aload_n 0, 1) := by decide +kernel
theorem dX5_isActOrNone_6 : decode cX5_isActOrNone 6 = .ok (.iload_n 1, 1) := by decide +kernel
theorem dX5_isActOrNone_7 : decode cX5_isActOrNone 7 = .ok (.invokevirtual 101, 3) := by decide +kernel
theorem dX5_isActOrNone_10 : decode cX5_isActOrNone 10 = .ok (.ifCond .eq 7, 3) := by decide +kernel
theorem dX5_isActOrNone_13 : decode cX5_isActOrNone 13 = .ok (.iconst 1, 1) := by decide +kernel
theorem dX5_isActOrNone_14 : decode cX5_isActOrNone 14 = .ok (.goto 4, 3) := by decide +kernel
theorem dX5_isActOrNone_17 : decode cX5_isActOrNone 17 = .ok (.iconst 0, 1) := by decide +kernel
theorem dX5_isActOrNone_18 : decode cX5_isActOrNone 18 = .ok (.ireturn, 1) := by decide +kernel
set_option maxRecDepth 20000 in
theorem ggX5_areKnown_X5_isTank : GoodIn wsX5_areKnown wsX5_isTank := goodIn_r _ [4, 5, 6, 3, 7] (by decide +kernel) (by decide +kernel)
set_option maxRecDepth 20000 in
theorem gX5_areKnown_X5_isTank : GoodIn wsX5_areKnown (va_wsS RX5 88 yX5_isTank wsX5_isTank) := goodIn_app (goodIn_of _ (by decide +kernel)) ggX5_areKnown_X5_isTank
set_option maxRecDepth 20000 in
theorem ggX5_areKnown_X5_isRule : GoodIn wsX5_areKnown wsX5_isRule := goodIn_r _ [11, 12, 5, 6, 3, 7, 25, 26, 27, 28, 29, 30, 31, 32, 33, 34, 35, 36, 37, 38, 39, 40, 41, 42, 43, 44, 45, 46, 47, 48, 49, 50, 51, 52, 53, 54, 55, 56, 57, 58, 59, 60] (by decide +kernel) (by decide +kernel)
set_option maxRecDepth 20000 in
theorem gX5_areKnown_X5_isRule : GoodIn wsX5_areKnown (wsV RX5 98 RX5 yX5_isRule wsX5_isRule) := goodIn_app (goodIn_of _ (by decide +kernel)) ggX5_areKnown_X5_isRule
set_option maxRecDepth 20000 in
theorem ggX5_areKnown_X5_isActOrNone : GoodIn wsX5_areKnown wsX5_isActOrNone := goodIn_r _ [16, 17, 18, 19, 3, 20, 21, 5, 6, 7, 25, 26, 27, 28, 29, 30, 31, 32, 33, 34, 35, 36, 37, 38, 39, 40, 41, 42, 43, 44, 45, 46, 47, 48, 49, 50, 51, 52, 53, 54, 55, 56, 57, 58, 59, 60] (by decide +kernel) (by decide +kernel)
set_option maxRecDepth 20000 in
theorem gX5_areKnown_X5_isActOrNone : GoodIn wsX5_areKnown (wsV RX5 104 RX5 yX5_isActOrNone wsX5_isActOrNone) := goodIn_app (goodIn_of _ (by decide +kernel)) ggX5_areKnown_X5_isActOrNone
set_option maxRecDepth 20000 in
theorem ggX5_areKnown_X5_isAct : GoodIn wsX5_areKnown wsX5_isAct := goodIn_r _ [20, 21, 5, 6, 3, 7, 25, 26, 27, 28, 29, 30, 31, 32, 33, 34, 35, 36, 37, 38, 39, 40, 41, 42, 43, 44, 45, 46, 47, 48, 49, 50, 51, 52, 53, 54, 55, 56, 57, 58, 59, 60] (by decide +kernel) (by decide +kernel)
set_option maxRecDepth 20000 in
theorem gX5_areKnown_X5_isAct : GoodIn wsX5_areKnown (wsV RX5 101 RX5 yX5_isAct wsX5_isAct) := goodIn_app (goodIn_of _ (by decide +kernel)) ggX5_areKnown_X5_isAct
set_option maxRecDepth 20000 in
theorem ggX5_areKnown_X5_isSensor : GoodIn wsX5_areKnown wsX5_isSensor := goodIn_r _ [24, 5, 6, 3, 7] (by decide +kernel) (by decide +kernel)
set_option maxRecDepth 20000 in
theorem gX5_areKnown_X5_isSensor : GoodIn wsX5_areKnown (va_wsS RX5 80 yX5_isSensor wsX5_isSensor) := goodIn_app (goodIn_of _ (by decide +kernel)) ggX5_areKnown_X5_isSensor
theorem dX5_areKnown_0 : decode cX5_areKnown 0 = .ok (.iload_n 1, 1) := by decide +kernel
theorem dX5_areKnown_1 : decode cX5_areKnown 1 = .ok (.tableswitch 155 0 8 #[51, 56, 76, 107, 129, 129, 107, 155, 135], 51) := by decide +kernel
theorem dX5_areKnown_52 : decode cX5_areKnown 52 = .ok (.iload_n 2, 1) := by decide +kernel
theorem dX5_areKnown_53 : decode cX5_areKnown 53 = .ok (.invokestatic 88, 3) := by decide +kernel
theorem dX5_areKnown_56 : decode cX5_areKnown 56 = .ok (.ireturn, 1) := by decide +kernel
theorem dX5_areKnown_57 : decode cX5_areKnown 57 = .ok (.iload_n 2, 1) := by decide +kernel
theorem dX5_areKnown_58 : decode cX5_areKnown 58 = .ok (.invokestatic 88, 3) := by decide +kernel
theorem dX5_areKnown_61 : decode cX5_areKnown 61 = .ok (.ifCond .eq 14, 3) := by decide +kernel
theorem dX5_areKnown_64 : decode cX5_areKnown 64 = .ok (.iload_n 3, 1) := by decide +kernel
theorem dX5_areKnown_65 : decode cX5_areKnown 65 = .ok (.invokestatic 88, 3) := by decide +kernel
theorem dX5_areKnown_68 : decode cX5_areKnown 68 = .ok (.ifCond .eq 7, 3) := by decide +kernel
theorem dX5_areKnown_71 : decode cX5_areKnown 71 = .ok (.iconst 1, 1) := by decide +kernel
theorem dX5_areKnown_72 : decode cX5_areKnown 72 = .ok (.goto 4, 3) := by decide +kernel
theorem dX5_areKnown_75 : decode cX5_areKnown 75 = .ok (.iconst 0, 1) := by decide +kernel
theorem dX5_areKnown_76 : decode cX5_areKnown 76 = .ok (.ireturn, 1) := by decide +kernel
theorem dX5_areKnown_77 : decode cX5_areKnown 77 = .ok (.aload_n 0, 1) := by decide +kernel
theorem dX5_areKnown_78 : decode cX5_areKnown 78 = .ok (.iload_n 2, 1) := by decide +kernel
theorem dX5_areKnown_79 : decode cX5_areKnown 79 = .ok (.invokevirtual 98, 3) := by decide +kernel
theorem dX5_areKnown_82 : decode cX5_areKnown 82 = .ok (.ifCond .eq 24, 3) := by decide +kernel
theorem dX5_areKnown_85 : decode cX5_areKnown 85 = .ok (.aload_n 0, 1) := by decide +kernel
theorem dX5_areKnown_86 : decode cX5_areKnown 86 = .ok (.iload_n 3, 1) := by decide +kernel
theorem dX5_areKnown_87 : decode cX5_areKnown 87 = .ok (.invokevirtual 104, 3) := by decide +kernel
theorem dX5_areKnown_90 : decode cX5_areKnown 90 = .ok (.ifCond .eq 16, 3) := by decide +kernel
theorem dX5_areKnown_93 : decode cX5_areKnown 93 = .ok (.aload_n 0, 1) := by decide +kernel
theorem dX5_areKnown_94 : decode cX5_areKnown 94 = .ok (.iload 4, 2) := by decide +kernel
theorem dX5_areKnown_96 : decode cX5_areKnown 96 = .ok (.invokevirtual 104, 3) := by decide +kernel
theorem dX5_areKnown_99 : decode cX5_areKnown 99 = .ok (.ifCond .eq 7, 3) := by decide +kernel
theorem dX5_areKnown_102 : decode cX5_areKnown 102 = .ok (.iconst 1, 1) := by decide +kernel
theorem dX5_areKnown_103 : decode cX5_areKnown 103 = .ok (.goto 4, 3) := by decide +kernel
theorem dX5_areKnown_106 : decode cX5_areKnown 106 = .ok (.iconst 0, 1) := by decide +kernel
theorem dX5_areKnown_107 : decode cX5_areKnown 107 = .ok (.ireturn, 1) := by decide +kernel
theorem dX5_areKnown_108 : decode cX5_areKnown 108 = .ok (.aload_n 0, 1) := by decide +kernel
theorem dX5_areKnown_109 : decode cX5_areKnown 109 = .ok (.iload_n 2, 1) := by decide +kernel
theorem dX5_areKnown_110 : decode cX5_areKnown 110 = .ok (.invokevirtual 101, 3) := by decide +kernel
theorem dX5_areKnown_113 : decode cX5_areKnown 113 = .ok (.ifCond .eq 15, 3) := by decide +kernel
theorem dX5_areKnown_116 : decode cX5_areKnown 116 = .ok (.aload_n 0, 1) := by decide +kernel
theorem dX5_areKnown_117 : decode cX5_areKnown 117 = .ok (.iload_n 3, 1) := by decide +kernel
theorem dX5_areKnown_118 : decode cX5_areKnown 118 = .ok (.invokevirtual 101, 3) := by decide +kernel
theorem dX5_areKnown_121 : decode cX5_areKnown 121 = .ok (.ifCond .eq 7, 3) := by decide +kernel
theorem dX5_areKnown_124 : decode cX5_areKnown 124 = .ok (.iconst 1, 1) := by decide +kernel
theorem dX5_areKnown_125 : decode cX5_areKnown 125 = .ok (.goto 4, 3) := by decide +kernel
theorem dX5_areKnown_128 : decode cX5_areKnown 128 = .ok (.iconst 0, 1) := by decide +kernel
theorem dX5_areKnown_129 : decode cX5_areKnown 129 = .ok (.ireturn, 1) := by decide +kernel
theorem dX5_areKnown_130 : decode cX5_areKnown 130 = .ok (.aload_n 0, 1) := by decide +kernel
theorem dX5_areKnown_131 : decode cX5_areKnown 131 = .ok (.iload_n 2, 1) := by decide +kernel
theorem dX5_areKnown_132 : decode cX5_areKnown 132 = .ok (.invokevirtual 101, 3) := by decide +kernel
theorem dX5_areKnown_135 : decode cX5_areKnown 135 = .ok (.ireturn, 1) := by decide +kernel
theorem dX5_areKnown_136 : decode cX5_areKnown 136 = .ok (.iload_n 2, 1) := by decide +kernel
theorem dX5_areKnown_137 : decode cX5_areKnown 137 = .ok (.invokestatic 80, 3) := by decide +kernel
theorem dX5_areKnown_140 : decode cX5_areKnown 140 = .ok (.ifCond .eq 14, 3) := by decide +kernel
theorem dX5_areKnown_143 : decode cX5_areKnown 143 = .ok (.iload_n 3, 1) := by decide +kernel
theorem dX5_areKnown_144 : decode cX5_areKnown 144 = .ok (.invokestatic 88, 3) := by decide +kernel
theorem dX5_areKnown_147 : decode cX5_areKnown 147 = .ok (.ifCond .eq 7, 3) := by decide +kernel
theorem dX5_areKnown_150 : decode cX5_areKnown 150 = .ok (.iconst 1, 1) := by decide +kernel
theorem dX5_areKnown_151 : decode cX5_areKnown 151 = .ok (.goto 4, 3) := by decide +kernel
theorem dX5_areKnown_154 : decode cX5_areKnown 154 = .ok (.iconst 0, 1) := by decide +kernel
theorem dX5_areKnown_155 : decode cX5_areKnown 155 = .ok (.ireturn, 1) := by decide +kernel
theorem dX5_areKnown_156 : decode cX5_areKnown 156 = .ok (.iconst 1, 1) := by decide +kernel
theorem dX5_areKnown_157 : decode cX5_areKnown 157 = .ok (.ireturn, 1) := by decide +kernel
set_option maxRecDepth 20000 in
theorem ggX5_act_X5_in : GoodIn wsX5_act wsX5_in := goodIn_r _ [9] (by decide +kernel) (by decide +kernel)
set_option maxRecDepth 20000 in
theorem gX5_act_X5_in : GoodIn wsX5_act (va_wsS RX5 76 yX5_in wsX5_in) := goodIn_app (goodIn_of _ (by decide +kernel)) ggX5_act_X5_in
set_option maxRecDepth 20000 in
theorem ggX5_act_X5_areKnown : GoodIn wsX5_act wsX5_areKnown := goodIn_r _ [13, 14, 15, 8, 16, 6, 7, 9, 17, 18, 19, 20, 21, 22, 23, 24, 25, 26, 27, 28, 29, 1, 30, 31, 32, 33, 34, 35, 36, 37, 38, 39, 40, 41, 42, 43, 44, 45, 46, 47, 48, 49, 50, 51, 52, 53, 54, 55, 56, 57, 58, 59, 60, 61, 62, 63, 64, 65, 66, 67, 68] (by decide +kernel) (by decide +kernel)
set_option maxRecDepth 20000 in
theorem gX5_act_X5_areKnown : GoodIn wsX5_act (wsV RX5 107 RX5 yX5_areKnown wsX5_areKnown) := goodIn_app (goodIn_of _ (by decide +kernel)) ggX5_act_X5_areKnown
theorem dX5_act_0 : decode cX5_act 0 = .ok (.iload_n 1, 1) := by decide +kernel
theorem dX5_act_1 : decode cX5_act 1 = .ok (.iconst 0, 1) := by decide +kernel
theorem dX5_act_2 : decode cX5_act 2 = .ok (.bipush 8, 2) := by decide +kernel
theorem dX5_act_4 : decode cX5_act 4 = .ok (.invokestatic 76, 3) := by decide +kernel
theorem dX5_act_7 : decode cX5_act 7 = .ok (.ifCond .ne 6, 3) := by decide +kernel
theorem dX5_act_10 : decode cX5_act 10 = .ok (.bipush (-3), 2) := by decide +kernel
theorem dX5_act_12 : decode cX5_act 12 = .ok (.ireturn, 1) := by decide +kernel
theorem dX5_act_13 : decode cX5_act 13 = .ok (.aload_n 0, 1) := by decide +kernel
theorem dX5_act_14 : decode cX5_act 14 = .ok (.iload_n 1, 1) := by decide +kernel
theorem dX5_act_15 : decode cX5_act 15 = .ok (.iload_n 2, 1) := by decide +kernel
theorem dX5_act_16 : decode cX5_act 16 = .ok (.iload_n 3, 1) := by decide +kernel
theorem dX5_act_17 : decode cX5_act 17 = .ok (.iload 4, 2) := by decide +kernel
theorem dX5_act_19 : decode cX5_act 19 = .ok (.invokevirtual 107, 3) := by decide +kernel
theorem dX5_act_22 : decode cX5_act 22 = .ok (.ifCond .ne 6, 3) := by decide +kernel
theorem dX5_act_25 : decode cX5_act 25 = .ok (.bipush (-2), 2) := by decide +kernel
theorem dX5_act_27 : decode cX5_act 27 = .ok (.ireturn, 1) := by decide +kernel
theorem dX5_act_28 : decode cX5_act 28 = .ok (.iload_n 1, 1) := by decide +kernel
theorem dX5_act_29 : decode cX5_act 29 = .ok (.ifCond .ne 14, 3) := by decide +kernel
theorem dX5_act_32 : decode cX5_act 32 = .ok (.iload_n 3, 1) := by decide +kernel
theorem dX5_act_33 : decode cX5_act 33 = .ok (.iconst 0, 1) := by decide +kernel
theorem dX5_act_34 : decode cX5_act 34 = .ok (.sipush 1000, 3) := by decide +kernel
theorem dX5_act_37 : decode cX5_act 37 = .ok (.invokestatic 76, 3) := by decide +kernel
theorem dX5_act_40 : decode cX5_act 40 = .ok (.ifCond .eq 50, 3) := by decide +kernel
theorem dX5_act_43 : decode cX5_act 43 = .ok (.iload_n 1, 1) := by decide +kernel
theorem dX5_act_44 : decode cX5_act 44 = .ok (.iconst 1, 1) := by decide +kernel
theorem dX5_act_45 : decode cX5_act 45 = .ok (.if_icmp .ne 15, 3) := by decide +kernel
theorem dX5_act_48 : decode cX5_act 48 = .ok (.iload 4, 2) := by decide +kernel
theorem dX5_act_50 : decode cX5_act 50 = .ok (.iconst 0, 1) := by decide +kernel
theorem dX5_act_51 : decode cX5_act 51 = .ok (.sipush 1000, 3) := by decide +kernel
theorem dX5_act_54 : decode cX5_act 54 = .ok (.invokestatic 76, 3) := by decide +kernel
theorem dX5_act_57 : decode cX5_act 57 = .ok (.ifCond .eq 33, 3) := by decide +kernel
theorem dX5_act_60 : decode cX5_act 60 = .ok (.iload_n 1, 1) := by decide +kernel
theorem dX5_act_61 : decode cX5_act 61 = .ok (.iconst 4, 1) := by decide +kernel
theorem dX5_act_62 : decode cX5_act 62 = .ok (.if_icmp .ne 13, 3) := by decide +kernel
theorem dX5_act_65 : decode cX5_act 65 = .ok (.iload_n 3, 1) := by decide +kernel
theorem dX5_act_66 : decode cX5_act 66 = .ok (.iconst 0, 1) := by decide +kernel
theorem dX5_act_67 : decode cX5_act 67 = .ok (.bipush 9, 2) := by decide +kernel
theorem dX5_act_69 : decode cX5_act 69 = .ok (.invokestatic 76, 3) := by decide +kernel
theorem dX5_act_72 : decode cX5_act 72 = .ok (.ifCond .eq 18, 3) := by decide +kernel
theorem dX5_act_75 : decode cX5_act 75 = .ok (.iload_n 1, 1) := by decide +kernel
theorem dX5_act_76 : decode cX5_act 76 = .ok (.iconst 5, 1) := by decide +kernel
theorem dX5_act_77 : decode cX5_act 77 = .ok (.if_icmp .ne 16, 3) := by decide +kernel
theorem dX5_act_80 : decode cX5_act 80 = .ok (.iload_n 3, 1) := by decide +kernel
theorem dX5_act_81 : decode cX5_act 81 = .ok (.iconst 0, 1) := by decide +kernel
theorem dX5_act_82 : decode cX5_act 82 = .ok (.bipush 100, 2) := by decide +kernel
theorem dX5_act_84 : decode cX5_act 84 = .ok (.invokestatic 76, 3) := by decide +kernel
theorem dX5_act_87 : decode cX5_act 87 = .ok (.ifCond .ne 6, 3) := by decide +kernel
theorem dX5_act_90 : decode cX5_act 90 = .ok (.bipush (-3), 2) := by decide +kernel
theorem dX5_act_92 : decode cX5_act 92 = .ok (.ireturn, 1) := by decide +kernel
theorem dX5_act_93 : decode cX5_act 93 = .ok (.aload_n 0, 1) := by decide +kernel
theorem dX5_act_94 : decode cX5_act 94 = .ok (.getfield 95, 3) := by decide +kernel
theorem dX5_act_97 : decode cX5_act 97 = .ok (.bipush 40, 2) := by decide +kernel
theorem dX5_act_99 : decode cX5_act 99 = .ok (.if_icmp .ne 6, 3) := by decide +kernel
theorem dX5_act_102 : decode cX5_act 102 = .ok (.bipush (-4), 2) := by decide +kernel
theorem dX5_act_104 : decode cX5_act 104 = .ok (.ireturn, 1) := by decide +kernel
theorem dX5_act_105 : decode cX5_act 105 = .ok (.aload_n 0, 1) := by decide +kernel
theorem dX5_act_106 : decode cX5_act 106 = .ok (.getfield 31, 3) := by decide +kernel
theorem dX5_act_109 : decode cX5_act 109 = .ok (.aload_n 0, 1) := by decide +kernel
theorem dX5_act_110 : decode cX5_act 110 = .ok (.getfield 95, 3) := by decide +kernel
theorem dX5_act_113 : decode cX5_act 113 = .ok (.iload_n 1, 1) := by decide +kernel
theorem dX5_act_114 : decode cX5_act 114 = .ok (.iastore, 1) := by decide +kernel
theorem dX5_act_115 : decode cX5_act 115 = .ok (.aload_n 0, 1) := by decide +kernel
theorem dX5_act_116 : decode cX5_act 116 = .ok (.getfield 34, 3) := by decide +kernel
theorem dX5_act_119 : decode cX5_act 119 = .ok (.aload_n 0, 1) := by decide +kernel
theorem dX5_act_120 : decode cX5_act 120 = .ok (.getfield 95, 3) := by decide +kernel
theorem dX5_act_123 : decode cX5_act 123 = .ok (.iload_n 1, 1) := by decide +kernel
theorem dX5_act_124 : decode cX5_act 124 = .ok (.bipush 7, 2) := by decide +kernel
theorem dX5_act_126 : decode cX5_act 126 = .ok (.if_icmp .ne 12, 3) := by decide +kernel
theorem dX5_act_129 : decode cX5_act 129 = .ok (.aload_n 0, 1) := by decide +kernel
theorem dX5_act_130 : decode cX5_act 130 = .ok (.getfield 95, 3) := by decide +kernel
