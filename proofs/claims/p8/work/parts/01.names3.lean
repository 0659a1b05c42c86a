theorem dX4_says_218 : decode cX4_says 218 = .ok (.iload_n 2, 1) := by decide +kernel
theorem dX4_says_219 : decode cX4_says 219 = .ok (.invokevirtual 202, 3) := by decide +kernel
theorem dX4_says_222 : decode cX4_says 222 = .ok (.ireturn, 1) := by decide +kernel
set_option maxRecDepth 20000 in
theorem ggX4_saysShare_X4_reading : GoodIn wsX4_saysShare wsX4_reading := goodIn_r _ [9, 10, 17, 18, 19, 20, 21, 22, 23, 24, 25, 26, 27, 28, 29, 30, 31, 32] (by decide +kernel) (by decide +kernel)
set_option maxRecDepth 20000 in
theorem gX4_saysShare_X4_reading : GoodIn wsX4_saysShare (wsV RX4 61 RX4 yX4_reading wsX4_reading) := goodIn_app (goodIn_of _ (by decide +kernel)) ggX4_saysShare_X4_reading
theorem dX4_saysShare_0 : decode cX4_saysShare 0 = .ok (.aload_n 0, 1) := by decide +kernel
theorem dX4_saysShare_1 : decode cX4_saysShare 1 = .ok (.aload_n 1, 1) := by decide +kernel
theorem dX4_saysShare_2 : decode cX4_saysShare 2 = .ok (.getfield 167, 3) := by decide +kernel
theorem dX4_saysShare_5 : decode cX4_saysShare 5 = .ok (.invokevirtual 61, 3) := by decide +kernel
theorem dX4_saysShare_8 : decode cX4_saysShare 8 = .ok (.i2l, 1) := by decide +kernel
theorem dX4_saysShare_9 : decode cX4_saysShare 9 = .ok (.lstore_n 2, 1) := by decide +kernel
theorem dX4_saysShare_10 : decode cX4_saysShare 10 = .ok (.aload_n 0, 1) := by decide +kernel
theorem dX4_saysShare_11 : decode cX4_saysShare 11 = .ok (.aload_n 1, 1) := by decide +kernel
theorem dX4_saysShare_12 : decode cX4_saysShare 12 = .ok (.getfield 170, 3) := by decide +kernel
theorem dX4_saysShare_15 : decode cX4_saysShare 15 = .ok (.invokevirtual 61, 3) := by decide +kernel
theorem dX4_saysShare_18 : decode cX4_saysShare 18 = .ok (.i2l, 1) := by decide +kernel
theorem dX4_saysShare_19 : decode cX4_saysShare 19 = .ok (.lstore 4, 2) := by decide +kernel
theorem dX4_saysShare_21 : decode cX4_saysShare 21 = .ok (.lload 4, 2) := by decide +kernel
theorem dX4_saysShare_23 : decode cX4_saysShare 23 = .ok (.lconst 0, 1) := by decide +kernel
theorem dX4_saysShare_24 : decode cX4_saysShare 24 = .ok (.lcmp, 1) := by decide +kernel
theorem dX4_saysShare_25 : decode cX4_saysShare 25 = .ok (.ifCond .ne 10, 3) := by decide +kernel
theorem dX4_saysShare_28 : decode cX4_saysShare 28 = .ok (.aload_n 0, 1) := by decide +kernel
theorem dX4_saysShare_29 : decode cX4_saysShare 29 = .ok (.iconst 1, 1) := by decide +kernel
theorem dX4_saysShare_30 : decode cX4_saysShare 30 = .ok (.putfield 105, 3) := by decide +kernel
theorem dX4_saysShare_33 : decode cX4_saysShare 33 = .ok (.iconst 0, 1) := by decide +kernel
theorem dX4_saysShare_34 : decode cX4_saysShare 34 = .ok (.ireturn, 1) := by decide +kernel
theorem dX4_saysShare_35 : decode cX4_saysShare 35 = .ok (.lload_n 2, 1) := by decide +kernel
theorem dX4_saysShare_36 : decode cX4_saysShare 36 = .ok (.lload 4, 2) := by decide +kernel
theorem dX4_saysShare_38 : decode cX4_saysShare 38 = .ok (.ldiv, 1) := by decide +kernel
theorem dX4_saysShare_39 : decode cX4_saysShare 39 = .ok (.aload_n 1, 1) := by decide +kernel
theorem dX4_saysShare_40 : decode cX4_saysShare 40 = .ok (.getfield 179, 3) := by decide +kernel
theorem dX4_saysShare_43 : decode cX4_saysShare 43 = .ok (.i2l, 1) := by decide +kernel
theorem dX4_saysShare_44 : decode cX4_saysShare 44 = .ok (.lcmp, 1) := by decide +kernel
theorem dX4_saysShare_45 : decode cX4_saysShare 45 = .ok (.ifCond .lt 7, 3) := by decide +kernel
theorem dX4_saysShare_48 : decode cX4_saysShare 48 = .ok (.iconst 1, 1) := by decide +kernel
theorem dX4_saysShare_49 : decode cX4_saysShare 49 = .ok (.goto 4, 3) := by decide +kernel
theorem dX4_saysShare_52 : decode cX4_saysShare 52 = .ok (.iconst 0, 1) := by decide +kernel
theorem dX4_saysShare_53 : decode cX4_saysShare 53 = .ok (.ireturn, 1) := by decide +kernel
set_option maxRecDepth 20000 in
theorem ggX4_saysPointed_X4_reading : GoodIn wsX4_saysPointed wsX4_reading := goodIn_r _ [8, 9, 19, 20, 21, 22, 23, 24, 25, 26, 27, 28, 29, 30, 31, 32, 33, 34] (by decide +kernel) (by decide +kernel)
set_option maxRecDepth 20000 in
theorem gX4_saysPointed_X4_reading : GoodIn wsX4_saysPointed (wsV RX4 61 RX4 yX4_reading wsX4_reading) := goodIn_app (goodIn_of _ (by decide +kernel)) ggX4_saysPointed_X4_reading
set_option maxRecDepth 20000 in
theorem ggX4_saysPointed_X4_isSensor : GoodIn wsX4_saysPointed wsX4_isSensor := goodIn_r _ [12] (by decide +kernel) (by decide +kernel)
set_option maxRecDepth 20000 in
theorem gX4_saysPointed_X4_isSensor : GoodIn wsX4_saysPointed (va_wsS RX4 53 yX4_isSensor wsX4_isSensor) := goodIn_app (goodIn_of _ (by decide +kernel)) ggX4_saysPointed_X4_isSensor
theorem dX4_saysPointed_0 : decode cX4_saysPointed 0 = .ok (.aload_n 0, 1) := by decide +kernel
theorem dX4_saysPointed_1 : decode cX4_saysPointed 1 = .ok (.aload_n 1, 1) := by decide +kernel
theorem dX4_saysPointed_2 : decode cX4_saysPointed 2 = .ok (.getfield 167, 3) := by decide +kernel
theorem dX4_saysPointed_5 : decode cX4_saysPointed 5 = .ok (.invokevirtual 61, 3) := by decide +kernel
theorem dX4_saysPointed_8 : decode cX4_saysPointed 8 = .ok (.istore_n 2, 1) := by decide +kernel
theorem dX4_saysPointed_9 : decode cX4_saysPointed 9 = .ok (.iload_n 2, 1) := by decide +kernel
theorem dX4_saysPointed_10 : decode cX4_saysPointed 10 = .ok (.invokestatic 53, 3) := by decide +kernel
theorem dX4_saysPointed_13 : decode cX4_saysPointed 13 = .ok (.ifCond .ne 10, 3) := by decide +kernel
theorem dX4_saysPointed_16 : decode cX4_saysPointed 16 = .ok (.aload_n 0, 1) := by decide +kernel
theorem dX4_saysPointed_17 : decode cX4_saysPointed 17 = .ok (.iconst 2, 1) := by decide +kernel
theorem dX4_saysPointed_18 : decode cX4_saysPointed 18 = .ok (.putfield 105, 3) := by decide +kernel
theorem dX4_saysPointed_21 : decode cX4_saysPointed 21 = .ok (.iconst 0, 1) := by decide +kernel
theorem dX4_saysPointed_22 : decode cX4_saysPointed 22 = .ok (.ireturn, 1) := by decide +kernel
theorem dX4_saysPointed_23 : decode cX4_saysPointed 23 = .ok (.aload_n 0, 1) := by decide +kernel
theorem dX4_saysPointed_24 : decode cX4_saysPointed 24 = .ok (.iload_n 2, 1) := by decide +kernel
theorem dX4_saysPointed_25 : decode cX4_saysPointed 25 = .ok (.invokevirtual 61, 3) := by decide +kernel
theorem dX4_saysPointed_28 : decode cX4_saysPointed 28 = .ok (.aload_n 1, 1) := by decide +kernel
theorem dX4_saysPointed_29 : decode cX4_saysPointed 29 = .ok (.getfield 170, 3) := by decide +kernel
theorem dX4_saysPointed_32 : decode cX4_saysPointed 32 = .ok (.if_icmp .le 7, 3) := by decide +kernel
theorem dX4_saysPointed_35 : decode cX4_saysPointed 35 = .ok (.iconst 1, 1) := by decide +kernel
theorem dX4_saysPointed_36 : decode cX4_saysPointed 36 = .ok (.goto 4, 3) := by decide +kernel
theorem dX4_saysPointed_39 : decode cX4_saysPointed 39 = .ok (.iconst 0, 1) := by decide +kernel
theorem dX4_saysPointed_40 : decode cX4_saysPointed 40 = .ok (.ireturn, 1) := by decide +kernel
set_option maxRecDepth 20000 in
theorem ggX4_saysBoth_X4_says : GoodIn wsX4_saysBoth wsX4_says := goodIn_r _ [8, 2, 9, 1, 3, 10, 11, 12, 13, 14, 15, 16, 17, 18, 7, 19, 20, 21, 22, 23, 24, 25, 26, 27, 28, 29, 30, 31, 32, 33, 34, 35, 36, 37, 38, 39, 40, 41, 42, 43, 4, 5, 6, 44, 45, 46, 47, 48, 49, 50, 51, 52, 53, 54, 55, 0, 56, 57, 58, 59, 60, 61, 62, 63, 64, 65, 66, 67, 68, 69, 70, 71, 72, 73, 74, 75, 76, 77, 78, 79, 80, 81, 82, 83, 84, 85] (by decide +kernel) (by decide +kernel)
set_option maxRecDepth 20000 in
theorem gX4_saysBoth_X4_says : GoodIn wsX4_saysBoth (wsV RX4 95 RX4 yX4_says wsX4_says) := goodIn_app (goodIn_of _ (by decide +kernel)) ggX4_saysBoth_X4_says
theorem dX4_saysBoth_0 : decode cX4_saysBoth 0 = .ok (.aload_n 0, 1) := by decide +kernel
theorem dX4_saysBoth_1 : decode cX4_saysBoth 1 = .ok (.aload_n 1, 1) := by decide +kernel
theorem dX4_saysBoth_2 : decode cX4_saysBoth 2 = .ok (.getfield 167, 3) := by decide +kernel
theorem dX4_saysBoth_5 : decode cX4_saysBoth 5 = .ok (.iload_n 2, 1) := by decide +kernel
theorem dX4_saysBoth_6 : decode cX4_saysBoth 6 = .ok (.iconst 1, 1) := by decide +kernel
theorem dX4_saysBoth_7 : decode cX4_saysBoth 7 = .ok (.iadd, 1) := by decide +kernel
theorem dX4_saysBoth_8 : decode cX4_saysBoth 8 = .ok (.invokevirtual 95, 3) := by decide +kernel
theorem dX4_saysBoth_11 : decode cX4_saysBoth 11 = .ok (.istore_n 3, 1) := by decide +kernel
theorem dX4_saysBoth_12 : decode cX4_saysBoth 12 = .ok (.aload_n 0, 1) := by decide +kernel
theorem dX4_saysBoth_13 : decode cX4_saysBoth 13 = .ok (.getfield 105, 3) := by decide +kernel
theorem dX4_saysBoth_16 : decode cX4_saysBoth 16 = .ok (.ifCond .ne 7, 3) := by decide +kernel
theorem dX4_saysBoth_19 : decode cX4_saysBoth 19 = .ok (.iload_n 3, 1) := by decide +kernel
theorem dX4_saysBoth_20 : decode cX4_saysBoth 20 = .ok (.ifCond .ne 5, 3) := by decide +kernel
theorem dX4_saysBoth_23 : decode cX4_saysBoth 23 = .ok (.iconst 0, 1) := by decide +kernel
theorem dX4_saysBoth_24 : decode cX4_saysBoth 24 = .ok (.ireturn, 1) := by decide +kernel
theorem dX4_saysBoth_25 : decode cX4_saysBoth 25 = .ok (.aload_n 0, 1) := by decide +kernel
theorem dX4_saysBoth_26 : decode cX4_saysBoth 26 = .ok (.aload_n 1, 1) := by decide +kernel
theorem dX4_saysBoth_27 : decode cX4_saysBoth 27 = .ok (.getfield 170, 3) := by decide +kernel
theorem dX4_saysBoth_30 : decode cX4_saysBoth 30 = .ok (.iload_n 2, 1) := by decide +kernel
theorem dX4_saysBoth_31 : decode cX4_saysBoth 31 = .ok (.iconst 1, 1) := by decide +kernel
theorem dX4_saysBoth_32 : decode cX4_saysBoth 32 = .ok (.iadd, 1) := by decide +kernel
theorem dX4_saysBoth_33 : decode cX4_saysBoth 33 = .ok (.invokevirtual 95, 3) := by decide +kernel
theorem dX4_saysBoth_36 : decode cX4_saysBoth 36 = .ok (.ireturn, 1) := by decide +kernel
set_option maxRecDepth 20000 in
theorem ggX4_saysEither_X4_says : GoodIn wsX4_saysEither wsX4_says := goodIn_r _ [8, 2, 9, 1, 3, 10, 11, 12, 13, 14, 15, 16, 17, 18, 7, 19, 20, 21, 22, 23, 24, 25, 26, 27, 28, 29, 30, 31, 32, 33, 34, 35, 36, 37, 38, 39, 40, 41, 42, 43, 4, 5, 6, 44, 45, 46, 47, 48, 49, 50, 51, 52, 53, 54, 55, 56, 0, 57, 58, 59, 60, 61, 62, 63, 64, 65, 66, 67, 68, 69, 70, 71, 72, 73, 74, 75, 76, 77, 78, 79, 80, 81, 82, 83, 84, 85] (by decide +kernel) (by decide +kernel)
set_option maxRecDepth 20000 in
theorem gX4_saysEither_X4_says : GoodIn wsX4_saysEither (wsV RX4 95 RX4 yX4_says wsX4_says) := goodIn_app (goodIn_of _ (by decide +kernel)) ggX4_saysEither_X4_says
theorem dX4_saysEither_0 : decode cX4_saysEither 0 = .ok (.aload_n 0, 1) := by decide +kernel
theorem dX4_saysEither_1 : decode cX4_saysEither 1 = .ok (.aload_n 1, 1) := by decide +kernel
theorem dX4_saysEither_2 : decode cX4_saysEither 2 = .ok (.getfield 167, 3) := by decide +kernel
theorem dX4_saysEither_5 : decode cX4_saysEither 5 = .ok (.iload_n 2, 1) := by decide +kernel
theorem dX4_saysEither_6 : decode cX4_saysEither 6 = .ok (.iconst 1, 1) := by decide +kernel
theorem dX4_saysEither_7 : decode cX4_saysEither 7 = .ok (.iadd, 1) := by decide +kernel
theorem dX4_saysEither_8 : decode cX4_saysEither 8 = .ok (.invokevirtual 95, 3) := by decide +kernel
theorem dX4_saysEither_11 : decode cX4_saysEither 11 = .ok (.istore_n 3, 1) := by decide +kernel
theorem dX4_saysEither_12 : decode cX4_saysEither 12 = .ok (.aload_n 0, 1) := by decide +kernel
theorem dX4_saysEither_13 : decode cX4_saysEither 13 = .ok (.getfield 105, 3) := by decide +kernel
theorem dX4_saysEither_16 : decode cX4_saysEither 16 = .ok (.ifCond .ne 7, 3) := by decide +kernel
theorem dX4_saysEither_19 : decode cX4_saysEither 19 = .ok (.iload_n 3, 1) := by decide +kernel
theorem dX4_saysEither_20 : decode cX4_saysEither 20 = .ok (.ifCond .eq 5, 3) := by decide +kernel
theorem dX4_saysEither_23 : decode cX4_saysEither 23 = .ok (.iload_n 3, 1) := by decide +kernel
theorem dX4_saysEither_24 : decode cX4_saysEither 24 = .ok (.ireturn, 1) := by decide +kernel
theorem dX4_saysEither_25 : decode cX4_saysEither 25 = .ok (.aload_n 0, 1) := by decide +kernel
theorem dX4_saysEither_26 : decode cX4_saysEither 26 = .ok (.aload_n 1, 1) := by decide +kernel
theorem dX4_saysEither_27 : decode cX4_saysEither 27 = .ok (.getfield 170, 3) := by decide +kernel
theorem dX4_saysEither_30 : decode cX4_saysEither 30 = .ok (.iload_n 2, 1) := by decide +kernel
theorem dX4_saysEither_31 : decode cX4_saysEither 31 = .ok (.iconst 1, 1) := by decide +kernel
theorem dX4_saysEither_32 : decode cX4_saysEither 32 = .ok (.iadd, 1) := by decide +kernel
theorem dX4_saysEither_33 : decode cX4_saysEither 33 = .ok (.invokevirtual 95, 3) := by decide +kernel
theorem dX4_saysEither_36 : decode cX4_saysEither 36 = .ok (.ireturn, 1) := by decide +kernel
set_option maxRecDepth 20000 in
theorem ggX4_saysOften_X4_says : GoodIn wsX4_saysOften wsX4_says := goodIn_r _ [9, 2, 10, 1, 4, 11, 12, 13, 14, 15, 16, 17, 18, 19, 8, 20, 21, 22, 23, 24, 25, 26, 27, 28, 29, 30, 31, 32, 33, 34, 35, 36, 37, 38, 39, 40, 41, 42, 43, 44, 5, 6, 7, 45, 46, 47, 48, 49, 50, 51, 52, 53, 54, 55, 56, 57, 58, 59, 60, 61, 62, 63, 0, 3, 64, 65, 66, 67, 68, 69, 70, 71, 72, 73, 74, 75, 76, 77, 78, 79, 80, 81, 82, 83, 84, 85] (by decide +kernel) (by decide +kernel)
set_option maxRecDepth 20000 in
theorem gX4_saysOften_X4_says : GoodIn wsX4_saysOften (wsV RX4 95 RX4 yX4_says wsX4_says) := goodIn_app (goodIn_of _ (by decide +kernel)) ggX4_saysOften_X4_says
theorem dX4_saysOften_0 : decode cX4_saysOften 0 = .ok (.aload_n 0, 1) := by decide +kernel
theorem dX4_saysOften_1 : decode cX4_saysOften 1 = .ok (.aload_n 1, 1) := by decide +kernel
theorem dX4_saysOften_2 : decode cX4_saysOften 2 = .ok (.getfield 167, 3) := by decide +kernel
theorem dX4_saysOften_5 : decode cX4_saysOften 5 = .ok (.iload_n 2, 1) := by decide +kernel
theorem dX4_saysOften_6 : decode cX4_saysOften 6 = .ok (.iconst 1, 1) := by decide +kernel
theorem dX4_saysOften_7 : decode cX4_saysOften 7 = .ok (.iadd, 1) := by decide +kernel
theorem dX4_saysOften_8 : decode cX4_saysOften 8 = .ok (.invokevirtual 95, 3) := by decide +kernel
theorem dX4_saysOften_11 : decode cX4_saysOften 11 = .ok (.istore_n 3, 1) := by decide +kernel
theorem dX4_saysOften_12 : decode cX4_saysOften 12 = .ok (.aload_n 0, 1) := by decide +kernel
theorem dX4_saysOften_13 : decode cX4_saysOften 13 = .ok (.getfield 105, 3) := by decide +kernel
theorem dX4_saysOften_16 : decode cX4_saysOften 16 = .ok (.ifCond .ne 17, 3) := by decide +kernel
theorem dX4_saysOften_19 : decode cX4_saysOften 19 = .ok (.iload_n 3, 1) := by decide +kernel
theorem dX4_saysOften_20 : decode cX4_saysOften 20 = .ok (.ifCond .eq 13, 3) := by decide +kernel
theorem dX4_saysOften_23 : decode cX4_saysOften 23 = .ok (.aload_n 1, 1) := by decide +kernel
theorem dX4_saysOften_24 : decode cX4_saysOften 24 = .ok (.dup, 1) := by decide +kernel
theorem dX4_saysOften_25 : decode cX4_saysOften 25 = .ok (.getfield 205, 3) := by decide +kernel
theorem dX4_saysOften_28 : decode cX4_saysOften 28 = .ok (.iconst 1, 1) := by decide +kernel
theorem dX4_saysOften_29 : decode cX4_saysOften 29 = .ok (.iadd, 1) := by decide +kernel
theorem dX4_saysOften_30 : decode cX4_saysOften 30 = .ok (.putfield 205, 3) := by decide +kernel
theorem dX4_saysOften_33 : decode cX4_saysOften 33 = .ok (.aload_n 1, 1) := by decide +kernel
theorem dX4_saysOften_34 : decode cX4_saysOften 34 = .ok (.getfield 205, 3) := by decide +kernel
theorem dX4_saysOften_37 : decode cX4_saysOften 37 = .ok (.aload_n 1, 1) := by decide +kernel
theorem dX4_saysOften_38 : decode cX4_saysOften 38 = .ok (.getfield 170, 3) := by decide +kernel
theorem dX4_saysOften_41 : decode cX4_saysOften 41 = .ok (.if_icmp .lt 7, 3) := by decide +kernel
theorem dX4_saysOften_44 : decode cX4_saysOften 44 = .ok (.iconst 1, 1) := by decide +kernel
theorem dX4_saysOften_45 : decode cX4_saysOften 45 = .ok (.goto 4, 3) := by decide +kernel
theorem dX4_saysOften_48 : decode cX4_saysOften 48 = .ok (.iconst 0, 1) := by decide +kernel
theorem dX4_saysOften_49 : decode cX4_saysOften 49 = .ok (.ireturn, 1) := by decide +kernel
set_option maxRecDepth 20000 in
theorem ggX4_saysElse_X4_says : GoodIn wsX4_saysElse wsX4_says := goodIn_r _ [12, 2, 13, 1, 3, 14, 15, 16, 17, 18, 19, 20, 21, 22, 7, 23, 24, 25, 26, 27, 28, 29, 30, 31, 32, 33, 34, 35, 36, 37, 38, 39, 40, 41, 42, 43, 44, 45, 46, 47, 4, 5, 6, 48, 49, 50, 51, 52, 53, 54, 55, 56, 57, 58, 59, 60, 61, 0, 8, 9, 10, 11, 62, 63, 64, 65, 66, 67, 68, 69, 70, 71, 72, 73, 74, 75, 76, 77, 78, 79, 80, 81, 82, 83, 84, 85] (by decide +kernel) (by decide +kernel)
set_option maxRecDepth 20000 in
theorem gX4_saysElse_X4_says : GoodIn wsX4_saysElse (wsV RX4 95 RX4 yX4_says wsX4_says) := goodIn_app (goodIn_of _ (by decide +kernel)) ggX4_saysElse_X4_says
set_option maxRecDepth 20000 in
theorem ggX4_saysElse_X4_canBeCaught : GoodIn wsX4_saysElse wsX4_canBeCaught := goodIn_r _ [11, 2, 64, 65, 66, 67, 68, 69, 70, 71, 72, 73, 74, 75, 76, 77, 78, 79] (by decide +kernel) (by decide +kernel)
set_option maxRecDepth 20000 in
theorem gX4_saysElse_X4_canBeCaught : GoodIn wsX4_saysElse (wsV RX4 208 RX4 yX4_canBeCaught wsX4_canBeCaught) := goodIn_app (goodIn_of _ (by decide +kernel)) ggX4_saysElse_X4_canBeCaught
theorem dX4_saysElse_0 : decode cX4_saysElse 0 = .ok (.aload_n 0, 1) := by decide +kernel
theorem dX4_saysElse_1 : decode cX4_saysElse 1 = .ok (.aload_n 1, 1) := by decide +kernel
theorem dX4_saysElse_2 : decode cX4_saysElse 2 = .ok (.getfield 167, 3) := by decide +kernel
theorem dX4_saysElse_5 : decode cX4_saysElse 5 = .ok (.iload_n 2, 1) := by decide +kernel
theorem dX4_saysElse_6 : decode cX4_saysElse 6 = .ok (.iconst 1, 1) := by decide +kernel
theorem dX4_saysElse_7 : decode cX4_saysElse 7 = .ok (.iadd, 1) := by decide +kernel
theorem dX4_saysElse_8 : decode cX4_saysElse 8 = .ok (.invokevirtual 95, 3) := by decide +kernel
theorem dX4_saysElse_11 : decode cX4_saysElse 11 = .ok (.istore_n 3, 1) := by decide +kernel
theorem dX4_saysElse_12 : decode cX4_saysElse 12 = .ok (.aload_n 0, 1) := by decide +kernel
theorem dX4_saysElse_13 : decode cX4_saysElse 13 = .ok (.invokevirtual 208, 3) := by decide +kernel
theorem dX4_saysElse_16 : decode cX4_saysElse 16 = .ok (.ifCond .ne 5, 3) := by decide +kernel
theorem dX4_saysElse_19 : decode cX4_saysElse 19 = .ok (.iload_n 3, 1) := by decide +kernel
theorem dX4_saysElse_20 : decode cX4_saysElse 20 = .ok (.ireturn, 1) := by decide +kernel
theorem dX4_saysElse_21 : decode cX4_saysElse 21 = .ok (.aload_n 0, 1) := by decide +kernel
theorem dX4_saysElse_22 : decode cX4_saysElse 22 = .ok (.iconst 0, 1) := by decide +kernel
theorem dX4_saysElse_23 : decode cX4_saysElse 23 = .ok (.putfield 105, 3) := by decide +kernel
theorem dX4_saysElse_26 : decode cX4_saysElse 26 = .ok (.aload_n 0, 1) := by decide +kernel
theorem dX4_saysElse_27 : decode cX4_saysElse 27 = .ok (.aload_n 1, 1) := by decide +kernel
theorem dX4_saysElse_28 : decode cX4_saysElse 28 = .ok (.getfield 170, 3) := by decide +kernel
theorem dX4_saysElse_31 : decode cX4_saysElse 31 = .ok (.iload_n 2, 1) := by decide +kernel
theorem dX4_saysElse_32 : decode cX4_saysElse 32 = .ok (.iconst 1, 1) := by decide +kernel
theorem dX4_saysElse_33 : decode cX4_saysElse 33 = .ok (.iadd, 1) := by decide +kernel
theorem dX4_saysElse_34 : decode cX4_saysElse 34 = .ok (.invokevirtual 95, 3) := by decide +kernel
theorem dX4_saysElse_37 : decode cX4_saysElse 37 = .ok (.ireturn, 1) := by decide +kernel
set_option maxRecDepth 20000 in
theorem ggX4_does_X4_begins : GoodIn wsX4_does wsX4_begins := goodIn_r _ [8, 9, 1, 10, 136, 137, 138, 139, 140, 141, 142, 143, 144, 145, 146, 147, 148, 149, 150, 151] (by decide +kernel) (by decide +kernel)
set_option maxRecDepth 20000 in
theorem gX4_does_X4_begins : GoodIn wsX4_does (wsV RX4 160 RX4 yX4_begins wsX4_begins) := goodIn_app (goodIn_of _ (by decide +kernel)) ggX4_does_X4_begins
set_option maxRecDepth 20000 in
theorem ggX4_does_X4_actAt : GoodIn wsX4_does wsX4_actAt := goodIn_r _ [14, 15, 16, 136, 137, 138, 139, 140, 141, 142, 143, 144, 145, 146, 147, 148, 149, 150, 151] (by decide +kernel) (by decide +kernel)
set_option maxRecDepth 20000 in
theorem gX4_does_X4_actAt : GoodIn wsX4_does (wsV RX4 121 RX4 yX4_actAt wsX4_actAt) := goodIn_app (goodIn_of _ (by decide +kernel)) ggX4_does_X4_actAt
set_option maxRecDepth 20000 in
theorem ggX4_does_X4_doesPour : GoodIn wsX4_does wsX4_doesPour := goodIn_r _ [20, 3, 21, 22, 23, 24, 7, 25, 26, 1, 27, 28, 29, 152, 153, 154, 155, 136, 137, 138, 139, 140, 141, 142, 143, 144, 145, 146, 147, 148, 149, 150, 151] (by decide +kernel) (by decide +kernel)
set_option maxRecDepth 20000 in
theorem gX4_does_X4_doesPour : GoodIn wsX4_does (wsV RX4 212 RX4 yX4_doesPour wsX4_doesPour) := goodIn_app (goodIn_of _ (by decide +kernel)) ggX4_does_X4_doesPour
set_option maxRecDepth 20000 in
theorem ggX4_does_X4_doesMove : GoodIn wsX4_does wsX4_doesMove := goodIn_r _ [33, 21, 3, 34, 26, 27, 28, 7, 29, 22, 23, 24, 25, 1, 152, 153, 154, 155, 136, 137, 138, 139, 140, 141, 142, 143, 144, 145, 146, 147, 148, 149, 150, 151] (by decide +kernel) (by decide +kernel)
set_option maxRecDepth 20000 in
theorem gX4_does_X4_doesMove : GoodIn wsX4_does (wsV RX4 216 RX4 yX4_doesMove wsX4_doesMove) := goodIn_app (goodIn_of _ (by decide +kernel)) ggX4_does_X4_doesMove
set_option maxRecDepth 20000 in
theorem ggX4_does_X4_doesWhen : GoodIn wsX4_does wsX4_doesWhen := goodIn_r _ [87, 3, 1, 21, 34, 88, 89, 90, 7, 91, 92, 93, 94, 95, 96, 97, 98, 99, 100, 4, 5, 6, 8, 9, 10, 101, 102, 103, 104, 105, 106, 107, 108, 109, 110, 68, 111, 112, 113, 114, 115, 116, 117, 118, 69, 70, 71, 119, 120, 121, 122, 123, 124, 125, 126, 127, 128, 129, 130, 131, 132, 133, 83, 84, 85, 86, 134, 135, 61, 62, 63, 0, 2, 11, 12, 13, 14, 15, 16, 17, 18, 19, 20, 22, 23, 24, 25, 26, 27, 28, 29, 30, 31, 32, 33, 35, 36, 37, 38, 39, 40, 41, 42, 43, 44, 45, 46, 47, 48, 49, 50, 51, 52, 53, 54, 55, 56, 57, 58, 59, 60, 64, 65, 66, 67, 72, 73, 74, 75, 76, 77, 78, 79, 80, 81, 82, 136, 137, 138, 139, 140, 141, 142, 143, 144, 145, 146, 147, 148, 149, 150, 151, 152, 153, 154, 155, 156, 157, 158, 159, 160, 161, 162, 163, 164] (by decide +kernel) (by decide +kernel)
set_option maxRecDepth 20000 in
theorem gX4_does_X4_doesWhen : GoodIn wsX4_does (wsV RX4 219 RX4 yX4_doesWhen wsX4_doesWhen) := goodIn_app (goodIn_of _ (by decide +kernel)) ggX4_does_X4_doesWhen
set_option maxRecDepth 20000 in
theorem ggX4_does_X4_doesThen : GoodIn wsX4_does wsX4_doesThen := goodIn_r _ [72, 3, 1, 21, 61, 62, 63, 7, 0, 2, 4, 5, 6, 8, 9, 10, 11, 12, 13, 14, 15, 16, 17, 18, 19, 20, 22, 23, 24, 25, 26, 27, 28, 29, 30, 31, 32, 33, 34, 35, 36, 37, 38, 39, 40, 41, 42, 43, 44, 45, 46, 47, 48, 49, 50, 51, 52, 53, 54, 55, 56, 57, 58, 59, 60, 64, 65, 66, 67, 68, 69, 70, 71, 73, 74, 75, 76, 77, 78, 79, 80, 81, 82, 83, 84, 85, 86, 87, 88, 89, 90, 91, 92, 93, 94, 95, 96, 97, 98, 99, 100, 101, 102, 103, 104, 105, 106, 107, 108, 109, 110, 111, 112, 113, 114, 115, 116, 117, 118, 119, 120, 121, 122, 123, 124, 125, 126, 127, 128, 129, 130, 131, 132, 133, 134, 135, 136, 137, 138, 139, 140, 141, 142, 143, 144, 145, 146, 147, 148, 149, 150, 151, 152, 153, 154, 155, 156, 157, 158, 159, 160, 161, 162, 163, 164] (by decide +kernel) (by decide +kernel)
set_option maxRecDepth 20000 in
theorem gX4_does_X4_doesThen : GoodIn wsX4_does (wsV RX4 223 RX4 yX4_doesThen wsX4_doesThen) := goodIn_app (goodIn_of _ (by decide +kernel)) ggX4_does_X4_doesThen
set_option maxRecDepth 20000 in
theorem ggX4_does_X4_doesTimes : GoodIn wsX4_does wsX4_doesTimes := goodIn_r _ [73, 21, 1, 3, 61, 62, 63, 7, 0, 2, 4, 5, 6, 8, 9, 10, 11, 12, 13, 14, 15, 16, 17, 18, 19, 20, 22, 23, 24, 25, 26, 27, 28, 29, 30, 31, 32, 33, 34, 35, 36, 37, 38, 39, 40, 41, 42, 43, 44, 45, 46, 47, 48, 49, 50, 51, 52, 53, 54, 55, 56, 57, 58, 59, 60, 64, 65, 66, 67, 68, 69, 70, 71, 72, 74, 75, 76, 77, 78, 79, 80, 81, 82, 83, 84, 85, 86, 87, 88, 89, 90, 91, 92, 93, 94, 95, 96, 97, 98, 99, 100, 101, 102, 103, 104, 105, 106, 107, 108, 109, 110, 111, 112, 113, 114, 115, 116, 117, 118, 119, 120, 121, 122, 123, 124, 125, 126, 127, 128, 129, 130, 131, 132, 133, 134, 135, 136, 137, 138, 139, 140, 141, 142, 143, 144, 145, 146, 147, 148, 149, 150, 151, 152, 153, 154, 155, 156, 157, 158, 159, 160, 161, 162, 163, 164] (by decide +kernel) (by decide +kernel)
set_option maxRecDepth 20000 in
theorem gX4_does_X4_doesTimes : GoodIn wsX4_does (wsV RX4 226 RX4 yX4_doesTimes wsX4_doesTimes) := goodIn_app (goodIn_of _ (by decide +kernel)) ggX4_does_X4_doesTimes
set_option maxRecDepth 20000 in
theorem ggX4_does_X4_doesLater : GoodIn wsX4_does wsX4_doesLater := goodIn_r _ [47, 48, 3, 49, 21, 50, 51, 52, 53, 54, 55, 56, 57, 136, 137, 138, 139, 140, 141, 142, 143, 144, 145, 146, 147, 148, 149, 150, 151, 152, 153, 154, 155, 156, 157, 158] (by decide +kernel) (by decide +kernel)
set_option maxRecDepth 20000 in
theorem gX4_does_X4_doesLater : GoodIn wsX4_does (wsV RX4 229 RX4 yX4_doesLater wsX4_doesLater) := goodIn_app (goodIn_of _ (by decide +kernel)) ggX4_does_X4_doesLater
set_option maxRecDepth 20000 in
theorem ggX4_does_X4_doesTry : GoodIn wsX4_does wsX4_doesTry := goodIn_r _ [74, 75, 26, 76, 77, 78, 79, 3, 1, 21, 80, 81, 7, 82, 61, 62, 63, 83, 84, 85, 86, 0, 2, 4, 5, 6, 8, 9, 10, 11, 12, 13, 14, 15, 16, 17, 18, 19, 20, 22, 23, 24, 25, 27, 28, 29, 30, 31, 32, 33, 34, 35, 36, 37, 38, 39, 40, 41, 42, 43, 44, 45, 46, 47, 48, 49, 50, 51, 52, 53, 54, 55, 56, 57, 58, 59, 60, 64, 65, 66, 67, 68, 69, 70, 71, 72, 73, 87, 88, 89, 90, 91, 92, 93, 94, 95, 96, 97, 98, 99, 100, 101, 102, 103, 104, 105, 106, 107, 108, 109, 110, 111, 112, 113, 114, 115, 116, 117, 118, 119, 120, 121, 122, 123, 124, 125, 126, 127, 128, 129, 130, 131, 132, 133, 134, 135, 136, 137, 138, 139, 140, 141, 142, 143, 144, 145, 146, 147, 148, 149, 150, 151, 152, 153, 154, 155, 156, 157, 158, 159, 160, 161, 162, 163, 164] (by decide +kernel) (by decide +kernel)
set_option maxRecDepth 20000 in
theorem gX4_does_X4_doesTry : GoodIn wsX4_does (wsV RX4 232 RX4 yX4_doesTry wsX4_doesTry) := goodIn_app (goodIn_of _ (by decide +kernel)) ggX4_does_X4_doesTry
set_option maxRecDepth 20000 in
theorem ggX4_does_X4_does : GoodIn wsX4_does wsX4_does := goodIn_r _ [0, 1, 2, 3, 4, 5, 6, 7, 8, 9, 10, 11, 12, 13, 14, 15, 16, 17, 18, 19, 20, 21, 22, 23, 24, 25, 26, 27, 28, 29, 30, 31, 32, 33, 34, 35, 36, 37, 38, 39, 40, 41, 42, 43, 44, 45, 46, 47, 48, 49, 50, 51, 52, 53, 54, 55, 56, 57, 58, 59, 60, 61, 62, 63, 64, 65, 66, 67, 68, 69, 70, 71, 72, 73, 74, 75, 76, 77, 78, 79, 80, 81, 82, 83, 84, 85, 86, 87, 88, 89, 90, 91, 92, 93, 94, 95, 96, 97, 98, 99, 100, 101, 102, 103, 104, 105, 106, 107, 108, 109, 110, 111, 112, 113, 114, 115, 116, 117, 118, 119, 120, 121, 122, 123, 124, 125, 126, 127, 128, 129, 130, 131, 132, 133, 134, 135, 136, 137, 138, 139, 140, 141, 142, 143, 144, 145, 146, 147, 148, 149, 150, 151, 152, 153, 154, 155, 156, 157, 158, 159, 160, 161, 162, 163, 164] (by decide +kernel) (by decide +kernel)
set_option maxRecDepth 20000 in
theorem gX4_does_X4_does : GoodIn wsX4_does (wsV RX4 125 RX4 yX4_does wsX4_does) := goodIn_app (goodIn_of _ (by decide +kernel)) ggX4_does_X4_does
set_option maxRecDepth 20000 in
theorem ggX4_does_X4_doesShow : GoodIn wsX4_does wsX4_doesShow := goodIn_r _ [67, 3, 21, 68, 26, 69, 70, 7, 71, 27, 28, 29, 152, 153, 154, 155, 136, 137, 138, 139, 140, 141, 142, 143, 144, 145, 146, 147, 148, 149, 150, 151] (by decide +kernel) (by decide +kernel)
set_option maxRecDepth 20000 in
theorem gX4_does_X4_doesShow : GoodIn wsX4_does (wsV RX4 236 RX4 yX4_doesShow wsX4_doesShow) := goodIn_app (goodIn_of _ (by decide +kernel)) ggX4_does_X4_doesShow
theorem dX4_does_0 : decode cX4_does 0 = .ok (.aload_n 0, 1) := by decide +kernel
theorem dX4_does_1 : decode cX4_does 1 = .ok (.invokevirtual 160, 3) := by decide +kernel
theorem dX4_does_4 : decode cX4_does 4 = .ok (.ifCond .ne 5, 3) := by decide +kernel
theorem dX4_does_7 : decode cX4_does 7 = .ok (.iconst 0, 1) := by decide +kernel
theorem dX4_does_8 : decode cX4_does 8 = .ok (.ireturn, 1) := by decide +kernel
theorem dX4_does_9 : decode cX4_does 9 = .ok (.aload_n 0, 1) := by decide +kernel
theorem dX4_does_10 : decode cX4_does 10 = .ok (.iload_n 1, 1) := by decide +kernel
theorem dX4_does_11 : decode cX4_does 11 = .ok (.invokevirtual 121, 3) := by decide +kernel
theorem dX4_does_14 : decode cX4_does 14 = .ok (.astore_n 3, 1) := by decide +kernel
theorem dX4_does_15 : decode cX4_does 15 = .ok (.aload_n 3, 1) := by decide +kernel
theorem dX4_does_16 : decode cX4_does 16 = .ok (.ifnull 9, 3) := by decide +kernel
theorem dX4_does_19 : decode cX4_does 19 = .ok (.iload_n 2, 1) := by decide +kernel
theorem dX4_does_20 : decode cX4_does 20 = .ok (.bipush 40, 2) := by decide +kernel
theorem dX4_does_22 : decode cX4_does 22 = .ok (.if_icmp .lt 10, 3) := by decide +kernel
theorem dX4_does_25 : decode cX4_does 25 = .ok (.aload_n 0, 1) := by decide +kernel
theorem dX4_does_26 : decode cX4_does 26 = .ok (.iconst 4, 1) := by decide +kernel
theorem dX4_does_27 : decode cX4_does 27 = .ok (.putfield 105, 3) := by decide +kernel
theorem dX4_does_30 : decode cX4_does 30 = .ok (.iconst 0, 1) := by decide +kernel
theorem dX4_does_31 : decode cX4_does 31 = .ok (.ireturn, 1) := by decide +kernel
theorem dX4_does_32 : decode cX4_does 32 = .ok (.aload_n 3, 1) := by decide +kernel
theorem dX4_does_33 : decode cX4_does 33 = .ok (.getfield 211, 3) := by decide +kernel
theorem dX4_does_36 : decode cX4_does 36 = .ok (.tableswitch 106 0 7 #[48, 54, 60, 67, 74, 81, 87, 94], 48) := by decide +kernel
theorem dX4_does_84 : decode cX4_does 84 = .ok (.aload_n 0, 1) := by decide +kernel
theorem dX4_does_85 : decode cX4_does 85 = .ok (.aload_n 3, 1) := by decide +kernel
theorem dX4_does_86 : decode cX4_does 86 = .ok (.invokevirtual 212, 3) := by decide +kernel
theorem dX4_does_89 : decode cX4_does 89 = .ok (.ireturn, 1) := by decide +kernel
theorem dX4_does_90 : decode cX4_does 90 = .ok (.aload_n 0, 1) := by decide +kernel
theorem dX4_does_91 : decode cX4_does 91 = .ok (.aload_n 3, 1) := by decide +kernel
theorem dX4_does_92 : decode cX4_does 92 = .ok (.invokevirtual 216, 3) := by decide +kernel
theorem dX4_does_95 : decode cX4_does 95 = .ok (.ireturn, 1) := by decide +kernel
theorem dX4_does_96 : decode cX4_does 96 = .ok (.aload_n 0, 1) := by decide +kernel
theorem dX4_does_97 : decode cX4_does 97 = .ok (.aload_n 3, 1) := by decide +kernel
theorem dX4_does_98 : decode cX4_does 98 = .ok (.iload_n 2, 1) := by decide +kernel
theorem dX4_does_99 : decode cX4_does 99 = .ok (.invokevirtual 219, 3) := by decide +kernel
theorem dX4_does_102 : decode cX4_does 102 = .ok (.ireturn, 1) := by decide +kernel
theorem dX4_does_103 : decode cX4_does 103 = .ok (.aload_n 0, 1) := by decide +kernel
theorem dX4_does_104 : decode cX4_does 104 = .ok (.aload_n 3, 1) := by decide +kernel
theorem dX4_does_105 : decode cX4_does 105 = .ok (.iload_n 2, 1) := by decide +kernel
theorem dX4_does_106 : decode cX4_does 106 = .ok (.invokevirtual 223, 3) := by decide +kernel
theorem dX4_does_109 : decode cX4_does 109 = .ok (.ireturn, 1) := by decide +kernel
theorem dX4_does_110 : decode cX4_does 110 = .ok (.aload_n 0, 1) := by decide +kernel
theorem dX4_does_111 : decode cX4_does 111 = .ok (.aload_n 3, 1) := by decide +kernel
theorem dX4_does_112 : decode cX4_does 112 = .ok (.iload_n 2, 1) := by decide +kernel
theorem dX4_does_113 : decode cX4_does 113 = .ok (.invokevirtual 226, 3) := by decide +kernel
theorem dX4_does_116 : decode cX4_does 116 = .ok (.ireturn, 1) := by decide +kernel
theorem dX4_does_117 : decode cX4_does 117 = .ok (.aload_n 0, 1) := by decide +kernel
theorem dX4_does_118 : decode cX4_does 118 = .ok (.aload_n 3, 1) := by decide +kernel
theorem dX4_does_119 : decode cX4_does 119 = .ok (.invokevirtual 229, 3) := by decide +kernel
theorem dX4_does_122 : decode cX4_does 122 = .ok (.ireturn, 1) := by decide +kernel
theorem dX4_does_123 : decode cX4_does 123 = .ok (.aload_n 0, 1) := by decide +kernel
theorem dX4_does_124 : decode cX4_does 124 = .ok (.aload_n 3, 1) := by decide +kernel
theorem dX4_does_125 : decode cX4_does 125 = .ok (.iload_n 2, 1) := by decide +kernel
theorem dX4_does_126 : decode cX4_does 126 = .ok (.invokevirtual 232, 3) := by decide +kernel
theorem dX4_does_129 : decode cX4_does 129 = .ok (.ireturn, 1) := by decide +kernel
theorem dX4_does_130 : decode cX4_does 130 = .ok (.aload_n 0, 1) := by decide +kernel
theorem dX4_does_131 : decode cX4_does 131 = .ok (.aload_n 3, 1) := by decide +kernel
theorem dX4_does_132 : decode cX4_does 132 = .ok (.getfield 235, 3) := by decide +kernel
theorem dX4_does_135 : decode cX4_does 135 = .ok (.iload_n 2, 1) := by decide +kernel
theorem dX4_does_136 : decode cX4_does 136 = .ok (.iconst 1, 1) := by decide +kernel
theorem dX4_does_137 : decode cX4_does 137 = .ok (.iadd, 1) := by decide +kernel
theorem dX4_does_138 : decode cX4_does 138 = .ok (.invokevirtual 125, 3) := by decide +kernel
theorem dX4_does_141 : decode cX4_does 141 = .ok (.ireturn, 1) := by decide +kernel
theorem dX4_does_142 : decode cX4_does 142 = .ok (.aload_n 0, 1) := by decide +kernel
theorem dX4_does_143 : decode cX4_does 143 = .ok (.aload_n 3, 1) := by decide +kernel
theorem dX4_does_144 : decode cX4_does 144 = .ok (.invokevirtual 236, 3) := by decide +kernel
theorem dX4_does_147 : decode cX4_does 147 = .ok (.ireturn, 1) := by decide +kernel
set_option maxRecDepth 20000 in
theorem ggX4_doesPour_X4_takesOut : GoodIn wsX4_doesPour wsX4_takesOut := goodIn_r _ [7, 8, 9, 10, 11, 6, 12, 17, 18, 19, 20, 21, 22, 23, 24, 25, 26, 27, 28, 29, 30, 31, 32] (by decide +kernel) (by decide +kernel)
set_option maxRecDepth 20000 in
theorem gX4_doesPour_X4_takesOut : GoodIn wsX4_doesPour (wsV RX4 240 RX4 yX4_takesOut wsX4_takesOut) := goodIn_app (goodIn_of _ (by decide +kernel)) ggX4_doesPour_X4_takesOut
theorem dX4_doesPour_0 : decode cX4_doesPour 0 = .ok (.aload_n 0, 1) := by decide +kernel
theorem dX4_doesPour_1 : decode cX4_doesPour 1 = .ok (.aload_n 1, 1) := by decide +kernel
theorem dX4_doesPour_2 : decode cX4_doesPour 2 = .ok (.getfield 235, 3) := by decide +kernel
theorem dX4_doesPour_5 : decode cX4_doesPour 5 = .ok (.aload_n 1, 1) := by decide +kernel
theorem dX4_doesPour_6 : decode cX4_doesPour 6 = .ok (.getfield 239, 3) := by decide +kernel
theorem dX4_doesPour_9 : decode cX4_doesPour 9 = .ok (.invokevirtual 240, 3) := by decide +kernel
theorem dX4_doesPour_12 : decode cX4_doesPour 12 = .ok (.ifCond .eq 10, 3) := by decide +kernel
theorem dX4_doesPour_15 : decode cX4_doesPour 15 = .ok (.aload_n 1, 1) := by decide +kernel
theorem dX4_doesPour_16 : decode cX4_doesPour 16 = .ok (.getfield 239, 3) := by decide +kernel
theorem dX4_doesPour_19 : decode cX4_doesPour 19 = .ok (.goto 4, 3) := by decide +kernel
theorem dX4_doesPour_22 : decode cX4_doesPour 22 = .ok (.iconst 0, 1) := by decide +kernel
theorem dX4_doesPour_23 : decode cX4_doesPour 23 = .ok (.ireturn, 1) := by decide +kernel
set_option maxRecDepth 20000 in
theorem ggX4_doesMove_X4_isTank : GoodIn wsX4_doesMove wsX4_isTank := goodIn_r _ [8] (by decide +kernel) (by decide +kernel)
set_option maxRecDepth 20000 in
theorem gX4_doesMove_X4_isTank : GoodIn wsX4_doesMove (va_wsS RX4 65 yX4_isTank wsX4_isTank) := goodIn_app (goodIn_of _ (by decide +kernel)) ggX4_doesMove_X4_isTank
set_option maxRecDepth 20000 in
theorem ggX4_doesMove_X4_takesOut : GoodIn wsX4_doesMove wsX4_takesOut := goodIn_r _ [12, 4, 13, 5, 6, 7, 8, 18, 19, 20, 21, 22, 23, 24, 25, 26, 27, 28, 29, 30, 31, 32, 33] (by decide +kernel) (by decide +kernel)
set_option maxRecDepth 20000 in
theorem gX4_doesMove_X4_takesOut : GoodIn wsX4_doesMove (wsV RX4 240 RX4 yX4_takesOut wsX4_takesOut) := goodIn_app (goodIn_of _ (by decide +kernel)) ggX4_doesMove_X4_takesOut
theorem dX4_doesMove_0 : decode cX4_doesMove 0 = .ok (.aload_n 1, 1) := by decide +kernel
theorem dX4_doesMove_1 : decode cX4_doesMove 1 = .ok (.getfield 239, 3) := by decide +kernel
theorem dX4_doesMove_4 : decode cX4_doesMove 4 = .ok (.invokestatic 65, 3) := by decide +kernel
theorem dX4_doesMove_7 : decode cX4_doesMove 7 = .ok (.ifCond .eq 18, 3) := by decide +kernel
theorem dX4_doesMove_10 : decode cX4_doesMove 10 = .ok (.aload_n 0, 1) := by decide +kernel
theorem dX4_doesMove_11 : decode cX4_doesMove 11 = .ok (.aload_n 1, 1) := by decide +kernel
theorem dX4_doesMove_12 : decode cX4_doesMove 12 = .ok (.getfield 235, 3) := by decide +kernel
theorem dX4_doesMove_15 : decode cX4_doesMove 15 = .ok (.aload_n 1, 1) := by decide +kernel
theorem dX4_doesMove_16 : decode cX4_doesMove 16 = .ok (.getfield 243, 3) := by decide +kernel
theorem dX4_doesMove_19 : decode cX4_doesMove 19 = .ok (.invokevirtual 240, 3) := by decide +kernel
theorem dX4_doesMove_22 : decode cX4_doesMove 22 = .ok (.ifCond .ne 5, 3) := by decide +kernel
theorem dX4_doesMove_25 : decode cX4_doesMove 25 = .ok (.iconst 0, 1) := by decide +kernel
theorem dX4_doesMove_26 : decode cX4_doesMove 26 = .ok (.ireturn, 1) := by decide +kernel
theorem dX4_doesMove_27 : decode cX4_doesMove 27 = .ok (.aload_n 0, 1) := by decide +kernel
theorem dX4_doesMove_28 : decode cX4_doesMove 28 = .ok (.getfield 13, 3) := by decide +kernel
theorem dX4_doesMove_31 : decode cX4_doesMove 31 = .ok (.aload_n 1, 1) := by decide +kernel
theorem dX4_doesMove_32 : decode cX4_doesMove 32 = .ok (.getfield 239, 3) := by decide +kernel
theorem dX4_doesMove_35 : decode cX4_doesMove 35 = .ok (.dup2, 1) := by decide +kernel
theorem dX4_doesMove_36 : decode cX4_doesMove 36 = .ok (.iaload, 1) := by decide +kernel
theorem dX4_doesMove_37 : decode cX4_doesMove 37 = .ok (.aload_n 1, 1) := by decide +kernel
theorem dX4_doesMove_38 : decode cX4_doesMove 38 = .ok (.getfield 243, 3) := by decide +kernel
theorem dX4_doesMove_41 : decode cX4_doesMove 41 = .ok (.iadd, 1) := by decide +kernel
theorem dX4_doesMove_42 : decode cX4_doesMove 42 = .ok (.iastore, 1) := by decide +kernel
theorem dX4_doesMove_43 : decode cX4_doesMove 43 = .ok (.aload_n 1, 1) := by decide +kernel
theorem dX4_doesMove_44 : decode cX4_doesMove 44 = .ok (.getfield 243, 3) := by decide +kernel
theorem dX4_doesMove_47 : decode cX4_doesMove 47 = .ok (.ireturn, 1) := by decide +kernel
set_option maxRecDepth 20000 in
theorem ggX4_takesOut_X4_isTank : GoodIn wsX4_takesOut wsX4_isTank := goodIn_r _ [6] (by decide +kernel) (by decide +kernel)
set_option maxRecDepth 20000 in
theorem gX4_takesOut_X4_isTank : GoodIn wsX4_takesOut (va_wsS RX4 65 yX4_isTank wsX4_isTank) := goodIn_app (goodIn_of _ (by decide +kernel)) ggX4_takesOut_X4_isTank
theorem dX4_takesOut_0 : decode cX4_takesOut 0 = .ok (.iload_n 1, 1) := by decide +kernel
theorem dX4_takesOut_1 : decode cX4_takesOut 1 = .ok (.invokestatic 65, 3) := by decide +kernel
theorem dX4_takesOut_4 : decode cX4_takesOut 4 = .ok (.ifCond .eq 13, 3) := by decide +kernel
theorem dX4_takesOut_7 : decode cX4_takesOut 7 = .ok (.aload_n 0, 1) := by decide +kernel
theorem dX4_takesOut_8 : decode cX4_takesOut 8 = .ok (.getfield 13, 3) := by decide +kernel
theorem dX4_takesOut_11 : decode cX4_takesOut 11 = .ok (.iload_n 1, 1) := by decide +kernel
theorem dX4_takesOut_12 : decode cX4_takesOut 12 = .ok (.iaload, 1) := by decide +kernel
theorem dX4_takesOut_13 : decode cX4_takesOut 13 = .ok (.iload_n 2, 1) := by decide +kernel
theorem dX4_takesOut_14 : decode cX4_takesOut 14 = .ok (.if_icmp .ge 10, 3) := by decide +kernel
theorem dX4_takesOut_17 : decode cX4_takesOut 17 = .ok (.aload_n 0, 1) := by decide +kernel
theorem dX4_takesOut_18 : decode cX4_takesOut 18 = .ok (.iconst 3, 1) := by decide +kernel
theorem dX4_takesOut_19 : decode cX4_takesOut 19 = .ok (.putfield 105, 3) := by decide +kernel
theorem dX4_takesOut_22 : decode cX4_takesOut 22 = .ok (.iconst 0, 1) := by decide +kernel
theorem dX4_takesOut_23 : decode cX4_takesOut 23 = .ok (.ireturn, 1) := by decide +kernel
theorem dX4_takesOut_24 : decode cX4_takesOut 24 = .ok (.aload_n 0, 1) := by decide +kernel
theorem dX4_takesOut_25 : decode cX4_takesOut 25 = .ok (.getfield 13, 3) := by decide +kernel
theorem dX4_takesOut_28 : decode cX4_takesOut 28 = .ok (.iload_n 1, 1) := by decide +kernel
theorem dX4_takesOut_29 : decode cX4_takesOut 29 = .ok (.dup2, 1) := by decide +kernel
theorem dX4_takesOut_30 : decode cX4_takesOut 30 = .ok (.iaload, 1) := by decide +kernel
theorem dX4_takesOut_31 : decode cX4_takesOut 31 = .ok (.iload_n 2, 1) := by decide +kernel
theorem dX4_takesOut_32 : decode cX4_takesOut 32 = .ok (.isub, 1) := by decide +kernel
theorem dX4_takesOut_33 : decode cX4_takesOut 33 = .ok (.iastore, 1) := by decide +kernel
theorem dX4_takesOut_34 : decode cX4_takesOut 34 = .ok (.iconst 1, 1) := by decide +kernel
theorem dX4_takesOut_35 : decode cX4_takesOut 35 = .ok (.ireturn, 1) := by decide +kernel
set_option maxRecDepth 20000 in
theorem ggX4_doesWhen_X4_says : GoodIn wsX4_doesWhen wsX4_says := goodIn_r _ [9, 2, 10, 11, 12, 13, 14, 15, 16, 17, 18, 19, 20, 21, 8, 22, 23, 24, 25, 26, 27, 28, 29, 30, 31, 32, 33, 34, 35, 36, 37, 38, 39, 40, 41, 42, 43, 44, 45, 46, 5, 6, 7, 47, 48, 49, 50, 51, 52, 53, 54, 55, 56, 57, 58, 59, 60, 61, 62, 63, 64, 65, 66, 67, 136, 137, 138, 139, 140, 141, 142, 143, 144, 145, 146, 147, 148, 149, 150, 151, 159, 160, 161, 162, 163, 164] (by decide +kernel) (by decide +kernel)
set_option maxRecDepth 20000 in
theorem gX4_doesWhen_X4_says : GoodIn wsX4_doesWhen (wsV RX4 95 RX4 yX4_says wsX4_says) := goodIn_app (goodIn_of _ (by decide +kernel)) ggX4_doesWhen_X4_says
set_option maxRecDepth 20000 in
theorem ggX4_doesWhen_X4_does : GoodIn wsX4_doesWhen wsX4_does := goodIn_r _ [71, 2, 72, 1, 19, 20, 21, 8, 22, 23, 24, 73, 74, 75, 76, 77, 78, 79, 80, 81, 82, 3, 83, 84, 85, 86, 87, 88, 89, 90, 91, 92, 93, 94, 4, 95, 96, 97, 98, 99, 100, 101, 102, 103, 104, 105, 106, 107, 108, 109, 110, 111, 112, 113, 114, 115, 116, 117, 118, 119, 120, 68, 69, 70, 121, 122, 123, 124, 35, 44, 45, 46, 125, 126, 127, 128, 129, 130, 131, 132, 133, 134, 135, 62, 63, 64, 65, 0, 5, 6, 7, 9, 10, 11, 12, 13, 14, 15, 16, 17, 18, 25, 26, 27, 28, 29, 30, 31, 32, 33, 34, 36, 37, 38, 39, 40, 41, 42, 43, 47, 48, 49, 50, 51, 52, 53, 54, 55, 56, 57, 58, 59, 60, 61, 66, 67, 136, 137, 138, 139, 140, 141, 142, 143, 144, 145, 146, 147, 148, 149, 150, 151, 152, 153, 154, 155, 156, 157, 158, 159, 160, 161, 162, 163, 164] (by decide +kernel) (by decide +kernel)
set_option maxRecDepth 20000 in
theorem gX4_doesWhen_X4_does : GoodIn wsX4_doesWhen (wsV RX4 125 RX4 yX4_does wsX4_does) := goodIn_app (goodIn_of _ (by decide +kernel)) ggX4_doesWhen_X4_does
theorem dX4_doesWhen_0 : decode cX4_doesWhen 0 = .ok (.aload_n 0, 1) := by decide +kernel
theorem dX4_doesWhen_1 : decode cX4_doesWhen 1 = .ok (.aload_n 1, 1) := by decide +kernel
theorem dX4_doesWhen_2 : decode cX4_doesWhen 2 = .ok (.getfield 235, 3) := by decide +kernel
theorem dX4_doesWhen_5 : decode cX4_doesWhen 5 = .ok (.iconst 0, 1) := by decide +kernel
theorem dX4_doesWhen_6 : decode cX4_doesWhen 6 = .ok (.invokevirtual 95, 3) := by decide +kernel
theorem dX4_doesWhen_9 : decode cX4_doesWhen 9 = .ok (.istore_n 3, 1) := by decide +kernel
theorem dX4_doesWhen_10 : decode cX4_doesWhen 10 = .ok (.aload_n 0, 1) := by decide +kernel
theorem dX4_doesWhen_11 : decode cX4_doesWhen 11 = .ok (.getfield 105, 3) := by decide +kernel
theorem dX4_doesWhen_14 : decode cX4_doesWhen 14 = .ok (.ifCond .eq 5, 3) := by decide +kernel
theorem dX4_doesWhen_17 : decode cX4_doesWhen 17 = .ok (.iconst 0, 1) := by decide +kernel
theorem dX4_doesWhen_18 : decode cX4_doesWhen 18 = .ok (.ireturn, 1) := by decide +kernel
theorem dX4_doesWhen_19 : decode cX4_doesWhen 19 = .ok (.iload_n 3, 1) := by decide +kernel
theorem dX4_doesWhen_20 : decode cX4_doesWhen 20 = .ok (.ifCond .eq 10, 3) := by decide +kernel
theorem dX4_doesWhen_23 : decode cX4_doesWhen 23 = .ok (.aload_n 1, 1) := by decide +kernel
theorem dX4_doesWhen_24 : decode cX4_doesWhen 24 = .ok (.getfield 239, 3) := by decide +kernel
theorem dX4_doesWhen_27 : decode cX4_doesWhen 27 = .ok (.goto 7, 3) := by decide +kernel
theorem dX4_doesWhen_30 : decode cX4_doesWhen 30 = .ok (.aload_n 1, 1) := by decide +kernel
theorem dX4_doesWhen_31 : decode cX4_doesWhen 31 = .ok (.getfield 243, 3) := by decide +kernel
theorem dX4_doesWhen_34 : decode cX4_doesWhen 34 = .ok (.istore 4, 2) := by decide +kernel
theorem dX4_doesWhen_36 : decode cX4_doesWhen 36 = .ok (.iload 4, 2) := by decide +kernel
theorem dX4_doesWhen_38 : decode cX4_doesWhen 38 = .ok (.iconst (-1), 1) := by decide +kernel
theorem dX4_doesWhen_39 : decode cX4_doesWhen 39 = .ok (.if_icmp .ne 7, 3) := by decide +kernel
theorem dX4_doesWhen_42 : decode cX4_doesWhen 42 = .ok (.iconst 0, 1) := by decide +kernel
theorem dX4_doesWhen_43 : decode cX4_doesWhen 43 = .ok (.goto 12, 3) := by decide +kernel
theorem dX4_doesWhen_46 : decode cX4_doesWhen 46 = .ok (.aload_n 0, 1) := by decide +kernel
theorem dX4_doesWhen_47 : decode cX4_doesWhen 47 = .ok (.iload 4, 2) := by decide +kernel
theorem dX4_doesWhen_49 : decode cX4_doesWhen 49 = .ok (.iload_n 2, 1) := by decide +kernel
theorem dX4_doesWhen_50 : decode cX4_doesWhen 50 = .ok (.iconst 1, 1) := by decide +kernel
theorem dX4_doesWhen_51 : decode cX4_doesWhen 51 = .ok (.iadd, 1) := by decide +kernel
theorem dX4_doesWhen_52 : decode cX4_doesWhen 52 = .ok (.invokevirtual 125, 3) := by decide +kernel
theorem dX4_doesWhen_55 : decode cX4_doesWhen 55 = .ok (.ireturn, 1) := by decide +kernel
set_option maxRecDepth 20000 in
theorem ggX4_doesThen_X4_does : GoodIn wsX4_doesThen wsX4_does := goodIn_r _ [8, 2, 9, 1, 10, 11, 12, 7, 13, 14, 15, 16, 17, 18, 19, 20, 21, 22, 23, 24, 25, 3, 26, 27, 28, 29, 30, 31, 32, 33, 34, 35, 36, 37, 38, 39, 40, 41, 42, 43, 44, 45, 46, 47, 48, 49, 50, 51, 52, 53, 54, 55, 56, 57, 58, 59, 60, 61, 62, 63, 64, 4, 5, 6, 65, 66, 67, 68, 69, 70, 71, 72, 0, 73, 74, 75, 76, 77, 78, 79, 80, 81, 82, 83, 84, 85, 86, 87, 88, 89, 90, 91, 92, 93, 94, 95, 96, 97, 98, 99, 100, 101, 102, 103, 104, 105, 106, 107, 108, 109, 110, 111, 112, 113, 114, 115, 116, 117, 118, 119, 120, 121, 122, 123, 124, 125, 126, 127, 128, 129, 130, 131, 132, 133, 134, 135, 136, 137, 138, 139, 140, 141, 142, 143, 144, 145, 146, 147, 148, 149, 150, 151, 152, 153, 154, 155, 156, 157, 158, 159, 160, 161, 162, 163, 164] (by decide +kernel) (by decide +kernel)
set_option maxRecDepth 20000 in
theorem gX4_doesThen_X4_does : GoodIn wsX4_doesThen (wsV RX4 125 RX4 yX4_does wsX4_does) := goodIn_app (goodIn_of _ (by decide +kernel)) ggX4_doesThen_X4_does
theorem dX4_doesThen_0 : decode cX4_doesThen 0 = .ok (.aload_n 0, 1) := by decide +kernel
theorem dX4_doesThen_1 : decode cX4_doesThen 1 = .ok (.aload_n 1, 1) := by decide +kernel
theorem dX4_doesThen_2 : decode cX4_doesThen 2 = .ok (.getfield 235, 3) := by decide +kernel
theorem dX4_doesThen_5 : decode cX4_doesThen 5 = .ok (.iload_n 2, 1) := by decide +kernel
theorem dX4_doesThen_6 : decode cX4_doesThen 6 = .ok (.iconst 1, 1) := by decide +kernel
theorem dX4_doesThen_7 : decode cX4_doesThen 7 = .ok (.iadd, 1) := by decide +kernel
theorem dX4_doesThen_8 : decode cX4_doesThen 8 = .ok (.invokevirtual 125, 3) := by decide +kernel
theorem dX4_doesThen_11 : decode cX4_doesThen 11 = .ok (.istore_n 3, 1) := by decide +kernel
theorem dX4_doesThen_12 : decode cX4_doesThen 12 = .ok (.aload_n 0, 1) := by decide +kernel
theorem dX4_doesThen_13 : decode cX4_doesThen 13 = .ok (.getfield 105, 3) := by decide +kernel
theorem dX4_doesThen_16 : decode cX4_doesThen 16 = .ok (.ifCond .eq 5, 3) := by decide +kernel
theorem dX4_doesThen_19 : decode cX4_doesThen 19 = .ok (.iconst 0, 1) := by decide +kernel
theorem dX4_doesThen_20 : decode cX4_doesThen 20 = .ok (.ireturn, 1) := by decide +kernel
theorem dX4_doesThen_21 : decode cX4_doesThen 21 = .ok (.iload_n 3, 1) := by decide +kernel
theorem dX4_doesThen_22 : decode cX4_doesThen 22 = .ok (.aload_n 0, 1) := by decide +kernel
theorem dX4_doesThen_23 : decode cX4_doesThen 23 = .ok (.aload_n 1, 1) := by decide +kernel
theorem dX4_doesThen_24 : decode cX4_doesThen 24 = .ok (.getfield 239, 3) := by decide +kernel
theorem dX4_doesThen_27 : decode cX4_doesThen 27 = .ok (.iload_n 2, 1) := by decide +kernel
theorem dX4_doesThen_28 : decode cX4_doesThen 28 = .ok (.iconst 1, 1) := by decide +kernel
theorem dX4_doesThen_29 : decode cX4_doesThen 29 = .ok (.iadd, 1) := by decide +kernel
theorem dX4_doesThen_30 : decode cX4_doesThen 30 = .ok (.invokevirtual 125, 3) := by decide +kernel
theorem dX4_doesThen_33 : decode cX4_doesThen 33 = .ok (.iadd, 1) := by decide +kernel
theorem dX4_doesThen_34 : decode cX4_doesThen 34 = .ok (.ireturn, 1) := by decide +kernel
set_option maxRecDepth 20000 in
theorem ggX4_doesTimes_X4_does : GoodIn wsX4_doesTimes wsX4_does := goodIn_r _ [8, 2, 9, 3, 10, 11, 12, 7, 13, 14, 15, 16, 17, 18, 19, 20, 21, 22, 23, 24, 25, 1, 26, 27, 28, 29, 30, 31, 32, 33, 34, 35, 36, 37, 38, 39, 40, 41, 42, 43, 44, 45, 46, 47, 48, 49, 50, 51, 52, 53, 54, 55, 56, 57, 58, 59, 60, 61, 62, 63, 64, 4, 5, 6, 65, 66, 67, 68, 69, 70, 71, 72, 73, 0, 74, 75, 76, 77, 78, 79, 80, 81, 82, 83, 84, 85, 86, 87, 88, 89, 90, 91, 92, 93, 94, 95, 96, 97, 98, 99, 100, 101, 102, 103, 104, 105, 106, 107, 108, 109, 110, 111, 112, 113, 114, 115, 116, 117, 118, 119, 120, 121, 122, 123, 124, 125, 126, 127, 128, 129, 130, 131, 132, 133, 134, 135, 136, 137, 138, 139, 140, 141, 142, 143, 144, 145, 146, 147, 148, 149, 150, 151, 152, 153, 154, 155, 156, 157, 158, 159, 160, 161, 162, 163, 164] (by decide +kernel) (by decide +kernel)
set_option maxRecDepth 20000 in
theorem gX4_doesTimes_X4_does : GoodIn wsX4_doesTimes (wsV RX4 125 RX4 yX4_does wsX4_does) := goodIn_app (goodIn_of _ (by decide +kernel)) ggX4_doesTimes_X4_does
theorem dX4_doesTimes_0 : decode cX4_doesTimes 0 = .ok (.iconst 0, 1) := by decide +kernel
theorem dX4_doesTimes_1 : decode cX4_doesTimes 1 = .ok (.istore_n 3, 1) := by decide +kernel
theorem dX4_doesTimes_2 : decode cX4_doesTimes 2 = .ok (.iconst 0, 1) := by decide +kernel
theorem dX4_doesTimes_3 : decode cX4_doesTimes 3 = .ok (.istore 4, 2) := by decide +kernel
theorem dX4_doesTimes_5 : decode cX4_doesTimes 5 = .ok (.iload 4, 2) := by decide +kernel
theorem dX4_doesTimes_7 : decode cX4_doesTimes 7 = .ok (.aload_n 1, 1) := by decide +kernel
theorem dX4_doesTimes_8 : decode cX4_doesTimes 8 = .ok (.getfield 239, 3) := by decide +kernel
theorem dX4_doesTimes_11 : decode cX4_doesTimes 11 = .ok (.if_icmp .ge 30, 3) := by decide +kernel
theorem dX4_doesTimes_14 : decode cX4_doesTimes 14 = .ok (.aload_n 0, 1) := by decide +kernel
theorem dX4_doesTimes_15 : decode cX4_doesTimes 15 = .ok (.getfield 105, 3) := by decide +kernel
theorem dX4_doesTimes_18 : decode cX4_doesTimes 18 = .ok (.ifCond .ne 23, 3) := by decide +kernel
theorem dX4_doesTimes_21 : decode cX4_doesTimes 21 = .ok (.iload_n 3, 1) := by decide +kernel
theorem dX4_doesTimes_22 : decode cX4_doesTimes 22 = .ok (.aload_n 0, 1) := by decide +kernel
theorem dX4_doesTimes_23 : decode cX4_doesTimes 23 = .ok (.aload_n 1, 1) := by decide +kernel
theorem dX4_doesTimes_24 : decode cX4_doesTimes 24 = .ok (.getfield 235, 3) := by decide +kernel
theorem dX4_doesTimes_27 : decode cX4_doesTimes 27 = .ok (.iload_n 2, 1) := by decide +kernel
theorem dX4_doesTimes_28 : decode cX4_doesTimes 28 = .ok (.iconst 1, 1) := by decide +kernel
theorem dX4_doesTimes_29 : decode cX4_doesTimes 29 = .ok (.iadd, 1) := by decide +kernel
theorem dX4_doesTimes_30 : decode cX4_doesTimes 30 = .ok (.invokevirtual 125, 3) := by decide +kernel
theorem dX4_doesTimes_33 : decode cX4_doesTimes 33 = .ok (.iadd, 1) := by decide +kernel
theorem dX4_doesTimes_34 : decode cX4_doesTimes 34 = .ok (.istore_n 3, 1) := by decide +kernel
theorem dX4_doesTimes_35 : decode cX4_doesTimes 35 = .ok (.iinc 4 1, 3) := by decide +kernel
theorem dX4_doesTimes_38 : decode cX4_doesTimes 38 = .ok (.goto (-33), 3) := by decide +kernel
theorem dX4_doesTimes_41 : decode cX4_doesTimes 41 = .ok (.iload_n 3, 1) := by decide +kernel
theorem dX4_doesTimes_42 : decode cX4_doesTimes 42 = .ok (.ireturn, 1) := by decide +kernel
set_option maxRecDepth 20000 in
theorem ggX4_doesLater_X3_join : GoodIn wsX4_doesLater wsX3_join := goodIn_r _ [9, 10, 11, 12, 33, 34, 35] (by decide +kernel) (by decide +kernel)
set_option maxRecDepth 20000 in
theorem gX4_doesLater_X3_join : GoodIn wsX4_doesLater (wsV RX4 244 RX3 yX3_join wsX3_join) := goodIn_app (goodIn_of _ (by decide +kernel)) ggX4_doesLater_X3_join
theorem dX4_doesLater_0 : decode cX4_doesLater 0 = .ok (.aload_n 0, 1) := by decide +kernel
theorem dX4_doesLater_1 : decode cX4_doesLater 1 = .ok (.getfield 36, 3) := by decide +kernel
theorem dX4_doesLater_4 : decode cX4_doesLater 4 = .ok (.aload_n 1, 1) := by decide +kernel
theorem dX4_doesLater_5 : decode cX4_doesLater 5 = .ok (.getfield 235, 3) := by decide +kernel
theorem dX4_doesLater_8 : decode cX4_doesLater 8 = .ok (.aload_n 0, 1) := by decide +kernel
theorem dX4_doesLater_9 : decode cX4_doesLater 9 = .ok (.getfield 132, 3) := by decide +kernel
theorem dX4_doesLater_12 : decode cX4_doesLater 12 = .ok (.aload_n 1, 1) := by decide +kernel
theorem dX4_doesLater_13 : decode cX4_doesLater 13 = .ok (.getfield 239, 3) := by decide +kernel
theorem dX4_doesLater_16 : decode cX4_doesLater 16 = .ok (.iadd, 1) := by decide +kernel
theorem dX4_doesLater_17 : decode cX4_doesLater 17 = .ok (.invokevirtual 244, 3) := by decide +kernel
theorem dX4_doesLater_20 : decode cX4_doesLater 20 = .ok (.iconst 0, 1) := by decide +kernel
theorem dX4_doesLater_21 : decode cX4_doesLater 21 = .ok (.ireturn, 1) := by decide +kernel
set_option maxRecDepth 20000 in
theorem ggX4_doesTry_X4_isWithin : GoodIn wsX4_doesTry wsX4_isWithin := goodIn_r _ [13] (by decide +kernel) (by decide +kernel)
set_option maxRecDepth 20000 in
theorem gX4_doesTry_X4_isWithin : GoodIn wsX4_doesTry (va_wsS RX4 69 yX4_isWithin wsX4_isWithin) := goodIn_app (goodIn_of _ (by decide +kernel)) ggX4_doesTry_X4_isWithin
set_option maxRecDepth 20000 in
theorem ggX4_doesTry_X4_does : GoodIn wsX4_doesTry wsX4_does := goodIn_r _ [21, 8, 22, 7, 23, 24, 25, 12, 26, 27, 28, 29, 30, 31, 32, 33, 34, 35, 36, 37, 38, 9, 39, 40, 41, 42, 2, 43, 44, 45, 46, 47, 48, 49, 50, 51, 52, 53, 54, 55, 56, 57, 58, 59, 60, 61, 62, 63, 64, 65, 66, 67, 68, 69, 70, 71, 72, 73, 74, 75, 76, 14, 15, 16, 77, 78, 79, 80, 81, 82, 83, 84, 85, 86, 0, 1, 3, 4, 5, 6, 10, 11, 13, 17, 18, 19, 20, 87, 88, 89, 90, 91, 92, 93, 94, 95, 96, 97, 98, 99, 100, 101, 102, 103, 104, 105, 106, 107, 108, 109, 110, 111, 112, 113, 114, 115, 116, 117, 118, 119, 120, 121, 122, 123, 124, 125, 126, 127, 128, 129, 130, 131, 132, 133, 134, 135, 136, 137, 138, 139, 140, 141, 142, 143, 144, 145, 146, 147, 148, 149, 150, 151, 152, 153, 154, 155, 156, 157, 158, 159, 160, 161, 162, 163, 164] (by decide +kernel) (by decide +kernel)
set_option maxRecDepth 20000 in
theorem gX4_doesTry_X4_does : GoodIn wsX4_doesTry (wsV RX4 125 RX4 yX4_does wsX4_does) := goodIn_app (goodIn_of _ (by decide +kernel)) ggX4_doesTry_X4_does
set_option maxRecDepth 20000 in
theorem ggX4_doesTry_X4_canBeCaught : GoodIn wsX4_doesTry wsX4_canBeCaught := goodIn_r _ [20, 8, 136, 137, 138, 139, 140, 141, 142, 143, 144, 145, 146, 147, 148, 149, 150, 151] (by decide +kernel) (by decide +kernel)
set_option maxRecDepth 20000 in
theorem gX4_doesTry_X4_canBeCaught : GoodIn wsX4_doesTry (wsV RX4 208 RX4 yX4_canBeCaught wsX4_canBeCaught) := goodIn_app (goodIn_of _ (by decide +kernel)) ggX4_doesTry_X4_canBeCaught
theorem dX4_doesTry_0 : decode cX4_doesTry 0 = .ok (.iload_n 2, 1) := by decide +kernel
theorem dX4_doesTry_1 : decode cX4_doesTry 1 = .ok (.iconst 0, 1) := by decide +kernel
theorem dX4_doesTry_2 : decode cX4_doesTry 2 = .ok (.bipush 39, 2) := by decide +kernel
theorem dX4_doesTry_4 : decode cX4_doesTry 4 = .ok (.invokestatic 69, 3) := by decide +kernel
theorem dX4_doesTry_7 : decode cX4_doesTry 7 = .ok (.ifCond .ne 5, 3) := by decide +kernel
theorem dX4_doesTry_10 : decode cX4_doesTry 10 = .ok (.iconst 0, 1) := by decide +kernel
theorem dX4_doesTry_11 : decode cX4_doesTry 11 = .ok (.ireturn, 1) := by decide +kernel
theorem dX4_doesTry_12 : decode cX4_doesTry 12 = .ok (.aload_n 0, 1) := by decide +kernel
theorem dX4_doesTry_13 : decode cX4_doesTry 13 = .ok (.getfield 18, 3) := by decide +kernel
theorem dX4_doesTry_16 : decode cX4_doesTry 16 = .ok (.iload_n 2, 1) := by decide +kernel
theorem dX4_doesTry_17 : decode cX4_doesTry 17 = .ok (.aaload, 1) := by decide +kernel
theorem dX4_doesTry_18 : decode cX4_doesTry 18 = .ok (.astore_n 3, 1) := by decide +kernel
theorem dX4_doesTry_19 : decode cX4_doesTry 19 = .ok (.aload_n 0, 1) := by decide +kernel
theorem dX4_doesTry_20 : decode cX4_doesTry 20 = .ok (.getfield 13, 3) := by decide +kernel
theorem dX4_doesTry_23 : decode cX4_doesTry 23 = .ok (.iconst 0, 1) := by decide +kernel
theorem dX4_doesTry_24 : decode cX4_doesTry 24 = .ok (.aload_n 3, 1) := by decide +kernel
theorem dX4_doesTry_25 : decode cX4_doesTry 25 = .ok (.iconst 0, 1) := by decide +kernel
theorem dX4_doesTry_26 : decode cX4_doesTry 26 = .ok (.bipush 6, 2) := by decide +kernel
theorem dX4_doesTry_28 : decode cX4_doesTry 28 = .ok (.invokestatic 248, 3) := by decide +kernel
theorem dX4_doesTry_31 : decode cX4_doesTry 31 = .ok (.aload_n 0, 1) := by decide +kernel
theorem dX4_doesTry_32 : decode cX4_doesTry 32 = .ok (.aload_n 1, 1) := by decide +kernel
theorem dX4_doesTry_33 : decode cX4_doesTry 33 = .ok (.getfield 235, 3) := by decide +kernel
theorem dX4_doesTry_36 : decode cX4_doesTry 36 = .ok (.iload_n 2, 1) := by decide +kernel
theorem dX4_doesTry_37 : decode cX4_doesTry 37 = .ok (.iconst 1, 1) := by decide +kernel
theorem dX4_doesTry_38 : decode cX4_doesTry 38 = .ok (.iadd, 1) := by decide +kernel
theorem dX4_doesTry_39 : decode cX4_doesTry 39 = .ok (.invokevirtual 125, 3) := by decide +kernel
theorem dX4_doesTry_42 : decode cX4_doesTry 42 = .ok (.istore 4, 2) := by decide +kernel
theorem dX4_doesTry_44 : decode cX4_doesTry 44 = .ok (.aload_n 0, 1) := by decide +kernel
theorem dX4_doesTry_45 : decode cX4_doesTry 45 = .ok (.invokevirtual 208, 3) := by decide +kernel
theorem dX4_doesTry_48 : decode cX4_doesTry 48 = .ok (.ifCond .ne 6, 3) := by decide +kernel
theorem dX4_doesTry_51 : decode cX4_doesTry 51 = .ok (.iload 4, 2) := by decide +kernel
theorem dX4_doesTry_53 : decode cX4_doesTry 53 = .ok (.ireturn, 1) := by decide +kernel
theorem dX4_doesTry_54 : decode cX4_doesTry 54 = .ok (.aload_n 3, 1) := by decide +kernel
theorem dX4_doesTry_55 : decode cX4_doesTry 55 = .ok (.iconst 0, 1) := by decide +kernel
theorem dX4_doesTry_56 : decode cX4_doesTry 56 = .ok (.aload_n 0, 1) := by decide +kernel
theorem dX4_doesTry_57 : decode cX4_doesTry 57 = .ok (.getfield 13, 3) := by decide +kernel
theorem dX4_doesTry_60 : decode cX4_doesTry 60 = .ok (.iconst 0, 1) := by decide +kernel
theorem dX4_doesTry_61 : decode cX4_doesTry 61 = .ok (.bipush 6, 2) := by decide +kernel
theorem dX4_doesTry_63 : decode cX4_doesTry 63 = .ok (.invokestatic 248, 3) := by decide +kernel
theorem dX4_doesTry_66 : decode cX4_doesTry 66 = .ok (.aload_n 0, 1) := by decide +kernel
theorem dX4_doesTry_67 : decode cX4_doesTry 67 = .ok (.iconst 0, 1) := by decide +kernel
theorem dX4_doesTry_68 : decode cX4_doesTry 68 = .ok (.putfield 105, 3) := by decide +kernel
theorem dX4_doesTry_71 : decode cX4_doesTry 71 = .ok (.aload_n 0, 1) := by decide +kernel
theorem dX4_doesTry_72 : decode cX4_doesTry 72 = .ok (.aload_n 1, 1) := by decide +kernel
theorem dX4_doesTry_73 : decode cX4_doesTry 73 = .ok (.getfield 239, 3) := by decide +kernel
theorem dX4_doesTry_76 : decode cX4_doesTry 76 = .ok (.iload_n 2, 1) := by decide +kernel
theorem dX4_doesTry_77 : decode cX4_doesTry 77 = .ok (.iconst 1, 1) := by decide +kernel
theorem dX4_doesTry_78 : decode cX4_doesTry 78 = .ok (.iadd, 1) := by decide +kernel
theorem dX4_doesTry_79 : decode cX4_doesTry 79 = .ok (.invokevirtual 125, 3) := by decide +kernel
theorem dX4_doesTry_82 : decode cX4_doesTry 82 = .ok (.ireturn, 1) := by decide +kernel
set_option maxRecDepth 20000 in
theorem ggX4_doesShow_X4_isSensor : GoodIn wsX4_doesShow wsX4_isSensor := goodIn_r _ [8] (by decide +kernel) (by decide +kernel)
set_option maxRecDepth 20000 in
theorem gX4_doesShow_X4_isSensor : GoodIn wsX4_doesShow (va_wsS RX4 53 yX4_isSensor wsX4_isSensor) := goodIn_app (goodIn_of _ (by decide +kernel)) ggX4_doesShow_X4_isSensor
set_option maxRecDepth 20000 in
theorem ggX4_doesShow_X4_isTank : GoodIn wsX4_doesShow wsX4_isTank := goodIn_r _ [11] (by decide +kernel) (by decide +kernel)
set_option maxRecDepth 20000 in
theorem gX4_doesShow_X4_isTank : GoodIn wsX4_doesShow (va_wsS RX4 65 yX4_isTank wsX4_isTank) := goodIn_app (goodIn_of _ (by decide +kernel)) ggX4_doesShow_X4_isTank
theorem dX4_doesShow_0 : decode cX4_doesShow 0 = .ok (.aload_n 1, 1) := by decide +kernel
theorem dX4_doesShow_1 : decode cX4_doesShow 1 = .ok (.getfield 235, 3) := by decide +kernel
theorem dX4_doesShow_4 : decode cX4_doesShow 4 = .ok (.invokestatic 53, 3) := by decide +kernel
theorem dX4_doesShow_7 : decode cX4_doesShow 7 = .ok (.ifCond .eq 13, 3) := by decide +kernel
theorem dX4_doesShow_10 : decode cX4_doesShow 10 = .ok (.aload_n 1, 1) := by decide +kernel
theorem dX4_doesShow_11 : decode cX4_doesShow 11 = .ok (.getfield 239, 3) := by decide +kernel
theorem dX4_doesShow_14 : decode cX4_doesShow 14 = .ok (.invokestatic 65, 3) := by decide +kernel
theorem dX4_doesShow_17 : decode cX4_doesShow 17 = .ok (.ifCond .ne 5, 3) := by decide +kernel
theorem dX4_doesShow_20 : decode cX4_doesShow 20 = .ok (.iconst 0, 1) := by decide +kernel
theorem dX4_doesShow_21 : decode cX4_doesShow 21 = .ok (.ireturn, 1) := by decide +kernel
theorem dX4_doesShow_22 : decode cX4_doesShow 22 = .ok (.aload_n 0, 1) := by decide +kernel
theorem dX4_doesShow_23 : decode cX4_doesShow 23 = .ok (.getfield 9, 3) := by decide +kernel
theorem dX4_doesShow_26 : decode cX4_doesShow 26 = .ok (.aload_n 1, 1) := by decide +kernel
theorem dX4_doesShow_27 : decode cX4_doesShow 27 = .ok (.getfield 235, 3) := by decide +kernel
theorem dX4_doesShow_30 : decode cX4_doesShow 30 = .ok (.aload_n 0, 1) := by decide +kernel
theorem dX4_doesShow_31 : decode cX4_doesShow 31 = .ok (.getfield 13, 3) := by decide +kernel
theorem dX4_doesShow_34 : decode cX4_doesShow 34 = .ok (.aload_n 1, 1) := by decide +kernel
theorem dX4_doesShow_35 : decode cX4_doesShow 35 = .ok (.getfield 239, 3) := by decide +kernel
theorem dX4_doesShow_38 : decode cX4_doesShow 38 = .ok (.iaload, 1) := by decide +kernel
theorem dX4_doesShow_39 : decode cX4_doesShow 39 = .ok (.iastore, 1) := by decide +kernel
theorem dX4_doesShow_40 : decode cX4_doesShow 40 = .ok (.aload_n 0, 1) := by decide +kernel
theorem dX4_doesShow_41 : decode cX4_doesShow 41 = .ok (.getfield 13, 3) := by decide +kernel
theorem dX4_doesShow_44 : decode cX4_doesShow 44 = .ok (.aload_n 1, 1) := by decide +kernel
theorem dX4_doesShow_45 : decode cX4_doesShow 45 = .ok (.getfield 239, 3) := by decide +kernel
theorem dX4_doesShow_48 : decode cX4_doesShow 48 = .ok (.iaload, 1) := by decide +kernel
theorem dX4_doesShow_49 : decode cX4_doesShow 49 = .ok (.ireturn, 1) := by decide +kernel
set_option maxRecDepth 20000 in
theorem ggX4_doThoseDue_X3_takeFirstFor : GoodIn wsX4_doThoseDue wsX3_takeFirstFor := goodIn_r _ [8, 9, 10, 11, 12, 13, 14, 7, 15, 179, 180, 181] (by decide +kernel) (by decide +kernel)
set_option maxRecDepth 20000 in
theorem gX4_doThoseDue_X3_takeFirstFor : GoodIn wsX4_doThoseDue (wsV RX4 254 RX3 yX3_takeFirstFor wsX3_takeFirstFor) := goodIn_app (goodIn_of _ (by decide +kernel)) ggX4_doThoseDue_X3_takeFirstFor
set_option maxRecDepth 20000 in
theorem ggX4_doThoseDue_X4_doOneThatWaited : GoodIn wsX4_doThoseDue wsX4_doOneThatWaited := goodIn_r _ [20, 21, 22, 3, 23, 24, 25, 19, 26, 27, 28, 29, 30, 31, 32, 33, 34, 35, 36, 37, 1, 38, 39, 40, 41, 42, 43, 44, 45, 46, 47, 48, 49, 50, 51, 52, 53, 54, 55, 56, 57, 58, 59, 60, 61, 62, 63, 64, 65, 66, 67, 68, 69, 70, 71, 72, 73, 74, 2, 75, 76, 77, 7, 78, 9, 11, 10, 79, 80, 81, 82, 83, 84, 85, 86, 87, 88, 89, 90, 91, 92, 93, 94, 95, 96, 97, 98, 99, 100, 101, 102, 103, 104, 105, 106, 107, 108, 109, 110, 111, 112, 113, 114, 115, 116, 117, 118, 119, 120, 121, 122, 123, 124, 125, 126, 127, 128, 129, 130, 131, 132, 133, 134, 135, 136, 137, 138, 139, 140, 141, 142, 143, 144, 145, 146, 147, 148, 149, 150, 151, 152, 153, 154, 155, 156, 157, 158, 159, 160, 161, 162, 163, 164, 165, 166, 167, 168, 169, 170, 171, 172, 173, 174, 175, 176, 177, 178, 182, 183, 184, 185, 179, 180, 181, 186, 187, 188, 189, 190, 191, 192, 193, 194, 195] (by decide +kernel) (by decide +kernel)
set_option maxRecDepth 20000 in
theorem gX4_doThoseDue_X4_doOneThatWaited : GoodIn wsX4_doThoseDue (wsV RX4 257 RX4 yX4_doOneThatWaited wsX4_doOneThatWaited) := goodIn_app (goodIn_of _ (by decide +kernel)) ggX4_doThoseDue_X4_doOneThatWaited
theorem dX4_doThoseDue_0 : decode cX4_doThoseDue 0 = .ok (.iconst 0, 1) := by decide +kernel
theorem dX4_doThoseDue_1 : decode cX4_doThoseDue 1 = .ok (.istore_n 1, 1) := by decide +kernel
theorem dX4_doThoseDue_2 : decode cX4_doThoseDue 2 = .ok (.iload_n 1, 1) := by decide +kernel
theorem dX4_doThoseDue_3 : decode cX4_doThoseDue 3 = .ok (.bipush 100, 2) := by decide +kernel
theorem dX4_doThoseDue_5 : decode cX4_doThoseDue 5 = .ok (.if_icmp .ge 44, 3) := by decide +kernel
theorem dX4_doThoseDue_8 : decode cX4_doThoseDue 8 = .ok (.aload_n 0, 1) := by decide +kernel
theorem dX4_doThoseDue_9 : decode cX4_doThoseDue 9 = .ok (.getfield 89, 3) := by decide +kernel
theorem dX4_doThoseDue_12 : decode cX4_doThoseDue 12 = .ok (.sipush 20000, 3) := by decide +kernel
