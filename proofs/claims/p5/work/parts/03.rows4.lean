theorem dX6_tubesIn_7 : decode cX6_tubesIn 7 = .ok (.iaload, 1) := by decide +kernel
theorem dX6_tubesIn_8 : decode cX6_tubesIn 8 = .ok (.if_icmp .ge 29, 3) := by decide +kernel
theorem dX6_tubesIn_11 : decode cX6_tubesIn 11 = .ok (.iload_n 2, 1) := by decide +kernel
theorem dX6_tubesIn_12 : decode cX6_tubesIn 12 = .ok (.aload_n 0, 1) := by decide +kernel
theorem dX6_tubesIn_13 : decode cX6_tubesIn 13 = .ok (.iload_n 3, 1) := by decide +kernel
theorem dX6_tubesIn_14 : decode cX6_tubesIn 14 = .ok (.iconst 1, 1) := by decide +kernel
theorem dX6_tubesIn_15 : decode cX6_tubesIn 15 = .ok (.invokestatic 155, 3) := by decide +kernel
theorem dX6_tubesIn_18 : decode cX6_tubesIn 18 = .ok (.iload_n 1, 1) := by decide +kernel
theorem dX6_tubesIn_19 : decode cX6_tubesIn 19 = .ok (.if_icmp .ne 9, 3) := by decide +kernel
theorem dX6_tubesIn_22 : decode cX6_tubesIn 22 = .ok (.iconst 1, 1) := by decide +kernel
theorem dX6_tubesIn_23 : decode cX6_tubesIn 23 = .ok (.iload_n 3, 1) := by decide +kernel
theorem dX6_tubesIn_24 : decode cX6_tubesIn 24 = .ok (.ishl, 1) := by decide +kernel
theorem dX6_tubesIn_25 : decode cX6_tubesIn 25 = .ok (.goto 4, 3) := by decide +kernel
theorem dX6_tubesIn_28 : decode cX6_tubesIn 28 = .ok (.iconst 0, 1) := by decide +kernel
theorem dX6_tubesIn_29 : decode cX6_tubesIn 29 = .ok (.ior, 1) := by decide +kernel
theorem dX6_tubesIn_30 : decode cX6_tubesIn 30 = .ok (.istore_n 2, 1) := by decide +kernel
theorem dX6_tubesIn_31 : decode cX6_tubesIn 31 = .ok (.iinc 3 1, 3) := by decide +kernel
theorem dX6_tubesIn_34 : decode cX6_tubesIn 34 = .ok (.goto (-30), 3) := by decide +kernel
theorem dX6_tubesIn_37 : decode cX6_tubesIn 37 = .ok (.iload_n 2, 1) := by decide +kernel
theorem dX6_tubesIn_38 : decode cX6_tubesIn 38 = .ok (.ireturn, 1) := by decide +kernel
set_option maxRecDepth 20000 in
theorem ggX6_shaken_X6_of : GoodIn wsX6_shaken wsX6_of := goodIn_r _ [4] rfl (by decide +kernel)
set_option maxRecDepth 20000 in
theorem gX6_shaken_X6_of : GoodIn wsX6_shaken (va_wsS RX6 155 yX6_of wsX6_of) := goodIn_app (goodIn_of _ (by decide +kernel)) ggX6_shaken_X6_of
set_option maxRecDepth 20000 in
theorem ggX6_shaken_X6_gives : GoodIn wsX6_shaken wsX6_gives := goodIn_r _ [7, 8, 9, 3, 10] rfl (by decide +kernel)
set_option maxRecDepth 20000 in
theorem gX6_shaken_X6_gives : GoodIn wsX6_shaken (va_wsS RX6 174 yX6_gives wsX6_gives) := goodIn_app (goodIn_of _ (by decide +kernel)) ggX6_shaken_X6_gives
set_option maxRecDepth 20000 in
theorem ggX6_shaken_X6_be : GoodIn wsX6_shaken wsX6_be := goodIn_r _ [13] rfl (by decide +kernel)
set_option maxRecDepth 20000 in
theorem gX6_shaken_X6_be : GoodIn wsX6_shaken (va_wsS RX6 170 yX6_be wsX6_be) := goodIn_app (goodIn_of _ (by decide +kernel)) ggX6_shaken_X6_be
theorem dX6_shaken_0 : decode cX6_shaken 0 = .ok (.aload_n 0, 1) := by decide +kernel
theorem dX6_shaken_1 : decode cX6_shaken 1 = .ok (.iload_n 1, 1) := by decide +kernel
theorem dX6_shaken_2 : decode cX6_shaken 2 = .ok (.iconst 4, 1) := by decide +kernel
theorem dX6_shaken_3 : decode cX6_shaken 3 = .ok (.invokestatic 155, 3) := by decide +kernel
theorem dX6_shaken_6 : decode cX6_shaken 6 = .ok (.istore_n 2, 1) := by decide +kernel
theorem dX6_shaken_7 : decode cX6_shaken 7 = .ok (.aload_n 0, 1) := by decide +kernel
theorem dX6_shaken_8 : decode cX6_shaken 8 = .ok (.aload_n 0, 1) := by decide +kernel
theorem dX6_shaken_9 : decode cX6_shaken 9 = .ok (.iload_n 1, 1) := by decide +kernel
theorem dX6_shaken_10 : decode cX6_shaken 10 = .ok (.iconst 1, 1) := by decide +kernel
theorem dX6_shaken_11 : decode cX6_shaken 11 = .ok (.invokestatic 155, 3) := by decide +kernel
theorem dX6_shaken_14 : decode cX6_shaken 14 = .ok (.iload_n 2, 1) := by decide +kernel
theorem dX6_shaken_15 : decode cX6_shaken 15 = .ok (.invokestatic 174, 3) := by decide +kernel
theorem dX6_shaken_18 : decode cX6_shaken 18 = .ok (.aload_n 0, 1) := by decide +kernel
theorem dX6_shaken_19 : decode cX6_shaken 19 = .ok (.iload_n 1, 1) := by decide +kernel
theorem dX6_shaken_20 : decode cX6_shaken 20 = .ok (.iconst 4, 1) := by decide +kernel
theorem dX6_shaken_21 : decode cX6_shaken 21 = .ok (.iconst 0, 1) := by decide +kernel
theorem dX6_shaken_22 : decode cX6_shaken 22 = .ok (.invokestatic 170, 3) := by decide +kernel
theorem dX6_shaken_25 : decode cX6_shaken 25 = .ok (.iload_n 2, 1) := by decide +kernel
theorem dX6_shaken_26 : decode cX6_shaken 26 = .ok (.ireturn, 1) := by decide +kernel
set_option maxRecDepth 20000 in
theorem ggX6_poured_X6_of : GoodIn wsX6_poured wsX6_of := goodIn_r _ [4] rfl (by decide +kernel)
set_option maxRecDepth 20000 in
theorem gX6_poured_X6_of : GoodIn wsX6_poured (va_wsS RX6 155 yX6_of wsX6_of) := goodIn_app (goodIn_of _ (by decide +kernel)) ggX6_poured_X6_of
set_option maxRecDepth 20000 in
theorem ggX6_poured_X6_be : GoodIn wsX6_poured wsX6_be := goodIn_r _ [7] rfl (by decide +kernel)
set_option maxRecDepth 20000 in
theorem gX6_poured_X6_be : GoodIn wsX6_poured (va_wsS RX6 170 yX6_be wsX6_be) := goodIn_app (goodIn_of _ (by decide +kernel)) ggX6_poured_X6_be
theorem dX6_poured_0 : decode cX6_poured 0 = .ok (.aload_n 0, 1) := by decide +kernel
theorem dX6_poured_1 : decode cX6_poured 1 = .ok (.iload_n 2, 1) := by decide +kernel
theorem dX6_poured_2 : decode cX6_poured 2 = .ok (.iconst 3, 1) := by decide +kernel
theorem dX6_poured_3 : decode cX6_poured 3 = .ok (.invokestatic 155, 3) := by decide +kernel
theorem dX6_poured_6 : decode cX6_poured 6 = .ok (.aload_n 0, 1) := by decide +kernel
theorem dX6_poured_7 : decode cX6_poured 7 = .ok (.iload_n 2, 1) := by decide +kernel
theorem dX6_poured_8 : decode cX6_poured 8 = .ok (.iconst 4, 1) := by decide +kernel
theorem dX6_poured_9 : decode cX6_poured 9 = .ok (.invokestatic 155, 3) := by decide +kernel
theorem dX6_poured_12 : decode cX6_poured 12 = .ok (.isub, 1) := by decide +kernel
theorem dX6_poured_13 : decode cX6_poured 13 = .ok (.istore_n 3, 1) := by decide +kernel
theorem dX6_poured_14 : decode cX6_poured 14 = .ok (.aload_n 0, 1) := by decide +kernel
theorem dX6_poured_15 : decode cX6_poured 15 = .ok (.iload_n 1, 1) := by decide +kernel
theorem dX6_poured_16 : decode cX6_poured 16 = .ok (.iconst 4, 1) := by decide +kernel
theorem dX6_poured_17 : decode cX6_poured 17 = .ok (.invokestatic 155, 3) := by decide +kernel
theorem dX6_poured_20 : decode cX6_poured 20 = .ok (.iload_n 3, 1) := by decide +kernel
theorem dX6_poured_21 : decode cX6_poured 21 = .ok (.if_icmp .le 7, 3) := by decide +kernel
theorem dX6_poured_24 : decode cX6_poured 24 = .ok (.iload_n 3, 1) := by decide +kernel
theorem dX6_poured_25 : decode cX6_poured 25 = .ok (.goto 9, 3) := by decide +kernel
theorem dX6_poured_28 : decode cX6_poured 28 = .ok (.aload_n 0, 1) := by decide +kernel
theorem dX6_poured_29 : decode cX6_poured 29 = .ok (.iload_n 1, 1) := by decide +kernel
theorem dX6_poured_30 : decode cX6_poured 30 = .ok (.iconst 4, 1) := by decide +kernel
theorem dX6_poured_31 : decode cX6_poured 31 = .ok (.invokestatic 155, 3) := by decide +kernel
theorem dX6_poured_34 : decode cX6_poured 34 = .ok (.istore 4, 2) := by decide +kernel
theorem dX6_poured_36 : decode cX6_poured 36 = .ok (.aload_n 0, 1) := by decide +kernel
theorem dX6_poured_37 : decode cX6_poured 37 = .ok (.iload_n 1, 1) := by decide +kernel
theorem dX6_poured_38 : decode cX6_poured 38 = .ok (.iconst 1, 1) := by decide +kernel
theorem dX6_poured_39 : decode cX6_poured 39 = .ok (.invokestatic 155, 3) := by decide +kernel
theorem dX6_poured_42 : decode cX6_poured 42 = .ok (.aload_n 0, 1) := by decide +kernel
theorem dX6_poured_43 : decode cX6_poured 43 = .ok (.iload_n 2, 1) := by decide +kernel
theorem dX6_poured_44 : decode cX6_poured 44 = .ok (.iconst 1, 1) := by decide +kernel
theorem dX6_poured_45 : decode cX6_poured 45 = .ok (.invokestatic 155, 3) := by decide +kernel
theorem dX6_poured_48 : decode cX6_poured 48 = .ok (.if_icmp .ne 8, 3) := by decide +kernel
theorem dX6_poured_51 : decode cX6_poured 51 = .ok (.iload 4, 2) := by decide +kernel
theorem dX6_poured_53 : decode cX6_poured 53 = .ok (.goto 4, 3) := by decide +kernel
theorem dX6_poured_56 : decode cX6_poured 56 = .ok (.iconst 0, 1) := by decide +kernel
theorem dX6_poured_57 : decode cX6_poured 57 = .ok (.istore 4, 2) := by decide +kernel
theorem dX6_poured_59 : decode cX6_poured 59 = .ok (.aload_n 0, 1) := by decide +kernel
theorem dX6_poured_60 : decode cX6_poured 60 = .ok (.iload_n 1, 1) := by decide +kernel
theorem dX6_poured_61 : decode cX6_poured 61 = .ok (.iconst 4, 1) := by decide +kernel
theorem dX6_poured_62 : decode cX6_poured 62 = .ok (.aload_n 0, 1) := by decide +kernel
theorem dX6_poured_63 : decode cX6_poured 63 = .ok (.iload_n 1, 1) := by decide +kernel
theorem dX6_poured_64 : decode cX6_poured 64 = .ok (.iconst 4, 1) := by decide +kernel
theorem dX6_poured_65 : decode cX6_poured 65 = .ok (.invokestatic 155, 3) := by decide +kernel
theorem dX6_poured_68 : decode cX6_poured 68 = .ok (.iload 4, 2) := by decide +kernel
theorem dX6_poured_70 : decode cX6_poured 70 = .ok (.isub, 1) := by decide +kernel
theorem dX6_poured_71 : decode cX6_poured 71 = .ok (.invokestatic 170, 3) := by decide +kernel
theorem dX6_poured_74 : decode cX6_poured 74 = .ok (.aload_n 0, 1) := by decide +kernel
theorem dX6_poured_75 : decode cX6_poured 75 = .ok (.iload_n 2, 1) := by decide +kernel
theorem dX6_poured_76 : decode cX6_poured 76 = .ok (.iconst 4, 1) := by decide +kernel
theorem dX6_poured_77 : decode cX6_poured 77 = .ok (.aload_n 0, 1) := by decide +kernel
theorem dX6_poured_78 : decode cX6_poured 78 = .ok (.iload_n 2, 1) := by decide +kernel
theorem dX6_poured_79 : decode cX6_poured 79 = .ok (.iconst 4, 1) := by decide +kernel
theorem dX6_poured_80 : decode cX6_poured 80 = .ok (.invokestatic 155, 3) := by decide +kernel
theorem dX6_poured_83 : decode cX6_poured 83 = .ok (.iload 4, 2) := by decide +kernel
theorem dX6_poured_85 : decode cX6_poured 85 = .ok (.iadd, 1) := by decide +kernel
theorem dX6_poured_86 : decode cX6_poured 86 = .ok (.invokestatic 170, 3) := by decide +kernel
theorem dX6_poured_89 : decode cX6_poured 89 = .ok (.iload 4, 2) := by decide +kernel
theorem dX6_poured_91 : decode cX6_poured 91 = .ok (.ireturn, 1) := by decide +kernel
set_option maxRecDepth 20000 in
theorem ggX6_upOf_X6_of : GoodIn wsX6_upOf wsX6_of := goodIn_r _ [4] rfl (by decide +kernel)
set_option maxRecDepth 20000 in
theorem gX6_upOf_X6_of : GoodIn wsX6_upOf (va_wsS RX6 155 yX6_of wsX6_of) := goodIn_app (goodIn_of _ (by decide +kernel)) ggX6_upOf_X6_of
theorem dX6_upOf_0 : decode cX6_upOf 0 = .ok (.iconst 0, 1) := by decide +kernel
theorem dX6_upOf_1 : decode cX6_upOf 1 = .ok (.istore_n 1, 1) := by decide +kernel
theorem dX6_upOf_2 : decode cX6_upOf 2 = .ok (.iconst 0, 1) := by decide +kernel
theorem dX6_upOf_3 : decode cX6_upOf 3 = .ok (.istore_n 2, 1) := by decide +kernel
theorem dX6_upOf_4 : decode cX6_upOf 4 = .ok (.iload_n 2, 1) := by decide +kernel
theorem dX6_upOf_5 : decode cX6_upOf 5 = .ok (.aload_n 0, 1) := by decide +kernel
theorem dX6_upOf_6 : decode cX6_upOf 6 = .ok (.iconst 1, 1) := by decide +kernel
theorem dX6_upOf_7 : decode cX6_upOf 7 = .ok (.iaload, 1) := by decide +kernel
theorem dX6_upOf_8 : decode cX6_upOf 8 = .ok (.if_icmp .ge 18, 3) := by decide +kernel
theorem dX6_upOf_11 : decode cX6_upOf 11 = .ok (.iload_n 1, 1) := by decide +kernel
theorem dX6_upOf_12 : decode cX6_upOf 12 = .ok (.aload_n 0, 1) := by decide +kernel
theorem dX6_upOf_13 : decode cX6_upOf 13 = .ok (.iload_n 2, 1) := by decide +kernel
theorem dX6_upOf_14 : decode cX6_upOf 14 = .ok (.iconst 4, 1) := by decide +kernel
theorem dX6_upOf_15 : decode cX6_upOf 15 = .ok (.invokestatic 155, 3) := by decide +kernel
theorem dX6_upOf_18 : decode cX6_upOf 18 = .ok (.iadd, 1) := by decide +kernel
theorem dX6_upOf_19 : decode cX6_upOf 19 = .ok (.istore_n 1, 1) := by decide +kernel
theorem dX6_upOf_20 : decode cX6_upOf 20 = .ok (.iinc 2 1, 3) := by decide +kernel
theorem dX6_upOf_23 : decode cX6_upOf 23 = .ok (.goto (-19), 3) := by decide +kernel
theorem dX6_upOf_26 : decode cX6_upOf 26 = .ok (.iload_n 1, 1) := by decide +kernel
theorem dX6_upOf_27 : decode cX6_upOf 27 = .ok (.ireturn, 1) := by decide +kernel
set_option maxRecDepth 20000 in
theorem ggX6_degreesOf_X6_upOf : GoodIn wsX6_degreesOf wsX6_upOf := goodIn_r _ [4, 5, 6, 3, 7] rfl (by decide +kernel)
set_option maxRecDepth 20000 in
theorem gX6_degreesOf_X6_upOf : GoodIn wsX6_degreesOf (va_wsS RX6 185 yX6_upOf wsX6_upOf) := goodIn_app (goodIn_of _ (by decide +kernel)) ggX6_degreesOf_X6_upOf
set_option maxRecDepth 20000 in
theorem ggX6_degreesOf_X6_warmth : GoodIn wsX6_degreesOf wsX6_warmth := goodIn_r _ [10] rfl (by decide +kernel)
set_option maxRecDepth 20000 in
theorem gX6_degreesOf_X6_warmth : GoodIn wsX6_degreesOf (va_wsS RX6 159 yX6_warmth wsX6_warmth) := goodIn_app (goodIn_of _ (by decide +kernel)) ggX6_degreesOf_X6_warmth
theorem dX6_degreesOf_0 : decode cX6_degreesOf 0 = .ok (.aload_n 0, 1) := by decide +kernel
theorem dX6_degreesOf_1 : decode cX6_degreesOf 1 = .ok (.invokestatic 185, 3) := by decide +kernel
theorem dX6_degreesOf_4 : decode cX6_degreesOf 4 = .ok (.istore_n 1, 1) := by decide +kernel
theorem dX6_degreesOf_5 : decode cX6_degreesOf 5 = .ok (.iconst 0, 1) := by decide +kernel
theorem dX6_degreesOf_6 : decode cX6_degreesOf 6 = .ok (.istore_n 2, 1) := by decide +kernel
theorem dX6_degreesOf_7 : decode cX6_degreesOf 7 = .ok (.iload_n 2, 1) := by decide +kernel
theorem dX6_degreesOf_8 : decode cX6_degreesOf 8 = .ok (.aload_n 0, 1) := by decide +kernel
theorem dX6_degreesOf_9 : decode cX6_degreesOf 9 = .ok (.iconst 0, 1) := by decide +kernel
theorem dX6_degreesOf_10 : decode cX6_degreesOf 10 = .ok (.iaload, 1) := by decide +kernel
theorem dX6_degreesOf_11 : decode cX6_degreesOf 11 = .ok (.if_icmp .ge 17, 3) := by decide +kernel
theorem dX6_degreesOf_14 : decode cX6_degreesOf 14 = .ok (.iload_n 1, 1) := by decide +kernel
theorem dX6_degreesOf_15 : decode cX6_degreesOf 15 = .ok (.aload_n 0, 1) := by decide +kernel
theorem dX6_degreesOf_16 : decode cX6_degreesOf 16 = .ok (.iload_n 2, 1) := by decide +kernel
theorem dX6_degreesOf_17 : decode cX6_degreesOf 17 = .ok (.invokestatic 159, 3) := by decide +kernel
theorem dX6_degreesOf_20 : decode cX6_degreesOf 20 = .ok (.iadd, 1) := by decide +kernel
theorem dX6_degreesOf_21 : decode cX6_degreesOf 21 = .ok (.istore_n 1, 1) := by decide +kernel
theorem dX6_degreesOf_22 : decode cX6_degreesOf 22 = .ok (.iinc 2 1, 3) := by decide +kernel
theorem dX6_degreesOf_25 : decode cX6_degreesOf 25 = .ok (.goto (-18), 3) := by decide +kernel
theorem dX6_degreesOf_28 : decode cX6_degreesOf 28 = .ok (.iload_n 1, 1) := by decide +kernel
theorem dX6_degreesOf_29 : decode cX6_degreesOf 29 = .ok (.ireturn, 1) := by decide +kernel
theorem dX6_layThen_0 : decode cX6_layThen 0 = .ok (.iconst 0, 1) := by decide +kernel
theorem dX6_layThen_1 : decode cX6_layThen 1 = .ok (.istore_n 1, 1) := by decide +kernel
theorem dX6_layThen_2 : decode cX6_layThen 2 = .ok (.iload_n 1, 1) := by decide +kernel
theorem dX6_layThen_3 : decode cX6_layThen 3 = .ok (.bipush 45, 2) := by decide +kernel
theorem dX6_layThen_5 : decode cX6_layThen 5 = .ok (.if_icmp .ge 21, 3) := by decide +kernel
theorem dX6_layThen_8 : decode cX6_layThen 8 = .ok (.aload_n 0, 1) := by decide +kernel
theorem dX6_layThen_9 : decode cX6_layThen 9 = .ok (.getfield 25, 3) := by decide +kernel
theorem dX6_layThen_12 : decode cX6_layThen 12 = .ok (.iload_n 1, 1) := by decide +kernel
theorem dX6_layThen_13 : decode cX6_layThen 13 = .ok (.aload_n 0, 1) := by decide +kernel
theorem dX6_layThen_14 : decode cX6_layThen 14 = .ok (.getfield 19, 3) := by decide +kernel
theorem dX6_layThen_17 : decode cX6_layThen 17 = .ok (.iload_n 1, 1) := by decide +kernel
theorem dX6_layThen_18 : decode cX6_layThen 18 = .ok (.iaload, 1) := by decide +kernel
theorem dX6_layThen_19 : decode cX6_layThen 19 = .ok (.iastore, 1) := by decide +kernel
theorem dX6_layThen_20 : decode cX6_layThen 20 = .ok (.iinc 1 1, 3) := by decide +kernel
theorem dX6_layThen_23 : decode cX6_layThen 23 = .ok (.goto (-21), 3) := by decide +kernel
theorem dX6_layThen_26 : decode cX6_layThen 26 = .ok (.return_, 1) := by decide +kernel
theorem dX6_keep_0 : decode cX6_keep 0 = .ok (.aload_n 0, 1) := by decide +kernel
theorem dX6_keep_1 : decode cX6_keep 1 = .ok (.getfield 149, 3) := by decide +kernel
theorem dX6_keep_4 : decode cX6_keep 4 = .ok (.bipush 24, 2) := by decide +kernel
theorem dX6_keep_6 : decode cX6_keep 6 = .ok (.if_icmp .ne 43, 3) := by decide +kernel
theorem dX6_keep_9 : decode cX6_keep 9 = .ok (.iconst 0, 1) := by decide +kernel
theorem dX6_keep_10 : decode cX6_keep 10 = .ok (.istore_n 1, 1) := by decide +kernel
theorem dX6_keep_11 : decode cX6_keep 11 = .ok (.iload_n 1, 1) := by decide +kernel
theorem dX6_keep_12 : decode cX6_keep 12 = .ok (.sipush 1035, 3) := by decide +kernel
theorem dX6_keep_15 : decode cX6_keep 15 = .ok (.if_icmp .ge 24, 3) := by decide +kernel
theorem dX6_keep_18 : decode cX6_keep 18 = .ok (.aload_n 0, 1) := by decide +kernel
theorem dX6_keep_19 : decode cX6_keep 19 = .ok (.getfield 28, 3) := by decide +kernel
theorem dX6_keep_22 : decode cX6_keep 22 = .ok (.iload_n 1, 1) := by decide +kernel
theorem dX6_keep_23 : decode cX6_keep 23 = .ok (.aload_n 0, 1) := by decide +kernel
theorem dX6_keep_24 : decode cX6_keep 24 = .ok (.getfield 28, 3) := by decide +kernel
theorem dX6_keep_27 : decode cX6_keep 27 = .ok (.iload_n 1, 1) := by decide +kernel
theorem dX6_keep_28 : decode cX6_keep 28 = .ok (.bipush 45, 2) := by decide +kernel
theorem dX6_keep_30 : decode cX6_keep 30 = .ok (.iadd, 1) := by decide +kernel
theorem dX6_keep_31 : decode cX6_keep 31 = .ok (.iaload, 1) := by decide +kernel
theorem dX6_keep_32 : decode cX6_keep 32 = .ok (.iastore, 1) := by decide +kernel
theorem dX6_keep_33 : decode cX6_keep 33 = .ok (.iinc 1 1, 3) := by decide +kernel
theorem dX6_keep_36 : decode cX6_keep 36 = .ok (.goto (-25), 3) := by decide +kernel
theorem dX6_keep_39 : decode cX6_keep 39 = .ok (.aload_n 0, 1) := by decide +kernel
theorem dX6_keep_40 : decode cX6_keep 40 = .ok (.dup, 1) := by decide +kernel
theorem dX6_keep_41 : decode cX6_keep 41 = .ok (.getfield 149, 3) := by decide +kernel
theorem dX6_keep_44 : decode cX6_keep 44 = .ok (.iconst 1, 1) := by decide +kernel
theorem dX6_keep_45 : decode cX6_keep 45 = .ok (.isub, 1) := by decide +kernel
theorem dX6_keep_46 : decode cX6_keep 46 = .ok (.putfield 149, 3) := by decide +kernel
theorem dX6_keep_49 : decode cX6_keep 49 = .ok (.iconst 0, 1) := by decide +kernel
theorem dX6_keep_50 : decode cX6_keep 50 = .ok (.istore_n 1, 1) := by decide +kernel
theorem dX6_keep_51 : decode cX6_keep 51 = .ok (.iload_n 1, 1) := by decide +kernel
theorem dX6_keep_52 : decode cX6_keep 52 = .ok (.bipush 45, 2) := by decide +kernel
theorem dX6_keep_54 : decode cX6_keep 54 = .ok (.if_icmp .ge 29, 3) := by decide +kernel
theorem dX6_keep_57 : decode cX6_keep 57 = .ok (.aload_n 0, 1) := by decide +kernel
theorem dX6_keep_58 : decode cX6_keep 58 = .ok (.getfield 28, 3) := by decide +kernel
theorem dX6_keep_61 : decode cX6_keep 61 = .ok (.bipush 45, 2) := by decide +kernel
theorem dX6_keep_63 : decode cX6_keep 63 = .ok (.aload_n 0, 1) := by decide +kernel
theorem dX6_keep_64 : decode cX6_keep 64 = .ok (.getfield 149, 3) := by decide +kernel
theorem dX6_keep_67 : decode cX6_keep 67 = .ok (.imul, 1) := by decide +kernel
theorem dX6_keep_68 : decode cX6_keep 68 = .ok (.iload_n 1, 1) := by decide +kernel
theorem dX6_keep_69 : decode cX6_keep 69 = .ok (.iadd, 1) := by decide +kernel
theorem dX6_keep_70 : decode cX6_keep 70 = .ok (.aload_n 0, 1) := by decide +kernel
theorem dX6_keep_71 : decode cX6_keep 71 = .ok (.getfield 19, 3) := by decide +kernel
theorem dX6_keep_74 : decode cX6_keep 74 = .ok (.iload_n 1, 1) := by decide +kernel
theorem dX6_keep_75 : decode cX6_keep 75 = .ok (.iaload, 1) := by decide +kernel
theorem dX6_keep_76 : decode cX6_keep 76 = .ok (.iastore, 1) := by decide +kernel
theorem dX6_keep_77 : decode cX6_keep 77 = .ok (.iinc 1 1, 3) := by decide +kernel
theorem dX6_keep_80 : decode cX6_keep 80 = .ok (.goto (-29), 3) := by decide +kernel
theorem dX6_keep_83 : decode cX6_keep 83 = .ok (.aload_n 0, 1) := by decide +kernel
theorem dX6_keep_84 : decode cX6_keep 84 = .ok (.dup, 1) := by decide +kernel
theorem dX6_keep_85 : decode cX6_keep 85 = .ok (.getfield 149, 3) := by decide +kernel
theorem dX6_keep_88 : decode cX6_keep 88 = .ok (.iconst 1, 1) := by decide +kernel
theorem dX6_keep_89 : decode cX6_keep 89 = .ok (.iadd, 1) := by decide +kernel
theorem dX6_keep_90 : decode cX6_keep 90 = .ok (.putfield 149, 3) := by decide +kernel
theorem dX6_keep_93 : decode cX6_keep 93 = .ok (.return_, 1) := by decide +kernel
set_option maxRecDepth 20000 in
theorem ggX6_minutes_X6_isThere : GoodIn wsX6_minutes wsX6_isThere := goodIn_r _ [11, 5, 48, 49, 50, 51, 52, 53, 54, 55, 56, 57, 58, 59, 60, 61, 62, 63, 64, 65, 66, 67, 68, 69, 70, 71] rfl (by decide +kernel)
set_option maxRecDepth 20000 in
theorem gX6_minutes_X6_isThere : GoodIn wsX6_minutes (wsV RX6 152 RX6 yX6_isThere wsX6_isThere) := goodIn_app (goodIn_of _ (by decide +kernel)) ggX6_minutes_X6_isThere
set_option maxRecDepth 20000 in
theorem ggX6_minutes_X6_in : GoodIn wsX6_minutes wsX6_in := goodIn_r _ [14] rfl (by decide +kernel)
set_option maxRecDepth 20000 in
theorem gX6_minutes_X6_in : GoodIn wsX6_minutes (va_wsS RX6 57 yX6_in wsX6_in) := goodIn_app (goodIn_of _ (by decide +kernel)) ggX6_minutes_X6_in
set_option maxRecDepth 20000 in
theorem ggX6_minutes_X6_keep : GoodIn wsX6_minutes wsX6_keep := goodIn_r _ [18, 19, 20, 5, 48, 49, 50, 51, 52, 53, 54, 55, 56, 57, 58, 59, 60, 61, 62, 63, 64, 65, 66, 67, 68, 69, 70, 71] rfl (by decide +kernel)
set_option maxRecDepth 20000 in
theorem gX6_minutes_X6_keep : GoodIn wsX6_minutes (wsV RX6 192 RX6 yX6_keep wsX6_keep) := goodIn_app (goodIn_of _ (by decide +kernel)) ggX6_minutes_X6_keep
set_option maxRecDepth 20000 in
theorem ggX6_minutes_X6_minute : GoodIn wsX6_minutes wsX6_minute := goodIn_r _ [23, 24, 25, 10, 26, 27, 28, 29, 30, 31, 32, 33, 34, 35, 36, 37, 38, 39, 40, 41, 42, 43, 44] rfl (by decide +kernel)
set_option maxRecDepth 20000 in
theorem gX6_minutes_X6_minute : GoodIn wsX6_minutes (va_wsS RX6 181 yX6_minute wsX6_minute) := goodIn_app (goodIn_of _ (by decide +kernel)) ggX6_minutes_X6_minute
set_option maxRecDepth 20000 in
theorem ggX6_minutes_X6_colds : GoodIn wsX6_minutes wsX6_colds := goodIn_r _ [47, 42, 43, 10, 44, 33, 34, 35] rfl (by decide +kernel)
set_option maxRecDepth 20000 in
theorem gX6_minutes_X6_colds : GoodIn wsX6_minutes (va_wsS RX6 195 yX6_colds wsX6_colds) := goodIn_app (goodIn_of _ (by decide +kernel)) ggX6_minutes_X6_colds
theorem dX6_minutes_0 : decode cX6_minutes 0 = .ok (.aload_n 0, 1) := by decide +kernel
theorem dX6_minutes_1 : decode cX6_minutes 1 = .ok (.iconst 0, 1) := by decide +kernel
theorem dX6_minutes_2 : decode cX6_minutes 2 = .ok (.putfield 47, 3) := by decide +kernel
theorem dX6_minutes_5 : decode cX6_minutes 5 = .ok (.aload_n 0, 1) := by decide +kernel
theorem dX6_minutes_6 : decode cX6_minutes 6 = .ok (.invokevirtual 152, 3) := by decide +kernel
theorem dX6_minutes_9 : decode cX6_minutes 9 = .ok (.ifCond .ne 6, 3) := by decide +kernel
theorem dX6_minutes_12 : decode cX6_minutes 12 = .ok (.ldc 189, 2) := by decide +kernel
theorem dX6_minutes_14 : decode cX6_minutes 14 = .ok (.ireturn, 1) := by decide +kernel
theorem dX6_minutes_15 : decode cX6_minutes 15 = .ok (.iload_n 1, 1) := by decide +kernel
theorem dX6_minutes_16 : decode cX6_minutes 16 = .ok (.i2l, 1) := by decide +kernel
theorem dX6_minutes_17 : decode cX6_minutes 17 = .ok (.lconst 1, 1) := by decide +kernel
theorem dX6_minutes_18 : decode cX6_minutes 18 = .ok (.ldc2_w 190, 3) := by decide +kernel
theorem dX6_minutes_21 : decode cX6_minutes 21 = .ok (.invokestatic 57, 3) := by decide +kernel
theorem dX6_minutes_24 : decode cX6_minutes 24 = .ok (.ifCond .ne 6, 3) := by decide +kernel
theorem dX6_minutes_27 : decode cX6_minutes 27 = .ok (.ldc 67, 2) := by decide +kernel
theorem dX6_minutes_29 : decode cX6_minutes 29 = .ok (.ireturn, 1) := by decide +kernel
theorem dX6_minutes_30 : decode cX6_minutes 30 = .ok (.aload_n 0, 1) := by decide +kernel
theorem dX6_minutes_31 : decode cX6_minutes 31 = .ok (.getfield 19, 3) := by decide +kernel
theorem dX6_minutes_34 : decode cX6_minutes 34 = .ok (.iconst 4, 1) := by decide +kernel
theorem dX6_minutes_35 : decode cX6_minutes 35 = .ok (.iaload, 1) := by decide +kernel
theorem dX6_minutes_36 : decode cX6_minutes 36 = .ok (.iload_n 1, 1) := by decide +kernel
theorem dX6_minutes_37 : decode cX6_minutes 37 = .ok (.iadd, 1) := by decide +kernel
theorem dX6_minutes_38 : decode cX6_minutes 38 = .ok (.sipush 999, 3) := by decide +kernel
theorem dX6_minutes_41 : decode cX6_minutes 41 = .ok (.if_icmp .le 6, 3) := by decide +kernel
theorem dX6_minutes_44 : decode cX6_minutes 44 = .ok (.ldc 77, 2) := by decide +kernel
theorem dX6_minutes_46 : decode cX6_minutes 46 = .ok (.ireturn, 1) := by decide +kernel
theorem dX6_minutes_47 : decode cX6_minutes 47 = .ok (.iconst 0, 1) := by decide +kernel
theorem dX6_minutes_48 : decode cX6_minutes 48 = .ok (.istore_n 2, 1) := by decide +kernel
theorem dX6_minutes_49 : decode cX6_minutes 49 = .ok (.iload_n 2, 1) := by decide +kernel
theorem dX6_minutes_50 : decode cX6_minutes 50 = .ok (.iload_n 1, 1) := by decide +kernel
theorem dX6_minutes_51 : decode cX6_minutes 51 = .ok (.if_icmp .ge 20, 3) := by decide +kernel
theorem dX6_minutes_54 : decode cX6_minutes 54 = .ok (.aload_n 0, 1) := by decide +kernel
theorem dX6_minutes_55 : decode cX6_minutes 55 = .ok (.invokevirtual 192, 3) := by decide +kernel
theorem dX6_minutes_58 : decode cX6_minutes 58 = .ok (.aload_n 0, 1) := by decide +kernel
theorem dX6_minutes_59 : decode cX6_minutes 59 = .ok (.getfield 19, 3) := by decide +kernel
theorem dX6_minutes_62 : decode cX6_minutes 62 = .ok (.invokestatic 181, 3) := by decide +kernel
theorem dX6_minutes_65 : decode cX6_minutes 65 = .ok (.iinc 2 1, 3) := by decide +kernel
theorem dX6_minutes_68 : decode cX6_minutes 68 = .ok (.goto (-19), 3) := by decide +kernel
theorem dX6_minutes_71 : decode cX6_minutes 71 = .ok (.aload_n 0, 1) := by decide +kernel
theorem dX6_minutes_72 : decode cX6_minutes 72 = .ok (.getfield 19, 3) := by decide +kernel
theorem dX6_minutes_75 : decode cX6_minutes 75 = .ok (.invokestatic 195, 3) := by decide +kernel
theorem dX6_minutes_78 : decode cX6_minutes 78 = .ok (.ireturn, 1) := by decide +kernel
set_option maxRecDepth 20000 in
theorem ggX6_carry_X6_isTube : GoodIn wsX6_carry wsX6_isTube := goodIn_r _ [9, 3, 10, 11, 8, 12, 33, 34, 35, 36, 37, 38, 39, 40, 41, 42, 43, 44, 45, 46, 47, 48, 49, 50, 51, 52, 53, 54, 55, 56] rfl (by decide +kernel)
set_option maxRecDepth 20000 in
theorem gX6_carry_X6_isTube : GoodIn wsX6_carry (wsV RX6 198 RX6 yX6_isTube wsX6_isTube) := goodIn_app (goodIn_of _ (by decide +kernel)) ggX6_carry_X6_isTube
set_option maxRecDepth 20000 in
theorem ggX6_carry_X6_isPlace : GoodIn wsX6_carry wsX6_isPlace := goodIn_r _ [16, 3, 17, 18, 19, 8, 20, 10, 11, 12, 33, 34, 35, 36, 37, 38, 39, 40, 41, 42, 43, 44, 45, 46, 47, 48, 49, 50, 51, 52, 53, 54, 55, 56] rfl (by decide +kernel)
set_option maxRecDepth 20000 in
theorem gX6_carry_X6_isPlace : GoodIn wsX6_carry (wsV RX6 201 RX6 yX6_isPlace wsX6_isPlace) := goodIn_app (goodIn_of _ (by decide +kernel)) ggX6_carry_X6_isPlace
set_option maxRecDepth 20000 in
theorem ggX6_carry_X6_of : GoodIn wsX6_carry wsX6_of := goodIn_r _ [23] rfl (by decide +kernel)
set_option maxRecDepth 20000 in
theorem gX6_carry_X6_of : GoodIn wsX6_carry (va_wsS RX6 155 yX6_of wsX6_of) := goodIn_app (goodIn_of _ (by decide +kernel)) ggX6_carry_X6_of
set_option maxRecDepth 20000 in
theorem ggX6_carry_X6_keep : GoodIn wsX6_carry wsX6_keep := goodIn_r _ [27, 28, 29, 3, 33, 34, 35, 36, 37, 38, 39, 40, 41, 42, 43, 44, 45, 46, 47, 48, 49, 50, 51, 52, 53, 54, 55, 56] rfl (by decide +kernel)
set_option maxRecDepth 20000 in
theorem gX6_carry_X6_keep : GoodIn wsX6_carry (wsV RX6 192 RX6 yX6_keep wsX6_keep) := goodIn_app (goodIn_of _ (by decide +kernel)) ggX6_carry_X6_keep
set_option maxRecDepth 20000 in
theorem ggX6_carry_X6_be : GoodIn wsX6_carry wsX6_be := goodIn_r _ [32] rfl (by decide +kernel)
set_option maxRecDepth 20000 in
theorem gX6_carry_X6_be : GoodIn wsX6_carry (va_wsS RX6 170 yX6_be wsX6_be) := goodIn_app (goodIn_of _ (by decide +kernel)) ggX6_carry_X6_be
theorem dX6_carry_0 : decode cX6_carry 0 = .ok (.aload_n 0, 1) := by decide +kernel
theorem dX6_carry_1 : decode cX6_carry 1 = .ok (.iconst 0, 1) := by decide +kernel
theorem dX6_carry_2 : decode cX6_carry 2 = .ok (.putfield 47, 3) := by decide +kernel
theorem dX6_carry_5 : decode cX6_carry 5 = .ok (.aload_n 0, 1) := by decide +kernel
theorem dX6_carry_6 : decode cX6_carry 6 = .ok (.iload_n 1, 1) := by decide +kernel
theorem dX6_carry_7 : decode cX6_carry 7 = .ok (.invokevirtual 198, 3) := by decide +kernel
theorem dX6_carry_10 : decode cX6_carry 10 = .ok (.ifCond .eq 11, 3) := by decide +kernel
theorem dX6_carry_13 : decode cX6_carry 13 = .ok (.aload_n 0, 1) := by decide +kernel
theorem dX6_carry_14 : decode cX6_carry 14 = .ok (.iload_n 2, 1) := by decide +kernel
theorem dX6_carry_15 : decode cX6_carry 15 = .ok (.invokevirtual 201, 3) := by decide +kernel
theorem dX6_carry_18 : decode cX6_carry 18 = .ok (.ifCond .ne 6, 3) := by decide +kernel
theorem dX6_carry_21 : decode cX6_carry 21 = .ok (.ldc 67, 2) := by decide +kernel
theorem dX6_carry_23 : decode cX6_carry 23 = .ok (.ireturn, 1) := by decide +kernel
theorem dX6_carry_24 : decode cX6_carry 24 = .ok (.aload_n 0, 1) := by decide +kernel
theorem dX6_carry_25 : decode cX6_carry 25 = .ok (.getfield 19, 3) := by decide +kernel
theorem dX6_carry_28 : decode cX6_carry 28 = .ok (.iload_n 1, 1) := by decide +kernel
theorem dX6_carry_29 : decode cX6_carry 29 = .ok (.iconst 1, 1) := by decide +kernel
theorem dX6_carry_30 : decode cX6_carry 30 = .ok (.invokestatic 155, 3) := by decide +kernel
theorem dX6_carry_33 : decode cX6_carry 33 = .ok (.istore_n 3, 1) := by decide +kernel
theorem dX6_carry_34 : decode cX6_carry 34 = .ok (.iload_n 3, 1) := by decide +kernel
theorem dX6_carry_35 : decode cX6_carry 35 = .ok (.iload_n 2, 1) := by decide +kernel
theorem dX6_carry_36 : decode cX6_carry 36 = .ok (.if_icmp .ne 6, 3) := by decide +kernel
theorem dX6_carry_39 : decode cX6_carry 39 = .ok (.ldc 189, 2) := by decide +kernel
theorem dX6_carry_41 : decode cX6_carry 41 = .ok (.ireturn, 1) := by decide +kernel
theorem dX6_carry_42 : decode cX6_carry 42 = .ok (.aload_n 0, 1) := by decide +kernel
theorem dX6_carry_43 : decode cX6_carry 43 = .ok (.invokevirtual 192, 3) := by decide +kernel
theorem dX6_carry_46 : decode cX6_carry 46 = .ok (.aload_n 0, 1) := by decide +kernel
theorem dX6_carry_47 : decode cX6_carry 47 = .ok (.getfield 19, 3) := by decide +kernel
theorem dX6_carry_50 : decode cX6_carry 50 = .ok (.iload_n 1, 1) := by decide +kernel
theorem dX6_carry_51 : decode cX6_carry 51 = .ok (.iconst 1, 1) := by decide +kernel
theorem dX6_carry_52 : decode cX6_carry 52 = .ok (.iload_n 2, 1) := by decide +kernel
theorem dX6_carry_53 : decode cX6_carry 53 = .ok (.invokestatic 170, 3) := by decide +kernel
theorem dX6_carry_56 : decode cX6_carry 56 = .ok (.iload_n 3, 1) := by decide +kernel
theorem dX6_carry_57 : decode cX6_carry 57 = .ok (.ireturn, 1) := by decide +kernel
set_option maxRecDepth 20000 in
theorem ggX6_shake_X6_isTube : GoodIn wsX6_shake wsX6_isTube := goodIn_r _ [9, 3, 10, 11, 8, 12, 34, 35, 36, 37, 38, 39, 40, 41, 42, 43, 44, 45, 46, 47, 48, 49, 50, 51, 52, 53, 54, 55, 56, 57] rfl (by decide +kernel)
set_option maxRecDepth 20000 in
theorem gX6_shake_X6_isTube : GoodIn wsX6_shake (wsV RX6 198 RX6 yX6_isTube wsX6_isTube) := goodIn_app (goodIn_of _ (by decide +kernel)) ggX6_shake_X6_isTube
set_option maxRecDepth 20000 in
theorem ggX6_shake_X6_of : GoodIn wsX6_shake wsX6_of := goodIn_r _ [15] rfl (by decide +kernel)
set_option maxRecDepth 20000 in
theorem gX6_shake_X6_of : GoodIn wsX6_shake (va_wsS RX6 155 yX6_of wsX6_of) := goodIn_app (goodIn_of _ (by decide +kernel)) ggX6_shake_X6_of
set_option maxRecDepth 20000 in
theorem ggX6_shake_X6_keep : GoodIn wsX6_shake wsX6_keep := goodIn_r _ [19, 20, 21, 3, 34, 35, 36, 37, 38, 39, 40, 41, 42, 43, 44, 45, 46, 47, 48, 49, 50, 51, 52, 53, 54, 55, 56, 57] rfl (by decide +kernel)
set_option maxRecDepth 20000 in
theorem gX6_shake_X6_keep : GoodIn wsX6_shake (wsV RX6 192 RX6 yX6_keep wsX6_keep) := goodIn_app (goodIn_of _ (by decide +kernel)) ggX6_shake_X6_keep
set_option maxRecDepth 20000 in
theorem ggX6_shake_X6_shaken : GoodIn wsX6_shake wsX6_shaken := goodIn_r _ [24, 13, 14, 8, 15, 25, 26, 27, 28, 29, 30, 31, 32, 33] rfl (by decide +kernel)
set_option maxRecDepth 20000 in
theorem gX6_shake_X6_shaken : GoodIn wsX6_shake (va_wsS RX6 204 yX6_shaken wsX6_shaken) := goodIn_app (goodIn_of _ (by decide +kernel)) ggX6_shake_X6_shaken
theorem dX6_shake_0 : decode cX6_shake 0 = .ok (.aload_n 0, 1) := by decide +kernel
theorem dX6_shake_1 : decode cX6_shake 1 = .ok (.iconst 0, 1) := by decide +kernel
theorem dX6_shake_2 : decode cX6_shake 2 = .ok (.putfield 47, 3) := by decide +kernel
theorem dX6_shake_5 : decode cX6_shake 5 = .ok (.aload_n 0, 1) := by decide +kernel
theorem dX6_shake_6 : decode cX6_shake 6 = .ok (.iload_n 1, 1) := by decide +kernel
theorem dX6_shake_7 : decode cX6_shake 7 = .ok (.invokevirtual 198, 3) := by decide +kernel
theorem dX6_shake_10 : decode cX6_shake 10 = .ok (.ifCond .ne 6, 3) := by decide +kernel
theorem dX6_shake_13 : decode cX6_shake 13 = .ok (.ldc 67, 2) := by decide +kernel
theorem dX6_shake_15 : decode cX6_shake 15 = .ok (.ireturn, 1) := by decide +kernel
theorem dX6_shake_16 : decode cX6_shake 16 = .ok (.aload_n 0, 1) := by decide +kernel
theorem dX6_shake_17 : decode cX6_shake 17 = .ok (.getfield 19, 3) := by decide +kernel
theorem dX6_shake_20 : decode cX6_shake 20 = .ok (.iload_n 1, 1) := by decide +kernel
theorem dX6_shake_21 : decode cX6_shake 21 = .ok (.iconst 4, 1) := by decide +kernel
theorem dX6_shake_22 : decode cX6_shake 22 = .ok (.invokestatic 155, 3) := by decide +kernel
theorem dX6_shake_25 : decode cX6_shake 25 = .ok (.ifCond .ne 6, 3) := by decide +kernel
theorem dX6_shake_28 : decode cX6_shake 28 = .ok (.ldc 189, 2) := by decide +kernel
theorem dX6_shake_30 : decode cX6_shake 30 = .ok (.ireturn, 1) := by decide +kernel
theorem dX6_shake_31 : decode cX6_shake 31 = .ok (.aload_n 0, 1) := by decide +kernel
theorem dX6_shake_32 : decode cX6_shake 32 = .ok (.invokevirtual 192, 3) := by decide +kernel
theorem dX6_shake_35 : decode cX6_shake 35 = .ok (.aload_n 0, 1) := by decide +kernel
theorem dX6_shake_36 : decode cX6_shake 36 = .ok (.getfield 19, 3) := by decide +kernel
theorem dX6_shake_39 : decode cX6_shake 39 = .ok (.iload_n 1, 1) := by decide +kernel
theorem dX6_shake_40 : decode cX6_shake 40 = .ok (.invokestatic 204, 3) := by decide +kernel
theorem dX6_shake_43 : decode cX6_shake 43 = .ok (.ireturn, 1) := by decide +kernel
set_option maxRecDepth 20000 in
theorem ggX6_pour_X6_isTube : GoodIn wsX6_pour wsX6_isTube := goodIn_r _ [10, 5, 11, 12, 9, 13, 33, 34, 35, 36, 37, 38, 39, 40, 41, 42, 43, 44, 45, 46, 47, 48, 49, 50, 51, 52, 53, 54, 55, 56] rfl (by decide +kernel)
set_option maxRecDepth 20000 in
theorem gX6_pour_X6_isTube : GoodIn wsX6_pour (wsV RX6 198 RX6 yX6_isTube wsX6_isTube) := goodIn_app (goodIn_of _ (by decide +kernel)) ggX6_pour_X6_isTube
set_option maxRecDepth 20000 in
theorem ggX6_pour_X6_layThen : GoodIn wsX6_pour wsX6_layThen := goodIn_r _ [17, 3, 5, 33, 34, 35, 36, 37, 38, 39, 40, 41, 42, 43, 44, 45, 46, 47, 48, 49, 50, 51, 52, 53, 54, 55, 56] rfl (by decide +kernel)
set_option maxRecDepth 20000 in
theorem gX6_pour_X6_layThen : GoodIn wsX6_pour (wsV RX6 207 RX6 yX6_layThen wsX6_layThen) := goodIn_app (goodIn_of _ (by decide +kernel)) ggX6_pour_X6_layThen
set_option maxRecDepth 20000 in
theorem ggX6_pour_X6_poured : GoodIn wsX6_pour wsX6_poured := goodIn_r _ [20, 21, 22, 9, 23, 24, 25, 26] rfl (by decide +kernel)
set_option maxRecDepth 20000 in
theorem gX6_pour_X6_poured : GoodIn wsX6_pour (va_wsS RX6 210 yX6_poured wsX6_poured) := goodIn_app (goodIn_of _ (by decide +kernel)) ggX6_pour_X6_poured
set_option maxRecDepth 20000 in
theorem ggX6_pour_X6_keep : GoodIn wsX6_pour wsX6_keep := goodIn_r _ [30, 31, 32, 5, 33, 34, 35, 36, 37, 38, 39, 40, 41, 42, 43, 44, 45, 46, 47, 48, 49, 50, 51, 52, 53, 54, 55, 56] rfl (by decide +kernel)
set_option maxRecDepth 20000 in
theorem gX6_pour_X6_keep : GoodIn wsX6_pour (wsV RX6 192 RX6 yX6_keep wsX6_keep) := goodIn_app (goodIn_of _ (by decide +kernel)) ggX6_pour_X6_keep
theorem dX6_pour_0 : decode cX6_pour 0 = .ok (.aload_n 0, 1) := by decide +kernel
theorem dX6_pour_1 : decode cX6_pour 1 = .ok (.iconst 0, 1) := by decide +kernel
theorem dX6_pour_2 : decode cX6_pour 2 = .ok (.putfield 47, 3) := by decide +kernel
theorem dX6_pour_5 : decode cX6_pour 5 = .ok (.aload_n 0, 1) := by decide +kernel
theorem dX6_pour_6 : decode cX6_pour 6 = .ok (.iload_n 1, 1) := by decide +kernel
theorem dX6_pour_7 : decode cX6_pour 7 = .ok (.invokevirtual 198, 3) := by decide +kernel
theorem dX6_pour_10 : decode cX6_pour 10 = .ok (.ifCond .eq 16, 3) := by decide +kernel
theorem dX6_pour_13 : decode cX6_pour 13 = .ok (.aload_n 0, 1) := by decide +kernel
theorem dX6_pour_14 : decode cX6_pour 14 = .ok (.iload_n 2, 1) := by decide +kernel
theorem dX6_pour_15 : decode cX6_pour 15 = .ok (.invokevirtual 198, 3) := by decide +kernel
theorem dX6_pour_18 : decode cX6_pour 18 = .ok (.ifCond .eq 8, 3) := by decide +kernel
theorem dX6_pour_21 : decode cX6_pour 21 = .ok (.iload_n 1, 1) := by decide +kernel
theorem dX6_pour_22 : decode cX6_pour 22 = .ok (.iload_n 2, 1) := by decide +kernel
theorem dX6_pour_23 : decode cX6_pour 23 = .ok (.if_icmp .ne 6, 3) := by decide +kernel
theorem dX6_pour_26 : decode cX6_pour 26 = .ok (.ldc 67, 2) := by decide +kernel
theorem dX6_pour_28 : decode cX6_pour 28 = .ok (.ireturn, 1) := by decide +kernel
theorem dX6_pour_29 : decode cX6_pour 29 = .ok (.aload_n 0, 1) := by decide +kernel
theorem dX6_pour_30 : decode cX6_pour 30 = .ok (.invokevirtual 207, 3) := by decide +kernel
theorem dX6_pour_33 : decode cX6_pour 33 = .ok (.aload_n 0, 1) := by decide +kernel
theorem dX6_pour_34 : decode cX6_pour 34 = .ok (.getfield 25, 3) := by decide +kernel
theorem dX6_pour_37 : decode cX6_pour 37 = .ok (.iload_n 1, 1) := by decide +kernel
theorem dX6_pour_38 : decode cX6_pour 38 = .ok (.iload_n 2, 1) := by decide +kernel
theorem dX6_pour_39 : decode cX6_pour 39 = .ok (.invokestatic 210, 3) := by decide +kernel
theorem dX6_pour_42 : decode cX6_pour 42 = .ok (.ifCond .ne 6, 3) := by decide +kernel
theorem dX6_pour_45 : decode cX6_pour 45 = .ok (.ldc 189, 2) := by decide +kernel
theorem dX6_pour_47 : decode cX6_pour 47 = .ok (.ireturn, 1) := by decide +kernel
theorem dX6_pour_48 : decode cX6_pour 48 = .ok (.aload_n 0, 1) := by decide +kernel
theorem dX6_pour_49 : decode cX6_pour 49 = .ok (.invokevirtual 192, 3) := by decide +kernel
theorem dX6_pour_52 : decode cX6_pour 52 = .ok (.aload_n 0, 1) := by decide +kernel
theorem dX6_pour_53 : decode cX6_pour 53 = .ok (.getfield 19, 3) := by decide +kernel
theorem dX6_pour_56 : decode cX6_pour 56 = .ok (.iload_n 1, 1) := by decide +kernel
theorem dX6_pour_57 : decode cX6_pour 57 = .ok (.iload_n 2, 1) := by decide +kernel
theorem dX6_pour_58 : decode cX6_pour 58 = .ok (.invokestatic 210, 3) := by decide +kernel
theorem dX6_pour_61 : decode cX6_pour 61 = .ok (.ireturn, 1) := by decide +kernel
set_option maxRecDepth 20000 in
theorem ggX6_stove_X6_isRoom : GoodIn wsX6_stove wsX6_isRoom := goodIn_r _ [9, 4, 10, 11, 8, 12, 19, 20, 21, 22, 23, 24, 25, 26, 27, 28, 29, 30, 31, 32, 33, 34, 35, 36, 37, 38, 39, 40, 41, 42] rfl (by decide +kernel)
set_option maxRecDepth 20000 in
theorem gX6_stove_X6_isRoom : GoodIn wsX6_stove (wsV RX6 213 RX6 yX6_isRoom wsX6_isRoom) := goodIn_app (goodIn_of _ (by decide +kernel)) ggX6_stove_X6_isRoom
set_option maxRecDepth 20000 in
theorem ggX6_stove_X6_in : GoodIn wsX6_stove wsX6_in := goodIn_r _ [12] rfl (by decide +kernel)
set_option maxRecDepth 20000 in
theorem gX6_stove_X6_in : GoodIn wsX6_stove (va_wsS RX6 57 yX6_in wsX6_in) := goodIn_app (goodIn_of _ (by decide +kernel)) ggX6_stove_X6_in
set_option maxRecDepth 20000 in
theorem ggX6_stove_X6_keep : GoodIn wsX6_stove wsX6_keep := goodIn_r _ [16, 17, 18, 4, 19, 20, 21, 22, 23, 24, 25, 26, 27, 28, 29, 30, 31, 32, 33, 34, 35, 36, 37, 38, 39, 40, 41, 42] rfl (by decide +kernel)
set_option maxRecDepth 20000 in
theorem gX6_stove_X6_keep : GoodIn wsX6_stove (wsV RX6 192 RX6 yX6_keep wsX6_keep) := goodIn_app (goodIn_of _ (by decide +kernel)) ggX6_stove_X6_keep
theorem dX6_stove_0 : decode cX6_stove 0 = .ok (.aload_n 0, 1) := by decide +kernel
theorem dX6_stove_1 : decode cX6_stove 1 = .ok (.iconst 0, 1) := by decide +kernel
theorem dX6_stove_2 : decode cX6_stove 2 = .ok (.putfield 47, 3) := by decide +kernel
theorem dX6_stove_5 : decode cX6_stove 5 = .ok (.aload_n 0, 1) := by decide +kernel
theorem dX6_stove_6 : decode cX6_stove 6 = .ok (.iload_n 1, 1) := by decide +kernel
theorem dX6_stove_7 : decode cX6_stove 7 = .ok (.invokevirtual 213, 3) := by decide +kernel
theorem dX6_stove_10 : decode cX6_stove 10 = .ok (.ifCond .eq 15, 3) := by decide +kernel
theorem dX6_stove_13 : decode cX6_stove 13 = .ok (.iload_n 2, 1) := by decide +kernel
theorem dX6_stove_14 : decode cX6_stove 14 = .ok (.i2l, 1) := by decide +kernel
theorem dX6_stove_15 : decode cX6_stove 15 = .ok (.lconst 0, 1) := by decide +kernel
theorem dX6_stove_16 : decode cX6_stove 16 = .ok (.ldc2_w 216, 3) := by decide +kernel
theorem dX6_stove_19 : decode cX6_stove 19 = .ok (.invokestatic 57, 3) := by decide +kernel
theorem dX6_stove_22 : decode cX6_stove 22 = .ok (.ifCond .ne 6, 3) := by decide +kernel
theorem dX6_stove_25 : decode cX6_stove 25 = .ok (.ldc 67, 2) := by decide +kernel
theorem dX6_stove_27 : decode cX6_stove 27 = .ok (.ireturn, 1) := by decide +kernel
theorem dX6_stove_28 : decode cX6_stove 28 = .ok (.aload_n 0, 1) := by decide +kernel
theorem dX6_stove_29 : decode cX6_stove 29 = .ok (.invokevirtual 192, 3) := by decide +kernel
theorem dX6_stove_32 : decode cX6_stove 32 = .ok (.aload_n 0, 1) := by decide +kernel
theorem dX6_stove_33 : decode cX6_stove 33 = .ok (.getfield 19, 3) := by decide +kernel
theorem dX6_stove_36 : decode cX6_stove 36 = .ok (.iconst 5, 1) := by decide +kernel
theorem dX6_stove_37 : decode cX6_stove 37 = .ok (.iconst 2, 1) := by decide +kernel
theorem dX6_stove_38 : decode cX6_stove 38 = .ok (.iload_n 1, 1) := by decide +kernel
theorem dX6_stove_39 : decode cX6_stove 39 = .ok (.imul, 1) := by decide +kernel
theorem dX6_stove_40 : decode cX6_stove 40 = .ok (.iadd, 1) := by decide +kernel
theorem dX6_stove_41 : decode cX6_stove 41 = .ok (.iconst 1, 1) := by decide +kernel
theorem dX6_stove_42 : decode cX6_stove 42 = .ok (.iadd, 1) := by decide +kernel
theorem dX6_stove_43 : decode cX6_stove 43 = .ok (.iaload, 1) := by decide +kernel
theorem dX6_stove_44 : decode cX6_stove 44 = .ok (.istore_n 3, 1) := by decide +kernel
theorem dX6_stove_45 : decode cX6_stove 45 = .ok (.aload_n 0, 1) := by decide +kernel
theorem dX6_stove_46 : decode cX6_stove 46 = .ok (.getfield 19, 3) := by decide +kernel
theorem dX6_stove_49 : decode cX6_stove 49 = .ok (.iconst 5, 1) := by decide +kernel
theorem dX6_stove_50 : decode cX6_stove 50 = .ok (.iconst 2, 1) := by decide +kernel
theorem dX6_stove_51 : decode cX6_stove 51 = .ok (.iload_n 1, 1) := by decide +kernel
theorem dX6_stove_52 : decode cX6_stove 52 = .ok (.imul, 1) := by decide +kernel
theorem dX6_stove_53 : decode cX6_stove 53 = .ok (.iadd, 1) := by decide +kernel
theorem dX6_stove_54 : decode cX6_stove 54 = .ok (.iconst 1, 1) := by decide +kernel
theorem dX6_stove_55 : decode cX6_stove 55 = .ok (.iadd, 1) := by decide +kernel
theorem dX6_stove_56 : decode cX6_stove 56 = .ok (.iload_n 2, 1) := by decide +kernel
theorem dX6_stove_57 : decode cX6_stove 57 = .ok (.iastore, 1) := by decide +kernel
theorem dX6_stove_58 : decode cX6_stove 58 = .ok (.iload_n 3, 1) := by decide +kernel
theorem dX6_stove_59 : decode cX6_stove 59 = .ok (.ireturn, 1) := by decide +kernel
theorem dX6_undo_0 : decode cX6_undo 0 = .ok (.aload_n 0, 1) := by decide +kernel
theorem dX6_undo_1 : decode cX6_undo 1 = .ok (.iconst 0, 1) := by decide +kernel
theorem dX6_undo_2 : decode cX6_undo 2 = .ok (.putfield 47, 3) := by decide +kernel
theorem dX6_undo_5 : decode cX6_undo 5 = .ok (.aload_n 0, 1) := by decide +kernel
theorem dX6_undo_6 : decode cX6_undo 6 = .ok (.getfield 149, 3) := by decide +kernel
theorem dX6_undo_9 : decode cX6_undo 9 = .ok (.ifCond .ne 6, 3) := by decide +kernel
theorem dX6_undo_12 : decode cX6_undo 12 = .ok (.ldc 189, 2) := by decide +kernel
theorem dX6_undo_14 : decode cX6_undo 14 = .ok (.ireturn, 1) := by decide +kernel
theorem dX6_undo_15 : decode cX6_undo 15 = .ok (.aload_n 0, 1) := by decide +kernel
theorem dX6_undo_16 : decode cX6_undo 16 = .ok (.dup, 1) := by decide +kernel
theorem dX6_undo_17 : decode cX6_undo 17 = .ok (.getfield 149, 3) := by decide +kernel
theorem dX6_undo_20 : decode cX6_undo 20 = .ok (.iconst 1, 1) := by decide +kernel
theorem dX6_undo_21 : decode cX6_undo 21 = .ok (.isub, 1) := by decide +kernel
theorem dX6_undo_22 : decode cX6_undo 22 = .ok (.putfield 149, 3) := by decide +kernel
theorem dX6_undo_25 : decode cX6_undo 25 = .ok (.iconst 0, 1) := by decide +kernel
theorem dX6_undo_26 : decode cX6_undo 26 = .ok (.istore_n 1, 1) := by decide +kernel
theorem dX6_undo_27 : decode cX6_undo 27 = .ok (.iload_n 1, 1) := by decide +kernel
theorem dX6_undo_28 : decode cX6_undo 28 = .ok (.bipush 45, 2) := by decide +kernel
theorem dX6_undo_30 : decode cX6_undo 30 = .ok (.if_icmp .ge 29, 3) := by decide +kernel
theorem dX6_undo_33 : decode cX6_undo 33 = .ok (.aload_n 0, 1) := by decide +kernel
theorem dX6_undo_34 : decode cX6_undo 34 = .ok (.getfield 19, 3) := by decide +kernel
theorem dX6_undo_37 : decode cX6_undo 37 = .ok (.iload_n 1, 1) := by decide +kernel
theorem dX6_undo_38 : decode cX6_undo 38 = .ok (.aload_n 0, 1) := by decide +kernel
theorem dX6_undo_39 : decode cX6_undo 39 = .ok (.getfield 28, 3) := by decide +kernel
theorem dX6_undo_42 : decode cX6_undo 42 = .ok (.bipush 45, 2) := by decide +kernel
theorem dX6_undo_44 : decode cX6_undo 44 = .ok (.aload_n 0, 1) := by decide +kernel
theorem dX6_undo_45 : decode cX6_undo 45 = .ok (.getfield 149, 3) := by decide +kernel
theorem dX6_undo_48 : decode cX6_undo 48 = .ok (.imul, 1) := by decide +kernel
theorem dX6_undo_49 : decode cX6_undo 49 = .ok (.iload_n 1, 1) := by decide +kernel
theorem dX6_undo_50 : decode cX6_undo 50 = .ok (.iadd, 1) := by decide +kernel
theorem dX6_undo_51 : decode cX6_undo 51 = .ok (.iaload, 1) := by decide +kernel
theorem dX6_undo_52 : decode cX6_undo 52 = .ok (.iastore, 1) := by decide +kernel
theorem dX6_undo_53 : decode cX6_undo 53 = .ok (.iinc 1 1, 3) := by decide +kernel
theorem dX6_undo_56 : decode cX6_undo 56 = .ok (.goto (-29), 3) := by decide +kernel
theorem dX6_undo_59 : decode cX6_undo 59 = .ok (.aload_n 0, 1) := by decide +kernel
theorem dX6_undo_60 : decode cX6_undo 60 = .ok (.getfield 149, 3) := by decide +kernel
theorem dX6_undo_63 : decode cX6_undo 63 = .ok (.ireturn, 1) := by decide +kernel
set_option maxRecDepth 20000 in
theorem ggX6_tube_X6_isTube : GoodIn wsX6_tube wsX6_isTube := goodIn_r _ [9, 4, 10, 11, 8, 12, 28, 29, 30, 31, 32, 33, 34, 35, 36, 37, 38, 39, 40, 41, 42, 43, 44, 45, 46, 47, 48, 49, 50, 51] rfl (by decide +kernel)
set_option maxRecDepth 20000 in
theorem gX6_tube_X6_isTube : GoodIn wsX6_tube (wsV RX6 198 RX6 yX6_isTube wsX6_isTube) := goodIn_app (goodIn_of _ (by decide +kernel)) ggX6_tube_X6_isTube
set_option maxRecDepth 20000 in
theorem ggX6_tube_X6_in : GoodIn wsX6_tube wsX6_in := goodIn_r _ [12] rfl (by decide +kernel)
set_option maxRecDepth 20000 in
theorem gX6_tube_X6_in : GoodIn wsX6_tube (va_wsS RX6 57 yX6_in wsX6_in) := goodIn_app (goodIn_of _ (by decide +kernel)) ggX6_tube_X6_in
set_option maxRecDepth 20000 in
theorem ggX6_tube_X6_of : GoodIn wsX6_tube wsX6_of := goodIn_r _ [15] rfl (by decide +kernel)
set_option maxRecDepth 20000 in
theorem gX6_tube_X6_of : GoodIn wsX6_tube (va_wsS RX6 155 yX6_of wsX6_of) := goodIn_app (goodIn_of _ (by decide +kernel)) ggX6_tube_X6_of
set_option maxRecDepth 20000 in
theorem ggX6_tube_X6_wants : GoodIn wsX6_tube wsX6_wants := goodIn_r _ [18, 13, 14, 8, 15, 19, 20, 21, 22, 23, 24, 25, 26, 27] rfl (by decide +kernel)
set_option maxRecDepth 20000 in
theorem gX6_tube_X6_wants : GoodIn wsX6_tube (va_wsS RX6 178 yX6_wants wsX6_wants) := goodIn_app (goodIn_of _ (by decide +kernel)) ggX6_tube_X6_wants
theorem dX6_tube_0 : decode cX6_tube 0 = .ok (.aload_n 0, 1) := by decide +kernel
theorem dX6_tube_1 : decode cX6_tube 1 = .ok (.iconst 0, 1) := by decide +kernel
theorem dX6_tube_2 : decode cX6_tube 2 = .ok (.putfield 47, 3) := by decide +kernel
theorem dX6_tube_5 : decode cX6_tube 5 = .ok (.aload_n 0, 1) := by decide +kernel
theorem dX6_tube_6 : decode cX6_tube 6 = .ok (.iload_n 1, 1) := by decide +kernel
theorem dX6_tube_7 : decode cX6_tube 7 = .ok (.invokevirtual 198, 3) := by decide +kernel
theorem dX6_tube_10 : decode cX6_tube 10 = .ok (.ifCond .eq 15, 3) := by decide +kernel
theorem dX6_tube_13 : decode cX6_tube 13 = .ok (.iload_n 2, 1) := by decide +kernel
theorem dX6_tube_14 : decode cX6_tube 14 = .ok (.i2l, 1) := by decide +kernel
theorem dX6_tube_15 : decode cX6_tube 15 = .ok (.lconst 0, 1) := by decide +kernel
theorem dX6_tube_16 : decode cX6_tube 16 = .ok (.ldc2_w 218, 3) := by decide +kernel
theorem dX6_tube_19 : decode cX6_tube 19 = .ok (.invokestatic 57, 3) := by decide +kernel
theorem dX6_tube_22 : decode cX6_tube 22 = .ok (.ifCond .ne 6, 3) := by decide +kernel
theorem dX6_tube_25 : decode cX6_tube 25 = .ok (.ldc 67, 2) := by decide +kernel
theorem dX6_tube_27 : decode cX6_tube 27 = .ok (.ireturn, 1) := by decide +kernel
theorem dX6_tube_28 : decode cX6_tube 28 = .ok (.iload_n 2, 1) := by decide +kernel
theorem dX6_tube_29 : decode cX6_tube 29 = .ok (.iconst 4, 1) := by decide +kernel
theorem dX6_tube_30 : decode cX6_tube 30 = .ok (.if_icmp .ge 17, 3) := by decide +kernel
theorem dX6_tube_33 : decode cX6_tube 33 = .ok (.aload_n 0, 1) := by decide +kernel
theorem dX6_tube_34 : decode cX6_tube 34 = .ok (.getfield 19, 3) := by decide +kernel
theorem dX6_tube_37 : decode cX6_tube 37 = .ok (.iload_n 1, 1) := by decide +kernel
theorem dX6_tube_38 : decode cX6_tube 38 = .ok (.iconst 1, 1) := by decide +kernel
theorem dX6_tube_39 : decode cX6_tube 39 = .ok (.iload_n 2, 1) := by decide +kernel
theorem dX6_tube_40 : decode cX6_tube 40 = .ok (.iadd, 1) := by decide +kernel
theorem dX6_tube_41 : decode cX6_tube 41 = .ok (.invokestatic 155, 3) := by decide +kernel
theorem dX6_tube_44 : decode cX6_tube 44 = .ok (.goto 11, 3) := by decide +kernel
theorem dX6_tube_47 : decode cX6_tube 47 = .ok (.aload_n 0, 1) := by decide +kernel
theorem dX6_tube_48 : decode cX6_tube 48 = .ok (.getfield 19, 3) := by decide +kernel
theorem dX6_tube_51 : decode cX6_tube 51 = .ok (.iload_n 1, 1) := by decide +kernel
theorem dX6_tube_52 : decode cX6_tube 52 = .ok (.invokestatic 178, 3) := by decide +kernel
theorem dX6_tube_55 : decode cX6_tube 55 = .ok (.ireturn, 1) := by decide +kernel
set_option maxRecDepth 20000 in
theorem ggX6_room_X6_isPlace : GoodIn wsX6_room wsX6_isPlace := goodIn_r _ [9, 3, 10, 11, 12, 8, 13, 14, 15, 16, 29, 30, 31, 32, 33, 34, 35, 36, 37, 38, 39, 40, 41, 42, 43, 44, 45, 46, 47, 48, 49, 50, 51, 52] rfl (by decide +kernel)
set_option maxRecDepth 20000 in
theorem gX6_room_X6_isPlace : GoodIn wsX6_room (wsV RX6 201 RX6 yX6_isPlace wsX6_isPlace) := goodIn_app (goodIn_of _ (by decide +kernel)) ggX6_room_X6_isPlace
set_option maxRecDepth 20000 in
theorem ggX6_room_X6_in : GoodIn wsX6_room wsX6_in := goodIn_r _ [16] rfl (by decide +kernel)
set_option maxRecDepth 20000 in
theorem gX6_room_X6_in : GoodIn wsX6_room (va_wsS RX6 57 yX6_in wsX6_in) := goodIn_app (goodIn_of _ (by decide +kernel)) ggX6_room_X6_in
set_option maxRecDepth 20000 in
theorem ggX6_room_X6_isCold : GoodIn wsX6_room wsX6_isCold := goodIn_r _ [19, 20, 21, 8, 22] rfl (by decide +kernel)
set_option maxRecDepth 20000 in
theorem gX6_room_X6_isCold : GoodIn wsX6_room (va_wsS RX6 167 yX6_isCold wsX6_isCold) := goodIn_app (goodIn_of _ (by decide +kernel)) ggX6_room_X6_isCold
set_option maxRecDepth 20000 in
theorem ggX6_room_X6_tubesIn : GoodIn wsX6_room wsX6_tubesIn := goodIn_r _ [25, 26, 27, 8, 28] rfl (by decide +kernel)
set_option maxRecDepth 20000 in
theorem gX6_room_X6_tubesIn : GoodIn wsX6_room (va_wsS RX6 222 yX6_tubesIn wsX6_tubesIn) := goodIn_app (goodIn_of _ (by decide +kernel)) ggX6_room_X6_tubesIn
theorem dX6_room_0 : decode cX6_room 0 = .ok (.aload_n 0, 1) := by decide +kernel
theorem dX6_room_1 : decode cX6_room 1 = .ok (.iconst 0, 1) := by decide +kernel
theorem dX6_room_2 : decode cX6_room 2 = .ok (.putfield 47, 3) := by decide +kernel
theorem dX6_room_5 : decode cX6_room 5 = .ok (.aload_n 0, 1) := by decide +kernel
theorem dX6_room_6 : decode cX6_room 6 = .ok (.iload_n 1, 1) := by decide +kernel
theorem dX6_room_7 : decode cX6_room 7 = .ok (.invokevirtual 201, 3) := by decide +kernel
theorem dX6_room_10 : decode cX6_room 10 = .ok (.ifCond .eq 30, 3) := by decide +kernel
theorem dX6_room_13 : decode cX6_room 13 = .ok (.iload_n 2, 1) := by decide +kernel
theorem dX6_room_14 : decode cX6_room 14 = .ok (.i2l, 1) := by decide +kernel
theorem dX6_room_15 : decode cX6_room 15 = .ok (.lconst 0, 1) := by decide +kernel
theorem dX6_room_16 : decode cX6_room 16 = .ok (.ldc2_w 220, 3) := by decide +kernel
theorem dX6_room_19 : decode cX6_room 19 = .ok (.invokestatic 57, 3) := by decide +kernel
theorem dX6_room_22 : decode cX6_room 22 = .ok (.ifCond .eq 18, 3) := by decide +kernel
theorem dX6_room_25 : decode cX6_room 25 = .ok (.iload_n 1, 1) := by decide +kernel
theorem dX6_room_26 : decode cX6_room 26 = .ok (.aload_n 0, 1) := by decide +kernel
theorem dX6_room_27 : decode cX6_room 27 = .ok (.getfield 19, 3) := by decide +kernel
theorem dX6_room_30 : decode cX6_room 30 = .ok (.iconst 0, 1) := by decide +kernel
theorem dX6_room_31 : decode cX6_room 31 = .ok (.iaload, 1) := by decide +kernel
theorem dX6_room_32 : decode cX6_room 32 = .ok (.if_icmp .ne 11, 3) := by decide +kernel
theorem dX6_room_35 : decode cX6_room 35 = .ok (.iload_n 2, 1) := by decide +kernel
theorem dX6_room_36 : decode cX6_room 36 = .ok (.iconst 3, 1) := by decide +kernel
theorem dX6_room_37 : decode cX6_room 37 = .ok (.if_icmp .ge 6, 3) := by decide +kernel
theorem dX6_room_40 : decode cX6_room 40 = .ok (.ldc 67, 2) := by decide +kernel
theorem dX6_room_42 : decode cX6_room 42 = .ok (.ireturn, 1) := by decide +kernel
theorem dX6_room_43 : decode cX6_room 43 = .ok (.iload_n 2, 1) := by decide +kernel
theorem dX6_room_44 : decode cX6_room 44 = .ok (.iconst 2, 1) := by decide +kernel
theorem dX6_room_45 : decode cX6_room 45 = .ok (.if_icmp .ge 18, 3) := by decide +kernel
theorem dX6_room_48 : decode cX6_room 48 = .ok (.aload_n 0, 1) := by decide +kernel
theorem dX6_room_49 : decode cX6_room 49 = .ok (.getfield 19, 3) := by decide +kernel
theorem dX6_room_52 : decode cX6_room 52 = .ok (.iconst 5, 1) := by decide +kernel
theorem dX6_room_53 : decode cX6_room 53 = .ok (.iconst 2, 1) := by decide +kernel
theorem dX6_room_54 : decode cX6_room 54 = .ok (.iload_n 1, 1) := by decide +kernel
theorem dX6_room_55 : decode cX6_room 55 = .ok (.imul, 1) := by decide +kernel
theorem dX6_room_56 : decode cX6_room 56 = .ok (.iadd, 1) := by decide +kernel
theorem dX6_room_57 : decode cX6_room 57 = .ok (.iload_n 2, 1) := by decide +kernel
theorem dX6_room_58 : decode cX6_room 58 = .ok (.iadd, 1) := by decide +kernel
theorem dX6_room_59 : decode cX6_room 59 = .ok (.iaload, 1) := by decide +kernel
theorem dX6_room_60 : decode cX6_room 60 = .ok (.goto 35, 3) := by decide +kernel
theorem dX6_room_63 : decode cX6_room 63 = .ok (.iload_n 2, 1) := by decide +kernel
theorem dX6_room_64 : decode cX6_room 64 = .ok (.iconst 2, 1) := by decide +kernel
theorem dX6_room_65 : decode cX6_room 65 = .ok (.if_icmp .ne 22, 3) := by decide +kernel
theorem dX6_room_68 : decode cX6_room 68 = .ok (.aload_n 0, 1) := by decide +kernel
theorem dX6_room_69 : decode cX6_room 69 = .ok (.getfield 19, 3) := by decide +kernel
theorem dX6_room_72 : decode cX6_room 72 = .ok (.iload_n 1, 1) := by decide +kernel
theorem dX6_room_73 : decode cX6_room 73 = .ok (.invokestatic 167, 3) := by decide +kernel
theorem dX6_room_76 : decode cX6_room 76 = .ok (.ifCond .eq 7, 3) := by decide +kernel
theorem dX6_room_79 : decode cX6_room 79 = .ok (.iconst 1, 1) := by decide +kernel
theorem dX6_room_80 : decode cX6_room 80 = .ok (.goto 15, 3) := by decide +kernel
theorem dX6_room_83 : decode cX6_room 83 = .ok (.iconst 0, 1) := by decide +kernel
theorem dX6_room_84 : decode cX6_room 84 = .ok (.goto 11, 3) := by decide +kernel
theorem dX6_room_87 : decode cX6_room 87 = .ok (.aload_n 0, 1) := by decide +kernel
theorem dX6_room_88 : decode cX6_room 88 = .ok (.getfield 19, 3) := by decide +kernel
theorem dX6_room_91 : decode cX6_room 91 = .ok (.iload_n 1, 1) := by decide +kernel
theorem dX6_room_92 : decode cX6_room 92 = .ok (.invokestatic 222, 3) := by decide +kernel
theorem dX6_room_95 : decode cX6_room 95 = .ok (.ireturn, 1) := by decide +kernel
set_option maxRecDepth 20000 in
theorem ggX6_ahead_X6_isRoom : GoodIn wsX6_ahead wsX6_isRoom := goodIn_r _ [9, 10, 11, 12, 8, 13, 45, 46, 47, 48, 49, 50, 51, 52, 53, 54, 55, 56, 57, 58, 59, 60, 61, 62, 63, 64, 65, 66, 67, 68] rfl (by decide +kernel)
set_option maxRecDepth 20000 in
theorem gX6_ahead_X6_isRoom : GoodIn wsX6_ahead (wsV RX6 213 RX6 yX6_isRoom wsX6_isRoom) := goodIn_app (goodIn_of _ (by decide +kernel)) ggX6_ahead_X6_isRoom
set_option maxRecDepth 20000 in
theorem ggX6_ahead_X6_in : GoodIn wsX6_ahead wsX6_in := goodIn_r _ [13] rfl (by decide +kernel)
set_option maxRecDepth 20000 in
theorem gX6_ahead_X6_in : GoodIn wsX6_ahead (va_wsS RX6 57 yX6_in wsX6_in) := goodIn_app (goodIn_of _ (by decide +kernel)) ggX6_ahead_X6_in
set_option maxRecDepth 20000 in
theorem ggX6_ahead_X6_layThen : GoodIn wsX6_ahead wsX6_layThen := goodIn_r _ [17, 4, 10, 45, 46, 47, 48, 49, 50, 51, 52, 53, 54, 55, 56, 57, 58, 59, 60, 61, 62, 63, 64, 65, 66, 67, 68] rfl (by decide +kernel)
set_option maxRecDepth 20000 in
theorem gX6_ahead_X6_layThen : GoodIn wsX6_ahead (wsV RX6 207 RX6 yX6_layThen wsX6_layThen) := goodIn_app (goodIn_of _ (by decide +kernel)) ggX6_ahead_X6_layThen
set_option maxRecDepth 20000 in
theorem ggX6_ahead_X6_minutesOf : GoodIn wsX6_ahead wsX6_minutesOf := goodIn_r _ [20, 21, 22, 8, 23, 24, 25, 26, 27, 28, 29, 30, 31, 32, 33, 34, 35, 36, 37, 38, 39, 40, 41, 42, 43, 44] rfl (by decide +kernel)
set_option maxRecDepth 20000 in
theorem gX6_ahead_X6_minutesOf : GoodIn wsX6_ahead (va_wsS RX6 227 yX6_minutesOf wsX6_minutesOf) := goodIn_app (goodIn_of _ (by decide +kernel)) ggX6_ahead_X6_minutesOf
set_option maxRecDepth 20000 in
theorem ggX6_ahead_X6_warmth : GoodIn wsX6_ahead wsX6_warmth := goodIn_r _ [35] rfl (by decide +kernel)
set_option maxRecDepth 20000 in
theorem gX6_ahead_X6_warmth : GoodIn wsX6_ahead (va_wsS RX6 159 yX6_warmth wsX6_warmth) := goodIn_app (goodIn_of _ (by decide +kernel)) ggX6_ahead_X6_warmth
theorem dX6_ahead_0 : decode cX6_ahead 0 = .ok (.aload_n 0, 1) := by decide +kernel
theorem dX6_ahead_1 : decode cX6_ahead 1 = .ok (.iconst 0, 1) := by decide +kernel
theorem dX6_ahead_2 : decode cX6_ahead 2 = .ok (.putfield 47, 3) := by decide +kernel
theorem dX6_ahead_5 : decode cX6_ahead 5 = .ok (.aload_n 0, 1) := by decide +kernel
theorem dX6_ahead_6 : decode cX6_ahead 6 = .ok (.iload_n 1, 1) := by decide +kernel
theorem dX6_ahead_7 : decode cX6_ahead 7 = .ok (.invokevirtual 213, 3) := by decide +kernel
theorem dX6_ahead_10 : decode cX6_ahead 10 = .ok (.ifCond .eq 15, 3) := by decide +kernel
theorem dX6_ahead_13 : decode cX6_ahead 13 = .ok (.iload_n 2, 1) := by decide +kernel
theorem dX6_ahead_14 : decode cX6_ahead 14 = .ok (.i2l, 1) := by decide +kernel
theorem dX6_ahead_15 : decode cX6_ahead 15 = .ok (.lconst 0, 1) := by decide +kernel
theorem dX6_ahead_16 : decode cX6_ahead 16 = .ok (.ldc2_w 225, 3) := by decide +kernel
theorem dX6_ahead_19 : decode cX6_ahead 19 = .ok (.invokestatic 57, 3) := by decide +kernel
theorem dX6_ahead_22 : decode cX6_ahead 22 = .ok (.ifCond .ne 6, 3) := by decide +kernel
theorem dX6_ahead_25 : decode cX6_ahead 25 = .ok (.ldc 67, 2) := by decide +kernel
theorem dX6_ahead_27 : decode cX6_ahead 27 = .ok (.ireturn, 1) := by decide +kernel
theorem dX6_ahead_28 : decode cX6_ahead 28 = .ok (.aload_n 0, 1) := by decide +kernel
theorem dX6_ahead_29 : decode cX6_ahead 29 = .ok (.invokevirtual 207, 3) := by decide +kernel
theorem dX6_ahead_32 : decode cX6_ahead 32 = .ok (.aload_n 0, 1) := by decide +kernel
theorem dX6_ahead_33 : decode cX6_ahead 33 = .ok (.getfield 25, 3) := by decide +kernel
theorem dX6_ahead_36 : decode cX6_ahead 36 = .ok (.iload_n 2, 1) := by decide +kernel
theorem dX6_ahead_37 : decode cX6_ahead 37 = .ok (.invokestatic 227, 3) := by decide +kernel
theorem dX6_ahead_40 : decode cX6_ahead 40 = .ok (.aload_n 0, 1) := by decide +kernel
theorem dX6_ahead_41 : decode cX6_ahead 41 = .ok (.getfield 25, 3) := by decide +kernel
theorem dX6_ahead_44 : decode cX6_ahead 44 = .ok (.iload_n 1, 1) := by decide +kernel
theorem dX6_ahead_45 : decode cX6_ahead 45 = .ok (.invokestatic 159, 3) := by decide +kernel
theorem dX6_ahead_48 : decode cX6_ahead 48 = .ok (.ireturn, 1) := by decide +kernel
set_option maxRecDepth 20000 in
theorem ggX6_upAhead_X6_isTube : GoodIn wsX6_upAhead wsX6_isTube := goodIn_r _ [9, 10, 11, 12, 8, 13, 45, 46, 47, 48, 49, 50, 51, 52, 53, 54, 55, 56, 57, 58, 59, 60, 61, 62, 63, 64, 65, 66, 67, 68] rfl (by decide +kernel)
set_option maxRecDepth 20000 in
theorem gX6_upAhead_X6_isTube : GoodIn wsX6_upAhead (wsV RX6 198 RX6 yX6_isTube wsX6_isTube) := goodIn_app (goodIn_of _ (by decide +kernel)) ggX6_upAhead_X6_isTube
set_option maxRecDepth 20000 in
theorem ggX6_upAhead_X6_in : GoodIn wsX6_upAhead wsX6_in := goodIn_r _ [13] rfl (by decide +kernel)
set_option maxRecDepth 20000 in
theorem gX6_upAhead_X6_in : GoodIn wsX6_upAhead (va_wsS RX6 57 yX6_in wsX6_in) := goodIn_app (goodIn_of _ (by decide +kernel)) ggX6_upAhead_X6_in
set_option maxRecDepth 20000 in
theorem ggX6_upAhead_X6_layThen : GoodIn wsX6_upAhead wsX6_layThen := goodIn_r _ [17, 4, 10, 45, 46, 47, 48, 49, 50, 51, 52, 53, 54, 55, 56, 57, 58, 59, 60, 61, 62, 63, 64, 65, 66, 67, 68] rfl (by decide +kernel)
set_option maxRecDepth 20000 in
theorem gX6_upAhead_X6_layThen : GoodIn wsX6_upAhead (wsV RX6 207 RX6 yX6_layThen wsX6_layThen) := goodIn_app (goodIn_of _ (by decide +kernel)) ggX6_upAhead_X6_layThen
set_option maxRecDepth 20000 in
theorem ggX6_upAhead_X6_minutesOf : GoodIn wsX6_upAhead wsX6_minutesOf := goodIn_r _ [20, 21, 22, 8, 23, 24, 25, 26, 27, 28, 29, 30, 31, 32, 33, 34, 35, 36, 37, 38, 39, 40, 41, 42, 43, 44] rfl (by decide +kernel)
set_option maxRecDepth 20000 in
theorem gX6_upAhead_X6_minutesOf : GoodIn wsX6_upAhead (va_wsS RX6 227 yX6_minutesOf wsX6_minutesOf) := goodIn_app (goodIn_of _ (by decide +kernel)) ggX6_upAhead_X6_minutesOf
set_option maxRecDepth 20000 in
theorem ggX6_upAhead_X6_of : GoodIn wsX6_upAhead wsX6_of := goodIn_r _ [26] rfl (by decide +kernel)
set_option maxRecDepth 20000 in
theorem gX6_upAhead_X6_of : GoodIn wsX6_upAhead (va_wsS RX6 155 yX6_of wsX6_of) := goodIn_app (goodIn_of _ (by decide +kernel)) ggX6_upAhead_X6_of
theorem dX6_upAhead_0 : decode cX6_upAhead 0 = .ok (.aload_n 0, 1) := by decide +kernel
theorem dX6_upAhead_1 : decode cX6_upAhead 1 = .ok (.iconst 0, 1) := by decide +kernel
theorem dX6_upAhead_2 : decode cX6_upAhead 2 = .ok (.putfield 47, 3) := by decide +kernel
theorem dX6_upAhead_5 : decode cX6_upAhead 5 = .ok (.aload_n 0, 1) := by decide +kernel
theorem dX6_upAhead_6 : decode cX6_upAhead 6 = .ok (.iload_n 1, 1) := by decide +kernel
theorem dX6_upAhead_7 : decode cX6_upAhead 7 = .ok (.invokevirtual 198, 3) := by decide +kernel
theorem dX6_upAhead_10 : decode cX6_upAhead 10 = .ok (.ifCond .eq 15, 3) := by decide +kernel
theorem dX6_upAhead_13 : decode cX6_upAhead 13 = .ok (.iload_n 2, 1) := by decide +kernel
theorem dX6_upAhead_14 : decode cX6_upAhead 14 = .ok (.i2l, 1) := by decide +kernel
theorem dX6_upAhead_15 : decode cX6_upAhead 15 = .ok (.lconst 0, 1) := by decide +kernel
theorem dX6_upAhead_16 : decode cX6_upAhead 16 = .ok (.ldc2_w 225, 3) := by decide +kernel
theorem dX6_upAhead_19 : decode cX6_upAhead 19 = .ok (.invokestatic 57, 3) := by decide +kernel
theorem dX6_upAhead_22 : decode cX6_upAhead 22 = .ok (.ifCond .ne 6, 3) := by decide +kernel
theorem dX6_upAhead_25 : decode cX6_upAhead 25 = .ok (.ldc 67, 2) := by decide +kernel
theorem dX6_upAhead_27 : decode cX6_upAhead 27 = .ok (.ireturn, 1) := by decide +kernel
theorem dX6_upAhead_28 : decode cX6_upAhead 28 = .ok (.aload_n 0, 1) := by decide +kernel
theorem dX6_upAhead_29 : decode cX6_upAhead 29 = .ok (.invokevirtual 207, 3) := by decide +kernel
theorem dX6_upAhead_32 : decode cX6_upAhead 32 = .ok (.aload_n 0, 1) := by decide +kernel
theorem dX6_upAhead_33 : decode cX6_upAhead 33 = .ok (.getfield 25, 3) := by decide +kernel
theorem dX6_upAhead_36 : decode cX6_upAhead 36 = .ok (.iload_n 2, 1) := by decide +kernel
theorem dX6_upAhead_37 : decode cX6_upAhead 37 = .ok (.invokestatic 227, 3) := by decide +kernel
theorem dX6_upAhead_40 : decode cX6_upAhead 40 = .ok (.aload_n 0, 1) := by decide +kernel
theorem dX6_upAhead_41 : decode cX6_upAhead 41 = .ok (.getfield 25, 3) := by decide +kernel
theorem dX6_upAhead_44 : decode cX6_upAhead 44 = .ok (.iload_n 1, 1) := by decide +kernel
theorem dX6_upAhead_45 : decode cX6_upAhead 45 = .ok (.iconst 4, 1) := by decide +kernel
theorem dX6_upAhead_46 : decode cX6_upAhead 46 = .ok (.invokestatic 155, 3) := by decide +kernel
theorem dX6_upAhead_49 : decode cX6_upAhead 49 = .ok (.ireturn, 1) := by decide +kernel
set_option maxRecDepth 20000 in
theorem ggX6_chill_X6_isRoom : GoodIn wsX6_chill wsX6_isRoom := goodIn_r _ [9, 10, 11, 12, 8, 13, 42, 43, 44, 45, 46, 47, 48, 49, 50, 51, 52, 53, 54, 55, 56, 57, 58, 59, 60, 61, 62, 63, 64, 65] rfl (by decide +kernel)
set_option maxRecDepth 20000 in
theorem gX6_chill_X6_isRoom : GoodIn wsX6_chill (wsV RX6 213 RX6 yX6_isRoom wsX6_isRoom) := goodIn_app (goodIn_of _ (by decide +kernel)) ggX6_chill_X6_isRoom
set_option maxRecDepth 20000 in
theorem ggX6_chill_X6_layThen : GoodIn wsX6_chill wsX6_layThen := goodIn_r _ [17, 3, 10, 42, 43, 44, 45, 46, 47, 48, 49, 50, 51, 52, 53, 54, 55, 56, 57, 58, 59, 60, 61, 62, 63, 64, 65] rfl (by decide +kernel)
set_option maxRecDepth 20000 in
theorem gX6_chill_X6_layThen : GoodIn wsX6_chill (wsV RX6 207 RX6 yX6_layThen wsX6_layThen) := goodIn_app (goodIn_of _ (by decide +kernel)) ggX6_chill_X6_layThen
set_option maxRecDepth 20000 in
theorem ggX6_chill_X6_isCold : GoodIn wsX6_chill wsX6_isCold := goodIn_r _ [20, 21, 22, 8, 23] rfl (by decide +kernel)
set_option maxRecDepth 20000 in
theorem gX6_chill_X6_isCold : GoodIn wsX6_chill (va_wsS RX6 167 yX6_isCold wsX6_isCold) := goodIn_app (goodIn_of _ (by decide +kernel)) ggX6_chill_X6_isCold
set_option maxRecDepth 20000 in
theorem ggX6_chill_X6_minute : GoodIn wsX6_chill wsX6_minute := goodIn_r _ [26, 27, 28, 8, 29, 30, 31, 32, 33, 34, 35, 21, 22, 23, 36, 37, 38, 39, 40, 41, 18, 19, 20] rfl (by decide +kernel)
set_option maxRecDepth 20000 in
theorem gX6_chill_X6_minute : GoodIn wsX6_chill (va_wsS RX6 181 yX6_minute wsX6_minute) := goodIn_app (goodIn_of _ (by decide +kernel)) ggX6_chill_X6_minute
theorem dX6_chill_0 : decode cX6_chill 0 = .ok (.aload_n 0, 1) := by decide +kernel
theorem dX6_chill_1 : decode cX6_chill 1 = .ok (.iconst 0, 1) := by decide +kernel
theorem dX6_chill_2 : decode cX6_chill 2 = .ok (.putfield 47, 3) := by decide +kernel
theorem dX6_chill_5 : decode cX6_chill 5 = .ok (.aload_n 0, 1) := by decide +kernel
theorem dX6_chill_6 : decode cX6_chill 6 = .ok (.iload_n 1, 1) := by decide +kernel
theorem dX6_chill_7 : decode cX6_chill 7 = .ok (.invokevirtual 213, 3) := by decide +kernel
theorem dX6_chill_10 : decode cX6_chill 10 = .ok (.ifCond .ne 6, 3) := by decide +kernel
theorem dX6_chill_13 : decode cX6_chill 13 = .ok (.ldc 67, 2) := by decide +kernel
theorem dX6_chill_15 : decode cX6_chill 15 = .ok (.ireturn, 1) := by decide +kernel
theorem dX6_chill_16 : decode cX6_chill 16 = .ok (.aload_n 0, 1) := by decide +kernel
theorem dX6_chill_17 : decode cX6_chill 17 = .ok (.invokevirtual 207, 3) := by decide +kernel
theorem dX6_chill_20 : decode cX6_chill 20 = .ok (.iconst 0, 1) := by decide +kernel
theorem dX6_chill_21 : decode cX6_chill 21 = .ok (.istore_n 2, 1) := by decide +kernel
theorem dX6_chill_22 : decode cX6_chill 22 = .ok (.iload_n 2, 1) := by decide +kernel
theorem dX6_chill_23 : decode cX6_chill 23 = .ok (.bipush 60, 2) := by decide +kernel
theorem dX6_chill_25 : decode cX6_chill 25 = .ok (.if_icmp .gt 29, 3) := by decide +kernel
theorem dX6_chill_28 : decode cX6_chill 28 = .ok (.aload_n 0, 1) := by decide +kernel
theorem dX6_chill_29 : decode cX6_chill 29 = .ok (.getfield 25, 3) := by decide +kernel
theorem dX6_chill_32 : decode cX6_chill 32 = .ok (.iload_n 1, 1) := by decide +kernel
theorem dX6_chill_33 : decode cX6_chill 33 = .ok (.invokestatic 167, 3) := by decide +kernel
theorem dX6_chill_36 : decode cX6_chill 36 = .ok (.ifCond .eq 5, 3) := by decide +kernel
theorem dX6_chill_39 : decode cX6_chill 39 = .ok (.iload_n 2, 1) := by decide +kernel
theorem dX6_chill_40 : decode cX6_chill 40 = .ok (.ireturn, 1) := by decide +kernel
theorem dX6_chill_41 : decode cX6_chill 41 = .ok (.aload_n 0, 1) := by decide +kernel
theorem dX6_chill_42 : decode cX6_chill 42 = .ok (.getfield 25, 3) := by decide +kernel
theorem dX6_chill_45 : decode cX6_chill 45 = .ok (.invokestatic 181, 3) := by decide +kernel
theorem dX6_chill_48 : decode cX6_chill 48 = .ok (.iinc 2 1, 3) := by decide +kernel
theorem dX6_chill_51 : decode cX6_chill 51 = .ok (.goto (-29), 3) := by decide +kernel
theorem dX6_chill_54 : decode cX6_chill 54 = .ok (.ldc 90, 2) := by decide +kernel
theorem dX6_chill_56 : decode cX6_chill 56 = .ok (.ireturn, 1) := by decide +kernel
set_option maxRecDepth 20000 in
theorem ggX6_first_X6_isThere : GoodIn wsX6_first wsX6_isThere := goodIn_r _ [11, 4, 43, 44, 45, 46, 47, 48, 49, 50, 51, 52, 53, 54, 55, 56, 57, 58, 59, 60, 61, 62, 63, 64, 65, 66] rfl (by decide +kernel)
set_option maxRecDepth 20000 in
theorem gX6_first_X6_isThere : GoodIn wsX6_first (wsV RX6 152 RX6 yX6_isThere wsX6_isThere) := goodIn_app (goodIn_of _ (by decide +kernel)) ggX6_first_X6_isThere
set_option maxRecDepth 20000 in
theorem ggX6_first_X6_in : GoodIn wsX6_first wsX6_in := goodIn_r _ [14] rfl (by decide +kernel)
set_option maxRecDepth 20000 in
theorem gX6_first_X6_in : GoodIn wsX6_first (va_wsS RX6 57 yX6_in wsX6_in) := goodIn_app (goodIn_of _ (by decide +kernel)) ggX6_first_X6_in
set_option maxRecDepth 20000 in
theorem ggX6_first_X6_layThen : GoodIn wsX6_first wsX6_layThen := goodIn_r _ [18, 5, 4, 43, 44, 45, 46, 47, 48, 49, 50, 51, 52, 53, 54, 55, 56, 57, 58, 59, 60, 61, 62, 63, 64, 65, 66] rfl (by decide +kernel)
set_option maxRecDepth 20000 in
theorem gX6_first_X6_layThen : GoodIn wsX6_first (wsV RX6 207 RX6 yX6_layThen wsX6_layThen) := goodIn_app (goodIn_of _ (by decide +kernel)) ggX6_first_X6_layThen
set_option maxRecDepth 20000 in
theorem ggX6_first_X6_isCold : GoodIn wsX6_first wsX6_isCold := goodIn_r _ [21, 22, 23, 10, 24] rfl (by decide +kernel)
set_option maxRecDepth 20000 in
theorem gX6_first_X6_isCold : GoodIn wsX6_first (va_wsS RX6 167 yX6_isCold wsX6_isCold) := goodIn_app (goodIn_of _ (by decide +kernel)) ggX6_first_X6_isCold
set_option maxRecDepth 20000 in
theorem ggX6_first_X6_minute : GoodIn wsX6_first wsX6_minute := goodIn_r _ [27, 28, 29, 10, 30, 31, 32, 33, 34, 35, 36, 22, 23, 24, 37, 38, 39, 40, 41, 42, 19, 20, 21] rfl (by decide +kernel)
set_option maxRecDepth 20000 in
theorem gX6_first_X6_minute : GoodIn wsX6_first (va_wsS RX6 181 yX6_minute wsX6_minute) := goodIn_app (goodIn_of _ (by decide +kernel)) ggX6_first_X6_minute
theorem dX6_first_0 : decode cX6_first 0 = .ok (.aload_n 0, 1) := by decide +kernel
theorem dX6_first_1 : decode cX6_first 1 = .ok (.iconst 0, 1) := by decide +kernel
theorem dX6_first_2 : decode cX6_first 2 = .ok (.putfield 47, 3) := by decide +kernel
theorem dX6_first_5 : decode cX6_first 5 = .ok (.aload_n 0, 1) := by decide +kernel
theorem dX6_first_6 : decode cX6_first 6 = .ok (.invokevirtual 152, 3) := by decide +kernel
theorem dX6_first_9 : decode cX6_first 9 = .ok (.ifCond .ne 6, 3) := by decide +kernel
theorem dX6_first_12 : decode cX6_first 12 = .ok (.ldc 189, 2) := by decide +kernel
theorem dX6_first_14 : decode cX6_first 14 = .ok (.ireturn, 1) := by decide +kernel
theorem dX6_first_15 : decode cX6_first 15 = .ok (.iload_n 1, 1) := by decide +kernel
theorem dX6_first_16 : decode cX6_first 16 = .ok (.i2l, 1) := by decide +kernel
theorem dX6_first_17 : decode cX6_first 17 = .ok (.lconst 0, 1) := by decide +kernel
theorem dX6_first_18 : decode cX6_first 18 = .ok (.lconst 1, 1) := by decide +kernel
theorem dX6_first_19 : decode cX6_first 19 = .ok (.invokestatic 57, 3) := by decide +kernel
theorem dX6_first_22 : decode cX6_first 22 = .ok (.ifCond .ne 6, 3) := by decide +kernel
theorem dX6_first_25 : decode cX6_first 25 = .ok (.ldc 67, 2) := by decide +kernel
theorem dX6_first_27 : decode cX6_first 27 = .ok (.ireturn, 1) := by decide +kernel
theorem dX6_first_28 : decode cX6_first 28 = .ok (.aload_n 0, 1) := by decide +kernel
theorem dX6_first_29 : decode cX6_first 29 = .ok (.invokevirtual 207, 3) := by decide +kernel
theorem dX6_first_32 : decode cX6_first 32 = .ok (.iconst 0, 1) := by decide +kernel
theorem dX6_first_33 : decode cX6_first 33 = .ok (.istore_n 2, 1) := by decide +kernel
theorem dX6_first_34 : decode cX6_first 34 = .ok (.iload_n 2, 1) := by decide +kernel
theorem dX6_first_35 : decode cX6_first 35 = .ok (.bipush 60, 2) := by decide +kernel
theorem dX6_first_37 : decode cX6_first 37 = .ok (.if_icmp .gt 55, 3) := by decide +kernel
theorem dX6_first_40 : decode cX6_first 40 = .ok (.iconst 0, 1) := by decide +kernel
theorem dX6_first_41 : decode cX6_first 41 = .ok (.istore_n 3, 1) := by decide +kernel
theorem dX6_first_42 : decode cX6_first 42 = .ok (.iload_n 3, 1) := by decide +kernel
theorem dX6_first_43 : decode cX6_first 43 = .ok (.aload_n 0, 1) := by decide +kernel
theorem dX6_first_44 : decode cX6_first 44 = .ok (.getfield 19, 3) := by decide +kernel
theorem dX6_first_47 : decode cX6_first 47 = .ok (.iconst 0, 1) := by decide +kernel
theorem dX6_first_48 : decode cX6_first 48 = .ok (.iaload, 1) := by decide +kernel
theorem dX6_first_49 : decode cX6_first 49 = .ok (.if_icmp .ge 30, 3) := by decide +kernel
theorem dX6_first_52 : decode cX6_first 52 = .ok (.aload_n 0, 1) := by decide +kernel
theorem dX6_first_53 : decode cX6_first 53 = .ok (.getfield 25, 3) := by decide +kernel
theorem dX6_first_56 : decode cX6_first 56 = .ok (.iload_n 3, 1) := by decide +kernel
theorem dX6_first_57 : decode cX6_first 57 = .ok (.invokestatic 167, 3) := by decide +kernel
theorem dX6_first_60 : decode cX6_first 60 = .ok (.ifCond .eq 13, 3) := by decide +kernel
theorem dX6_first_63 : decode cX6_first 63 = .ok (.iload_n 1, 1) := by decide +kernel
theorem dX6_first_64 : decode cX6_first 64 = .ok (.ifCond .ne 7, 3) := by decide +kernel
theorem dX6_first_67 : decode cX6_first 67 = .ok (.iload_n 3, 1) := by decide +kernel
theorem dX6_first_68 : decode cX6_first 68 = .ok (.goto 4, 3) := by decide +kernel
theorem dX6_first_71 : decode cX6_first 71 = .ok (.iload_n 2, 1) := by decide +kernel
theorem dX6_first_72 : decode cX6_first 72 = .ok (.ireturn, 1) := by decide +kernel
theorem dX6_first_73 : decode cX6_first 73 = .ok (.iinc 3 1, 3) := by decide +kernel
theorem dX6_first_76 : decode cX6_first 76 = .ok (.goto (-34), 3) := by decide +kernel
theorem dX6_first_79 : decode cX6_first 79 = .ok (.aload_n 0, 1) := by decide +kernel
theorem dX6_first_80 : decode cX6_first 80 = .ok (.getfield 25, 3) := by decide +kernel
theorem dX6_first_83 : decode cX6_first 83 = .ok (.invokestatic 181, 3) := by decide +kernel
theorem dX6_first_86 : decode cX6_first 86 = .ok (.iinc 2 1, 3) := by decide +kernel
theorem dX6_first_89 : decode cX6_first 89 = .ok (.goto (-55), 3) := by decide +kernel
theorem dX6_first_92 : decode cX6_first 92 = .ok (.ldc 90, 2) := by decide +kernel
theorem dX6_first_94 : decode cX6_first 94 = .ok (.ireturn, 1) := by decide +kernel
set_option maxRecDepth 20000 in
theorem ggX6_filled_X6_isTube : GoodIn wsX6_filled wsX6_isTube := goodIn_r _ [9, 10, 11, 12, 8, 13, 42, 43, 44, 45, 46, 47, 48, 49, 50, 51, 52, 53, 54, 55, 56, 57, 58, 59, 60, 61, 62, 63, 64, 65] rfl (by decide +kernel)
set_option maxRecDepth 20000 in
theorem gX6_filled_X6_isTube : GoodIn wsX6_filled (wsV RX6 198 RX6 yX6_isTube wsX6_isTube) := goodIn_app (goodIn_of _ (by decide +kernel)) ggX6_filled_X6_isTube
set_option maxRecDepth 20000 in
theorem ggX6_filled_X6_layThen : GoodIn wsX6_filled wsX6_layThen := goodIn_r _ [17, 3, 10, 42, 43, 44, 45, 46, 47, 48, 49, 50, 51, 52, 53, 54, 55, 56, 57, 58, 59, 60, 61, 62, 63, 64, 65] rfl (by decide +kernel)
set_option maxRecDepth 20000 in
theorem gX6_filled_X6_layThen : GoodIn wsX6_filled (wsV RX6 207 RX6 yX6_layThen wsX6_layThen) := goodIn_app (goodIn_of _ (by decide +kernel)) ggX6_filled_X6_layThen
set_option maxRecDepth 20000 in
theorem ggX6_filled_X6_of : GoodIn wsX6_filled wsX6_of := goodIn_r _ [20] rfl (by decide +kernel)
set_option maxRecDepth 20000 in
theorem gX6_filled_X6_of : GoodIn wsX6_filled (va_wsS RX6 155 yX6_of wsX6_of) := goodIn_app (goodIn_of _ (by decide +kernel)) ggX6_filled_X6_of
set_option maxRecDepth 20000 in
theorem ggX6_filled_X6_minute : GoodIn wsX6_filled wsX6_minute := goodIn_r _ [23, 18, 19, 8, 20, 24, 25, 26, 27, 28, 29, 30, 31, 32, 33, 34, 35, 36, 37, 38, 39, 40, 41] rfl (by decide +kernel)
set_option maxRecDepth 20000 in
theorem gX6_filled_X6_minute : GoodIn wsX6_filled (va_wsS RX6 181 yX6_minute wsX6_minute) := goodIn_app (goodIn_of _ (by decide +kernel)) ggX6_filled_X6_minute
theorem dX6_filled_0 : decode cX6_filled 0 = .ok (.aload_n 0, 1) := by decide +kernel
theorem dX6_filled_1 : decode cX6_filled 1 = .ok (.iconst 0, 1) := by decide +kernel
theorem dX6_filled_2 : decode cX6_filled 2 = .ok (.putfield 47, 3) := by decide +kernel
theorem dX6_filled_5 : decode cX6_filled 5 = .ok (.aload_n 0, 1) := by decide +kernel
theorem dX6_filled_6 : decode cX6_filled 6 = .ok (.iload_n 1, 1) := by decide +kernel
theorem dX6_filled_7 : decode cX6_filled 7 = .ok (.invokevirtual 198, 3) := by decide +kernel
theorem dX6_filled_10 : decode cX6_filled 10 = .ok (.ifCond .ne 6, 3) := by decide +kernel
theorem dX6_filled_13 : decode cX6_filled 13 = .ok (.ldc 67, 2) := by decide +kernel
theorem dX6_filled_15 : decode cX6_filled 15 = .ok (.ireturn, 1) := by decide +kernel
theorem dX6_filled_16 : decode cX6_filled 16 = .ok (.aload_n 0, 1) := by decide +kernel
theorem dX6_filled_17 : decode cX6_filled 17 = .ok (.invokevirtual 207, 3) := by decide +kernel
theorem dX6_filled_20 : decode cX6_filled 20 = .ok (.iconst 0, 1) := by decide +kernel
theorem dX6_filled_21 : decode cX6_filled 21 = .ok (.istore_n 2, 1) := by decide +kernel
theorem dX6_filled_22 : decode cX6_filled 22 = .ok (.iload_n 2, 1) := by decide +kernel
theorem dX6_filled_23 : decode cX6_filled 23 = .ok (.bipush 60, 2) := by decide +kernel
theorem dX6_filled_25 : decode cX6_filled 25 = .ok (.if_icmp .gt 39, 3) := by decide +kernel
theorem dX6_filled_28 : decode cX6_filled 28 = .ok (.aload_n 0, 1) := by decide +kernel
theorem dX6_filled_29 : decode cX6_filled 29 = .ok (.getfield 25, 3) := by decide +kernel
theorem dX6_filled_32 : decode cX6_filled 32 = .ok (.iload_n 1, 1) := by decide +kernel
theorem dX6_filled_33 : decode cX6_filled 33 = .ok (.iconst 4, 1) := by decide +kernel
theorem dX6_filled_34 : decode cX6_filled 34 = .ok (.invokestatic 155, 3) := by decide +kernel
theorem dX6_filled_37 : decode cX6_filled 37 = .ok (.aload_n 0, 1) := by decide +kernel
theorem dX6_filled_38 : decode cX6_filled 38 = .ok (.getfield 25, 3) := by decide +kernel
theorem dX6_filled_41 : decode cX6_filled 41 = .ok (.iload_n 1, 1) := by decide +kernel
theorem dX6_filled_42 : decode cX6_filled 42 = .ok (.iconst 3, 1) := by decide +kernel
theorem dX6_filled_43 : decode cX6_filled 43 = .ok (.invokestatic 155, 3) := by decide +kernel
theorem dX6_filled_46 : decode cX6_filled 46 = .ok (.if_icmp .ne 5, 3) := by decide +kernel
theorem dX6_filled_49 : decode cX6_filled 49 = .ok (.iload_n 2, 1) := by decide +kernel
theorem dX6_filled_50 : decode cX6_filled 50 = .ok (.ireturn, 1) := by decide +kernel
theorem dX6_filled_51 : decode cX6_filled 51 = .ok (.aload_n 0, 1) := by decide +kernel
theorem dX6_filled_52 : decode cX6_filled 52 = .ok (.getfield 25, 3) := by decide +kernel
theorem dX6_filled_55 : decode cX6_filled 55 = .ok (.invokestatic 181, 3) := by decide +kernel
theorem dX6_filled_58 : decode cX6_filled 58 = .ok (.iinc 2 1, 3) := by decide +kernel
theorem dX6_filled_61 : decode cX6_filled 61 = .ok (.goto (-39), 3) := by decide +kernel
theorem dX6_filled_64 : decode cX6_filled 64 = .ok (.ldc 90, 2) := by decide +kernel
theorem dX6_filled_66 : decode cX6_filled 66 = .ok (.ireturn, 1) := by decide +kernel
set_option maxRecDepth 20000 in
theorem ggX6_layOut_X6_layThen : GoodIn wsX6_layOut wsX6_layThen := goodIn_r _ [7, 2, 1, 14, 15, 16, 17, 18, 19, 20, 21, 22, 23, 24, 25, 26, 27, 28, 29, 30, 31, 32, 33, 34, 35, 36, 37] rfl (by decide +kernel)
set_option maxRecDepth 20000 in
theorem gX6_layOut_X6_layThen : GoodIn wsX6_layOut (wsV RX6 207 RX6 yX6_layThen wsX6_layThen) := goodIn_app (goodIn_of _ (by decide +kernel)) ggX6_layOut_X6_layThen
set_option maxRecDepth 20000 in
theorem ggX6_layOut_X6_has : GoodIn wsX6_layOut wsX6_has := goodIn_r _ [10] rfl (by decide +kernel)
set_option maxRecDepth 20000 in
theorem gX6_layOut_X6_has : GoodIn wsX6_layOut (va_wsS RX6 231 yX6_has wsX6_has) := goodIn_app (goodIn_of _ (by decide +kernel)) ggX6_layOut_X6_has
set_option maxRecDepth 20000 in
theorem ggX6_layOut_X6_be : GoodIn wsX6_layOut wsX6_be := goodIn_r _ [13] rfl (by decide +kernel)
set_option maxRecDepth 20000 in
theorem gX6_layOut_X6_be : GoodIn wsX6_layOut (va_wsS RX6 170 yX6_be wsX6_be) := goodIn_app (goodIn_of _ (by decide +kernel)) ggX6_layOut_X6_be
theorem dX6_layOut_0 : decode cX6_layOut 0 = .ok (.aload_n 0, 1) := by decide +kernel
theorem dX6_layOut_1 : decode cX6_layOut 1 = .ok (.invokevirtual 207, 3) := by decide +kernel
theorem dX6_layOut_4 : decode cX6_layOut 4 = .ok (.iconst 0, 1) := by decide +kernel
theorem dX6_layOut_5 : decode cX6_layOut 5 = .ok (.istore_n 2, 1) := by decide +kernel
theorem dX6_layOut_6 : decode cX6_layOut 6 = .ok (.iload_n 2, 1) := by decide +kernel
theorem dX6_layOut_7 : decode cX6_layOut 7 = .ok (.aload_n 0, 1) := by decide +kernel
theorem dX6_layOut_8 : decode cX6_layOut 8 = .ok (.getfield 19, 3) := by decide +kernel
theorem dX6_layOut_11 : decode cX6_layOut 11 = .ok (.iconst 1, 1) := by decide +kernel
theorem dX6_layOut_12 : decode cX6_layOut 12 = .ok (.iaload, 1) := by decide +kernel
theorem dX6_layOut_13 : decode cX6_layOut 13 = .ok (.if_icmp .ge 32, 3) := by decide +kernel
theorem dX6_layOut_16 : decode cX6_layOut 16 = .ok (.iload_n 1, 1) := by decide +kernel
theorem dX6_layOut_17 : decode cX6_layOut 17 = .ok (.iload_n 2, 1) := by decide +kernel
theorem dX6_layOut_18 : decode cX6_layOut 18 = .ok (.invokestatic 231, 3) := by decide +kernel
theorem dX6_layOut_21 : decode cX6_layOut 21 = .ok (.ifCond .eq 18, 3) := by decide +kernel
theorem dX6_layOut_24 : decode cX6_layOut 24 = .ok (.aload_n 0, 1) := by decide +kernel
theorem dX6_layOut_25 : decode cX6_layOut 25 = .ok (.getfield 25, 3) := by decide +kernel
theorem dX6_layOut_28 : decode cX6_layOut 28 = .ok (.iload_n 2, 1) := by decide +kernel
theorem dX6_layOut_29 : decode cX6_layOut 29 = .ok (.iconst 1, 1) := by decide +kernel
theorem dX6_layOut_30 : decode cX6_layOut 30 = .ok (.aload_n 0, 1) := by decide +kernel
theorem dX6_layOut_31 : decode cX6_layOut 31 = .ok (.getfield 19, 3) := by decide +kernel
theorem dX6_layOut_34 : decode cX6_layOut 34 = .ok (.iconst 0, 1) := by decide +kernel
theorem dX6_layOut_35 : decode cX6_layOut 35 = .ok (.iaload, 1) := by decide +kernel
theorem dX6_layOut_36 : decode cX6_layOut 36 = .ok (.invokestatic 170, 3) := by decide +kernel
theorem dX6_layOut_39 : decode cX6_layOut 39 = .ok (.iinc 2 1, 3) := by decide +kernel
theorem dX6_layOut_42 : decode cX6_layOut 42 = .ok (.goto (-36), 3) := by decide +kernel
theorem dX6_layOut_45 : decode cX6_layOut 45 = .ok (.return_, 1) := by decide +kernel
set_option maxRecDepth 20000 in
theorem ggX6_inside_X6_tubesIn : GoodIn wsX6_inside wsX6_tubesIn := goodIn_r _ [5, 6, 7, 4, 8] rfl (by decide +kernel)
set_option maxRecDepth 20000 in
theorem gX6_inside_X6_tubesIn : GoodIn wsX6_inside (va_wsS RX6 222 yX6_tubesIn wsX6_tubesIn) := goodIn_app (goodIn_of _ (by decide +kernel)) ggX6_inside_X6_tubesIn
theorem dX6_inside_0 : decode cX6_inside 0 = .ok (.iconst 1, 1) := by decide +kernel
theorem dX6_inside_1 : decode cX6_inside 1 = .ok (.aload_n 0, 1) := by decide +kernel
theorem dX6_inside_2 : decode cX6_inside 2 = .ok (.getfield 19, 3) := by decide +kernel
theorem dX6_inside_5 : decode cX6_inside 5 = .ok (.iconst 1, 1) := by decide +kernel
theorem dX6_inside_6 : decode cX6_inside 6 = .ok (.iaload, 1) := by decide +kernel
theorem dX6_inside_7 : decode cX6_inside 7 = .ok (.ishl, 1) := by decide +kernel
theorem dX6_inside_8 : decode cX6_inside 8 = .ok (.iconst 1, 1) := by decide +kernel
theorem dX6_inside_9 : decode cX6_inside 9 = .ok (.isub, 1) := by decide +kernel
theorem dX6_inside_10 : decode cX6_inside 10 = .ok (.aload_n 0, 1) := by decide +kernel
theorem dX6_inside_11 : decode cX6_inside 11 = .ok (.getfield 19, 3) := by decide +kernel
theorem dX6_inside_14 : decode cX6_inside 14 = .ok (.aload_n 0, 1) := by decide +kernel
theorem dX6_inside_15 : decode cX6_inside 15 = .ok (.getfield 19, 3) := by decide +kernel
theorem dX6_inside_18 : decode cX6_inside 18 = .ok (.iconst 0, 1) := by decide +kernel
theorem dX6_inside_19 : decode cX6_inside 19 = .ok (.iaload, 1) := by decide +kernel
theorem dX6_inside_20 : decode cX6_inside 20 = .ok (.invokestatic 222, 3) := by decide +kernel
theorem dX6_inside_23 : decode cX6_inside 23 = .ok (.iconst (-1), 1) := by decide +kernel
theorem dX6_inside_24 : decode cX6_inside 24 = .ok (.ixor, 1) := by decide +kernel
theorem dX6_inside_25 : decode cX6_inside 25 = .ok (.iand, 1) := by decide +kernel
theorem dX6_inside_26 : decode cX6_inside 26 = .ok (.ireturn, 1) := by decide +kernel
set_option maxRecDepth 20000 in
theorem ggX6_outs_X6_isRoom : GoodIn wsX6_outs wsX6_isRoom := goodIn_r _ [10, 11, 12, 13, 9, 14, 60, 61, 62, 63, 64, 65, 66, 67, 68, 69, 70, 71, 72, 73, 74, 75, 76, 77, 78, 79, 80, 81, 82, 83] rfl (by decide +kernel)
set_option maxRecDepth 20000 in
theorem gX6_outs_X6_isRoom : GoodIn wsX6_outs (wsV RX6 213 RX6 yX6_isRoom wsX6_isRoom) := goodIn_app (goodIn_of _ (by decide +kernel)) ggX6_outs_X6_isRoom
set_option maxRecDepth 20000 in
theorem ggX6_outs_X6_in : GoodIn wsX6_outs wsX6_in := goodIn_r _ [14] rfl (by decide +kernel)
set_option maxRecDepth 20000 in
theorem gX6_outs_X6_in : GoodIn wsX6_outs (va_wsS RX6 57 yX6_in wsX6_in) := goodIn_app (goodIn_of _ (by decide +kernel)) ggX6_outs_X6_in
set_option maxRecDepth 20000 in
theorem ggX6_outs_X6_inside : GoodIn wsX6_outs wsX6_inside := goodIn_r _ [18, 11, 19, 20, 9, 21, 22, 23, 24, 60, 61, 62, 63, 64, 65, 66, 67, 68, 69, 70, 71, 72, 73, 74, 75, 76, 77, 78, 79, 80, 81, 82, 83] rfl (by decide +kernel)
set_option maxRecDepth 20000 in
theorem gX6_outs_X6_inside : GoodIn wsX6_outs (wsV RX6 237 RX6 yX6_inside wsX6_inside) := goodIn_app (goodIn_of _ (by decide +kernel)) ggX6_outs_X6_inside
set_option maxRecDepth 20000 in
theorem ggX6_outs_X6_bits : GoodIn wsX6_outs wsX6_bits := goodIn_r _ [27] rfl (by decide +kernel)
set_option maxRecDepth 20000 in
theorem gX6_outs_X6_bits : GoodIn wsX6_outs (va_wsS RX6 241 yX6_bits wsX6_bits) := goodIn_app (goodIn_of _ (by decide +kernel)) ggX6_outs_X6_bits
set_option maxRecDepth 20000 in
theorem ggX6_outs_X6_layOut : GoodIn wsX6_outs wsX6_layOut := goodIn_r _ [31, 11, 5, 32, 33, 34, 9, 35, 36, 37, 38, 39, 40, 41, 60, 61, 62, 63, 64, 65, 66, 67, 68, 69, 70, 71, 72, 73, 74, 75, 76, 77, 78, 79, 80, 81, 82, 83] rfl (by decide +kernel)
set_option maxRecDepth 20000 in
theorem gX6_outs_X6_layOut : GoodIn wsX6_outs (wsV RX6 244 RX6 yX6_layOut wsX6_layOut) := goodIn_app (goodIn_of _ (by decide +kernel)) ggX6_outs_X6_layOut
set_option maxRecDepth 20000 in
theorem ggX6_outs_X6_minute : GoodIn wsX6_outs wsX6_minute := goodIn_r _ [44, 22, 23, 9, 24, 39, 40, 41, 45, 46, 47, 48, 49, 50, 51, 52, 53, 54, 55, 56, 57, 58, 59] rfl (by decide +kernel)
set_option maxRecDepth 20000 in
theorem gX6_outs_X6_minute : GoodIn wsX6_outs (va_wsS RX6 181 yX6_minute wsX6_minute) := goodIn_app (goodIn_of _ (by decide +kernel)) ggX6_outs_X6_minute
set_option maxRecDepth 20000 in
theorem ggX6_outs_X6_isCold : GoodIn wsX6_outs wsX6_isCold := goodIn_r _ [59, 48, 49, 9, 50] rfl (by decide +kernel)
set_option maxRecDepth 20000 in
theorem gX6_outs_X6_isCold : GoodIn wsX6_outs (va_wsS RX6 167 yX6_isCold wsX6_isCold) := goodIn_app (goodIn_of _ (by decide +kernel)) ggX6_outs_X6_isCold
theorem dX6_outs_0 : decode cX6_outs 0 = .ok (.aload_n 0, 1) := by decide +kernel
theorem dX6_outs_1 : decode cX6_outs 1 = .ok (.iconst 0, 1) := by decide +kernel
theorem dX6_outs_2 : decode cX6_outs 2 = .ok (.putfield 47, 3) := by decide +kernel
theorem dX6_outs_5 : decode cX6_outs 5 = .ok (.aload_n 0, 1) := by decide +kernel
theorem dX6_outs_6 : decode cX6_outs 6 = .ok (.iload_n 1, 1) := by decide +kernel
theorem dX6_outs_7 : decode cX6_outs 7 = .ok (.invokevirtual 213, 3) := by decide +kernel
theorem dX6_outs_10 : decode cX6_outs 10 = .ok (.ifCond .eq 25, 3) := by decide +kernel
theorem dX6_outs_13 : decode cX6_outs 13 = .ok (.iload_n 2, 1) := by decide +kernel
theorem dX6_outs_14 : decode cX6_outs 14 = .ok (.i2l, 1) := by decide +kernel
theorem dX6_outs_15 : decode cX6_outs 15 = .ok (.lconst 1, 1) := by decide +kernel
theorem dX6_outs_16 : decode cX6_outs 16 = .ok (.ldc2_w 235, 3) := by decide +kernel
theorem dX6_outs_19 : decode cX6_outs 19 = .ok (.invokestatic 57, 3) := by decide +kernel
theorem dX6_outs_22 : decode cX6_outs 22 = .ok (.ifCond .eq 13, 3) := by decide +kernel
theorem dX6_outs_25 : decode cX6_outs 25 = .ok (.iload_n 3, 1) := by decide +kernel
theorem dX6_outs_26 : decode cX6_outs 26 = .ok (.i2l, 1) := by decide +kernel
theorem dX6_outs_27 : decode cX6_outs 27 = .ok (.lconst 0, 1) := by decide +kernel
theorem dX6_outs_28 : decode cX6_outs 28 = .ok (.lconst 1, 1) := by decide +kernel
theorem dX6_outs_29 : decode cX6_outs 29 = .ok (.invokestatic 57, 3) := by decide +kernel
theorem dX6_outs_32 : decode cX6_outs 32 = .ok (.ifCond .ne 6, 3) := by decide +kernel
theorem dX6_outs_35 : decode cX6_outs 35 = .ok (.ldc 67, 2) := by decide +kernel
theorem dX6_outs_37 : decode cX6_outs 37 = .ok (.ireturn, 1) := by decide +kernel
theorem dX6_outs_38 : decode cX6_outs 38 = .ok (.ldc 90, 2) := by decide +kernel
theorem dX6_outs_40 : decode cX6_outs 40 = .ok (.istore 4, 2) := by decide +kernel
theorem dX6_outs_42 : decode cX6_outs 42 = .ok (.iconst 0, 1) := by decide +kernel
theorem dX6_outs_43 : decode cX6_outs 43 = .ok (.istore 5, 2) := by decide +kernel
theorem dX6_outs_45 : decode cX6_outs 45 = .ok (.iload 5, 2) := by decide +kernel
theorem dX6_outs_47 : decode cX6_outs 47 = .ok (.aload_n 0, 1) := by decide +kernel
theorem dX6_outs_48 : decode cX6_outs 48 = .ok (.invokevirtual 237, 3) := by decide +kernel
theorem dX6_outs_51 : decode cX6_outs 51 = .ok (.if_icmp .gt 109, 3) := by decide +kernel
theorem dX6_outs_54 : decode cX6_outs 54 = .ok (.iload 5, 2) := by decide +kernel
theorem dX6_outs_56 : decode cX6_outs 56 = .ok (.aload_n 0, 1) := by decide +kernel
theorem dX6_outs_57 : decode cX6_outs 57 = .ok (.invokevirtual 237, 3) := by decide +kernel
theorem dX6_outs_60 : decode cX6_outs 60 = .ok (.iconst (-1), 1) := by decide +kernel
theorem dX6_outs_61 : decode cX6_outs 61 = .ok (.ixor, 1) := by decide +kernel
theorem dX6_outs_62 : decode cX6_outs 62 = .ok (.iand, 1) := by decide +kernel
theorem dX6_outs_63 : decode cX6_outs 63 = .ok (.ifCond .ne 91, 3) := by decide +kernel
theorem dX6_outs_66 : decode cX6_outs 66 = .ok (.iload 4, 2) := by decide +kernel
theorem dX6_outs_68 : decode cX6_outs 68 = .ok (.ldc 90, 2) := by decide +kernel
theorem dX6_outs_70 : decode cX6_outs 70 = .ok (.if_icmp .eq 16, 3) := by decide +kernel
theorem dX6_outs_73 : decode cX6_outs 73 = .ok (.iload 5, 2) := by decide +kernel
theorem dX6_outs_75 : decode cX6_outs 75 = .ok (.invokestatic 241, 3) := by decide +kernel
theorem dX6_outs_78 : decode cX6_outs 78 = .ok (.iload 4, 2) := by decide +kernel
theorem dX6_outs_80 : decode cX6_outs 80 = .ok (.invokestatic 241, 3) := by decide +kernel
theorem dX6_outs_83 : decode cX6_outs 83 = .ok (.if_icmp .ge 71, 3) := by decide +kernel
theorem dX6_outs_86 : decode cX6_outs 86 = .ok (.aload_n 0, 1) := by decide +kernel
theorem dX6_outs_87 : decode cX6_outs 87 = .ok (.iload 5, 2) := by decide +kernel
theorem dX6_outs_89 : decode cX6_outs 89 = .ok (.invokevirtual 244, 3) := by decide +kernel
theorem dX6_outs_92 : decode cX6_outs 92 = .ok (.iconst 1, 1) := by decide +kernel
theorem dX6_outs_93 : decode cX6_outs 93 = .ok (.istore 6, 2) := by decide +kernel
theorem dX6_outs_95 : decode cX6_outs 95 = .ok (.iconst 0, 1) := by decide +kernel
theorem dX6_outs_96 : decode cX6_outs 96 = .ok (.istore 7, 2) := by decide +kernel
theorem dX6_outs_98 : decode cX6_outs 98 = .ok (.iload 7, 2) := by decide +kernel
theorem dX6_outs_100 : decode cX6_outs 100 = .ok (.iload_n 2, 1) := by decide +kernel
theorem dX6_outs_101 : decode cX6_outs 101 = .ok (.if_icmp .ge 39, 3) := by decide +kernel
theorem dX6_outs_104 : decode cX6_outs 104 = .ok (.iload 6, 2) := by decide +kernel
theorem dX6_outs_106 : decode cX6_outs 106 = .ok (.ifCond .eq 34, 3) := by decide +kernel
theorem dX6_outs_109 : decode cX6_outs 109 = .ok (.aload_n 0, 1) := by decide +kernel
theorem dX6_outs_110 : decode cX6_outs 110 = .ok (.getfield 25, 3) := by decide +kernel
theorem dX6_outs_113 : decode cX6_outs 113 = .ok (.invokestatic 181, 3) := by decide +kernel
theorem dX6_outs_116 : decode cX6_outs 116 = .ok (.aload_n 0, 1) := by decide +kernel
theorem dX6_outs_117 : decode cX6_outs 117 = .ok (.getfield 25, 3) := by decide +kernel
theorem dX6_outs_120 : decode cX6_outs 120 = .ok (.iload_n 1, 1) := by decide +kernel
theorem dX6_outs_121 : decode cX6_outs 121 = .ok (.invokestatic 167, 3) := by decide +kernel
theorem dX6_outs_124 : decode cX6_outs 124 = .ok (.ifCond .ne 7, 3) := by decide +kernel
theorem dX6_outs_127 : decode cX6_outs 127 = .ok (.iconst 1, 1) := by decide +kernel
theorem dX6_outs_128 : decode cX6_outs 128 = .ok (.goto 4, 3) := by decide +kernel
theorem dX6_outs_131 : decode cX6_outs 131 = .ok (.iconst 0, 1) := by decide +kernel
theorem dX6_outs_132 : decode cX6_outs 132 = .ok (.istore 6, 2) := by decide +kernel
theorem dX6_outs_134 : decode cX6_outs 134 = .ok (.iinc 7 1, 3) := by decide +kernel
theorem dX6_outs_137 : decode cX6_outs 137 = .ok (.goto (-39), 3) := by decide +kernel
theorem dX6_outs_140 : decode cX6_outs 140 = .ok (.iload 6, 2) := by decide +kernel
theorem dX6_outs_142 : decode cX6_outs 142 = .ok (.ifCond .eq 8, 3) := by decide +kernel
theorem dX6_outs_145 : decode cX6_outs 145 = .ok (.iload 5, 2) := by decide +kernel
theorem dX6_outs_147 : decode cX6_outs 147 = .ok (.goto 5, 3) := by decide +kernel
theorem dX6_outs_150 : decode cX6_outs 150 = .ok (.iload 4, 2) := by decide +kernel
theorem dX6_outs_152 : decode cX6_outs 152 = .ok (.istore 4, 2) := by decide +kernel
theorem dX6_outs_154 : decode cX6_outs 154 = .ok (.iinc 5 1, 3) := by decide +kernel
theorem dX6_outs_157 : decode cX6_outs 157 = .ok (.goto (-112), 3) := by decide +kernel
theorem dX6_outs_160 : decode cX6_outs 160 = .ok (.iload 4, 2) := by decide +kernel
theorem dX6_outs_162 : decode cX6_outs 162 = .ok (.ldc 90, 2) := by decide +kernel
theorem dX6_outs_164 : decode cX6_outs 164 = .ok (.if_icmp .eq 8, 3) := by decide +kernel
theorem dX6_outs_167 : decode cX6_outs 167 = .ok (.iload_n 3, 1) := by decide +kernel
theorem dX6_outs_168 : decode cX6_outs 168 = .ok (.iconst 1, 1) := by decide +kernel
theorem dX6_outs_169 : decode cX6_outs 169 = .ok (.if_icmp .ne 8, 3) := by decide +kernel
theorem dX6_outs_172 : decode cX6_outs 172 = .ok (.iload 4, 2) := by decide +kernel
theorem dX6_outs_174 : decode cX6_outs 174 = .ok (.goto 8, 3) := by decide +kernel
theorem dX6_outs_177 : decode cX6_outs 177 = .ok (.iload 4, 2) := by decide +kernel
theorem dX6_outs_179 : decode cX6_outs 179 = .ok (.invokestatic 241, 3) := by decide +kernel
theorem dX6_outs_182 : decode cX6_outs 182 = .ok (.ireturn, 1) := by decide +kernel
set_option maxRecDepth 20000 in
theorem ggX6_layShaken_X6_layThen : GoodIn wsX6_layShaken wsX6_layThen := goodIn_r _ [7, 2, 1, 26, 27, 28, 29, 30, 31, 32, 33, 34, 35, 36, 37, 38, 39, 40, 41, 42, 43, 44, 45, 46, 47, 48, 49] rfl (by decide +kernel)
set_option maxRecDepth 20000 in
theorem gX6_layShaken_X6_layThen : GoodIn wsX6_layShaken (wsV RX6 207 RX6 yX6_layThen wsX6_layThen) := goodIn_app (goodIn_of _ (by decide +kernel)) ggX6_layShaken_X6_layThen
set_option maxRecDepth 20000 in
theorem ggX6_layShaken_X6_has : GoodIn wsX6_layShaken wsX6_has := goodIn_r _ [10] rfl (by decide +kernel)
set_option maxRecDepth 20000 in
theorem gX6_layShaken_X6_has : GoodIn wsX6_layShaken (va_wsS RX6 231 yX6_has wsX6_has) := goodIn_app (goodIn_of _ (by decide +kernel)) ggX6_layShaken_X6_has
set_option maxRecDepth 20000 in
theorem ggX6_layShaken_X6_shaken : GoodIn wsX6_layShaken wsX6_shaken := goodIn_r _ [13, 14, 15, 6, 16, 17, 18, 19, 20, 21, 22, 23, 24, 25] rfl (by decide +kernel)
set_option maxRecDepth 20000 in
theorem gX6_layShaken_X6_shaken : GoodIn wsX6_layShaken (va_wsS RX6 204 yX6_shaken wsX6_shaken) := goodIn_app (goodIn_of _ (by decide +kernel)) ggX6_layShaken_X6_shaken
theorem dX6_layShaken_0 : decode cX6_layShaken 0 = .ok (.aload_n 0, 1) := by decide +kernel
theorem dX6_layShaken_1 : decode cX6_layShaken 1 = .ok (.invokevirtual 207, 3) := by decide +kernel
theorem dX6_layShaken_4 : decode cX6_layShaken 4 = .ok (.iconst 0, 1) := by decide +kernel
theorem dX6_layShaken_5 : decode cX6_layShaken 5 = .ok (.istore_n 2, 1) := by decide +kernel
theorem dX6_layShaken_6 : decode cX6_layShaken 6 = .ok (.iload_n 2, 1) := by decide +kernel
theorem dX6_layShaken_7 : decode cX6_layShaken 7 = .ok (.aload_n 0, 1) := by decide +kernel
theorem dX6_layShaken_8 : decode cX6_layShaken 8 = .ok (.getfield 19, 3) := by decide +kernel
theorem dX6_layShaken_11 : decode cX6_layShaken 11 = .ok (.iconst 1, 1) := by decide +kernel
theorem dX6_layShaken_12 : decode cX6_layShaken 12 = .ok (.iaload, 1) := by decide +kernel
theorem dX6_layShaken_13 : decode cX6_layShaken 13 = .ok (.if_icmp .ge 26, 3) := by decide +kernel
theorem dX6_layShaken_16 : decode cX6_layShaken 16 = .ok (.iload_n 1, 1) := by decide +kernel
theorem dX6_layShaken_17 : decode cX6_layShaken 17 = .ok (.iload_n 2, 1) := by decide +kernel
theorem dX6_layShaken_18 : decode cX6_layShaken 18 = .ok (.invokestatic 231, 3) := by decide +kernel
theorem dX6_layShaken_21 : decode cX6_layShaken 21 = .ok (.ifCond .eq 12, 3) := by decide +kernel
theorem dX6_layShaken_24 : decode cX6_layShaken 24 = .ok (.aload_n 0, 1) := by decide +kernel
theorem dX6_layShaken_25 : decode cX6_layShaken 25 = .ok (.getfield 25, 3) := by decide +kernel
theorem dX6_layShaken_28 : decode cX6_layShaken 28 = .ok (.iload_n 2, 1) := by decide +kernel
theorem dX6_layShaken_29 : decode cX6_layShaken 29 = .ok (.invokestatic 204, 3) := by decide +kernel
theorem dX6_layShaken_32 : decode cX6_layShaken 32 = .ok (.istore_n 3, 1) := by decide +kernel
theorem dX6_layShaken_33 : decode cX6_layShaken 33 = .ok (.iinc 2 1, 3) := by decide +kernel
theorem dX6_layShaken_36 : decode cX6_layShaken 36 = .ok (.goto (-30), 3) := by decide +kernel
theorem dX6_layShaken_39 : decode cX6_layShaken 39 = .ok (.return_, 1) := by decide +kernel
set_option maxRecDepth 20000 in
theorem ggX6_shakes_X6_isRoom : GoodIn wsX6_shakes wsX6_isRoom := goodIn_r _ [11, 4, 12, 13, 10, 14, 62, 63, 64, 65, 66, 67, 68, 69, 70, 71, 72, 73, 74, 75, 76, 77, 78, 79, 80, 81, 82, 83, 84, 85] rfl (by decide +kernel)
set_option maxRecDepth 20000 in
theorem gX6_shakes_X6_isRoom : GoodIn wsX6_shakes (wsV RX6 213 RX6 yX6_isRoom wsX6_isRoom) := goodIn_app (goodIn_of _ (by decide +kernel)) ggX6_shakes_X6_isRoom
set_option maxRecDepth 20000 in
theorem ggX6_shakes_X6_in : GoodIn wsX6_shakes wsX6_in := goodIn_r _ [14] rfl (by decide +kernel)
set_option maxRecDepth 20000 in
theorem gX6_shakes_X6_in : GoodIn wsX6_shakes (va_wsS RX6 57 yX6_in wsX6_in) := goodIn_app (goodIn_of _ (by decide +kernel)) ggX6_shakes_X6_in
set_option maxRecDepth 20000 in
theorem ggX6_shakes_X6_tubesIn : GoodIn wsX6_shakes wsX6_tubesIn := goodIn_r _ [17, 18, 19, 10, 20] rfl (by decide +kernel)
set_option maxRecDepth 20000 in
theorem gX6_shakes_X6_tubesIn : GoodIn wsX6_shakes (va_wsS RX6 222 yX6_tubesIn wsX6_tubesIn) := goodIn_app (goodIn_of _ (by decide +kernel)) ggX6_shakes_X6_tubesIn
set_option maxRecDepth 20000 in
theorem ggX6_shakes_X6_bits : GoodIn wsX6_shakes wsX6_bits := goodIn_r _ [23] rfl (by decide +kernel)
set_option maxRecDepth 20000 in
theorem gX6_shakes_X6_bits : GoodIn wsX6_shakes (va_wsS RX6 241 yX6_bits wsX6_bits) := goodIn_app (goodIn_of _ (by decide +kernel)) ggX6_shakes_X6_bits
set_option maxRecDepth 20000 in
theorem ggX6_shakes_X6_layShaken : GoodIn wsX6_shakes wsX6_layShaken := goodIn_r _ [27, 4, 6, 28, 29, 30, 10, 31, 32, 33, 34, 35, 36, 37, 18, 19, 20, 38, 39, 40, 41, 42, 43, 44, 45, 46, 62, 63, 64, 65, 66, 67, 68, 69, 70, 71, 72, 73, 74, 75, 76, 77, 78, 79, 80, 81, 82, 83, 84, 85] rfl (by decide +kernel)
set_option maxRecDepth 20000 in
theorem gX6_shakes_X6_layShaken : GoodIn wsX6_shakes (wsV RX6 247 RX6 yX6_layShaken wsX6_layShaken) := goodIn_app (goodIn_of _ (by decide +kernel)) ggX6_shakes_X6_layShaken
set_option maxRecDepth 20000 in
theorem ggX6_shakes_X6_minutesOf : GoodIn wsX6_shakes wsX6_minutesOf := goodIn_r _ [49, 50, 51, 10, 52, 18, 19, 20, 44, 45, 46, 38, 39, 40, 41, 42, 43, 53, 54, 55, 56, 57, 58, 59, 60, 61] rfl (by decide +kernel)
set_option maxRecDepth 20000 in
theorem gX6_shakes_X6_minutesOf : GoodIn wsX6_shakes (va_wsS RX6 227 yX6_minutesOf wsX6_minutesOf) := goodIn_app (goodIn_of _ (by decide +kernel)) ggX6_shakes_X6_minutesOf
set_option maxRecDepth 20000 in
theorem ggX6_shakes_X6_isCold : GoodIn wsX6_shakes wsX6_isCold := goodIn_r _ [61, 41, 42, 10, 43] rfl (by decide +kernel)
set_option maxRecDepth 20000 in
theorem gX6_shakes_X6_isCold : GoodIn wsX6_shakes (va_wsS RX6 167 yX6_isCold wsX6_isCold) := goodIn_app (goodIn_of _ (by decide +kernel)) ggX6_shakes_X6_isCold
theorem dX6_shakes_0 : decode cX6_shakes 0 = .ok (.aload_n 0, 1) := by decide +kernel
theorem dX6_shakes_1 : decode cX6_shakes 1 = .ok (.iconst 0, 1) := by decide +kernel
theorem dX6_shakes_2 : decode cX6_shakes 2 = .ok (.putfield 47, 3) := by decide +kernel
theorem dX6_shakes_5 : decode cX6_shakes 5 = .ok (.aload_n 0, 1) := by decide +kernel
theorem dX6_shakes_6 : decode cX6_shakes 6 = .ok (.iload_n 1, 1) := by decide +kernel
theorem dX6_shakes_7 : decode cX6_shakes 7 = .ok (.invokevirtual 213, 3) := by decide +kernel
theorem dX6_shakes_10 : decode cX6_shakes 10 = .ok (.ifCond .eq 25, 3) := by decide +kernel
theorem dX6_shakes_13 : decode cX6_shakes 13 = .ok (.iload_n 2, 1) := by decide +kernel
theorem dX6_shakes_14 : decode cX6_shakes 14 = .ok (.i2l, 1) := by decide +kernel
theorem dX6_shakes_15 : decode cX6_shakes 15 = .ok (.lconst 1, 1) := by decide +kernel
theorem dX6_shakes_16 : decode cX6_shakes 16 = .ok (.ldc2_w 235, 3) := by decide +kernel
theorem dX6_shakes_19 : decode cX6_shakes 19 = .ok (.invokestatic 57, 3) := by decide +kernel
theorem dX6_shakes_22 : decode cX6_shakes 22 = .ok (.ifCond .eq 13, 3) := by decide +kernel
theorem dX6_shakes_25 : decode cX6_shakes 25 = .ok (.iload_n 3, 1) := by decide +kernel
theorem dX6_shakes_26 : decode cX6_shakes 26 = .ok (.i2l, 1) := by decide +kernel
theorem dX6_shakes_27 : decode cX6_shakes 27 = .ok (.lconst 0, 1) := by decide +kernel
theorem dX6_shakes_28 : decode cX6_shakes 28 = .ok (.lconst 1, 1) := by decide +kernel
theorem dX6_shakes_29 : decode cX6_shakes 29 = .ok (.invokestatic 57, 3) := by decide +kernel
theorem dX6_shakes_32 : decode cX6_shakes 32 = .ok (.ifCond .ne 6, 3) := by decide +kernel
theorem dX6_shakes_35 : decode cX6_shakes 35 = .ok (.ldc 67, 2) := by decide +kernel
theorem dX6_shakes_37 : decode cX6_shakes 37 = .ok (.ireturn, 1) := by decide +kernel
theorem dX6_shakes_38 : decode cX6_shakes 38 = .ok (.aload_n 0, 1) := by decide +kernel
theorem dX6_shakes_39 : decode cX6_shakes 39 = .ok (.getfield 19, 3) := by decide +kernel
theorem dX6_shakes_42 : decode cX6_shakes 42 = .ok (.iload_n 1, 1) := by decide +kernel
theorem dX6_shakes_43 : decode cX6_shakes 43 = .ok (.invokestatic 222, 3) := by decide +kernel
theorem dX6_shakes_46 : decode cX6_shakes 46 = .ok (.istore 4, 2) := by decide +kernel
theorem dX6_shakes_48 : decode cX6_shakes 48 = .ok (.ldc 90, 2) := by decide +kernel
theorem dX6_shakes_50 : decode cX6_shakes 50 = .ok (.istore 5, 2) := by decide +kernel
theorem dX6_shakes_52 : decode cX6_shakes 52 = .ok (.iconst 0, 1) := by decide +kernel
theorem dX6_shakes_53 : decode cX6_shakes 53 = .ok (.istore 6, 2) := by decide +kernel
theorem dX6_shakes_55 : decode cX6_shakes 55 = .ok (.iload 6, 2) := by decide +kernel
theorem dX6_shakes_57 : decode cX6_shakes 57 = .ok (.iload 4, 2) := by decide +kernel
theorem dX6_shakes_59 : decode cX6_shakes 59 = .ok (.if_icmp .gt 73, 3) := by decide +kernel
theorem dX6_shakes_62 : decode cX6_shakes 62 = .ok (.iload 6, 2) := by decide +kernel
theorem dX6_shakes_64 : decode cX6_shakes 64 = .ok (.iload 4, 2) := by decide +kernel
theorem dX6_shakes_66 : decode cX6_shakes 66 = .ok (.iconst (-1), 1) := by decide +kernel
theorem dX6_shakes_67 : decode cX6_shakes 67 = .ok (.ixor, 1) := by decide +kernel
theorem dX6_shakes_68 : decode cX6_shakes 68 = .ok (.iand, 1) := by decide +kernel
theorem dX6_shakes_69 : decode cX6_shakes 69 = .ok (.ifCond .ne 57, 3) := by decide +kernel
theorem dX6_shakes_72 : decode cX6_shakes 72 = .ok (.iload 5, 2) := by decide +kernel
theorem dX6_shakes_74 : decode cX6_shakes 74 = .ok (.ldc 90, 2) := by decide +kernel
theorem dX6_shakes_76 : decode cX6_shakes 76 = .ok (.if_icmp .eq 16, 3) := by decide +kernel
theorem dX6_shakes_79 : decode cX6_shakes 79 = .ok (.iload 6, 2) := by decide +kernel
theorem dX6_shakes_81 : decode cX6_shakes 81 = .ok (.invokestatic 241, 3) := by decide +kernel
theorem dX6_shakes_84 : decode cX6_shakes 84 = .ok (.iload 5, 2) := by decide +kernel
theorem dX6_shakes_86 : decode cX6_shakes 86 = .ok (.invokestatic 241, 3) := by decide +kernel
theorem dX6_shakes_89 : decode cX6_shakes 89 = .ok (.if_icmp .ge 37, 3) := by decide +kernel
theorem dX6_shakes_92 : decode cX6_shakes 92 = .ok (.aload_n 0, 1) := by decide +kernel
theorem dX6_shakes_93 : decode cX6_shakes 93 = .ok (.iload 6, 2) := by decide +kernel
theorem dX6_shakes_95 : decode cX6_shakes 95 = .ok (.invokevirtual 247, 3) := by decide +kernel
theorem dX6_shakes_98 : decode cX6_shakes 98 = .ok (.aload_n 0, 1) := by decide +kernel
theorem dX6_shakes_99 : decode cX6_shakes 99 = .ok (.getfield 25, 3) := by decide +kernel
theorem dX6_shakes_102 : decode cX6_shakes 102 = .ok (.iload_n 2, 1) := by decide +kernel
theorem dX6_shakes_103 : decode cX6_shakes 103 = .ok (.invokestatic 227, 3) := by decide +kernel
theorem dX6_shakes_106 : decode cX6_shakes 106 = .ok (.aload_n 0, 1) := by decide +kernel
theorem dX6_shakes_107 : decode cX6_shakes 107 = .ok (.getfield 25, 3) := by decide +kernel
theorem dX6_shakes_110 : decode cX6_shakes 110 = .ok (.iload_n 1, 1) := by decide +kernel
theorem dX6_shakes_111 : decode cX6_shakes 111 = .ok (.invokestatic 167, 3) := by decide +kernel
theorem dX6_shakes_114 : decode cX6_shakes 114 = .ok (.ifCond .eq 8, 3) := by decide +kernel
theorem dX6_shakes_117 : decode cX6_shakes 117 = .ok (.iload 5, 2) := by decide +kernel
theorem dX6_shakes_119 : decode cX6_shakes 119 = .ok (.goto 5, 3) := by decide +kernel
theorem dX6_shakes_122 : decode cX6_shakes 122 = .ok (.iload 6, 2) := by decide +kernel
theorem dX6_shakes_124 : decode cX6_shakes 124 = .ok (.istore 5, 2) := by decide +kernel
theorem dX6_shakes_126 : decode cX6_shakes 126 = .ok (.iinc 6 1, 3) := by decide +kernel
theorem dX6_shakes_129 : decode cX6_shakes 129 = .ok (.goto (-74), 3) := by decide +kernel
theorem dX6_shakes_132 : decode cX6_shakes 132 = .ok (.iload 5, 2) := by decide +kernel
theorem dX6_shakes_134 : decode cX6_shakes 134 = .ok (.ldc 90, 2) := by decide +kernel
theorem dX6_shakes_136 : decode cX6_shakes 136 = .ok (.if_icmp .eq 8, 3) := by decide +kernel
theorem dX6_shakes_139 : decode cX6_shakes 139 = .ok (.iload_n 3, 1) := by decide +kernel
theorem dX6_shakes_140 : decode cX6_shakes 140 = .ok (.iconst 1, 1) := by decide +kernel
theorem dX6_shakes_141 : decode cX6_shakes 141 = .ok (.if_icmp .ne 8, 3) := by decide +kernel
theorem dX6_shakes_144 : decode cX6_shakes 144 = .ok (.iload 5, 2) := by decide +kernel
theorem dX6_shakes_146 : decode cX6_shakes 146 = .ok (.goto 8, 3) := by decide +kernel
theorem dX6_shakes_149 : decode cX6_shakes 149 = .ok (.iload 5, 2) := by decide +kernel
theorem dX6_shakes_151 : decode cX6_shakes 151 = .ok (.invokestatic 241, 3) := by decide +kernel
theorem dX6_shakes_154 : decode cX6_shakes 154 = .ok (.ireturn, 1) := by decide +kernel
set_option maxRecDepth 20000 in
theorem ggX6_hang_X6_isTube : GoodIn wsX6_hang wsX6_isTube := goodIn_r _ [11, 5, 12, 13, 10, 14, 46, 47, 48, 49, 50, 51, 52, 53, 54, 55, 56, 57, 58, 59, 60, 61, 62, 63, 64, 65, 66, 67, 68, 69] rfl (by decide +kernel)
set_option maxRecDepth 20000 in
theorem gX6_hang_X6_isTube : GoodIn wsX6_hang (wsV RX6 198 RX6 yX6_isTube wsX6_isTube) := goodIn_app (goodIn_of _ (by decide +kernel)) ggX6_hang_X6_isTube
set_option maxRecDepth 20000 in
theorem ggX6_hang_X6_in : GoodIn wsX6_hang wsX6_in := goodIn_r _ [14] rfl (by decide +kernel)
set_option maxRecDepth 20000 in
theorem gX6_hang_X6_in : GoodIn wsX6_hang (va_wsS RX6 57 yX6_in wsX6_in) := goodIn_app (goodIn_of _ (by decide +kernel)) ggX6_hang_X6_in
set_option maxRecDepth 20000 in
theorem ggX6_hang_X6_layThen : GoodIn wsX6_hang wsX6_layThen := goodIn_r _ [18, 6, 5, 46, 47, 48, 49, 50, 51, 52, 53, 54, 55, 56, 57, 58, 59, 60, 61, 62, 63, 64, 65, 66, 67, 68, 69] rfl (by decide +kernel)
set_option maxRecDepth 20000 in
theorem gX6_hang_X6_layThen : GoodIn wsX6_hang (wsV RX6 207 RX6 yX6_layThen wsX6_layThen) := goodIn_app (goodIn_of _ (by decide +kernel)) ggX6_hang_X6_layThen
set_option maxRecDepth 20000 in
theorem ggX6_hang_X6_be : GoodIn wsX6_hang wsX6_be := goodIn_r _ [21] rfl (by decide +kernel)
set_option maxRecDepth 20000 in
theorem gX6_hang_X6_be : GoodIn wsX6_hang (va_wsS RX6 170 yX6_be wsX6_be) := goodIn_app (goodIn_of _ (by decide +kernel)) ggX6_hang_X6_be
set_option maxRecDepth 20000 in
theorem ggX6_hang_X6_minutesOf : GoodIn wsX6_hang wsX6_minutesOf := goodIn_r _ [24, 25, 26, 10, 27, 28, 29, 30, 19, 20, 21, 31, 32, 33, 34, 35, 36, 37, 38, 39, 40, 41, 42, 43, 44, 45] rfl (by decide +kernel)
set_option maxRecDepth 20000 in
theorem gX6_hang_X6_minutesOf : GoodIn wsX6_hang (va_wsS RX6 227 yX6_minutesOf wsX6_minutesOf) := goodIn_app (goodIn_of _ (by decide +kernel)) ggX6_hang_X6_minutesOf
set_option maxRecDepth 20000 in
theorem ggX6_hang_X6_of : GoodIn wsX6_hang wsX6_of := goodIn_r _ [30] rfl (by decide +kernel)
set_option maxRecDepth 20000 in
theorem gX6_hang_X6_of : GoodIn wsX6_hang (va_wsS RX6 155 yX6_of wsX6_of) := goodIn_app (goodIn_of _ (by decide +kernel)) ggX6_hang_X6_of
theorem dX6_hang_0 : decode cX6_hang 0 = .ok (.aload_n 0, 1) := by decide +kernel
theorem dX6_hang_1 : decode cX6_hang 1 = .ok (.iconst 0, 1) := by decide +kernel
theorem dX6_hang_2 : decode cX6_hang 2 = .ok (.putfield 47, 3) := by decide +kernel
theorem dX6_hang_5 : decode cX6_hang 5 = .ok (.aload_n 0, 1) := by decide +kernel
theorem dX6_hang_6 : decode cX6_hang 6 = .ok (.iload_n 1, 1) := by decide +kernel
theorem dX6_hang_7 : decode cX6_hang 7 = .ok (.invokevirtual 198, 3) := by decide +kernel
theorem dX6_hang_10 : decode cX6_hang 10 = .ok (.ifCond .eq 25, 3) := by decide +kernel
theorem dX6_hang_13 : decode cX6_hang 13 = .ok (.iload_n 2, 1) := by decide +kernel
theorem dX6_hang_14 : decode cX6_hang 14 = .ok (.i2l, 1) := by decide +kernel
theorem dX6_hang_15 : decode cX6_hang 15 = .ok (.lconst 1, 1) := by decide +kernel
theorem dX6_hang_16 : decode cX6_hang 16 = .ok (.ldc2_w 235, 3) := by decide +kernel
theorem dX6_hang_19 : decode cX6_hang 19 = .ok (.invokestatic 57, 3) := by decide +kernel
theorem dX6_hang_22 : decode cX6_hang 22 = .ok (.ifCond .eq 13, 3) := by decide +kernel
theorem dX6_hang_25 : decode cX6_hang 25 = .ok (.iload_n 3, 1) := by decide +kernel
theorem dX6_hang_26 : decode cX6_hang 26 = .ok (.i2l, 1) := by decide +kernel
theorem dX6_hang_27 : decode cX6_hang 27 = .ok (.lconst 0, 1) := by decide +kernel
theorem dX6_hang_28 : decode cX6_hang 28 = .ok (.lconst 1, 1) := by decide +kernel
theorem dX6_hang_29 : decode cX6_hang 29 = .ok (.invokestatic 57, 3) := by decide +kernel
theorem dX6_hang_32 : decode cX6_hang 32 = .ok (.ifCond .ne 6, 3) := by decide +kernel
theorem dX6_hang_35 : decode cX6_hang 35 = .ok (.ldc 67, 2) := by decide +kernel
theorem dX6_hang_37 : decode cX6_hang 37 = .ok (.ireturn, 1) := by decide +kernel
theorem dX6_hang_38 : decode cX6_hang 38 = .ok (.ldc 90, 2) := by decide +kernel
theorem dX6_hang_40 : decode cX6_hang 40 = .ok (.istore 4, 2) := by decide +kernel
theorem dX6_hang_42 : decode cX6_hang 42 = .ok (.ldc 90, 2) := by decide +kernel
theorem dX6_hang_44 : decode cX6_hang 44 = .ok (.istore 5, 2) := by decide +kernel
theorem dX6_hang_46 : decode cX6_hang 46 = .ok (.iconst 0, 1) := by decide +kernel
theorem dX6_hang_47 : decode cX6_hang 47 = .ok (.istore 6, 2) := by decide +kernel
theorem dX6_hang_49 : decode cX6_hang 49 = .ok (.iload 6, 2) := by decide +kernel
theorem dX6_hang_51 : decode cX6_hang 51 = .ok (.aload_n 0, 1) := by decide +kernel
theorem dX6_hang_52 : decode cX6_hang 52 = .ok (.getfield 19, 3) := by decide +kernel
theorem dX6_hang_55 : decode cX6_hang 55 = .ok (.iconst 0, 1) := by decide +kernel
theorem dX6_hang_56 : decode cX6_hang 56 = .ok (.iaload, 1) := by decide +kernel
theorem dX6_hang_57 : decode cX6_hang 57 = .ok (.if_icmp .gt 88, 3) := by decide +kernel
theorem dX6_hang_60 : decode cX6_hang 60 = .ok (.aload_n 0, 1) := by decide +kernel
theorem dX6_hang_61 : decode cX6_hang 61 = .ok (.invokevirtual 207, 3) := by decide +kernel
theorem dX6_hang_64 : decode cX6_hang 64 = .ok (.aload_n 0, 1) := by decide +kernel
theorem dX6_hang_65 : decode cX6_hang 65 = .ok (.getfield 25, 3) := by decide +kernel
theorem dX6_hang_68 : decode cX6_hang 68 = .ok (.iload_n 1, 1) := by decide +kernel
theorem dX6_hang_69 : decode cX6_hang 69 = .ok (.iconst 1, 1) := by decide +kernel
theorem dX6_hang_70 : decode cX6_hang 70 = .ok (.iload 6, 2) := by decide +kernel
theorem dX6_hang_72 : decode cX6_hang 72 = .ok (.invokestatic 170, 3) := by decide +kernel
theorem dX6_hang_75 : decode cX6_hang 75 = .ok (.aload_n 0, 1) := by decide +kernel
theorem dX6_hang_76 : decode cX6_hang 76 = .ok (.getfield 25, 3) := by decide +kernel
theorem dX6_hang_79 : decode cX6_hang 79 = .ok (.iload_n 2, 1) := by decide +kernel
theorem dX6_hang_80 : decode cX6_hang 80 = .ok (.invokestatic 227, 3) := by decide +kernel
theorem dX6_hang_83 : decode cX6_hang 83 = .ok (.aload_n 0, 1) := by decide +kernel
theorem dX6_hang_84 : decode cX6_hang 84 = .ok (.getfield 25, 3) := by decide +kernel
theorem dX6_hang_87 : decode cX6_hang 87 = .ok (.iload_n 1, 1) := by decide +kernel
theorem dX6_hang_88 : decode cX6_hang 88 = .ok (.iconst 4, 1) := by decide +kernel
theorem dX6_hang_89 : decode cX6_hang 89 = .ok (.invokestatic 155, 3) := by decide +kernel
theorem dX6_hang_92 : decode cX6_hang 92 = .ok (.iload 5, 2) := by decide +kernel
theorem dX6_hang_94 : decode cX6_hang 94 = .ok (.if_icmp .le 7, 3) := by decide +kernel
theorem dX6_hang_97 : decode cX6_hang 97 = .ok (.iconst 1, 1) := by decide +kernel
theorem dX6_hang_98 : decode cX6_hang 98 = .ok (.goto 4, 3) := by decide +kernel
theorem dX6_hang_101 : decode cX6_hang 101 = .ok (.iconst 0, 1) := by decide +kernel
theorem dX6_hang_102 : decode cX6_hang 102 = .ok (.istore 7, 2) := by decide +kernel
theorem dX6_hang_104 : decode cX6_hang 104 = .ok (.iload 7, 2) := by decide +kernel
theorem dX6_hang_106 : decode cX6_hang 106 = .ok (.ifCond .eq 8, 3) := by decide +kernel
theorem dX6_hang_109 : decode cX6_hang 109 = .ok (.iload 6, 2) := by decide +kernel
theorem dX6_hang_111 : decode cX6_hang 111 = .ok (.goto 5, 3) := by decide +kernel
theorem dX6_hang_114 : decode cX6_hang 114 = .ok (.iload 4, 2) := by decide +kernel
theorem dX6_hang_116 : decode cX6_hang 116 = .ok (.istore 4, 2) := by decide +kernel
theorem dX6_hang_118 : decode cX6_hang 118 = .ok (.iload 7, 2) := by decide +kernel
theorem dX6_hang_120 : decode cX6_hang 120 = .ok (.ifCond .eq 15, 3) := by decide +kernel
theorem dX6_hang_123 : decode cX6_hang 123 = .ok (.aload_n 0, 1) := by decide +kernel
theorem dX6_hang_124 : decode cX6_hang 124 = .ok (.getfield 25, 3) := by decide +kernel
theorem dX6_hang_127 : decode cX6_hang 127 = .ok (.iload_n 1, 1) := by decide +kernel
theorem dX6_hang_128 : decode cX6_hang 128 = .ok (.iconst 4, 1) := by decide +kernel
theorem dX6_hang_129 : decode cX6_hang 129 = .ok (.invokestatic 155, 3) := by decide +kernel
theorem dX6_hang_132 : decode cX6_hang 132 = .ok (.goto 5, 3) := by decide +kernel
theorem dX6_hang_135 : decode cX6_hang 135 = .ok (.iload 5, 2) := by decide +kernel
theorem dX6_hang_137 : decode cX6_hang 137 = .ok (.istore 5, 2) := by decide +kernel
theorem dX6_hang_139 : decode cX6_hang 139 = .ok (.iinc 6 1, 3) := by decide +kernel
theorem dX6_hang_142 : decode cX6_hang 142 = .ok (.goto (-93), 3) := by decide +kernel
theorem dX6_hang_145 : decode cX6_hang 145 = .ok (.iload_n 3, 1) := by decide +kernel
theorem dX6_hang_146 : decode cX6_hang 146 = .ok (.ifCond .ne 8, 3) := by decide +kernel
theorem dX6_hang_149 : decode cX6_hang 149 = .ok (.iload 4, 2) := by decide +kernel
theorem dX6_hang_151 : decode cX6_hang 151 = .ok (.goto 5, 3) := by decide +kernel
theorem dX6_hang_154 : decode cX6_hang 154 = .ok (.iload 5, 2) := by decide +kernel
theorem dX6_hang_156 : decode cX6_hang 156 = .ok (.ireturn, 1) := by decide +kernel
set_option maxRecDepth 20000 in
theorem ggX6_fire_X6_isRoom : GoodIn wsX6_fire wsX6_isRoom := goodIn_r _ [10, 11, 12, 13, 9, 14, 46, 47, 48, 49, 50, 51, 52, 53, 54, 55, 56, 57, 58, 59, 60, 61, 62, 63, 64, 65, 66, 67, 68, 69] rfl (by decide +kernel)
set_option maxRecDepth 20000 in
theorem gX6_fire_X6_isRoom : GoodIn wsX6_fire (wsV RX6 213 RX6 yX6_isRoom wsX6_isRoom) := goodIn_app (goodIn_of _ (by decide +kernel)) ggX6_fire_X6_isRoom
set_option maxRecDepth 20000 in
theorem ggX6_fire_X6_in : GoodIn wsX6_fire wsX6_in := goodIn_r _ [14] rfl (by decide +kernel)
set_option maxRecDepth 20000 in
theorem gX6_fire_X6_in : GoodIn wsX6_fire (va_wsS RX6 57 yX6_in wsX6_in) := goodIn_app (goodIn_of _ (by decide +kernel)) ggX6_fire_X6_in
set_option maxRecDepth 20000 in
theorem ggX6_fire_X6_layThen : GoodIn wsX6_fire wsX6_layThen := goodIn_r _ [18, 4, 11, 46, 47, 48, 49, 50, 51, 52, 53, 54, 55, 56, 57, 58, 59, 60, 61, 62, 63, 64, 65, 66, 67, 68, 69] rfl (by decide +kernel)
set_option maxRecDepth 20000 in
theorem gX6_fire_X6_layThen : GoodIn wsX6_fire (wsV RX6 207 RX6 yX6_layThen wsX6_layThen) := goodIn_app (goodIn_of _ (by decide +kernel)) ggX6_fire_X6_layThen
set_option maxRecDepth 20000 in
theorem ggX6_fire_X6_minutesOf : GoodIn wsX6_fire wsX6_minutesOf := goodIn_r _ [21, 22, 23, 9, 24, 25, 26, 27, 28, 29, 30, 31, 32, 33, 34, 35, 36, 37, 38, 39, 40, 41, 42, 43, 44, 45] rfl (by decide +kernel)
set_option maxRecDepth 20000 in
theorem gX6_fire_X6_minutesOf : GoodIn wsX6_fire (va_wsS RX6 227 yX6_minutesOf wsX6_minutesOf) := goodIn_app (goodIn_of _ (by decide +kernel)) ggX6_fire_X6_minutesOf
set_option maxRecDepth 20000 in
theorem ggX6_fire_X6_isCold : GoodIn wsX6_fire wsX6_isCold := goodIn_r _ [45, 34, 35, 9, 36] rfl (by decide +kernel)
set_option maxRecDepth 20000 in
theorem gX6_fire_X6_isCold : GoodIn wsX6_fire (va_wsS RX6 167 yX6_isCold wsX6_isCold) := goodIn_app (goodIn_of _ (by decide +kernel)) ggX6_fire_X6_isCold
theorem dX6_fire_0 : decode cX6_fire 0 = .ok (.aload_n 0, 1) := by decide +kernel
theorem dX6_fire_1 : decode cX6_fire 1 = .ok (.iconst 0, 1) := by decide +kernel
theorem dX6_fire_2 : decode cX6_fire 2 = .ok (.putfield 47, 3) := by decide +kernel
theorem dX6_fire_5 : decode cX6_fire 5 = .ok (.aload_n 0, 1) := by decide +kernel
theorem dX6_fire_6 : decode cX6_fire 6 = .ok (.iload_n 1, 1) := by decide +kernel
theorem dX6_fire_7 : decode cX6_fire 7 = .ok (.invokevirtual 213, 3) := by decide +kernel
theorem dX6_fire_10 : decode cX6_fire 10 = .ok (.ifCond .eq 15, 3) := by decide +kernel
theorem dX6_fire_13 : decode cX6_fire 13 = .ok (.iload_n 2, 1) := by decide +kernel
theorem dX6_fire_14 : decode cX6_fire 14 = .ok (.i2l, 1) := by decide +kernel
theorem dX6_fire_15 : decode cX6_fire 15 = .ok (.lconst 1, 1) := by decide +kernel
theorem dX6_fire_16 : decode cX6_fire 16 = .ok (.ldc2_w 235, 3) := by decide +kernel
theorem dX6_fire_19 : decode cX6_fire 19 = .ok (.invokestatic 57, 3) := by decide +kernel
theorem dX6_fire_22 : decode cX6_fire 22 = .ok (.ifCond .ne 6, 3) := by decide +kernel
theorem dX6_fire_25 : decode cX6_fire 25 = .ok (.ldc 67, 2) := by decide +kernel
theorem dX6_fire_27 : decode cX6_fire 27 = .ok (.ireturn, 1) := by decide +kernel
theorem dX6_fire_28 : decode cX6_fire 28 = .ok (.iconst 0, 1) := by decide +kernel
theorem dX6_fire_29 : decode cX6_fire 29 = .ok (.istore_n 3, 1) := by decide +kernel
theorem dX6_fire_30 : decode cX6_fire 30 = .ok (.iload_n 3, 1) := by decide +kernel
theorem dX6_fire_31 : decode cX6_fire 31 = .ok (.bipush 20, 2) := by decide +kernel
theorem dX6_fire_33 : decode cX6_fire 33 = .ok (.if_icmp .gt 47, 3) := by decide +kernel
theorem dX6_fire_36 : decode cX6_fire 36 = .ok (.aload_n 0, 1) := by decide +kernel
theorem dX6_fire_37 : decode cX6_fire 37 = .ok (.invokevirtual 207, 3) := by decide +kernel
theorem dX6_fire_40 : decode cX6_fire 40 = .ok (.aload_n 0, 1) := by decide +kernel
theorem dX6_fire_41 : decode cX6_fire 41 = .ok (.getfield 25, 3) := by decide +kernel
theorem dX6_fire_44 : decode cX6_fire 44 = .ok (.iconst 5, 1) := by decide +kernel
theorem dX6_fire_45 : decode cX6_fire 45 = .ok (.iconst 2, 1) := by decide +kernel
theorem dX6_fire_46 : decode cX6_fire 46 = .ok (.iload_n 1, 1) := by decide +kernel
theorem dX6_fire_47 : decode cX6_fire 47 = .ok (.imul, 1) := by decide +kernel
theorem dX6_fire_48 : decode cX6_fire 48 = .ok (.iadd, 1) := by decide +kernel
theorem dX6_fire_49 : decode cX6_fire 49 = .ok (.iconst 1, 1) := by decide +kernel
theorem dX6_fire_50 : decode cX6_fire 50 = .ok (.iadd, 1) := by decide +kernel
theorem dX6_fire_51 : decode cX6_fire 51 = .ok (.iload_n 3, 1) := by decide +kernel
theorem dX6_fire_52 : decode cX6_fire 52 = .ok (.iastore, 1) := by decide +kernel
theorem dX6_fire_53 : decode cX6_fire 53 = .ok (.aload_n 0, 1) := by decide +kernel
theorem dX6_fire_54 : decode cX6_fire 54 = .ok (.getfield 25, 3) := by decide +kernel
theorem dX6_fire_57 : decode cX6_fire 57 = .ok (.iload_n 2, 1) := by decide +kernel
theorem dX6_fire_58 : decode cX6_fire 58 = .ok (.invokestatic 227, 3) := by decide +kernel
theorem dX6_fire_61 : decode cX6_fire 61 = .ok (.aload_n 0, 1) := by decide +kernel
theorem dX6_fire_62 : decode cX6_fire 62 = .ok (.getfield 25, 3) := by decide +kernel
theorem dX6_fire_65 : decode cX6_fire 65 = .ok (.iload_n 1, 1) := by decide +kernel
theorem dX6_fire_66 : decode cX6_fire 66 = .ok (.invokestatic 167, 3) := by decide +kernel
theorem dX6_fire_69 : decode cX6_fire 69 = .ok (.ifCond .ne 5, 3) := by decide +kernel
theorem dX6_fire_72 : decode cX6_fire 72 = .ok (.iload_n 3, 1) := by decide +kernel
theorem dX6_fire_73 : decode cX6_fire 73 = .ok (.ireturn, 1) := by decide +kernel
theorem dX6_fire_74 : decode cX6_fire 74 = .ok (.iinc 3 1, 3) := by decide +kernel
theorem dX6_fire_77 : decode cX6_fire 77 = .ok (.goto (-47), 3) := by decide +kernel
theorem dX6_fire_80 : decode cX6_fire 80 = .ok (.ldc 90, 2) := by decide +kernel
theorem dX6_fire_82 : decode cX6_fire 82 = .ok (.ireturn, 1) := by decide +kernel
set_option maxRecDepth 20000 in
theorem ggX6_doPour_X6_layThen : GoodIn wsX6_doPour wsX6_layThen := goodIn_r _ [8, 3, 2, 18, 19, 20, 21, 22, 23, 24, 25, 26, 27, 28, 29, 30, 31, 32, 33, 34, 35, 36, 37, 38, 39, 40, 41] rfl (by decide +kernel)
set_option maxRecDepth 20000 in
theorem gX6_doPour_X6_layThen : GoodIn wsX6_doPour (wsV RX6 207 RX6 yX6_layThen wsX6_layThen) := goodIn_app (goodIn_of _ (by decide +kernel)) ggX6_doPour_X6_layThen
set_option maxRecDepth 20000 in
theorem ggX6_doPour_X6_of : GoodIn wsX6_doPour wsX6_of := goodIn_r _ [11] rfl (by decide +kernel)
set_option maxRecDepth 20000 in
theorem gX6_doPour_X6_of : GoodIn wsX6_doPour (va_wsS RX6 155 yX6_of wsX6_of) := goodIn_app (goodIn_of _ (by decide +kernel)) ggX6_doPour_X6_of
set_option maxRecDepth 20000 in
theorem ggX6_doPour_X6_poured : GoodIn wsX6_doPour wsX6_poured := goodIn_r _ [14, 9, 10, 7, 11, 15, 16, 17] rfl (by decide +kernel)
set_option maxRecDepth 20000 in
theorem gX6_doPour_X6_poured : GoodIn wsX6_doPour (va_wsS RX6 210 yX6_poured wsX6_poured) := goodIn_app (goodIn_of _ (by decide +kernel)) ggX6_doPour_X6_poured
theorem dX6_doPour_0 : decode cX6_doPour 0 = .ok (.aload_n 0, 1) := by decide +kernel
theorem dX6_doPour_1 : decode cX6_doPour 1 = .ok (.invokevirtual 207, 3) := by decide +kernel
theorem dX6_doPour_4 : decode cX6_doPour 4 = .ok (.iconst 1, 1) := by decide +kernel
theorem dX6_doPour_5 : decode cX6_doPour 5 = .ok (.istore 4, 2) := by decide +kernel
theorem dX6_doPour_7 : decode cX6_doPour 7 = .ok (.iconst 0, 1) := by decide +kernel
theorem dX6_doPour_8 : decode cX6_doPour 8 = .ok (.istore 5, 2) := by decide +kernel
theorem dX6_doPour_10 : decode cX6_doPour 10 = .ok (.iload 5, 2) := by decide +kernel
theorem dX6_doPour_12 : decode cX6_doPour 12 = .ok (.iload_n 3, 1) := by decide +kernel
theorem dX6_doPour_13 : decode cX6_doPour 13 = .ok (.if_icmp .ge 110, 3) := by decide +kernel
theorem dX6_doPour_16 : decode cX6_doPour 16 = .ok (.aload_n 0, 1) := by decide +kernel
theorem dX6_doPour_17 : decode cX6_doPour 17 = .ok (.getfield 34, 3) := by decide +kernel
theorem dX6_doPour_20 : decode cX6_doPour 20 = .ok (.iload 5, 2) := by decide +kernel
theorem dX6_doPour_22 : decode cX6_doPour 22 = .ok (.iaload, 1) := by decide +kernel
theorem dX6_doPour_23 : decode cX6_doPour 23 = .ok (.bipush 6, 2) := by decide +kernel
theorem dX6_doPour_25 : decode cX6_doPour 25 = .ok (.idiv, 1) := by decide +kernel
theorem dX6_doPour_26 : decode cX6_doPour 26 = .ok (.istore 6, 2) := by decide +kernel
theorem dX6_doPour_28 : decode cX6_doPour 28 = .ok (.aload_n 0, 1) := by decide +kernel
theorem dX6_doPour_29 : decode cX6_doPour 29 = .ok (.getfield 34, 3) := by decide +kernel
theorem dX6_doPour_32 : decode cX6_doPour 32 = .ok (.iload 5, 2) := by decide +kernel
theorem dX6_doPour_34 : decode cX6_doPour 34 = .ok (.iaload, 1) := by decide +kernel
theorem dX6_doPour_35 : decode cX6_doPour 35 = .ok (.bipush 6, 2) := by decide +kernel
theorem dX6_doPour_37 : decode cX6_doPour 37 = .ok (.irem, 1) := by decide +kernel
theorem dX6_doPour_38 : decode cX6_doPour 38 = .ok (.istore 7, 2) := by decide +kernel
theorem dX6_doPour_40 : decode cX6_doPour 40 = .ok (.iload 4, 2) := by decide +kernel
theorem dX6_doPour_42 : decode cX6_doPour 42 = .ok (.ifCond .eq 72, 3) := by decide +kernel
theorem dX6_doPour_45 : decode cX6_doPour 45 = .ok (.iload 6, 2) := by decide +kernel
theorem dX6_doPour_47 : decode cX6_doPour 47 = .ok (.iload 7, 2) := by decide +kernel
theorem dX6_doPour_49 : decode cX6_doPour 49 = .ok (.if_icmp .eq 65, 3) := by decide +kernel
theorem dX6_doPour_52 : decode cX6_doPour 52 = .ok (.iload 6, 2) := by decide +kernel
theorem dX6_doPour_54 : decode cX6_doPour 54 = .ok (.aload_n 0, 1) := by decide +kernel
theorem dX6_doPour_55 : decode cX6_doPour 55 = .ok (.getfield 19, 3) := by decide +kernel
theorem dX6_doPour_58 : decode cX6_doPour 58 = .ok (.iconst 1, 1) := by decide +kernel
theorem dX6_doPour_59 : decode cX6_doPour 59 = .ok (.iaload, 1) := by decide +kernel
theorem dX6_doPour_60 : decode cX6_doPour 60 = .ok (.if_icmp .ge 54, 3) := by decide +kernel
theorem dX6_doPour_63 : decode cX6_doPour 63 = .ok (.iload 7, 2) := by decide +kernel
theorem dX6_doPour_65 : decode cX6_doPour 65 = .ok (.aload_n 0, 1) := by decide +kernel
theorem dX6_doPour_66 : decode cX6_doPour 66 = .ok (.getfield 19, 3) := by decide +kernel
theorem dX6_doPour_69 : decode cX6_doPour 69 = .ok (.iconst 1, 1) := by decide +kernel
theorem dX6_doPour_70 : decode cX6_doPour 70 = .ok (.iaload, 1) := by decide +kernel
theorem dX6_doPour_71 : decode cX6_doPour 71 = .ok (.if_icmp .ge 43, 3) := by decide +kernel
theorem dX6_doPour_74 : decode cX6_doPour 74 = .ok (.aload_n 0, 1) := by decide +kernel
theorem dX6_doPour_75 : decode cX6_doPour 75 = .ok (.getfield 19, 3) := by decide +kernel
theorem dX6_doPour_78 : decode cX6_doPour 78 = .ok (.iload 6, 2) := by decide +kernel
theorem dX6_doPour_80 : decode cX6_doPour 80 = .ok (.iconst 1, 1) := by decide +kernel
theorem dX6_doPour_81 : decode cX6_doPour 81 = .ok (.invokestatic 155, 3) := by decide +kernel
theorem dX6_doPour_84 : decode cX6_doPour 84 = .ok (.aload_n 0, 1) := by decide +kernel
theorem dX6_doPour_85 : decode cX6_doPour 85 = .ok (.getfield 19, 3) := by decide +kernel
theorem dX6_doPour_88 : decode cX6_doPour 88 = .ok (.iload_n 1, 1) := by decide +kernel
theorem dX6_doPour_89 : decode cX6_doPour 89 = .ok (.iconst 1, 1) := by decide +kernel
theorem dX6_doPour_90 : decode cX6_doPour 90 = .ok (.invokestatic 155, 3) := by decide +kernel
theorem dX6_doPour_93 : decode cX6_doPour 93 = .ok (.if_icmp .ne 21, 3) := by decide +kernel
theorem dX6_doPour_96 : decode cX6_doPour 96 = .ok (.aload_n 0, 1) := by decide +kernel
theorem dX6_doPour_97 : decode cX6_doPour 97 = .ok (.getfield 25, 3) := by decide +kernel
theorem dX6_doPour_100 : decode cX6_doPour 100 = .ok (.iload 6, 2) := by decide +kernel
theorem dX6_doPour_102 : decode cX6_doPour 102 = .ok (.iload 7, 2) := by decide +kernel
theorem dX6_doPour_104 : decode cX6_doPour 104 = .ok (.invokestatic 210, 3) := by decide +kernel
theorem dX6_doPour_107 : decode cX6_doPour 107 = .ok (.ifCond .le 7, 3) := by decide +kernel
theorem dX6_doPour_110 : decode cX6_doPour 110 = .ok (.iconst 1, 1) := by decide +kernel
theorem dX6_doPour_111 : decode cX6_doPour 111 = .ok (.goto 4, 3) := by decide +kernel
theorem dX6_doPour_114 : decode cX6_doPour 114 = .ok (.iconst 0, 1) := by decide +kernel
theorem dX6_doPour_115 : decode cX6_doPour 115 = .ok (.istore 4, 2) := by decide +kernel
theorem dX6_doPour_117 : decode cX6_doPour 117 = .ok (.iinc 5 1, 3) := by decide +kernel
theorem dX6_doPour_120 : decode cX6_doPour 120 = .ok (.goto (-110), 3) := by decide +kernel
theorem dX6_doPour_123 : decode cX6_doPour 123 = .ok (.iload 4, 2) := by decide +kernel
theorem dX6_doPour_125 : decode cX6_doPour 125 = .ok (.ifCond .eq 20, 3) := by decide +kernel
theorem dX6_doPour_128 : decode cX6_doPour 128 = .ok (.aload_n 0, 1) := by decide +kernel
theorem dX6_doPour_129 : decode cX6_doPour 129 = .ok (.getfield 25, 3) := by decide +kernel
theorem dX6_doPour_132 : decode cX6_doPour 132 = .ok (.iload_n 1, 1) := by decide +kernel
theorem dX6_doPour_133 : decode cX6_doPour 133 = .ok (.iconst 4, 1) := by decide +kernel
theorem dX6_doPour_134 : decode cX6_doPour 134 = .ok (.invokestatic 155, 3) := by decide +kernel
theorem dX6_doPour_137 : decode cX6_doPour 137 = .ok (.iload_n 2, 1) := by decide +kernel
theorem dX6_doPour_138 : decode cX6_doPour 138 = .ok (.if_icmp .ne 7, 3) := by decide +kernel
theorem dX6_doPour_141 : decode cX6_doPour 141 = .ok (.iconst 1, 1) := by decide +kernel
theorem dX6_doPour_142 : decode cX6_doPour 142 = .ok (.goto 4, 3) := by decide +kernel
theorem dX6_doPour_145 : decode cX6_doPour 145 = .ok (.iconst 0, 1) := by decide +kernel
theorem dX6_doPour_146 : decode cX6_doPour 146 = .ok (.ireturn, 1) := by decide +kernel
set_option maxRecDepth 20000 in
theorem ggX6_pours_X6_isTube : GoodIn wsX6_pours wsX6_isTube := goodIn_r _ [10, 11, 12, 13, 9, 14, 33, 34, 35, 36, 37, 38, 39, 40, 41, 42, 43, 44, 45, 46, 47, 48, 49, 50, 51, 52, 53, 54, 55, 56] rfl (by decide +kernel)
set_option maxRecDepth 20000 in
theorem gX6_pours_X6_isTube : GoodIn wsX6_pours (wsV RX6 198 RX6 yX6_isTube wsX6_isTube) := goodIn_app (goodIn_of _ (by decide +kernel)) ggX6_pours_X6_isTube
set_option maxRecDepth 20000 in
theorem ggX6_pours_X6_in : GoodIn wsX6_pours wsX6_in := goodIn_r _ [14] rfl (by decide +kernel)
set_option maxRecDepth 20000 in
theorem gX6_pours_X6_in : GoodIn wsX6_pours (va_wsS RX6 57 yX6_in wsX6_in) := goodIn_app (goodIn_of _ (by decide +kernel)) ggX6_pours_X6_in
set_option maxRecDepth 20000 in
theorem ggX6_pours_X6_doPour : GoodIn wsX6_pours wsX6_doPour := goodIn_r _ [18, 4, 11, 19, 20, 21, 22, 9, 23, 24, 25, 26, 27, 28, 29, 30, 31, 32, 33, 34, 35, 36, 37, 38, 39, 40, 41, 42, 43, 44, 45, 46, 47, 48, 49, 50, 51, 52, 53, 54, 55, 56] rfl (by decide +kernel)
set_option maxRecDepth 20000 in
theorem gX6_pours_X6_doPour : GoodIn wsX6_pours (wsV RX6 252 RX6 yX6_doPour wsX6_doPour) := goodIn_app (goodIn_of _ (by decide +kernel)) ggX6_pours_X6_doPour
theorem dX6_pours_0 : decode cX6_pours 0 = .ok (.aload_n 0, 1) := by decide +kernel
theorem dX6_pours_1 : decode cX6_pours 1 = .ok (.iconst 0, 1) := by decide +kernel
theorem dX6_pours_2 : decode cX6_pours 2 = .ok (.putfield 47, 3) := by decide +kernel
theorem dX6_pours_5 : decode cX6_pours 5 = .ok (.aload_n 0, 1) := by decide +kernel
theorem dX6_pours_6 : decode cX6_pours 6 = .ok (.iload_n 1, 1) := by decide +kernel
theorem dX6_pours_7 : decode cX6_pours 7 = .ok (.invokevirtual 198, 3) := by decide +kernel
theorem dX6_pours_10 : decode cX6_pours 10 = .ok (.ifCond .eq 20, 3) := by decide +kernel
theorem dX6_pours_13 : decode cX6_pours 13 = .ok (.iload_n 2, 1) := by decide +kernel
theorem dX6_pours_14 : decode cX6_pours 14 = .ok (.i2l, 1) := by decide +kernel
theorem dX6_pours_15 : decode cX6_pours 15 = .ok (.lconst 0, 1) := by decide +kernel
theorem dX6_pours_16 : decode cX6_pours 16 = .ok (.ldc2_w 250, 3) := by decide +kernel
theorem dX6_pours_19 : decode cX6_pours 19 = .ok (.invokestatic 57, 3) := by decide +kernel
theorem dX6_pours_22 : decode cX6_pours 22 = .ok (.ifCond .eq 8, 3) := by decide +kernel
theorem dX6_pours_25 : decode cX6_pours 25 = .ok (.iload_n 3, 1) := by decide +kernel
theorem dX6_pours_26 : decode cX6_pours 26 = .ok (.iconst (-1), 1) := by decide +kernel
theorem dX6_pours_27 : decode cX6_pours 27 = .ok (.if_icmp .ge 6, 3) := by decide +kernel
theorem dX6_pours_30 : decode cX6_pours 30 = .ok (.ldc 67, 2) := by decide +kernel
theorem dX6_pours_32 : decode cX6_pours 32 = .ok (.ireturn, 1) := by decide +kernel
theorem dX6_pours_33 : decode cX6_pours 33 = .ok (.iconst 1, 1) := by decide +kernel
theorem dX6_pours_34 : decode cX6_pours 34 = .ok (.istore 4, 2) := by decide +kernel
theorem dX6_pours_36 : decode cX6_pours 36 = .ok (.iconst 0, 1) := by decide +kernel
theorem dX6_pours_37 : decode cX6_pours 37 = .ok (.istore 5, 2) := by decide +kernel
theorem dX6_pours_39 : decode cX6_pours 39 = .ok (.iload 5, 2) := by decide +kernel
theorem dX6_pours_41 : decode cX6_pours 41 = .ok (.iconst 3, 1) := by decide +kernel
theorem dX6_pours_42 : decode cX6_pours 42 = .ok (.if_icmp .gt 127, 3) := by decide +kernel
theorem dX6_pours_45 : decode cX6_pours 45 = .ok (.iconst 0, 1) := by decide +kernel
theorem dX6_pours_46 : decode cX6_pours 46 = .ok (.istore 6, 2) := by decide +kernel
theorem dX6_pours_48 : decode cX6_pours 48 = .ok (.iload 6, 2) := by decide +kernel
theorem dX6_pours_50 : decode cX6_pours 50 = .ok (.iload 4, 2) := by decide +kernel
theorem dX6_pours_52 : decode cX6_pours 52 = .ok (.if_icmp .ge 104, 3) := by decide +kernel
theorem dX6_pours_55 : decode cX6_pours 55 = .ok (.iload 6, 2) := by decide +kernel
theorem dX6_pours_57 : decode cX6_pours 57 = .ok (.istore 7, 2) := by decide +kernel
theorem dX6_pours_59 : decode cX6_pours 59 = .ok (.iload 5, 2) := by decide +kernel
theorem dX6_pours_61 : decode cX6_pours 61 = .ok (.iconst 1, 1) := by decide +kernel
theorem dX6_pours_62 : decode cX6_pours 62 = .ok (.isub, 1) := by decide +kernel
theorem dX6_pours_63 : decode cX6_pours 63 = .ok (.istore 8, 2) := by decide +kernel
theorem dX6_pours_65 : decode cX6_pours 65 = .ok (.iload 8, 2) := by decide +kernel
theorem dX6_pours_67 : decode cX6_pours 67 = .ok (.ifCond .lt 28, 3) := by decide +kernel
theorem dX6_pours_70 : decode cX6_pours 70 = .ok (.aload_n 0, 1) := by decide +kernel
theorem dX6_pours_71 : decode cX6_pours 71 = .ok (.getfield 34, 3) := by decide +kernel
theorem dX6_pours_74 : decode cX6_pours 74 = .ok (.iload 8, 2) := by decide +kernel
theorem dX6_pours_76 : decode cX6_pours 76 = .ok (.iload 7, 2) := by decide +kernel
theorem dX6_pours_78 : decode cX6_pours 78 = .ok (.bipush 36, 2) := by decide +kernel
theorem dX6_pours_80 : decode cX6_pours 80 = .ok (.irem, 1) := by decide +kernel
theorem dX6_pours_81 : decode cX6_pours 81 = .ok (.iastore, 1) := by decide +kernel
theorem dX6_pours_82 : decode cX6_pours 82 = .ok (.iload 7, 2) := by decide +kernel
theorem dX6_pours_84 : decode cX6_pours 84 = .ok (.bipush 36, 2) := by decide +kernel
theorem dX6_pours_86 : decode cX6_pours 86 = .ok (.idiv, 1) := by decide +kernel
theorem dX6_pours_87 : decode cX6_pours 87 = .ok (.istore 7, 2) := by decide +kernel
theorem dX6_pours_89 : decode cX6_pours 89 = .ok (.iinc 8 (-1), 3) := by decide +kernel
theorem dX6_pours_92 : decode cX6_pours 92 = .ok (.goto (-27), 3) := by decide +kernel
theorem dX6_pours_95 : decode cX6_pours 95 = .ok (.aload_n 0, 1) := by decide +kernel
theorem dX6_pours_96 : decode cX6_pours 96 = .ok (.iload_n 1, 1) := by decide +kernel
theorem dX6_pours_97 : decode cX6_pours 97 = .ok (.iload_n 2, 1) := by decide +kernel
theorem dX6_pours_98 : decode cX6_pours 98 = .ok (.iload 5, 2) := by decide +kernel
theorem dX6_pours_100 : decode cX6_pours 100 = .ok (.invokevirtual 252, 3) := by decide +kernel
theorem dX6_pours_103 : decode cX6_pours 103 = .ok (.ifCond .eq 47, 3) := by decide +kernel
theorem dX6_pours_106 : decode cX6_pours 106 = .ok (.iload_n 3, 1) := by decide +kernel
theorem dX6_pours_107 : decode cX6_pours 107 = .ok (.iconst (-1), 1) := by decide +kernel
theorem dX6_pours_108 : decode cX6_pours 108 = .ok (.if_icmp .ne 8, 3) := by decide +kernel
theorem dX6_pours_111 : decode cX6_pours 111 = .ok (.iload 5, 2) := by decide +kernel
theorem dX6_pours_113 : decode cX6_pours 113 = .ok (.goto 36, 3) := by decide +kernel
theorem dX6_pours_116 : decode cX6_pours 116 = .ok (.iload_n 3, 1) := by decide +kernel
theorem dX6_pours_117 : decode cX6_pours 117 = .ok (.iload 5, 2) := by decide +kernel
theorem dX6_pours_119 : decode cX6_pours 119 = .ok (.if_icmp .ge 28, 3) := by decide +kernel
theorem dX6_pours_122 : decode cX6_pours 122 = .ok (.bipush 10, 2) := by decide +kernel
theorem dX6_pours_124 : decode cX6_pours 124 = .ok (.aload_n 0, 1) := by decide +kernel
theorem dX6_pours_125 : decode cX6_pours 125 = .ok (.getfield 34, 3) := by decide +kernel
theorem dX6_pours_128 : decode cX6_pours 128 = .ok (.iload_n 3, 1) := by decide +kernel
theorem dX6_pours_129 : decode cX6_pours 129 = .ok (.iaload, 1) := by decide +kernel
theorem dX6_pours_130 : decode cX6_pours 130 = .ok (.bipush 6, 2) := by decide +kernel
theorem dX6_pours_132 : decode cX6_pours 132 = .ok (.idiv, 1) := by decide +kernel
theorem dX6_pours_133 : decode cX6_pours 133 = .ok (.imul, 1) := by decide +kernel
theorem dX6_pours_134 : decode cX6_pours 134 = .ok (.aload_n 0, 1) := by decide +kernel
theorem dX6_pours_135 : decode cX6_pours 135 = .ok (.getfield 34, 3) := by decide +kernel
theorem dX6_pours_138 : decode cX6_pours 138 = .ok (.iload_n 3, 1) := by decide +kernel
theorem dX6_pours_139 : decode cX6_pours 139 = .ok (.iaload, 1) := by decide +kernel
theorem dX6_pours_140 : decode cX6_pours 140 = .ok (.bipush 6, 2) := by decide +kernel
theorem dX6_pours_142 : decode cX6_pours 142 = .ok (.irem, 1) := by decide +kernel
theorem dX6_pours_143 : decode cX6_pours 143 = .ok (.iadd, 1) := by decide +kernel
theorem dX6_pours_144 : decode cX6_pours 144 = .ok (.goto 5, 3) := by decide +kernel
theorem dX6_pours_147 : decode cX6_pours 147 = .ok (.ldc 90, 2) := by decide +kernel
theorem dX6_pours_149 : decode cX6_pours 149 = .ok (.ireturn, 1) := by decide +kernel
theorem dX6_pours_150 : decode cX6_pours 150 = .ok (.iinc 6 1, 3) := by decide +kernel
theorem dX6_pours_153 : decode cX6_pours 153 = .ok (.goto (-105), 3) := by decide +kernel
theorem dX6_pours_156 : decode cX6_pours 156 = .ok (.iload 4, 2) := by decide +kernel
