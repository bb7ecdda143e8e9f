theorem dX3_number_44 : decode cX3_number 44 = .ok (.bipush 48, 2) := by decide +kernel
theorem dX3_number_46 : decode cX3_number 46 = .ok (.isub, 1) := by decide +kernel
theorem dX3_number_47 : decode cX3_number 47 = .ok (.istore 4, 2) := by decide +kernel
theorem dX3_number_49 : decode cX3_number 49 = .ok (.iinc 3 1, 3) := by decide +kernel
theorem dX3_number_52 : decode cX3_number 52 = .ok (.aload_n 0, 1) := by decide +kernel
theorem dX3_number_53 : decode cX3_number 53 = .ok (.dup, 1) := by decide +kernel
theorem dX3_number_54 : decode cX3_number 54 = .ok (.getfield 25, 3) := by decide +kernel
theorem dX3_number_57 : decode cX3_number 57 = .ok (.iconst 1, 1) := by decide +kernel
theorem dX3_number_58 : decode cX3_number 58 = .ok (.iadd, 1) := by decide +kernel
theorem dX3_number_59 : decode cX3_number 59 = .ok (.putfield 25, 3) := by decide +kernel
theorem dX3_number_62 : decode cX3_number 62 = .ok (.goto (-51), 3) := by decide +kernel
theorem dX3_number_65 : decode cX3_number 65 = .ok (.iload_n 3, 1) := by decide +kernel
theorem dX3_number_66 : decode cX3_number 66 = .ok (.iconst 1, 1) := by decide +kernel
theorem dX3_number_67 : decode cX3_number 67 = .ok (.if_icmp .eq 8, 3) := by decide +kernel
theorem dX3_number_70 : decode cX3_number 70 = .ok (.iload_n 3, 1) := by decide +kernel
theorem dX3_number_71 : decode cX3_number 71 = .ok (.iconst 2, 1) := by decide +kernel
theorem dX3_number_72 : decode cX3_number 72 = .ok (.if_icmp .ne 7, 3) := by decide +kernel
theorem dX3_number_75 : decode cX3_number 75 = .ok (.iconst 1, 1) := by decide +kernel
theorem dX3_number_76 : decode cX3_number 76 = .ok (.goto 4, 3) := by decide +kernel
theorem dX3_number_79 : decode cX3_number 79 = .ok (.iconst 0, 1) := by decide +kernel
theorem dX3_number_80 : decode cX3_number 80 = .ok (.istore 6, 2) := by decide +kernel
theorem dX3_number_82 : decode cX3_number 82 = .ok (.iload 6, 2) := by decide +kernel
theorem dX3_number_84 : decode cX3_number 84 = .ok (.ifCond .eq 16, 3) := by decide +kernel
theorem dX3_number_87 : decode cX3_number 87 = .ok (.iload 4, 2) := by decide +kernel
theorem dX3_number_89 : decode cX3_number 89 = .ok (.iload_n 1, 1) := by decide +kernel
theorem dX3_number_90 : decode cX3_number 90 = .ok (.iload_n 2, 1) := by decide +kernel
theorem dX3_number_91 : decode cX3_number 91 = .ok (.invokestatic 102, 3) := by decide +kernel
theorem dX3_number_94 : decode cX3_number 94 = .ok (.ifCond .eq 6, 3) := by decide +kernel
theorem dX3_number_97 : decode cX3_number 97 = .ok (.iload 4, 2) := by decide +kernel
theorem dX3_number_99 : decode cX3_number 99 = .ok (.ireturn, 1) := by decide +kernel
theorem dX3_number_100 : decode cX3_number 100 = .ok (.aload_n 0, 1) := by decide +kernel
theorem dX3_number_101 : decode cX3_number 101 = .ok (.iload 5, 2) := by decide +kernel
theorem dX3_number_103 : decode cX3_number 103 = .ok (.putfield 25, 3) := by decide +kernel
theorem dX3_number_106 : decode cX3_number 106 = .ok (.aload_n 0, 1) := by decide +kernel
theorem dX3_number_107 : decode cX3_number 107 = .ok (.iload 6, 2) := by decide +kernel
theorem dX3_number_109 : decode cX3_number 109 = .ok (.ifCond .eq 7, 3) := by decide +kernel
theorem dX3_number_112 : decode cX3_number 112 = .ok (.iconst 2, 1) := by decide +kernel
theorem dX3_number_113 : decode cX3_number 113 = .ok (.goto 4, 3) := by decide +kernel
theorem dX3_number_116 : decode cX3_number 116 = .ok (.iconst 1, 1) := by decide +kernel
theorem dX3_number_117 : decode cX3_number 117 = .ok (.invokevirtual 67, 3) := by decide +kernel
theorem dX3_number_120 : decode cX3_number 120 = .ok (.pop, 1) := by decide +kernel
theorem dX3_number_121 : decode cX3_number 121 = .ok (.iconst (-1), 1) := by decide +kernel
theorem dX3_number_122 : decode cX3_number 122 = .ok (.ireturn, 1) := by decide +kernel
theorem dX4_init_0 : decode cX4_init 0 = .ok (.aload_n 0, 1) := by decide +kernel
theorem dX4_init_1 : decode cX4_init 1 = .ok (.invokespecial 1, 3) := by decide +kernel
theorem dX4_init_4 : decode cX4_init 4 = .ok (.aload_n 0, 1) := by decide +kernel
theorem dX4_init_5 : decode cX4_init 5 = .ok (.bipush 16, 2) := by decide +kernel
theorem dX4_init_7 : decode cX4_init 7 = .ok (.newarray .int, 2) := by decide +kernel
theorem dX4_init_9 : decode cX4_init 9 = .ok (.putfield 9, 3) := by decide +kernel
theorem dX4_init_12 : decode cX4_init 12 = .ok (.aload_n 0, 1) := by decide +kernel
theorem dX4_init_13 : decode cX4_init 13 = .ok (.iconst 0, 1) := by decide +kernel
theorem dX4_init_14 : decode cX4_init 14 = .ok (.putfield 13, 3) := by decide +kernel
theorem dX4_init_17 : decode cX4_init 17 = .ok (.return_, 1) := by decide +kernel
theorem dX4_leave_0 : decode cX4_leave 0 = .ok (.aload_n 0, 1) := by decide +kernel
theorem dX4_leave_1 : decode cX4_leave 1 = .ok (.getfield 13, 3) := by decide +kernel
theorem dX4_leave_4 : decode cX4_leave 4 = .ok (.bipush 16, 2) := by decide +kernel
theorem dX4_leave_6 : decode cX4_leave 6 = .ok (.if_icmp .ge 23, 3) := by decide +kernel
theorem dX4_leave_9 : decode cX4_leave 9 = .ok (.aload_n 0, 1) := by decide +kernel
theorem dX4_leave_10 : decode cX4_leave 10 = .ok (.getfield 9, 3) := by decide +kernel
theorem dX4_leave_13 : decode cX4_leave 13 = .ok (.aload_n 0, 1) := by decide +kernel
theorem dX4_leave_14 : decode cX4_leave 14 = .ok (.getfield 13, 3) := by decide +kernel
theorem dX4_leave_17 : decode cX4_leave 17 = .ok (.iload_n 1, 1) := by decide +kernel
theorem dX4_leave_18 : decode cX4_leave 18 = .ok (.iastore, 1) := by decide +kernel
theorem dX4_leave_19 : decode cX4_leave 19 = .ok (.aload_n 0, 1) := by decide +kernel
theorem dX4_leave_20 : decode cX4_leave 20 = .ok (.dup, 1) := by decide +kernel
theorem dX4_leave_21 : decode cX4_leave 21 = .ok (.getfield 13, 3) := by decide +kernel
theorem dX4_leave_24 : decode cX4_leave 24 = .ok (.iconst 1, 1) := by decide +kernel
theorem dX4_leave_25 : decode cX4_leave 25 = .ok (.iadd, 1) := by decide +kernel
theorem dX4_leave_26 : decode cX4_leave 26 = .ok (.putfield 13, 3) := by decide +kernel
theorem dX4_leave_29 : decode cX4_leave 29 = .ok (.return_, 1) := by decide +kernel
set_option maxRecDepth 20000 in
theorem ggX5_init_X2_init : GoodIn wsX5_init wsX2_init := goodIn_r _ [31, 32, 2, 3, 22, 33, 34, 35, 70, 71, 72] rfl (by decide +kernel)
set_option maxRecDepth 20000 in
theorem gX5_init_X2_init_n9 : GoodIn wsX5_init (wsX2_init) := ggX5_init_X2_init
set_option maxRecDepth 20000 in
theorem ggX5_init_X3_init : GoodIn wsX5_init wsX3_init := goodIn_r _ [37, 38, 2, 3, 22, 39, 40, 41, 42, 43, 83, 84, 85, 86, 87] rfl (by decide +kernel)
set_option maxRecDepth 20000 in
theorem gX5_init_X3_init_n18 : GoodIn wsX5_init (wsX3_init) := ggX5_init_X3_init
set_option maxRecDepth 20000 in
theorem ggX5_init_X0_init : GoodIn wsX5_init wsX0_init := goodIn_r _ [45, 46, 2, 3, 47, 48, 49, 50, 51, 22, 52, 53, 54, 55, 56, 57, 58, 88, 89, 90, 91, 92, 93, 94, 95, 96, 97, 98, 99] rfl (by decide +kernel)
set_option maxRecDepth 20000 in
theorem gX5_init_X0_init_n25 : GoodIn wsX5_init (wsX0_init) := ggX5_init_X0_init
set_option maxRecDepth 20000 in
theorem ggX5_init_X1_init : GoodIn wsX5_init wsX1_init := goodIn_r _ [60, 61, 2, 3, 22, 62, 63, 64, 100, 101, 102] rfl (by decide +kernel)
set_option maxRecDepth 20000 in
theorem gX5_init_X1_init_n39 : GoodIn wsX5_init (wsX1_init) := ggX5_init_X1_init
set_option maxRecDepth 20000 in
theorem ggX5_init_X4_init : GoodIn wsX5_init wsX4_init := goodIn_r _ [66, 67, 2, 3, 22, 68, 69, 103, 104] rfl (by decide +kernel)
set_option maxRecDepth 20000 in
theorem gX5_init_X4_init_n50 : GoodIn wsX5_init (wsX4_init) := ggX5_init_X4_init
theorem dX5_init_0 : decode cX5_init 0 = .ok (.aload_n 0, 1) := by decide +kernel
theorem dX5_init_1 : decode cX5_init 1 = .ok (.invokespecial 1, 3) := by decide +kernel
theorem dX5_init_4 : decode cX5_init 4 = .ok (.aload_n 0, 1) := by decide +kernel
theorem dX5_init_5 : decode cX5_init 5 = .ok (.new 7, 3) := by decide +kernel
theorem dX5_init_8 : decode cX5_init 8 = .ok (.dup, 1) := by decide +kernel
theorem dX5_init_9 : decode cX5_init 9 = .ok (.invokespecial 9, 3) := by decide +kernel
theorem dX5_init_12 : decode cX5_init 12 = .ok (.putfield 10, 3) := by decide +kernel
theorem dX5_init_15 : decode cX5_init 15 = .ok (.aload_n 0, 1) := by decide +kernel
theorem dX5_init_16 : decode cX5_init 16 = .ok (.new 16, 3) := by decide +kernel
theorem dX5_init_19 : decode cX5_init 19 = .ok (.dup, 1) := by decide +kernel
theorem dX5_init_20 : decode cX5_init 20 = .ok (.invokespecial 18, 3) := by decide +kernel
theorem dX5_init_23 : decode cX5_init 23 = .ok (.putfield 19, 3) := by decide +kernel
theorem dX5_init_26 : decode cX5_init 26 = .ok (.aload_n 0, 1) := by decide +kernel
theorem dX5_init_27 : decode cX5_init 27 = .ok (.new 23, 3) := by decide +kernel
theorem dX5_init_30 : decode cX5_init 30 = .ok (.dup, 1) := by decide +kernel
theorem dX5_init_31 : decode cX5_init 31 = .ok (.invokespecial 25, 3) := by decide +kernel
theorem dX5_init_34 : decode cX5_init 34 = .ok (.putfield 26, 3) := by decide +kernel
theorem dX5_init_37 : decode cX5_init 37 = .ok (.aload_n 0, 1) := by decide +kernel
theorem dX5_init_38 : decode cX5_init 38 = .ok (.new 23, 3) := by decide +kernel
theorem dX5_init_41 : decode cX5_init 41 = .ok (.dup, 1) := by decide +kernel
theorem dX5_init_42 : decode cX5_init 42 = .ok (.invokespecial 25, 3) := by decide +kernel
theorem dX5_init_45 : decode cX5_init 45 = .ok (.putfield 30, 3) := by decide +kernel
theorem dX5_init_48 : decode cX5_init 48 = .ok (.aload_n 0, 1) := by decide +kernel
theorem dX5_init_49 : decode cX5_init 49 = .ok (.iconst 2, 1) := by decide +kernel
theorem dX5_init_50 : decode cX5_init 50 = .ok (.anewarray 23, 3) := by decide +kernel
theorem dX5_init_53 : decode cX5_init 53 = .ok (.dup, 1) := by decide +kernel
theorem dX5_init_54 : decode cX5_init 54 = .ok (.iconst 0, 1) := by decide +kernel
theorem dX5_init_55 : decode cX5_init 55 = .ok (.new 23, 3) := by decide +kernel
theorem dX5_init_58 : decode cX5_init 58 = .ok (.dup, 1) := by decide +kernel
theorem dX5_init_59 : decode cX5_init 59 = .ok (.invokespecial 25, 3) := by decide +kernel
theorem dX5_init_62 : decode cX5_init 62 = .ok (.aastore, 1) := by decide +kernel
theorem dX5_init_63 : decode cX5_init 63 = .ok (.dup, 1) := by decide +kernel
theorem dX5_init_64 : decode cX5_init 64 = .ok (.iconst 1, 1) := by decide +kernel
theorem dX5_init_65 : decode cX5_init 65 = .ok (.new 23, 3) := by decide +kernel
theorem dX5_init_68 : decode cX5_init 68 = .ok (.dup, 1) := by decide +kernel
theorem dX5_init_69 : decode cX5_init 69 = .ok (.invokespecial 25, 3) := by decide +kernel
theorem dX5_init_72 : decode cX5_init 72 = .ok (.aastore, 1) := by decide +kernel
theorem dX5_init_73 : decode cX5_init 73 = .ok (.putfield 33, 3) := by decide +kernel
theorem dX5_init_76 : decode cX5_init 76 = .ok (.aload_n 0, 1) := by decide +kernel
theorem dX5_init_77 : decode cX5_init 77 = .ok (.new 37, 3) := by decide +kernel
theorem dX5_init_80 : decode cX5_init 80 = .ok (.dup, 1) := by decide +kernel
theorem dX5_init_81 : decode cX5_init 81 = .ok (.invokespecial 39, 3) := by decide +kernel
theorem dX5_init_84 : decode cX5_init 84 = .ok (.putfield 40, 3) := by decide +kernel
theorem dX5_init_87 : decode cX5_init 87 = .ok (.aload_n 0, 1) := by decide +kernel
theorem dX5_init_88 : decode cX5_init 88 = .ok (.iconst 3, 1) := by decide +kernel
theorem dX5_init_89 : decode cX5_init 89 = .ok (.newarray .int, 2) := by decide +kernel
theorem dX5_init_91 : decode cX5_init 91 = .ok (.putfield 44, 3) := by decide +kernel
theorem dX5_init_94 : decode cX5_init 94 = .ok (.aload_n 0, 1) := by decide +kernel
theorem dX5_init_95 : decode cX5_init 95 = .ok (.new 48, 3) := by decide +kernel
theorem dX5_init_98 : decode cX5_init 98 = .ok (.dup, 1) := by decide +kernel
theorem dX5_init_99 : decode cX5_init 99 = .ok (.invokespecial 50, 3) := by decide +kernel
theorem dX5_init_102 : decode cX5_init 102 = .ok (.putfield 51, 3) := by decide +kernel
theorem dX5_init_105 : decode cX5_init 105 = .ok (.aload_n 0, 1) := by decide +kernel
theorem dX5_init_106 : decode cX5_init 106 = .ok (.iconst 0, 1) := by decide +kernel
theorem dX5_init_107 : decode cX5_init 107 = .ok (.putfield 55, 3) := by decide +kernel
theorem dX5_init_110 : decode cX5_init 110 = .ok (.aload_n 0, 1) := by decide +kernel
theorem dX5_init_111 : decode cX5_init 111 = .ok (.iconst 0, 1) := by decide +kernel
theorem dX5_init_112 : decode cX5_init 112 = .ok (.putfield 59, 3) := by decide +kernel
theorem dX5_init_115 : decode cX5_init 115 = .ok (.return_, 1) := by decide +kernel
set_option maxRecDepth 20000 in
theorem ggX5_row_X5_isRow : GoodIn wsX5_row wsX5_isRow := goodIn_r _ [6, 7, 8, 5, 9] rfl (by decide +kernel)
set_option maxRecDepth 20000 in
theorem gX5_row_X5_isRow : GoodIn wsX5_row (va_wsS RX5 62 yX5_isRow wsX5_isRow) := goodIn_app (goodIn_of _ (by decide +kernel)) ggX5_row_X5_isRow
set_option maxRecDepth 20000 in
theorem ggX5_row_X5_within : GoodIn wsX5_row wsX5_within := goodIn_r _ [9] rfl (by decide +kernel)
set_option maxRecDepth 20000 in
theorem gX5_row_X5_within : GoodIn wsX5_row (va_wsS RX5 66 yX5_within wsX5_within) := goodIn_app (goodIn_of _ (by decide +kernel)) ggX5_row_X5_within
set_option maxRecDepth 20000 in
theorem ggX5_row_X5_found : GoodIn wsX5_row wsX5_found := goodIn_r _ [13, 14, 15, 32, 33, 34, 35, 36, 37, 38, 39, 40, 41] rfl (by decide +kernel)
set_option maxRecDepth 20000 in
theorem gX5_row_X5_found : GoodIn wsX5_row (wsV RX5 71 RX5 yX5_found wsX5_found) := goodIn_app (goodIn_of _ (by decide +kernel)) ggX5_row_X5_found
set_option maxRecDepth 20000 in
theorem ggX5_row_X2_lay : GoodIn wsX5_row wsX2_lay := goodIn_r _ [20, 21, 22, 23, 24, 25, 26, 19, 27, 42, 43, 44] rfl (by decide +kernel)
set_option maxRecDepth 20000 in
theorem gX5_row_X2_lay : GoodIn wsX5_row (wsV RX5 75 RX2 yX2_lay wsX2_lay) := goodIn_app (goodIn_of _ (by decide +kernel)) ggX5_row_X2_lay
set_option maxRecDepth 20000 in
theorem ggX5_row_X5_plain : GoodIn wsX5_row wsX5_plain := goodIn_r _ [31, 14, 32, 33, 34, 35, 36, 37, 38, 39, 40, 41] rfl (by decide +kernel)
set_option maxRecDepth 20000 in
theorem gX5_row_X5_plain : GoodIn wsX5_row (wsV RX5 79 RX5 yX5_plain wsX5_plain) := goodIn_app (goodIn_of _ (by decide +kernel)) ggX5_row_X5_plain
theorem dX5_row_0 : decode cX5_row 0 = .ok (.iload_n 1, 1) := by decide +kernel
theorem dX5_row_1 : decode cX5_row 1 = .ok (.invokestatic 62, 3) := by decide +kernel
theorem dX5_row_4 : decode cX5_row 4 = .ok (.ifCond .eq 18, 3) := by decide +kernel
theorem dX5_row_7 : decode cX5_row 7 = .ok (.iload_n 2, 1) := by decide +kernel
theorem dX5_row_8 : decode cX5_row 8 = .ok (.iconst 0, 1) := by decide +kernel
theorem dX5_row_9 : decode cX5_row 9 = .ok (.iconst 2, 1) := by decide +kernel
theorem dX5_row_10 : decode cX5_row 10 = .ok (.invokestatic 66, 3) := by decide +kernel
theorem dX5_row_13 : decode cX5_row 13 = .ok (.ifCond .eq 9, 3) := by decide +kernel
theorem dX5_row_16 : decode cX5_row 16 = .ok (.iload_n 3, 1) := by decide +kernel
theorem dX5_row_17 : decode cX5_row 17 = .ok (.bipush 40, 2) := by decide +kernel
theorem dX5_row_19 : decode cX5_row 19 = .ok (.if_icmp .le 6, 3) := by decide +kernel
theorem dX5_row_22 : decode cX5_row 22 = .ok (.ldc 70, 2) := by decide +kernel
theorem dX5_row_24 : decode cX5_row 24 = .ok (.ireturn, 1) := by decide +kernel
theorem dX5_row_25 : decode cX5_row 25 = .ok (.iload_n 3, 1) := by decide +kernel
theorem dX5_row_26 : decode cX5_row 26 = .ok (.ifCond .ge 9, 3) := by decide +kernel
theorem dX5_row_29 : decode cX5_row 29 = .ok (.aload_n 0, 1) := by decide +kernel
theorem dX5_row_30 : decode cX5_row 30 = .ok (.iconst 4, 1) := by decide +kernel
theorem dX5_row_31 : decode cX5_row 31 = .ok (.invokevirtual 71, 3) := by decide +kernel
theorem dX5_row_34 : decode cX5_row 34 = .ok (.ireturn, 1) := by decide +kernel
theorem dX5_row_35 : decode cX5_row 35 = .ok (.aload_n 0, 1) := by decide +kernel
theorem dX5_row_36 : decode cX5_row 36 = .ok (.getfield 10, 3) := by decide +kernel
theorem dX5_row_39 : decode cX5_row 39 = .ok (.iload_n 1, 1) := by decide +kernel
theorem dX5_row_40 : decode cX5_row 40 = .ok (.iload_n 2, 1) := by decide +kernel
theorem dX5_row_41 : decode cX5_row 41 = .ok (.iload_n 3, 1) := by decide +kernel
theorem dX5_row_42 : decode cX5_row 42 = .ok (.invokevirtual 75, 3) := by decide +kernel
theorem dX5_row_45 : decode cX5_row 45 = .ok (.aload_n 0, 1) := by decide +kernel
theorem dX5_row_46 : decode cX5_row 46 = .ok (.iload_n 3, 1) := by decide +kernel
theorem dX5_row_47 : decode cX5_row 47 = .ok (.invokevirtual 79, 3) := by decide +kernel
theorem dX5_row_50 : decode cX5_row 50 = .ok (.ireturn, 1) := by decide +kernel
set_option maxRecDepth 20000 in
theorem ggX5_set_X5_isRow : GoodIn wsX5_set wsX5_isRow := goodIn_r _ [6, 7, 8, 5, 9] rfl (by decide +kernel)
set_option maxRecDepth 20000 in
theorem gX5_set_X5_isRow : GoodIn wsX5_set (va_wsS RX5 62 yX5_isRow wsX5_isRow) := goodIn_app (goodIn_of _ (by decide +kernel)) ggX5_set_X5_isRow
set_option maxRecDepth 20000 in
theorem ggX5_set_X2_reach : GoodIn wsX5_set wsX2_reach := goodIn_r _ [14, 15, 16, 17, 18, 13, 19, 20, 50, 51, 52] rfl (by decide +kernel)
set_option maxRecDepth 20000 in
theorem gX5_set_X2_reach : GoodIn wsX5_set (wsV RX5 82 RX2 yX2_reach wsX2_reach) := goodIn_app (goodIn_of _ (by decide +kernel)) ggX5_set_X2_reach
set_option maxRecDepth 20000 in
theorem ggX5_set_X5_found : GoodIn wsX5_set wsX5_found := goodIn_r _ [24, 25, 26, 40, 41, 42, 43, 44, 45, 46, 47, 48, 49] rfl (by decide +kernel)
set_option maxRecDepth 20000 in
theorem gX5_set_X5_found : GoodIn wsX5_set (wsV RX5 71 RX5 yX5_found wsX5_found) := goodIn_app (goodIn_of _ (by decide +kernel)) ggX5_set_X5_found
set_option maxRecDepth 20000 in
theorem ggX5_set_X2_put : GoodIn wsX5_set wsX2_put := goodIn_r _ [30, 20, 31, 32, 33, 34, 13, 35, 50, 51, 52] rfl (by decide +kernel)
set_option maxRecDepth 20000 in
theorem gX5_set_X2_put : GoodIn wsX5_set (wsV RX5 86 RX2 yX2_put wsX2_put) := goodIn_app (goodIn_of _ (by decide +kernel)) ggX5_set_X2_put
set_option maxRecDepth 20000 in
theorem ggX5_set_X5_plain : GoodIn wsX5_set wsX5_plain := goodIn_r _ [39, 25, 40, 41, 42, 43, 44, 45, 46, 47, 48, 49] rfl (by decide +kernel)
set_option maxRecDepth 20000 in
theorem gX5_set_X5_plain : GoodIn wsX5_set (wsV RX5 79 RX5 yX5_plain wsX5_plain) := goodIn_app (goodIn_of _ (by decide +kernel)) ggX5_set_X5_plain
theorem dX5_set_0 : decode cX5_set 0 = .ok (.iload_n 1, 1) := by decide +kernel
theorem dX5_set_1 : decode cX5_set 1 = .ok (.invokestatic 62, 3) := by decide +kernel
theorem dX5_set_4 : decode cX5_set 4 = .ok (.ifCond .ne 6, 3) := by decide +kernel
theorem dX5_set_7 : decode cX5_set 7 = .ok (.ldc 70, 2) := by decide +kernel
theorem dX5_set_9 : decode cX5_set 9 = .ok (.ireturn, 1) := by decide +kernel
theorem dX5_set_10 : decode cX5_set 10 = .ok (.aload_n 0, 1) := by decide +kernel
theorem dX5_set_11 : decode cX5_set 11 = .ok (.getfield 10, 3) := by decide +kernel
theorem dX5_set_14 : decode cX5_set 14 = .ok (.iload_n 1, 1) := by decide +kernel
theorem dX5_set_15 : decode cX5_set 15 = .ok (.iload_n 2, 1) := by decide +kernel
theorem dX5_set_16 : decode cX5_set 16 = .ok (.iconst 1, 1) := by decide +kernel
theorem dX5_set_17 : decode cX5_set 17 = .ok (.invokevirtual 82, 3) := by decide +kernel
theorem dX5_set_20 : decode cX5_set 20 = .ok (.istore 4, 2) := by decide +kernel
theorem dX5_set_22 : decode cX5_set 22 = .ok (.iload 4, 2) := by decide +kernel
theorem dX5_set_24 : decode cX5_set 24 = .ok (.ifCond .eq 10, 3) := by decide +kernel
theorem dX5_set_27 : decode cX5_set 27 = .ok (.aload_n 0, 1) := by decide +kernel
theorem dX5_set_28 : decode cX5_set 28 = .ok (.iload 4, 2) := by decide +kernel
theorem dX5_set_30 : decode cX5_set 30 = .ok (.invokevirtual 71, 3) := by decide +kernel
theorem dX5_set_33 : decode cX5_set 33 = .ok (.ireturn, 1) := by decide +kernel
theorem dX5_set_34 : decode cX5_set 34 = .ok (.aload_n 0, 1) := by decide +kernel
theorem dX5_set_35 : decode cX5_set 35 = .ok (.aload_n 0, 1) := by decide +kernel
theorem dX5_set_36 : decode cX5_set 36 = .ok (.getfield 10, 3) := by decide +kernel
theorem dX5_set_39 : decode cX5_set 39 = .ok (.iload_n 1, 1) := by decide +kernel
theorem dX5_set_40 : decode cX5_set 40 = .ok (.iload_n 2, 1) := by decide +kernel
theorem dX5_set_41 : decode cX5_set 41 = .ok (.iload_n 3, 1) := by decide +kernel
theorem dX5_set_42 : decode cX5_set 42 = .ok (.invokevirtual 86, 3) := by decide +kernel
theorem dX5_set_45 : decode cX5_set 45 = .ok (.invokevirtual 79, 3) := by decide +kernel
theorem dX5_set_48 : decode cX5_set 48 = .ok (.ireturn, 1) := by decide +kernel
set_option maxRecDepth 20000 in
theorem ggX5_copy_X5_isRow : GoodIn wsX5_copy wsX5_isRow := goodIn_r _ [12, 13, 14, 11, 15] rfl (by decide +kernel)
set_option maxRecDepth 20000 in
theorem gX5_copy_X5_isRow : GoodIn wsX5_copy (va_wsS RX5 62 yX5_isRow wsX5_isRow) := goodIn_app (goodIn_of _ (by decide +kernel)) ggX5_copy_X5_isRow
set_option maxRecDepth 20000 in
theorem ggX5_copy_X2_isMissing : GoodIn wsX5_copy wsX2_isMissing := goodIn_r _ [20, 21, 52, 53, 54] rfl (by decide +kernel)
set_option maxRecDepth 20000 in
theorem gX5_copy_X2_isMissing : GoodIn wsX5_copy (wsV RX5 89 RX2 yX2_isMissing wsX2_isMissing) := goodIn_app (goodIn_of _ (by decide +kernel)) ggX5_copy_X2_isMissing
set_option maxRecDepth 20000 in
theorem ggX5_copy_X5_found : GoodIn wsX5_copy wsX5_found := goodIn_r _ [25, 26, 27, 42, 43, 44, 45, 46, 47, 48, 49, 50, 51] rfl (by decide +kernel)
set_option maxRecDepth 20000 in
theorem gX5_copy_X5_found : GoodIn wsX5_copy (wsV RX5 71 RX5 yX5_found wsX5_found) := goodIn_app (goodIn_of _ (by decide +kernel)) ggX5_copy_X5_found
set_option maxRecDepth 20000 in
theorem ggX5_copy_X2_reach : GoodIn wsX5_copy wsX2_reach := goodIn_r _ [31, 32, 33, 17, 18, 19, 20, 21, 52, 53, 54] rfl (by decide +kernel)
set_option maxRecDepth 20000 in
theorem gX5_copy_X2_reach : GoodIn wsX5_copy (wsV RX5 82 RX2 yX2_reach wsX2_reach) := goodIn_app (goodIn_of _ (by decide +kernel)) ggX5_copy_X2_reach
set_option maxRecDepth 20000 in
theorem ggX5_copy_X2_at : GoodIn wsX5_copy wsX2_at := goodIn_r _ [37] rfl (by decide +kernel)
set_option maxRecDepth 20000 in
theorem gX5_copy_X2_at : GoodIn wsX5_copy (wsV RX5 98 RX2 yX2_at wsX2_at) := goodIn_app (goodIn_of _ (by decide +kernel)) ggX5_copy_X2_at
set_option maxRecDepth 20000 in
theorem ggX5_copy_X5_plain : GoodIn wsX5_copy wsX5_plain := goodIn_r _ [41, 26, 42, 43, 44, 45, 46, 47, 48, 49, 50, 51] rfl (by decide +kernel)
set_option maxRecDepth 20000 in
theorem gX5_copy_X5_plain : GoodIn wsX5_copy (wsV RX5 79 RX5 yX5_plain wsX5_plain) := goodIn_app (goodIn_of _ (by decide +kernel)) ggX5_copy_X5_plain
theorem dX5_copy_0 : decode cX5_copy 0 = .ok (.iload_n 1, 1) := by decide +kernel
theorem dX5_copy_1 : decode cX5_copy 1 = .ok (.invokestatic 62, 3) := by decide +kernel
theorem dX5_copy_4 : decode cX5_copy 4 = .ok (.ifCond .eq 10, 3) := by decide +kernel
theorem dX5_copy_7 : decode cX5_copy 7 = .ok (.iload_n 3, 1) := by decide +kernel
theorem dX5_copy_8 : decode cX5_copy 8 = .ok (.invokestatic 62, 3) := by decide +kernel
theorem dX5_copy_11 : decode cX5_copy 11 = .ok (.ifCond .ne 6, 3) := by decide +kernel
theorem dX5_copy_14 : decode cX5_copy 14 = .ok (.ldc 70, 2) := by decide +kernel
theorem dX5_copy_16 : decode cX5_copy 16 = .ok (.ireturn, 1) := by decide +kernel
theorem dX5_copy_17 : decode cX5_copy 17 = .ok (.aload_n 0, 1) := by decide +kernel
theorem dX5_copy_18 : decode cX5_copy 18 = .ok (.getfield 10, 3) := by decide +kernel
theorem dX5_copy_21 : decode cX5_copy 21 = .ok (.iload_n 1, 1) := by decide +kernel
theorem dX5_copy_22 : decode cX5_copy 22 = .ok (.invokevirtual 89, 3) := by decide +kernel
theorem dX5_copy_25 : decode cX5_copy 25 = .ok (.ifCond .ne 14, 3) := by decide +kernel
theorem dX5_copy_28 : decode cX5_copy 28 = .ok (.aload_n 0, 1) := by decide +kernel
theorem dX5_copy_29 : decode cX5_copy 29 = .ok (.getfield 10, 3) := by decide +kernel
theorem dX5_copy_32 : decode cX5_copy 32 = .ok (.iload_n 3, 1) := by decide +kernel
theorem dX5_copy_33 : decode cX5_copy 33 = .ok (.invokevirtual 89, 3) := by decide +kernel
theorem dX5_copy_36 : decode cX5_copy 36 = .ok (.ifCond .eq 9, 3) := by decide +kernel
theorem dX5_copy_39 : decode cX5_copy 39 = .ok (.aload_n 0, 1) := by decide +kernel
theorem dX5_copy_40 : decode cX5_copy 40 = .ok (.iconst 1, 1) := by decide +kernel
theorem dX5_copy_41 : decode cX5_copy 41 = .ok (.invokevirtual 71, 3) := by decide +kernel
theorem dX5_copy_44 : decode cX5_copy 44 = .ok (.ireturn, 1) := by decide +kernel
theorem dX5_copy_45 : decode cX5_copy 45 = .ok (.aload_n 0, 1) := by decide +kernel
theorem dX5_copy_46 : decode cX5_copy 46 = .ok (.getfield 10, 3) := by decide +kernel
theorem dX5_copy_49 : decode cX5_copy 49 = .ok (.getfield 92, 3) := by decide +kernel
theorem dX5_copy_52 : decode cX5_copy 52 = .ok (.iload_n 1, 1) := by decide +kernel
theorem dX5_copy_53 : decode cX5_copy 53 = .ok (.iaload, 1) := by decide +kernel
theorem dX5_copy_54 : decode cX5_copy 54 = .ok (.aload_n 0, 1) := by decide +kernel
theorem dX5_copy_55 : decode cX5_copy 55 = .ok (.getfield 10, 3) := by decide +kernel
theorem dX5_copy_58 : decode cX5_copy 58 = .ok (.getfield 92, 3) := by decide +kernel
theorem dX5_copy_61 : decode cX5_copy 61 = .ok (.iload_n 3, 1) := by decide +kernel
theorem dX5_copy_62 : decode cX5_copy 62 = .ok (.iaload, 1) := by decide +kernel
theorem dX5_copy_63 : decode cX5_copy 63 = .ok (.if_icmp .eq 9, 3) := by decide +kernel
theorem dX5_copy_66 : decode cX5_copy 66 = .ok (.aload_n 0, 1) := by decide +kernel
theorem dX5_copy_67 : decode cX5_copy 67 = .ok (.iconst 5, 1) := by decide +kernel
theorem dX5_copy_68 : decode cX5_copy 68 = .ok (.invokevirtual 71, 3) := by decide +kernel
theorem dX5_copy_71 : decode cX5_copy 71 = .ok (.ireturn, 1) := by decide +kernel
theorem dX5_copy_72 : decode cX5_copy 72 = .ok (.aload_n 0, 1) := by decide +kernel
theorem dX5_copy_73 : decode cX5_copy 73 = .ok (.getfield 10, 3) := by decide +kernel
theorem dX5_copy_76 : decode cX5_copy 76 = .ok (.iload_n 1, 1) := by decide +kernel
theorem dX5_copy_77 : decode cX5_copy 77 = .ok (.iload_n 2, 1) := by decide +kernel
theorem dX5_copy_78 : decode cX5_copy 78 = .ok (.iload 5, 2) := by decide +kernel
theorem dX5_copy_80 : decode cX5_copy 80 = .ok (.invokevirtual 82, 3) := by decide +kernel
theorem dX5_copy_83 : decode cX5_copy 83 = .ok (.ifCond .ne 18, 3) := by decide +kernel
theorem dX5_copy_86 : decode cX5_copy 86 = .ok (.aload_n 0, 1) := by decide +kernel
theorem dX5_copy_87 : decode cX5_copy 87 = .ok (.getfield 10, 3) := by decide +kernel
theorem dX5_copy_90 : decode cX5_copy 90 = .ok (.iload_n 3, 1) := by decide +kernel
theorem dX5_copy_91 : decode cX5_copy 91 = .ok (.iload 4, 2) := by decide +kernel
theorem dX5_copy_93 : decode cX5_copy 93 = .ok (.iload 5, 2) := by decide +kernel
theorem dX5_copy_95 : decode cX5_copy 95 = .ok (.invokevirtual 82, 3) := by decide +kernel
theorem dX5_copy_98 : decode cX5_copy 98 = .ok (.ifCond .eq 9, 3) := by decide +kernel
theorem dX5_copy_101 : decode cX5_copy 101 = .ok (.aload_n 0, 1) := by decide +kernel
theorem dX5_copy_102 : decode cX5_copy 102 = .ok (.iconst 2, 1) := by decide +kernel
theorem dX5_copy_103 : decode cX5_copy 103 = .ok (.invokevirtual 71, 3) := by decide +kernel
theorem dX5_copy_106 : decode cX5_copy 106 = .ok (.ireturn, 1) := by decide +kernel
theorem dX5_copy_107 : decode cX5_copy 107 = .ok (.aload_n 0, 1) := by decide +kernel
theorem dX5_copy_108 : decode cX5_copy 108 = .ok (.getfield 10, 3) := by decide +kernel
theorem dX5_copy_111 : decode cX5_copy 111 = .ok (.getfield 95, 3) := by decide +kernel
theorem dX5_copy_114 : decode cX5_copy 114 = .ok (.aload_n 0, 1) := by decide +kernel
theorem dX5_copy_115 : decode cX5_copy 115 = .ok (.getfield 10, 3) := by decide +kernel
theorem dX5_copy_118 : decode cX5_copy 118 = .ok (.iload_n 1, 1) := by decide +kernel
theorem dX5_copy_119 : decode cX5_copy 119 = .ok (.iload_n 2, 1) := by decide +kernel
theorem dX5_copy_120 : decode cX5_copy 120 = .ok (.invokevirtual 98, 3) := by decide +kernel
theorem dX5_copy_123 : decode cX5_copy 123 = .ok (.aload_n 0, 1) := by decide +kernel
theorem dX5_copy_124 : decode cX5_copy 124 = .ok (.getfield 10, 3) := by decide +kernel
theorem dX5_copy_127 : decode cX5_copy 127 = .ok (.getfield 95, 3) := by decide +kernel
theorem dX5_copy_130 : decode cX5_copy 130 = .ok (.aload_n 0, 1) := by decide +kernel
theorem dX5_copy_131 : decode cX5_copy 131 = .ok (.getfield 10, 3) := by decide +kernel
theorem dX5_copy_134 : decode cX5_copy 134 = .ok (.iload_n 3, 1) := by decide +kernel
theorem dX5_copy_135 : decode cX5_copy 135 = .ok (.iload 4, 2) := by decide +kernel
theorem dX5_copy_137 : decode cX5_copy 137 = .ok (.invokevirtual 98, 3) := by decide +kernel
theorem dX5_copy_140 : decode cX5_copy 140 = .ok (.iload 5, 2) := by decide +kernel
theorem dX5_copy_142 : decode cX5_copy 142 = .ok (.invokestatic 102, 3) := by decide +kernel
theorem dX5_copy_145 : decode cX5_copy 145 = .ok (.aload_n 0, 1) := by decide +kernel
theorem dX5_copy_146 : decode cX5_copy 146 = .ok (.iload 5, 2) := by decide +kernel
theorem dX5_copy_148 : decode cX5_copy 148 = .ok (.invokevirtual 79, 3) := by decide +kernel
theorem dX5_copy_151 : decode cX5_copy 151 = .ok (.ireturn, 1) := by decide +kernel
set_option maxRecDepth 20000 in
theorem ggX5_drop_X5_isRow : GoodIn wsX5_drop wsX5_isRow := goodIn_r _ [7, 8, 9, 6, 10] rfl (by decide +kernel)
set_option maxRecDepth 20000 in
theorem gX5_drop_X5_isRow : GoodIn wsX5_drop (va_wsS RX5 62 yX5_isRow wsX5_isRow) := goodIn_app (goodIn_of _ (by decide +kernel)) ggX5_drop_X5_isRow
set_option maxRecDepth 20000 in
theorem ggX5_drop_X2_isMissing : GoodIn wsX5_drop wsX2_isMissing := goodIn_r _ [15, 16, 42, 43, 44] rfl (by decide +kernel)
set_option maxRecDepth 20000 in
theorem gX5_drop_X2_isMissing : GoodIn wsX5_drop (wsV RX5 89 RX2 yX2_isMissing wsX2_isMissing) := goodIn_app (goodIn_of _ (by decide +kernel)) ggX5_drop_X2_isMissing
set_option maxRecDepth 20000 in
theorem ggX5_drop_X5_found : GoodIn wsX5_drop wsX5_found := goodIn_r _ [20, 21, 22, 32, 33, 34, 35, 36, 37, 38, 39, 40, 41] rfl (by decide +kernel)
set_option maxRecDepth 20000 in
theorem gX5_drop_X5_found : GoodIn wsX5_drop (wsV RX5 71 RX5 yX5_found wsX5_found) := goodIn_app (goodIn_of _ (by decide +kernel)) ggX5_drop_X5_found
set_option maxRecDepth 20000 in
theorem ggX5_drop_X2_lose : GoodIn wsX5_drop wsX2_lose := goodIn_r _ [26, 16, 27, 42, 43, 44] rfl (by decide +kernel)
set_option maxRecDepth 20000 in
theorem gX5_drop_X2_lose : GoodIn wsX5_drop (wsV RX5 111 RX2 yX2_lose wsX2_lose) := goodIn_app (goodIn_of _ (by decide +kernel)) ggX5_drop_X2_lose
set_option maxRecDepth 20000 in
theorem ggX5_drop_X5_plain : GoodIn wsX5_drop wsX5_plain := goodIn_r _ [31, 21, 32, 33, 34, 35, 36, 37, 38, 39, 40, 41] rfl (by decide +kernel)
set_option maxRecDepth 20000 in
theorem gX5_drop_X5_plain : GoodIn wsX5_drop (wsV RX5 79 RX5 yX5_plain wsX5_plain) := goodIn_app (goodIn_of _ (by decide +kernel)) ggX5_drop_X5_plain
theorem dX5_drop_0 : decode cX5_drop 0 = .ok (.iload_n 1, 1) := by decide +kernel
theorem dX5_drop_1 : decode cX5_drop 1 = .ok (.invokestatic 62, 3) := by decide +kernel
theorem dX5_drop_4 : decode cX5_drop 4 = .ok (.ifCond .ne 6, 3) := by decide +kernel
theorem dX5_drop_7 : decode cX5_drop 7 = .ok (.ldc 70, 2) := by decide +kernel
theorem dX5_drop_9 : decode cX5_drop 9 = .ok (.ireturn, 1) := by decide +kernel
theorem dX5_drop_10 : decode cX5_drop 10 = .ok (.aload_n 0, 1) := by decide +kernel
theorem dX5_drop_11 : decode cX5_drop 11 = .ok (.getfield 10, 3) := by decide +kernel
theorem dX5_drop_14 : decode cX5_drop 14 = .ok (.iload_n 1, 1) := by decide +kernel
theorem dX5_drop_15 : decode cX5_drop 15 = .ok (.invokevirtual 89, 3) := by decide +kernel
theorem dX5_drop_18 : decode cX5_drop 18 = .ok (.ifCond .eq 9, 3) := by decide +kernel
theorem dX5_drop_21 : decode cX5_drop 21 = .ok (.aload_n 0, 1) := by decide +kernel
theorem dX5_drop_22 : decode cX5_drop 22 = .ok (.iconst 1, 1) := by decide +kernel
theorem dX5_drop_23 : decode cX5_drop 23 = .ok (.invokevirtual 71, 3) := by decide +kernel
theorem dX5_drop_26 : decode cX5_drop 26 = .ok (.ireturn, 1) := by decide +kernel
theorem dX5_drop_27 : decode cX5_drop 27 = .ok (.aload_n 0, 1) := by decide +kernel
theorem dX5_drop_28 : decode cX5_drop 28 = .ok (.getfield 10, 3) := by decide +kernel
theorem dX5_drop_31 : decode cX5_drop 31 = .ok (.getfield 108, 3) := by decide +kernel
theorem dX5_drop_34 : decode cX5_drop 34 = .ok (.iload_n 1, 1) := by decide +kernel
theorem dX5_drop_35 : decode cX5_drop 35 = .ok (.iaload, 1) := by decide +kernel
theorem dX5_drop_36 : decode cX5_drop 36 = .ok (.istore_n 2, 1) := by decide +kernel
theorem dX5_drop_37 : decode cX5_drop 37 = .ok (.aload_n 0, 1) := by decide +kernel
theorem dX5_drop_38 : decode cX5_drop 38 = .ok (.getfield 10, 3) := by decide +kernel
theorem dX5_drop_41 : decode cX5_drop 41 = .ok (.iload_n 1, 1) := by decide +kernel
theorem dX5_drop_42 : decode cX5_drop 42 = .ok (.invokevirtual 111, 3) := by decide +kernel
theorem dX5_drop_45 : decode cX5_drop 45 = .ok (.aload_n 0, 1) := by decide +kernel
theorem dX5_drop_46 : decode cX5_drop 46 = .ok (.iload_n 2, 1) := by decide +kernel
theorem dX5_drop_47 : decode cX5_drop 47 = .ok (.invokevirtual 79, 3) := by decide +kernel
theorem dX5_drop_50 : decode cX5_drop 50 = .ok (.ireturn, 1) := by decide +kernel
set_option maxRecDepth 20000 in
theorem ggX5_feed_X5_within : GoodIn wsX5_feed wsX5_within := goodIn_r _ [9] rfl (by decide +kernel)
set_option maxRecDepth 20000 in
theorem gX5_feed_X5_within : GoodIn wsX5_feed (va_wsS RX5 66 yX5_within wsX5_within) := goodIn_app (goodIn_of _ (by decide +kernel)) ggX5_feed_X5_within
theorem dX5_feed_0 : decode cX5_feed 0 = .ok (.iload_n 1, 1) := by decide +kernel
theorem dX5_feed_1 : decode cX5_feed 1 = .ok (.iconst 0, 1) := by decide +kernel
theorem dX5_feed_2 : decode cX5_feed 2 = .ok (.sipush 255, 3) := by decide +kernel
theorem dX5_feed_5 : decode cX5_feed 5 = .ok (.invokestatic 66, 3) := by decide +kernel
theorem dX5_feed_8 : decode cX5_feed 8 = .ok (.ifCond .ne 6, 3) := by decide +kernel
theorem dX5_feed_11 : decode cX5_feed 11 = .ok (.ldc 70, 2) := by decide +kernel
theorem dX5_feed_13 : decode cX5_feed 13 = .ok (.ireturn, 1) := by decide +kernel
theorem dX5_feed_14 : decode cX5_feed 14 = .ok (.aload_n 0, 1) := by decide +kernel
theorem dX5_feed_15 : decode cX5_feed 15 = .ok (.getfield 19, 3) := by decide +kernel
theorem dX5_feed_18 : decode cX5_feed 18 = .ok (.getfield 115, 3) := by decide +kernel
theorem dX5_feed_21 : decode cX5_feed 21 = .ok (.bipush 120, 2) := by decide +kernel
theorem dX5_feed_23 : decode cX5_feed 23 = .ok (.if_icmp .lt 6, 3) := by decide +kernel
theorem dX5_feed_26 : decode cX5_feed 26 = .ok (.ldc 118, 2) := by decide +kernel
theorem dX5_feed_28 : decode cX5_feed 28 = .ok (.ireturn, 1) := by decide +kernel
theorem dX5_feed_29 : decode cX5_feed 29 = .ok (.aload_n 0, 1) := by decide +kernel
theorem dX5_feed_30 : decode cX5_feed 30 = .ok (.getfield 19, 3) := by decide +kernel
theorem dX5_feed_33 : decode cX5_feed 33 = .ok (.getfield 119, 3) := by decide +kernel
theorem dX5_feed_36 : decode cX5_feed 36 = .ok (.aload_n 0, 1) := by decide +kernel
theorem dX5_feed_37 : decode cX5_feed 37 = .ok (.getfield 19, 3) := by decide +kernel
theorem dX5_feed_40 : decode cX5_feed 40 = .ok (.getfield 115, 3) := by decide +kernel
theorem dX5_feed_43 : decode cX5_feed 43 = .ok (.iload_n 1, 1) := by decide +kernel
theorem dX5_feed_44 : decode cX5_feed 44 = .ok (.iastore, 1) := by decide +kernel
theorem dX5_feed_45 : decode cX5_feed 45 = .ok (.aload_n 0, 1) := by decide +kernel
theorem dX5_feed_46 : decode cX5_feed 46 = .ok (.getfield 19, 3) := by decide +kernel
theorem dX5_feed_49 : decode cX5_feed 49 = .ok (.dup, 1) := by decide +kernel
theorem dX5_feed_50 : decode cX5_feed 50 = .ok (.getfield 115, 3) := by decide +kernel
theorem dX5_feed_53 : decode cX5_feed 53 = .ok (.iconst 1, 1) := by decide +kernel
theorem dX5_feed_54 : decode cX5_feed 54 = .ok (.iadd, 1) := by decide +kernel
theorem dX5_feed_55 : decode cX5_feed 55 = .ok (.putfield 115, 3) := by decide +kernel
theorem dX5_feed_58 : decode cX5_feed 58 = .ok (.aload_n 0, 1) := by decide +kernel
theorem dX5_feed_59 : decode cX5_feed 59 = .ok (.getfield 19, 3) := by decide +kernel
theorem dX5_feed_62 : decode cX5_feed 62 = .ok (.getfield 115, 3) := by decide +kernel
theorem dX5_feed_65 : decode cX5_feed 65 = .ok (.ireturn, 1) := by decide +kernel
set_option maxRecDepth 20000 in
theorem ggX5_house_X3_tell : GoodIn wsX5_house wsX3_tell := goodIn_r _ [15, 16, 17, 18, 19, 20, 21, 22, 14, 23, 24, 25, 26, 27, 28, 29, 30, 31, 32, 33, 34, 35, 36, 37, 38, 39, 40, 41, 42, 43, 44, 45, 46, 47, 48, 49, 50, 51, 52, 53, 54, 55, 56, 57, 58, 59, 60, 61, 62, 63, 64, 65, 66, 67, 68, 69, 70, 71, 72, 73, 74, 112, 113, 114, 115, 116, 117, 118, 119, 120, 121, 122, 123, 124, 125, 126, 127, 128] rfl (by decide +kernel)
set_option maxRecDepth 20000 in
theorem gX5_house_X3_tell : GoodIn wsX5_house (wsV RX5 122 RX3 yX3_tell wsX3_tell) := goodIn_app (goodIn_of _ (by decide +kernel)) ggX5_house_X3_tell
set_option maxRecDepth 20000 in
theorem ggX5_house_X0_become : GoodIn wsX5_house wsX0_become := goodIn_r _ [79, 80, 81, 82, 83, 84, 85, 86, 87, 88, 89, 90, 91, 92, 93, 94, 95, 117, 118, 119, 120, 121, 122, 123, 124, 125, 126, 127, 128] rfl (by decide +kernel)
set_option maxRecDepth 20000 in
theorem gX5_house_X0_become : GoodIn wsX5_house (wsV RX5 133 RX0 yX0_become wsX0_become) := goodIn_app (goodIn_of _ (by decide +kernel)) ggX5_house_X0_become
set_option maxRecDepth 20000 in
theorem ggX5_house_X1_forget : GoodIn wsX5_house wsX1_forget := goodIn_r _ [100, 101, 129, 130, 131] rfl (by decide +kernel)
set_option maxRecDepth 20000 in
theorem gX5_house_X1_forget : GoodIn wsX5_house (wsV RX5 137 RX1 yX1_forget wsX1_forget) := goodIn_app (goodIn_of _ (by decide +kernel)) ggX5_house_X1_forget
theorem dX5_house_0 : decode cX5_house 0 = .ok (.aload_n 0, 1) := by decide +kernel
theorem dX5_house_1 : decode cX5_house 1 = .ok (.getfield 19, 3) := by decide +kernel
theorem dX5_house_4 : decode cX5_house 4 = .ok (.aload_n 0, 1) := by decide +kernel
theorem dX5_house_5 : decode cX5_house 5 = .ok (.getfield 30, 3) := by decide +kernel
theorem dX5_house_8 : decode cX5_house 8 = .ok (.invokevirtual 122, 3) := by decide +kernel
theorem dX5_house_11 : decode cX5_house 11 = .ok (.istore_n 1, 1) := by decide +kernel
theorem dX5_house_12 : decode cX5_house 12 = .ok (.aload_n 0, 1) := by decide +kernel
theorem dX5_house_13 : decode cX5_house 13 = .ok (.getfield 19, 3) := by decide +kernel
theorem dX5_house_16 : decode cX5_house 16 = .ok (.iconst 0, 1) := by decide +kernel
theorem dX5_house_17 : decode cX5_house 17 = .ok (.putfield 115, 3) := by decide +kernel
theorem dX5_house_20 : decode cX5_house 20 = .ok (.iload_n 1, 1) := by decide +kernel
theorem dX5_house_21 : decode cX5_house 21 = .ok (.ifCond .ne 25, 3) := by decide +kernel
theorem dX5_house_24 : decode cX5_house 24 = .ok (.aload_n 0, 1) := by decide +kernel
theorem dX5_house_25 : decode cX5_house 25 = .ok (.aload_n 0, 1) := by decide +kernel
theorem dX5_house_26 : decode cX5_house 26 = .ok (.getfield 19, 3) := by decide +kernel
theorem dX5_house_29 : decode cX5_house 29 = .ok (.getfield 126, 3) := by decide +kernel
theorem dX5_house_32 : decode cX5_house 32 = .ok (.putfield 55, 3) := by decide +kernel
theorem dX5_house_35 : decode cX5_house 35 = .ok (.ldc 129, 2) := by decide +kernel
theorem dX5_house_37 : decode cX5_house 37 = .ok (.aload_n 0, 1) := by decide +kernel
theorem dX5_house_38 : decode cX5_house 38 = .ok (.getfield 19, 3) := by decide +kernel
theorem dX5_house_41 : decode cX5_house 41 = .ok (.getfield 130, 3) := by decide +kernel
theorem dX5_house_44 : decode cX5_house 44 = .ok (.isub, 1) := by decide +kernel
theorem dX5_house_45 : decode cX5_house 45 = .ok (.ireturn, 1) := by decide +kernel
theorem dX5_house_46 : decode cX5_house 46 = .ok (.aload_n 0, 1) := by decide +kernel
theorem dX5_house_47 : decode cX5_house 47 = .ok (.getfield 26, 3) := by decide +kernel
theorem dX5_house_50 : decode cX5_house 50 = .ok (.aload_n 0, 1) := by decide +kernel
theorem dX5_house_51 : decode cX5_house 51 = .ok (.getfield 30, 3) := by decide +kernel
theorem dX5_house_54 : decode cX5_house 54 = .ok (.invokevirtual 133, 3) := by decide +kernel
theorem dX5_house_57 : decode cX5_house 57 = .ok (.aload_n 0, 1) := by decide +kernel
theorem dX5_house_58 : decode cX5_house 58 = .ok (.getfield 40, 3) := by decide +kernel
theorem dX5_house_61 : decode cX5_house 61 = .ok (.invokevirtual 137, 3) := by decide +kernel
theorem dX5_house_64 : decode cX5_house 64 = .ok (.aload_n 0, 1) := by decide +kernel
theorem dX5_house_65 : decode cX5_house 65 = .ok (.getfield 26, 3) := by decide +kernel
theorem dX5_house_68 : decode cX5_house 68 = .ok (.getfield 140, 3) := by decide +kernel
theorem dX5_house_71 : decode cX5_house 71 = .ok (.ireturn, 1) := by decide +kernel
theorem dX5_fault_0 : decode cX5_fault 0 = .ok (.aload_n 0, 1) := by decide +kernel
theorem dX5_fault_1 : decode cX5_fault 1 = .ok (.getfield 55, 3) := by decide +kernel
theorem dX5_fault_4 : decode cX5_fault 4 = .ok (.ireturn, 1) := by decide +kernel
set_option maxRecDepth 20000 in
theorem ggX5_undo_X1_bringBack : GoodIn wsX5_undo wsX1_bringBack := goodIn_r _ [9, 10, 11, 12, 13, 14, 15, 16, 17, 18, 19, 20, 21, 22, 23, 24, 25, 26, 37, 38, 39, 40, 41, 42, 43, 44, 45, 46, 47, 48, 49, 50, 51] rfl (by decide +kernel)
set_option maxRecDepth 20000 in
theorem gX5_undo_X1_bringBack : GoodIn wsX5_undo (wsV RX5 146 RX1 yX1_bringBack wsX1_bringBack) := goodIn_app (goodIn_of _ (by decide +kernel)) ggX5_undo_X1_bringBack
theorem dX5_undo_0 : decode cX5_undo 0 = .ok (.aload_n 0, 1) := by decide +kernel
theorem dX5_undo_1 : decode cX5_undo 1 = .ok (.getfield 40, 3) := by decide +kernel
theorem dX5_undo_4 : decode cX5_undo 4 = .ok (.getfield 143, 3) := by decide +kernel
theorem dX5_undo_7 : decode cX5_undo 7 = .ok (.ifCond .ne 6, 3) := by decide +kernel
theorem dX5_undo_10 : decode cX5_undo 10 = .ok (.ldc 145, 2) := by decide +kernel
theorem dX5_undo_12 : decode cX5_undo 12 = .ok (.ireturn, 1) := by decide +kernel
theorem dX5_undo_13 : decode cX5_undo 13 = .ok (.aload_n 0, 1) := by decide +kernel
theorem dX5_undo_14 : decode cX5_undo 14 = .ok (.getfield 40, 3) := by decide +kernel
theorem dX5_undo_17 : decode cX5_undo 17 = .ok (.aload_n 0, 1) := by decide +kernel
theorem dX5_undo_18 : decode cX5_undo 18 = .ok (.getfield 26, 3) := by decide +kernel
theorem dX5_undo_21 : decode cX5_undo 21 = .ok (.invokevirtual 146, 3) := by decide +kernel
theorem dX5_undo_24 : decode cX5_undo 24 = .ok (.aload_n 0, 1) := by decide +kernel
theorem dX5_undo_25 : decode cX5_undo 25 = .ok (.getfield 40, 3) := by decide +kernel
theorem dX5_undo_28 : decode cX5_undo 28 = .ok (.getfield 143, 3) := by decide +kernel
theorem dX5_undo_31 : decode cX5_undo 31 = .ok (.ireturn, 1) := by decide +kernel
set_option maxRecDepth 20000 in
theorem ggX5_minutes_X0_stands : GoodIn wsX5_minutes wsX0_stands := goodIn_r _ [11, 12, 86, 87, 88, 89, 90, 91, 92, 93, 94, 95, 96, 97] rfl (by decide +kernel)
set_option maxRecDepth 20000 in
theorem gX5_minutes_X0_stands : GoodIn wsX5_minutes (wsV RX5 149 RX0 yX0_stands wsX0_stands) := goodIn_app (goodIn_of _ (by decide +kernel)) ggX5_minutes_X0_stands
set_option maxRecDepth 20000 in
theorem ggX5_minutes_X5_within : GoodIn wsX5_minutes wsX5_within := goodIn_r _ [16] rfl (by decide +kernel)
set_option maxRecDepth 20000 in
theorem gX5_minutes_X5_within : GoodIn wsX5_minutes (va_wsS RX5 66 yX5_within wsX5_within) := goodIn_app (goodIn_of _ (by decide +kernel)) ggX5_minutes_X5_within
set_option maxRecDepth 20000 in
theorem ggX5_minutes_X1_keep : GoodIn wsX5_minutes wsX1_keep := goodIn_r _ [21, 22, 23, 24, 25, 26, 27, 28, 29, 30, 31, 10, 32, 33, 34, 35, 36, 37, 38, 39, 40, 41, 98, 99, 100, 86, 87, 88, 89, 90, 91, 92, 93, 94, 95, 96, 97] rfl (by decide +kernel)
set_option maxRecDepth 20000 in
theorem gX5_minutes_X1_keep : GoodIn wsX5_minutes (wsV RX5 156 RX1 yX1_keep wsX1_keep) := goodIn_app (goodIn_of _ (by decide +kernel)) ggX5_minutes_X1_keep
set_option maxRecDepth 20000 in
theorem ggX5_minutes_X0_passMinute : GoodIn wsX5_minutes wsX0_passMinute := goodIn_r _ [45, 46, 12, 34, 47, 48, 49, 27, 50, 39, 51, 26, 28, 33, 52, 53, 54, 10, 55, 56, 41, 40, 57, 58, 59, 60, 61, 62, 63, 64, 65, 66, 67, 68, 69, 70, 71, 86, 87, 88, 89, 90, 91, 92, 93, 94, 95, 96, 97] rfl (by decide +kernel)
set_option maxRecDepth 20000 in
theorem gX5_minutes_X0_passMinute : GoodIn wsX5_minutes (wsV RX5 159 RX0 yX0_passMinute wsX0_passMinute) := goodIn_app (goodIn_of _ (by decide +kernel)) ggX5_minutes_X0_passMinute
set_option maxRecDepth 20000 in
theorem ggX5_minutes_X0_coldRooms : GoodIn wsX5_minutes wsX0_coldRooms := goodIn_r _ [75, 12, 34, 71, 86, 87, 88, 89, 90, 91, 92, 93, 94, 95, 96, 97] rfl (by decide +kernel)
set_option maxRecDepth 20000 in
theorem gX5_minutes_X0_coldRooms : GoodIn wsX5_minutes (wsV RX5 162 RX0 yX0_coldRooms wsX0_coldRooms) := goodIn_app (goodIn_of _ (by decide +kernel)) ggX5_minutes_X0_coldRooms
theorem dX5_minutes_0 : decode cX5_minutes 0 = .ok (.aload_n 0, 1) := by decide +kernel
theorem dX5_minutes_1 : decode cX5_minutes 1 = .ok (.getfield 26, 3) := by decide +kernel
theorem dX5_minutes_4 : decode cX5_minutes 4 = .ok (.invokevirtual 149, 3) := by decide +kernel
theorem dX5_minutes_7 : decode cX5_minutes 7 = .ok (.ifCond .ne 6, 3) := by decide +kernel
theorem dX5_minutes_10 : decode cX5_minutes 10 = .ok (.ldc 145, 2) := by decide +kernel
theorem dX5_minutes_12 : decode cX5_minutes 12 = .ok (.ireturn, 1) := by decide +kernel
theorem dX5_minutes_13 : decode cX5_minutes 13 = .ok (.iload_n 1, 1) := by decide +kernel
theorem dX5_minutes_14 : decode cX5_minutes 14 = .ok (.iconst 1, 1) := by decide +kernel
theorem dX5_minutes_15 : decode cX5_minutes 15 = .ok (.bipush 24, 2) := by decide +kernel
theorem dX5_minutes_17 : decode cX5_minutes 17 = .ok (.invokestatic 66, 3) := by decide +kernel
theorem dX5_minutes_20 : decode cX5_minutes 20 = .ok (.ifCond .ne 6, 3) := by decide +kernel
theorem dX5_minutes_23 : decode cX5_minutes 23 = .ok (.ldc 70, 2) := by decide +kernel
theorem dX5_minutes_25 : decode cX5_minutes 25 = .ok (.ireturn, 1) := by decide +kernel
theorem dX5_minutes_26 : decode cX5_minutes 26 = .ok (.aload_n 0, 1) := by decide +kernel
theorem dX5_minutes_27 : decode cX5_minutes 27 = .ok (.getfield 26, 3) := by decide +kernel
theorem dX5_minutes_30 : decode cX5_minutes 30 = .ok (.getfield 153, 3) := by decide +kernel
theorem dX5_minutes_33 : decode cX5_minutes 33 = .ok (.iload_n 1, 1) := by decide +kernel
theorem dX5_minutes_34 : decode cX5_minutes 34 = .ok (.iadd, 1) := by decide +kernel
theorem dX5_minutes_35 : decode cX5_minutes 35 = .ok (.sipush 999, 3) := by decide +kernel
theorem dX5_minutes_38 : decode cX5_minutes 38 = .ok (.if_icmp .le 6, 3) := by decide +kernel
theorem dX5_minutes_41 : decode cX5_minutes 41 = .ok (.ldc 118, 2) := by decide +kernel
theorem dX5_minutes_43 : decode cX5_minutes 43 = .ok (.ireturn, 1) := by decide +kernel
theorem dX5_minutes_44 : decode cX5_minutes 44 = .ok (.iconst 0, 1) := by decide +kernel
theorem dX5_minutes_45 : decode cX5_minutes 45 = .ok (.istore_n 2, 1) := by decide +kernel
theorem dX5_minutes_46 : decode cX5_minutes 46 = .ok (.iload_n 2, 1) := by decide +kernel
theorem dX5_minutes_47 : decode cX5_minutes 47 = .ok (.iload_n 1, 1) := by decide +kernel
theorem dX5_minutes_48 : decode cX5_minutes 48 = .ok (.if_icmp .ge 27, 3) := by decide +kernel
theorem dX5_minutes_51 : decode cX5_minutes 51 = .ok (.aload_n 0, 1) := by decide +kernel
theorem dX5_minutes_52 : decode cX5_minutes 52 = .ok (.getfield 40, 3) := by decide +kernel
theorem dX5_minutes_55 : decode cX5_minutes 55 = .ok (.aload_n 0, 1) := by decide +kernel
theorem dX5_minutes_56 : decode cX5_minutes 56 = .ok (.getfield 26, 3) := by decide +kernel
theorem dX5_minutes_59 : decode cX5_minutes 59 = .ok (.invokevirtual 156, 3) := by decide +kernel
theorem dX5_minutes_62 : decode cX5_minutes 62 = .ok (.aload_n 0, 1) := by decide +kernel
theorem dX5_minutes_63 : decode cX5_minutes 63 = .ok (.getfield 26, 3) := by decide +kernel
theorem dX5_minutes_66 : decode cX5_minutes 66 = .ok (.invokevirtual 159, 3) := by decide +kernel
theorem dX5_minutes_69 : decode cX5_minutes 69 = .ok (.iinc 2 1, 3) := by decide +kernel
theorem dX5_minutes_72 : decode cX5_minutes 72 = .ok (.goto (-26), 3) := by decide +kernel
theorem dX5_minutes_75 : decode cX5_minutes 75 = .ok (.aload_n 0, 1) := by decide +kernel
theorem dX5_minutes_76 : decode cX5_minutes 76 = .ok (.getfield 26, 3) := by decide +kernel
theorem dX5_minutes_79 : decode cX5_minutes 79 = .ok (.invokevirtual 162, 3) := by decide +kernel
theorem dX5_minutes_82 : decode cX5_minutes 82 = .ok (.ireturn, 1) := by decide +kernel
set_option maxRecDepth 20000 in
theorem ggX5_carry_X5_isTube : GoodIn wsX5_carry wsX5_isTube := goodIn_r _ [10, 2, 11, 12, 13, 9, 14, 51, 52, 53, 54, 55, 56, 57, 58, 59, 60, 61, 62, 63, 64, 65, 66, 67, 68, 69, 70, 71, 72] rfl (by decide +kernel)
set_option maxRecDepth 20000 in
theorem gX5_carry_X5_isTube : GoodIn wsX5_carry (wsV RX5 166 RX5 yX5_isTube wsX5_isTube) := goodIn_app (goodIn_of _ (by decide +kernel)) ggX5_carry_X5_isTube
set_option maxRecDepth 20000 in
theorem ggX5_carry_X5_isPlace : GoodIn wsX5_carry wsX5_isPlace := goodIn_r _ [18, 2, 19, 20, 21, 22, 23, 24, 25, 12, 13, 9, 14, 51, 52, 53, 54, 55, 56, 57, 58, 59, 60, 61, 62, 63, 64, 65, 66, 67, 68, 69, 70, 71, 72] rfl (by decide +kernel)
set_option maxRecDepth 20000 in
theorem gX5_carry_X5_isPlace : GoodIn wsX5_carry (wsV RX5 169 RX5 yX5_isPlace wsX5_isPlace) := goodIn_app (goodIn_of _ (by decide +kernel)) ggX5_carry_X5_isPlace
set_option maxRecDepth 20000 in
theorem ggX5_carry_X1_keep : GoodIn wsX5_carry wsX1_keep := goodIn_r _ [30, 31, 32, 33, 34, 35, 36, 37, 38, 39, 40, 23, 41, 42, 43, 44, 45, 46, 47, 48, 49, 50, 73, 74, 75, 61, 62, 63, 64, 65, 66, 67, 68, 69, 70, 71, 72] rfl (by decide +kernel)
set_option maxRecDepth 20000 in
theorem gX5_carry_X1_keep : GoodIn wsX5_carry (wsV RX5 156 RX1 yX1_keep wsX1_keep) := goodIn_app (goodIn_of _ (by decide +kernel)) ggX5_carry_X1_keep
theorem dX5_carry_0 : decode cX5_carry 0 = .ok (.aload_n 0, 1) := by decide +kernel
theorem dX5_carry_1 : decode cX5_carry 1 = .ok (.iload_n 1, 1) := by decide +kernel
theorem dX5_carry_2 : decode cX5_carry 2 = .ok (.invokevirtual 166, 3) := by decide +kernel
theorem dX5_carry_5 : decode cX5_carry 5 = .ok (.ifCond .eq 11, 3) := by decide +kernel
theorem dX5_carry_8 : decode cX5_carry 8 = .ok (.aload_n 0, 1) := by decide +kernel
theorem dX5_carry_9 : decode cX5_carry 9 = .ok (.iload_n 2, 1) := by decide +kernel
theorem dX5_carry_10 : decode cX5_carry 10 = .ok (.invokevirtual 169, 3) := by decide +kernel
theorem dX5_carry_13 : decode cX5_carry 13 = .ok (.ifCond .ne 6, 3) := by decide +kernel
theorem dX5_carry_16 : decode cX5_carry 16 = .ok (.ldc 70, 2) := by decide +kernel
theorem dX5_carry_18 : decode cX5_carry 18 = .ok (.ireturn, 1) := by decide +kernel
theorem dX5_carry_19 : decode cX5_carry 19 = .ok (.aload_n 0, 1) := by decide +kernel
theorem dX5_carry_20 : decode cX5_carry 20 = .ok (.getfield 26, 3) := by decide +kernel
theorem dX5_carry_23 : decode cX5_carry 23 = .ok (.getfield 172, 3) := by decide +kernel
theorem dX5_carry_26 : decode cX5_carry 26 = .ok (.iload_n 1, 1) := by decide +kernel
theorem dX5_carry_27 : decode cX5_carry 27 = .ok (.iaload, 1) := by decide +kernel
theorem dX5_carry_28 : decode cX5_carry 28 = .ok (.istore_n 3, 1) := by decide +kernel
theorem dX5_carry_29 : decode cX5_carry 29 = .ok (.iload_n 3, 1) := by decide +kernel
theorem dX5_carry_30 : decode cX5_carry 30 = .ok (.iload_n 2, 1) := by decide +kernel
theorem dX5_carry_31 : decode cX5_carry 31 = .ok (.if_icmp .ne 6, 3) := by decide +kernel
theorem dX5_carry_34 : decode cX5_carry 34 = .ok (.ldc 145, 2) := by decide +kernel
theorem dX5_carry_36 : decode cX5_carry 36 = .ok (.ireturn, 1) := by decide +kernel
theorem dX5_carry_37 : decode cX5_carry 37 = .ok (.aload_n 0, 1) := by decide +kernel
theorem dX5_carry_38 : decode cX5_carry 38 = .ok (.getfield 40, 3) := by decide +kernel
theorem dX5_carry_41 : decode cX5_carry 41 = .ok (.aload_n 0, 1) := by decide +kernel
theorem dX5_carry_42 : decode cX5_carry 42 = .ok (.getfield 26, 3) := by decide +kernel
theorem dX5_carry_45 : decode cX5_carry 45 = .ok (.invokevirtual 156, 3) := by decide +kernel
theorem dX5_carry_48 : decode cX5_carry 48 = .ok (.aload_n 0, 1) := by decide +kernel
theorem dX5_carry_49 : decode cX5_carry 49 = .ok (.getfield 26, 3) := by decide +kernel
theorem dX5_carry_52 : decode cX5_carry 52 = .ok (.getfield 172, 3) := by decide +kernel
theorem dX5_carry_55 : decode cX5_carry 55 = .ok (.iload_n 1, 1) := by decide +kernel
theorem dX5_carry_56 : decode cX5_carry 56 = .ok (.iload_n 2, 1) := by decide +kernel
theorem dX5_carry_57 : decode cX5_carry 57 = .ok (.iastore, 1) := by decide +kernel
theorem dX5_carry_58 : decode cX5_carry 58 = .ok (.iload_n 3, 1) := by decide +kernel
theorem dX5_carry_59 : decode cX5_carry 59 = .ok (.ireturn, 1) := by decide +kernel
set_option maxRecDepth 20000 in
theorem ggX5_shake_X5_isTube : GoodIn wsX5_shake wsX5_isTube := goodIn_r _ [10, 2, 11, 12, 13, 9, 14, 47, 48, 49, 50, 51, 52, 53, 54, 55, 56, 57, 58, 59, 60, 61, 62, 63, 64, 65, 66, 67, 68] rfl (by decide +kernel)
set_option maxRecDepth 20000 in
theorem gX5_shake_X5_isTube : GoodIn wsX5_shake (wsV RX5 166 RX5 yX5_isTube wsX5_isTube) := goodIn_app (goodIn_of _ (by decide +kernel)) ggX5_shake_X5_isTube
set_option maxRecDepth 20000 in
theorem ggX5_shake_X1_keep : GoodIn wsX5_shake wsX1_keep := goodIn_r _ [19, 20, 21, 22, 23, 24, 25, 26, 27, 28, 29, 30, 31, 32, 33, 34, 35, 36, 37, 38, 39, 40, 69, 70, 71, 57, 58, 59, 60, 61, 62, 63, 64, 65, 66, 67, 68] rfl (by decide +kernel)
set_option maxRecDepth 20000 in
theorem gX5_shake_X1_keep : GoodIn wsX5_shake (wsV RX5 156 RX1 yX1_keep wsX1_keep) := goodIn_app (goodIn_of _ (by decide +kernel)) ggX5_shake_X1_keep
set_option maxRecDepth 20000 in
theorem ggX5_shake_X0_letDown : GoodIn wsX5_shake wsX0_letDown := goodIn_r _ [44, 39, 45, 33, 40, 46, 24, 25, 26, 57, 58, 59, 60, 61, 62, 63, 64, 65, 66, 67, 68] rfl (by decide +kernel)
set_option maxRecDepth 20000 in
theorem gX5_shake_X0_letDown : GoodIn wsX5_shake (wsV RX5 178 RX0 yX0_letDown wsX0_letDown) := goodIn_app (goodIn_of _ (by decide +kernel)) ggX5_shake_X0_letDown
theorem dX5_shake_0 : decode cX5_shake 0 = .ok (.aload_n 0, 1) := by decide +kernel
theorem dX5_shake_1 : decode cX5_shake 1 = .ok (.iload_n 1, 1) := by decide +kernel
theorem dX5_shake_2 : decode cX5_shake 2 = .ok (.invokevirtual 166, 3) := by decide +kernel
theorem dX5_shake_5 : decode cX5_shake 5 = .ok (.ifCond .ne 6, 3) := by decide +kernel
theorem dX5_shake_8 : decode cX5_shake 8 = .ok (.ldc 70, 2) := by decide +kernel
theorem dX5_shake_10 : decode cX5_shake 10 = .ok (.ireturn, 1) := by decide +kernel
theorem dX5_shake_11 : decode cX5_shake 11 = .ok (.aload_n 0, 1) := by decide +kernel
theorem dX5_shake_12 : decode cX5_shake 12 = .ok (.getfield 26, 3) := by decide +kernel
theorem dX5_shake_15 : decode cX5_shake 15 = .ok (.getfield 175, 3) := by decide +kernel
theorem dX5_shake_18 : decode cX5_shake 18 = .ok (.iload_n 1, 1) := by decide +kernel
theorem dX5_shake_19 : decode cX5_shake 19 = .ok (.iaload, 1) := by decide +kernel
theorem dX5_shake_20 : decode cX5_shake 20 = .ok (.istore_n 2, 1) := by decide +kernel
theorem dX5_shake_21 : decode cX5_shake 21 = .ok (.iload_n 2, 1) := by decide +kernel
theorem dX5_shake_22 : decode cX5_shake 22 = .ok (.ifCond .ne 6, 3) := by decide +kernel
theorem dX5_shake_25 : decode cX5_shake 25 = .ok (.ldc 145, 2) := by decide +kernel
theorem dX5_shake_27 : decode cX5_shake 27 = .ok (.ireturn, 1) := by decide +kernel
theorem dX5_shake_28 : decode cX5_shake 28 = .ok (.aload_n 0, 1) := by decide +kernel
theorem dX5_shake_29 : decode cX5_shake 29 = .ok (.getfield 40, 3) := by decide +kernel
theorem dX5_shake_32 : decode cX5_shake 32 = .ok (.aload_n 0, 1) := by decide +kernel
theorem dX5_shake_33 : decode cX5_shake 33 = .ok (.getfield 26, 3) := by decide +kernel
theorem dX5_shake_36 : decode cX5_shake 36 = .ok (.invokevirtual 156, 3) := by decide +kernel
theorem dX5_shake_39 : decode cX5_shake 39 = .ok (.aload_n 0, 1) := by decide +kernel
theorem dX5_shake_40 : decode cX5_shake 40 = .ok (.getfield 26, 3) := by decide +kernel
theorem dX5_shake_43 : decode cX5_shake 43 = .ok (.iload_n 1, 1) := by decide +kernel
theorem dX5_shake_44 : decode cX5_shake 44 = .ok (.invokevirtual 178, 3) := by decide +kernel
theorem dX5_shake_47 : decode cX5_shake 47 = .ok (.iload_n 2, 1) := by decide +kernel
theorem dX5_shake_48 : decode cX5_shake 48 = .ok (.ireturn, 1) := by decide +kernel
set_option maxRecDepth 20000 in
theorem ggX5_pour_X5_isTube : GoodIn wsX5_pour wsX5_isTube := goodIn_r _ [9, 2, 10, 11, 12, 8, 13, 50, 51, 52, 53, 54, 55, 56, 57, 58, 59, 60, 61, 62, 63, 64, 65, 66, 67, 68, 69, 70, 71] rfl (by decide +kernel)
set_option maxRecDepth 20000 in
theorem gX5_pour_X5_isTube : GoodIn wsX5_pour (wsV RX5 166 RX5 yX5_isTube wsX5_isTube) := goodIn_app (goodIn_of _ (by decide +kernel)) ggX5_pour_X5_isTube
set_option maxRecDepth 20000 in
theorem ggX5_pour_X0_pourable : GoodIn wsX5_pour wsX0_pourable := goodIn_r _ [18, 19, 20, 21, 22, 23, 24, 25, 60, 61, 62, 63, 64, 65, 66, 67, 68, 69, 70, 71] rfl (by decide +kernel)
set_option maxRecDepth 20000 in
theorem gX5_pour_X0_pourable : GoodIn wsX5_pour (wsV RX5 181 RX0 yX0_pourable wsX0_pourable) := goodIn_app (goodIn_of _ (by decide +kernel)) ggX5_pour_X0_pourable
set_option maxRecDepth 20000 in
theorem ggX5_pour_X1_keep : GoodIn wsX5_pour wsX1_keep := goodIn_r _ [30, 31, 32, 33, 34, 23, 24, 25, 35, 36, 37, 17, 38, 39, 40, 41, 42, 43, 44, 45, 19, 20, 72, 73, 74, 60, 61, 62, 63, 64, 65, 66, 67, 68, 69, 70, 71] rfl (by decide +kernel)
set_option maxRecDepth 20000 in
theorem gX5_pour_X1_keep : GoodIn wsX5_pour (wsV RX5 156 RX1 yX1_keep wsX1_keep) := goodIn_app (goodIn_of _ (by decide +kernel)) ggX5_pour_X1_keep
set_option maxRecDepth 20000 in
theorem ggX5_pour_X0_shift : GoodIn wsX5_pour wsX0_shift := goodIn_r _ [49, 20, 60, 61, 62, 63, 64, 65, 66, 67, 68, 69, 70, 71] rfl (by decide +kernel)
set_option maxRecDepth 20000 in
theorem gX5_pour_X0_shift : GoodIn wsX5_pour (wsV RX5 184 RX0 yX0_shift wsX0_shift) := goodIn_app (goodIn_of _ (by decide +kernel)) ggX5_pour_X0_shift
theorem dX5_pour_0 : decode cX5_pour 0 = .ok (.aload_n 0, 1) := by decide +kernel
theorem dX5_pour_1 : decode cX5_pour 1 = .ok (.iload_n 1, 1) := by decide +kernel
theorem dX5_pour_2 : decode cX5_pour 2 = .ok (.invokevirtual 166, 3) := by decide +kernel
theorem dX5_pour_5 : decode cX5_pour 5 = .ok (.ifCond .eq 16, 3) := by decide +kernel
theorem dX5_pour_8 : decode cX5_pour 8 = .ok (.aload_n 0, 1) := by decide +kernel
theorem dX5_pour_9 : decode cX5_pour 9 = .ok (.iload_n 2, 1) := by decide +kernel
theorem dX5_pour_10 : decode cX5_pour 10 = .ok (.invokevirtual 166, 3) := by decide +kernel
theorem dX5_pour_13 : decode cX5_pour 13 = .ok (.ifCond .eq 8, 3) := by decide +kernel
theorem dX5_pour_16 : decode cX5_pour 16 = .ok (.iload_n 1, 1) := by decide +kernel
theorem dX5_pour_17 : decode cX5_pour 17 = .ok (.iload_n 2, 1) := by decide +kernel
theorem dX5_pour_18 : decode cX5_pour 18 = .ok (.if_icmp .ne 6, 3) := by decide +kernel
theorem dX5_pour_21 : decode cX5_pour 21 = .ok (.ldc 70, 2) := by decide +kernel
theorem dX5_pour_23 : decode cX5_pour 23 = .ok (.ireturn, 1) := by decide +kernel
theorem dX5_pour_24 : decode cX5_pour 24 = .ok (.aload_n 0, 1) := by decide +kernel
theorem dX5_pour_25 : decode cX5_pour 25 = .ok (.getfield 26, 3) := by decide +kernel
theorem dX5_pour_28 : decode cX5_pour 28 = .ok (.iload_n 1, 1) := by decide +kernel
theorem dX5_pour_29 : decode cX5_pour 29 = .ok (.iload_n 2, 1) := by decide +kernel
theorem dX5_pour_30 : decode cX5_pour 30 = .ok (.invokevirtual 181, 3) := by decide +kernel
theorem dX5_pour_33 : decode cX5_pour 33 = .ok (.istore_n 3, 1) := by decide +kernel
theorem dX5_pour_34 : decode cX5_pour 34 = .ok (.iload_n 3, 1) := by decide +kernel
theorem dX5_pour_35 : decode cX5_pour 35 = .ok (.ifCond .ne 6, 3) := by decide +kernel
theorem dX5_pour_38 : decode cX5_pour 38 = .ok (.ldc 145, 2) := by decide +kernel
theorem dX5_pour_40 : decode cX5_pour 40 = .ok (.ireturn, 1) := by decide +kernel
theorem dX5_pour_41 : decode cX5_pour 41 = .ok (.aload_n 0, 1) := by decide +kernel
theorem dX5_pour_42 : decode cX5_pour 42 = .ok (.getfield 40, 3) := by decide +kernel
theorem dX5_pour_45 : decode cX5_pour 45 = .ok (.aload_n 0, 1) := by decide +kernel
theorem dX5_pour_46 : decode cX5_pour 46 = .ok (.getfield 26, 3) := by decide +kernel
theorem dX5_pour_49 : decode cX5_pour 49 = .ok (.invokevirtual 156, 3) := by decide +kernel
theorem dX5_pour_52 : decode cX5_pour 52 = .ok (.aload_n 0, 1) := by decide +kernel
theorem dX5_pour_53 : decode cX5_pour 53 = .ok (.getfield 26, 3) := by decide +kernel
theorem dX5_pour_56 : decode cX5_pour 56 = .ok (.iload_n 1, 1) := by decide +kernel
theorem dX5_pour_57 : decode cX5_pour 57 = .ok (.iload_n 2, 1) := by decide +kernel
theorem dX5_pour_58 : decode cX5_pour 58 = .ok (.iload_n 3, 1) := by decide +kernel
theorem dX5_pour_59 : decode cX5_pour 59 = .ok (.invokevirtual 184, 3) := by decide +kernel
theorem dX5_pour_62 : decode cX5_pour 62 = .ok (.iload_n 3, 1) := by decide +kernel
theorem dX5_pour_63 : decode cX5_pour 63 = .ok (.ireturn, 1) := by decide +kernel
set_option maxRecDepth 20000 in
theorem ggX5_stove_X5_isRoom : GoodIn wsX5_stove wsX5_isRoom := goodIn_r _ [9, 2, 10, 11, 12, 8, 13, 40, 41, 42, 43, 44, 45, 46, 47, 48, 49, 50, 51, 52, 53, 54, 55, 56, 57, 58, 59, 60, 61] rfl (by decide +kernel)
set_option maxRecDepth 20000 in
theorem gX5_stove_X5_isRoom : GoodIn wsX5_stove (wsV RX5 187 RX5 yX5_isRoom wsX5_isRoom) := goodIn_app (goodIn_of _ (by decide +kernel)) ggX5_stove_X5_isRoom
set_option maxRecDepth 20000 in
theorem ggX5_stove_X5_within : GoodIn wsX5_stove wsX5_within := goodIn_r _ [13] rfl (by decide +kernel)
set_option maxRecDepth 20000 in
theorem gX5_stove_X5_within : GoodIn wsX5_stove (va_wsS RX5 66 yX5_within wsX5_within) := goodIn_app (goodIn_of _ (by decide +kernel)) ggX5_stove_X5_within
set_option maxRecDepth 20000 in
theorem ggX5_stove_X1_keep : GoodIn wsX5_stove wsX1_keep := goodIn_r _ [18, 19, 20, 21, 22, 23, 24, 25, 26, 27, 28, 29, 30, 31, 32, 33, 34, 35, 36, 37, 38, 39, 62, 63, 64, 50, 51, 52, 53, 54, 55, 56, 57, 58, 59, 60, 61] rfl (by decide +kernel)
set_option maxRecDepth 20000 in
theorem gX5_stove_X1_keep : GoodIn wsX5_stove (wsV RX5 156 RX1 yX1_keep wsX1_keep) := goodIn_app (goodIn_of _ (by decide +kernel)) ggX5_stove_X1_keep
theorem dX5_stove_0 : decode cX5_stove 0 = .ok (.aload_n 0, 1) := by decide +kernel
theorem dX5_stove_1 : decode cX5_stove 1 = .ok (.iload_n 1, 1) := by decide +kernel
theorem dX5_stove_2 : decode cX5_stove 2 = .ok (.invokevirtual 187, 3) := by decide +kernel
theorem dX5_stove_5 : decode cX5_stove 5 = .ok (.ifCond .eq 13, 3) := by decide +kernel
theorem dX5_stove_8 : decode cX5_stove 8 = .ok (.iload_n 2, 1) := by decide +kernel
theorem dX5_stove_9 : decode cX5_stove 9 = .ok (.iconst 0, 1) := by decide +kernel
theorem dX5_stove_10 : decode cX5_stove 10 = .ok (.bipush 20, 2) := by decide +kernel
theorem dX5_stove_12 : decode cX5_stove 12 = .ok (.invokestatic 66, 3) := by decide +kernel
theorem dX5_stove_15 : decode cX5_stove 15 = .ok (.ifCond .ne 6, 3) := by decide +kernel
theorem dX5_stove_18 : decode cX5_stove 18 = .ok (.ldc 70, 2) := by decide +kernel
theorem dX5_stove_20 : decode cX5_stove 20 = .ok (.ireturn, 1) := by decide +kernel
theorem dX5_stove_21 : decode cX5_stove 21 = .ok (.aload_n 0, 1) := by decide +kernel
theorem dX5_stove_22 : decode cX5_stove 22 = .ok (.getfield 26, 3) := by decide +kernel
theorem dX5_stove_25 : decode cX5_stove 25 = .ok (.getfield 190, 3) := by decide +kernel
theorem dX5_stove_28 : decode cX5_stove 28 = .ok (.iload_n 1, 1) := by decide +kernel
theorem dX5_stove_29 : decode cX5_stove 29 = .ok (.iaload, 1) := by decide +kernel
theorem dX5_stove_30 : decode cX5_stove 30 = .ok (.istore_n 3, 1) := by decide +kernel
theorem dX5_stove_31 : decode cX5_stove 31 = .ok (.aload_n 0, 1) := by decide +kernel
theorem dX5_stove_32 : decode cX5_stove 32 = .ok (.getfield 40, 3) := by decide +kernel
theorem dX5_stove_35 : decode cX5_stove 35 = .ok (.aload_n 0, 1) := by decide +kernel
theorem dX5_stove_36 : decode cX5_stove 36 = .ok (.getfield 26, 3) := by decide +kernel
theorem dX5_stove_39 : decode cX5_stove 39 = .ok (.invokevirtual 156, 3) := by decide +kernel
theorem dX5_stove_42 : decode cX5_stove 42 = .ok (.aload_n 0, 1) := by decide +kernel
theorem dX5_stove_43 : decode cX5_stove 43 = .ok (.getfield 26, 3) := by decide +kernel
theorem dX5_stove_46 : decode cX5_stove 46 = .ok (.getfield 190, 3) := by decide +kernel
theorem dX5_stove_49 : decode cX5_stove 49 = .ok (.iload_n 1, 1) := by decide +kernel
theorem dX5_stove_50 : decode cX5_stove 50 = .ok (.iload_n 2, 1) := by decide +kernel
theorem dX5_stove_51 : decode cX5_stove 51 = .ok (.iastore, 1) := by decide +kernel
theorem dX5_stove_52 : decode cX5_stove 52 = .ok (.iload_n 3, 1) := by decide +kernel
theorem dX5_stove_53 : decode cX5_stove 53 = .ok (.ireturn, 1) := by decide +kernel
set_option maxRecDepth 20000 in
theorem ggX5_tube_X5_isTube : GoodIn wsX5_tube wsX5_isTube := goodIn_r _ [11, 2, 12, 13, 14, 10, 15, 33, 34, 35, 36, 37, 38, 39, 40, 41, 42, 43, 44, 45, 46, 47, 48, 49, 50, 51, 52, 53, 54] rfl (by decide +kernel)
set_option maxRecDepth 20000 in
theorem gX5_tube_X5_isTube : GoodIn wsX5_tube (wsV RX5 166 RX5 yX5_isTube wsX5_isTube) := goodIn_app (goodIn_of _ (by decide +kernel)) ggX5_tube_X5_isTube
set_option maxRecDepth 20000 in
theorem ggX5_tube_X0_wants : GoodIn wsX5_tube wsX0_wants := goodIn_r _ [20, 21, 22, 23, 24, 25, 26, 27, 28, 19, 29, 30, 31, 32, 43, 44, 45, 46, 47, 48, 49, 50, 51, 52, 53, 54] rfl (by decide +kernel)
set_option maxRecDepth 20000 in
theorem gX5_tube_X0_wants : GoodIn wsX5_tube (wsV RX5 199 RX0 yX0_wants wsX0_wants) := goodIn_app (goodIn_of _ (by decide +kernel)) ggX5_tube_X0_wants
theorem dX5_tube_0 : decode cX5_tube 0 = .ok (.aload_n 0, 1) := by decide +kernel
theorem dX5_tube_1 : decode cX5_tube 1 = .ok (.iload_n 1, 1) := by decide +kernel
theorem dX5_tube_2 : decode cX5_tube 2 = .ok (.invokevirtual 166, 3) := by decide +kernel
theorem dX5_tube_5 : decode cX5_tube 5 = .ok (.ifCond .ne 6, 3) := by decide +kernel
theorem dX5_tube_8 : decode cX5_tube 8 = .ok (.ldc 70, 2) := by decide +kernel
theorem dX5_tube_10 : decode cX5_tube 10 = .ok (.ireturn, 1) := by decide +kernel
theorem dX5_tube_11 : decode cX5_tube 11 = .ok (.iload_n 2, 1) := by decide +kernel
theorem dX5_tube_12 : decode cX5_tube 12 = .ok (.tableswitch 85 0 4 #[36, 46, 56, 66, 76], 36) := by decide +kernel
theorem dX5_tube_48 : decode cX5_tube 48 = .ok (.aload_n 0, 1) := by decide +kernel
theorem dX5_tube_49 : decode cX5_tube 49 = .ok (.getfield 26, 3) := by decide +kernel
theorem dX5_tube_52 : decode cX5_tube 52 = .ok (.getfield 172, 3) := by decide +kernel
theorem dX5_tube_55 : decode cX5_tube 55 = .ok (.iload_n 1, 1) := by decide +kernel
theorem dX5_tube_56 : decode cX5_tube 56 = .ok (.iaload, 1) := by decide +kernel
theorem dX5_tube_57 : decode cX5_tube 57 = .ok (.ireturn, 1) := by decide +kernel
theorem dX5_tube_58 : decode cX5_tube 58 = .ok (.aload_n 0, 1) := by decide +kernel
theorem dX5_tube_59 : decode cX5_tube 59 = .ok (.getfield 26, 3) := by decide +kernel
theorem dX5_tube_62 : decode cX5_tube 62 = .ok (.getfield 193, 3) := by decide +kernel
theorem dX5_tube_65 : decode cX5_tube 65 = .ok (.iload_n 1, 1) := by decide +kernel
theorem dX5_tube_66 : decode cX5_tube 66 = .ok (.iaload, 1) := by decide +kernel
theorem dX5_tube_67 : decode cX5_tube 67 = .ok (.ireturn, 1) := by decide +kernel
theorem dX5_tube_68 : decode cX5_tube 68 = .ok (.aload_n 0, 1) := by decide +kernel
theorem dX5_tube_69 : decode cX5_tube 69 = .ok (.getfield 26, 3) := by decide +kernel
theorem dX5_tube_72 : decode cX5_tube 72 = .ok (.getfield 196, 3) := by decide +kernel
theorem dX5_tube_75 : decode cX5_tube 75 = .ok (.iload_n 1, 1) := by decide +kernel
theorem dX5_tube_76 : decode cX5_tube 76 = .ok (.iaload, 1) := by decide +kernel
theorem dX5_tube_77 : decode cX5_tube 77 = .ok (.ireturn, 1) := by decide +kernel
theorem dX5_tube_78 : decode cX5_tube 78 = .ok (.aload_n 0, 1) := by decide +kernel
theorem dX5_tube_79 : decode cX5_tube 79 = .ok (.getfield 26, 3) := by decide +kernel
theorem dX5_tube_82 : decode cX5_tube 82 = .ok (.getfield 175, 3) := by decide +kernel
theorem dX5_tube_85 : decode cX5_tube 85 = .ok (.iload_n 1, 1) := by decide +kernel
theorem dX5_tube_86 : decode cX5_tube 86 = .ok (.iaload, 1) := by decide +kernel
theorem dX5_tube_87 : decode cX5_tube 87 = .ok (.ireturn, 1) := by decide +kernel
theorem dX5_tube_88 : decode cX5_tube 88 = .ok (.aload_n 0, 1) := by decide +kernel
theorem dX5_tube_89 : decode cX5_tube 89 = .ok (.getfield 26, 3) := by decide +kernel
theorem dX5_tube_92 : decode cX5_tube 92 = .ok (.iload_n 1, 1) := by decide +kernel
theorem dX5_tube_93 : decode cX5_tube 93 = .ok (.invokevirtual 199, 3) := by decide +kernel
theorem dX5_tube_96 : decode cX5_tube 96 = .ok (.ireturn, 1) := by decide +kernel
theorem dX5_tube_97 : decode cX5_tube 97 = .ok (.ldc 70, 2) := by decide +kernel
theorem dX5_tube_99 : decode cX5_tube 99 = .ok (.ireturn, 1) := by decide +kernel
set_option maxRecDepth 20000 in
theorem ggX5_room_X5_isPlace : GoodIn wsX5_room wsX5_isPlace := goodIn_r _ [9, 2, 10, 11, 12, 13, 14, 15, 16, 17, 18, 8, 19, 36, 37, 38, 39, 40, 41, 42, 43, 44, 45, 46, 47, 48, 49, 50, 51, 52, 53, 54, 55, 56, 57] rfl (by decide +kernel)
set_option maxRecDepth 20000 in
theorem gX5_room_X5_isPlace : GoodIn wsX5_room (wsV RX5 169 RX5 yX5_isPlace wsX5_isPlace) := goodIn_app (goodIn_of _ (by decide +kernel)) ggX5_room_X5_isPlace
set_option maxRecDepth 20000 in
theorem ggX5_room_X0_tubesAt : GoodIn wsX5_room wsX0_tubesAt := goodIn_r _ [23, 24, 25, 46, 47, 48, 49, 50, 51, 52, 53, 54, 55, 56, 57] rfl (by decide +kernel)
set_option maxRecDepth 20000 in
theorem gX5_room_X0_tubesAt : GoodIn wsX5_room (wsV RX5 202 RX0 yX0_tubesAt wsX0_tubesAt) := goodIn_app (goodIn_of _ (by decide +kernel)) ggX5_room_X0_tubesAt
set_option maxRecDepth 20000 in
theorem ggX5_room_X5_isRoom : GoodIn wsX5_room wsX5_isRoom := goodIn_r _ [29, 2, 10, 17, 18, 8, 19, 36, 37, 38, 39, 40, 41, 42, 43, 44, 45, 46, 47, 48, 49, 50, 51, 52, 53, 54, 55, 56, 57] rfl (by decide +kernel)
set_option maxRecDepth 20000 in
theorem gX5_room_X5_isRoom : GoodIn wsX5_room (wsV RX5 187 RX5 yX5_isRoom wsX5_isRoom) := goodIn_app (goodIn_of _ (by decide +kernel)) ggX5_room_X5_isRoom
set_option maxRecDepth 20000 in
theorem ggX5_room_X0_isCold : GoodIn wsX5_room wsX0_isCold := goodIn_r _ [33, 16, 34, 35, 46, 47, 48, 49, 50, 51, 52, 53, 54, 55, 56, 57] rfl (by decide +kernel)
set_option maxRecDepth 20000 in
theorem gX5_room_X0_isCold : GoodIn wsX5_room (wsV RX5 208 RX0 yX0_isCold wsX0_isCold) := goodIn_app (goodIn_of _ (by decide +kernel)) ggX5_room_X0_isCold
theorem dX5_room_0 : decode cX5_room 0 = .ok (.aload_n 0, 1) := by decide +kernel
theorem dX5_room_1 : decode cX5_room 1 = .ok (.iload_n 1, 1) := by decide +kernel
theorem dX5_room_2 : decode cX5_room 2 = .ok (.invokevirtual 169, 3) := by decide +kernel
theorem dX5_room_5 : decode cX5_room 5 = .ok (.ifCond .ne 6, 3) := by decide +kernel
theorem dX5_room_8 : decode cX5_room 8 = .ok (.ldc 70, 2) := by decide +kernel
theorem dX5_room_10 : decode cX5_room 10 = .ok (.ireturn, 1) := by decide +kernel
theorem dX5_room_11 : decode cX5_room 11 = .ok (.iload_n 2, 1) := by decide +kernel
theorem dX5_room_12 : decode cX5_room 12 = .ok (.iconst 3, 1) := by decide +kernel
theorem dX5_room_13 : decode cX5_room 13 = .ok (.if_icmp .ne 12, 3) := by decide +kernel
theorem dX5_room_16 : decode cX5_room 16 = .ok (.aload_n 0, 1) := by decide +kernel
theorem dX5_room_17 : decode cX5_room 17 = .ok (.getfield 26, 3) := by decide +kernel
theorem dX5_room_20 : decode cX5_room 20 = .ok (.iload_n 1, 1) := by decide +kernel
theorem dX5_room_21 : decode cX5_room 21 = .ok (.invokevirtual 202, 3) := by decide +kernel
theorem dX5_room_24 : decode cX5_room 24 = .ok (.ireturn, 1) := by decide +kernel
theorem dX5_room_25 : decode cX5_room 25 = .ok (.aload_n 0, 1) := by decide +kernel
theorem dX5_room_26 : decode cX5_room 26 = .ok (.iload_n 1, 1) := by decide +kernel
theorem dX5_room_27 : decode cX5_room 27 = .ok (.invokevirtual 187, 3) := by decide +kernel
theorem dX5_room_30 : decode cX5_room 30 = .ok (.ifCond .ne 6, 3) := by decide +kernel
theorem dX5_room_33 : decode cX5_room 33 = .ok (.ldc 70, 2) := by decide +kernel
theorem dX5_room_35 : decode cX5_room 35 = .ok (.ireturn, 1) := by decide +kernel
theorem dX5_room_36 : decode cX5_room 36 = .ok (.iload_n 2, 1) := by decide +kernel
theorem dX5_room_37 : decode cX5_room 37 = .ok (.tableswitch 64 0 2 #[27, 37, 47], 27) := by decide +kernel
theorem dX5_room_64 : decode cX5_room 64 = .ok (.aload_n 0, 1) := by decide +kernel
theorem dX5_room_65 : decode cX5_room 65 = .ok (.getfield 26, 3) := by decide +kernel
theorem dX5_room_68 : decode cX5_room 68 = .ok (.getfield 205, 3) := by decide +kernel
theorem dX5_room_71 : decode cX5_room 71 = .ok (.iload_n 1, 1) := by decide +kernel
theorem dX5_room_72 : decode cX5_room 72 = .ok (.iaload, 1) := by decide +kernel
theorem dX5_room_73 : decode cX5_room 73 = .ok (.ireturn, 1) := by decide +kernel
theorem dX5_room_74 : decode cX5_room 74 = .ok (.aload_n 0, 1) := by decide +kernel
theorem dX5_room_75 : decode cX5_room 75 = .ok (.getfield 26, 3) := by decide +kernel
theorem dX5_room_78 : decode cX5_room 78 = .ok (.getfield 190, 3) := by decide +kernel
theorem dX5_room_81 : decode cX5_room 81 = .ok (.iload_n 1, 1) := by decide +kernel
theorem dX5_room_82 : decode cX5_room 82 = .ok (.iaload, 1) := by decide +kernel
theorem dX5_room_83 : decode cX5_room 83 = .ok (.ireturn, 1) := by decide +kernel
theorem dX5_room_84 : decode cX5_room 84 = .ok (.aload_n 0, 1) := by decide +kernel
theorem dX5_room_85 : decode cX5_room 85 = .ok (.getfield 26, 3) := by decide +kernel
theorem dX5_room_88 : decode cX5_room 88 = .ok (.iload_n 1, 1) := by decide +kernel
theorem dX5_room_89 : decode cX5_room 89 = .ok (.invokevirtual 208, 3) := by decide +kernel
theorem dX5_room_92 : decode cX5_room 92 = .ok (.ifCond .eq 7, 3) := by decide +kernel
theorem dX5_room_95 : decode cX5_room 95 = .ok (.iconst 1, 1) := by decide +kernel
theorem dX5_room_96 : decode cX5_room 96 = .ok (.goto 4, 3) := by decide +kernel
theorem dX5_room_99 : decode cX5_room 99 = .ok (.iconst 0, 1) := by decide +kernel
theorem dX5_room_100 : decode cX5_room 100 = .ok (.ireturn, 1) := by decide +kernel
theorem dX5_room_101 : decode cX5_room 101 = .ok (.ldc 70, 2) := by decide +kernel
theorem dX5_room_103 : decode cX5_room 103 = .ok (.ireturn, 1) := by decide +kernel
set_option maxRecDepth 20000 in
theorem ggX5_ahead_X5_isRoom : GoodIn wsX5_ahead wsX5_isRoom := goodIn_r _ [9, 3, 10, 11, 12, 8, 13, 66, 67, 68, 69, 70, 71, 72, 73, 74, 75, 76, 77, 78, 79, 80, 81, 82, 83, 84, 85, 86, 87] rfl (by decide +kernel)
set_option maxRecDepth 20000 in
theorem gX5_ahead_X5_isRoom : GoodIn wsX5_ahead (wsV RX5 187 RX5 yX5_isRoom wsX5_isRoom) := goodIn_app (goodIn_of _ (by decide +kernel)) ggX5_ahead_X5_isRoom
set_option maxRecDepth 20000 in
theorem ggX5_ahead_X5_within : GoodIn wsX5_ahead wsX5_within := goodIn_r _ [13] rfl (by decide +kernel)
set_option maxRecDepth 20000 in
theorem gX5_ahead_X5_within : GoodIn wsX5_ahead (va_wsS RX5 66 yX5_within wsX5_within) := goodIn_app (goodIn_of _ (by decide +kernel)) ggX5_ahead_X5_within
set_option maxRecDepth 20000 in
theorem ggX5_ahead_X0_become : GoodIn wsX5_ahead wsX0_become := goodIn_r _ [18, 19, 20, 21, 22, 23, 24, 25, 26, 27, 28, 29, 30, 31, 32, 33, 34, 76, 77, 78, 79, 80, 81, 82, 83, 84, 85, 86, 87] rfl (by decide +kernel)
set_option maxRecDepth 20000 in
theorem gX5_ahead_X0_become : GoodIn wsX5_ahead (wsV RX5 133 RX0 yX0_become wsX0_become) := goodIn_app (goodIn_of _ (by decide +kernel)) ggX5_ahead_X0_become
set_option maxRecDepth 20000 in
theorem ggX5_ahead_X0_passMinutes : GoodIn wsX5_ahead wsX0_passMinutes := goodIn_r _ [38, 39, 40, 41, 17, 42, 22, 21, 24, 19, 43, 44, 45, 46, 29, 47, 48, 49, 23, 50, 51, 52, 53, 30, 34, 31, 54, 55, 56, 57, 33, 58, 59, 60, 61, 32, 62, 63, 64, 65, 20, 76, 77, 78, 79, 80, 81, 82, 83, 84, 85, 86, 87] rfl (by decide +kernel)
set_option maxRecDepth 20000 in
theorem gX5_ahead_X0_passMinutes : GoodIn wsX5_ahead (wsV RX5 211 RX0 yX0_passMinutes wsX0_passMinutes) := goodIn_app (goodIn_of _ (by decide +kernel)) ggX5_ahead_X0_passMinutes
theorem dX5_ahead_0 : decode cX5_ahead 0 = .ok (.aload_n 0, 1) := by decide +kernel
theorem dX5_ahead_1 : decode cX5_ahead 1 = .ok (.iload_n 1, 1) := by decide +kernel
theorem dX5_ahead_2 : decode cX5_ahead 2 = .ok (.invokevirtual 187, 3) := by decide +kernel
theorem dX5_ahead_5 : decode cX5_ahead 5 = .ok (.ifCond .eq 13, 3) := by decide +kernel
theorem dX5_ahead_8 : decode cX5_ahead 8 = .ok (.iload_n 2, 1) := by decide +kernel
theorem dX5_ahead_9 : decode cX5_ahead 9 = .ok (.iconst 0, 1) := by decide +kernel
theorem dX5_ahead_10 : decode cX5_ahead 10 = .ok (.bipush 60, 2) := by decide +kernel
theorem dX5_ahead_12 : decode cX5_ahead 12 = .ok (.invokestatic 66, 3) := by decide +kernel
theorem dX5_ahead_15 : decode cX5_ahead 15 = .ok (.ifCond .ne 6, 3) := by decide +kernel
theorem dX5_ahead_18 : decode cX5_ahead 18 = .ok (.ldc 70, 2) := by decide +kernel
theorem dX5_ahead_20 : decode cX5_ahead 20 = .ok (.ireturn, 1) := by decide +kernel
theorem dX5_ahead_21 : decode cX5_ahead 21 = .ok (.aload_n 0, 1) := by decide +kernel
theorem dX5_ahead_22 : decode cX5_ahead 22 = .ok (.getfield 30, 3) := by decide +kernel
theorem dX5_ahead_25 : decode cX5_ahead 25 = .ok (.aload_n 0, 1) := by decide +kernel
theorem dX5_ahead_26 : decode cX5_ahead 26 = .ok (.getfield 26, 3) := by decide +kernel
theorem dX5_ahead_29 : decode cX5_ahead 29 = .ok (.invokevirtual 133, 3) := by decide +kernel
theorem dX5_ahead_32 : decode cX5_ahead 32 = .ok (.aload_n 0, 1) := by decide +kernel
theorem dX5_ahead_33 : decode cX5_ahead 33 = .ok (.getfield 30, 3) := by decide +kernel
theorem dX5_ahead_36 : decode cX5_ahead 36 = .ok (.iload_n 2, 1) := by decide +kernel
theorem dX5_ahead_37 : decode cX5_ahead 37 = .ok (.invokevirtual 211, 3) := by decide +kernel
theorem dX5_ahead_40 : decode cX5_ahead 40 = .ok (.aload_n 0, 1) := by decide +kernel
theorem dX5_ahead_41 : decode cX5_ahead 41 = .ok (.getfield 30, 3) := by decide +kernel
theorem dX5_ahead_44 : decode cX5_ahead 44 = .ok (.getfield 205, 3) := by decide +kernel
theorem dX5_ahead_47 : decode cX5_ahead 47 = .ok (.iload_n 1, 1) := by decide +kernel
theorem dX5_ahead_48 : decode cX5_ahead 48 = .ok (.iaload, 1) := by decide +kernel
theorem dX5_ahead_49 : decode cX5_ahead 49 = .ok (.ireturn, 1) := by decide +kernel
set_option maxRecDepth 20000 in
theorem ggX5_upAhead_X5_isTube : GoodIn wsX5_upAhead wsX5_isTube := goodIn_r _ [9, 3, 10, 11, 12, 8, 13, 66, 67, 68, 69, 70, 71, 72, 73, 74, 75, 76, 77, 78, 79, 80, 81, 82, 83, 84, 85, 86, 87] rfl (by decide +kernel)
set_option maxRecDepth 20000 in
theorem gX5_upAhead_X5_isTube : GoodIn wsX5_upAhead (wsV RX5 166 RX5 yX5_isTube wsX5_isTube) := goodIn_app (goodIn_of _ (by decide +kernel)) ggX5_upAhead_X5_isTube
set_option maxRecDepth 20000 in
theorem ggX5_upAhead_X5_within : GoodIn wsX5_upAhead wsX5_within := goodIn_r _ [13] rfl (by decide +kernel)
set_option maxRecDepth 20000 in
theorem gX5_upAhead_X5_within : GoodIn wsX5_upAhead (va_wsS RX5 66 yX5_within wsX5_within) := goodIn_app (goodIn_of _ (by decide +kernel)) ggX5_upAhead_X5_within
set_option maxRecDepth 20000 in
theorem ggX5_upAhead_X0_become : GoodIn wsX5_upAhead wsX0_become := goodIn_r _ [18, 19, 20, 21, 22, 23, 24, 25, 26, 27, 28, 29, 30, 31, 32, 33, 34, 76, 77, 78, 79, 80, 81, 82, 83, 84, 85, 86, 87] rfl (by decide +kernel)
set_option maxRecDepth 20000 in
theorem gX5_upAhead_X0_become : GoodIn wsX5_upAhead (wsV RX5 133 RX0 yX0_become wsX0_become) := goodIn_app (goodIn_of _ (by decide +kernel)) ggX5_upAhead_X0_become
set_option maxRecDepth 20000 in
theorem ggX5_upAhead_X0_passMinutes : GoodIn wsX5_upAhead wsX0_passMinutes := goodIn_r _ [38, 39, 40, 41, 17, 42, 22, 21, 24, 19, 43, 44, 45, 46, 29, 47, 48, 49, 23, 50, 51, 52, 53, 30, 34, 31, 54, 55, 56, 57, 33, 58, 59, 60, 61, 32, 62, 63, 64, 65, 20, 76, 77, 78, 79, 80, 81, 82, 83, 84, 85, 86, 87] rfl (by decide +kernel)
set_option maxRecDepth 20000 in
theorem gX5_upAhead_X0_passMinutes : GoodIn wsX5_upAhead (wsV RX5 211 RX0 yX0_passMinutes wsX0_passMinutes) := goodIn_app (goodIn_of _ (by decide +kernel)) ggX5_upAhead_X0_passMinutes
theorem dX5_upAhead_0 : decode cX5_upAhead 0 = .ok (.aload_n 0, 1) := by decide +kernel
theorem dX5_upAhead_1 : decode cX5_upAhead 1 = .ok (.iload_n 1, 1) := by decide +kernel
theorem dX5_upAhead_2 : decode cX5_upAhead 2 = .ok (.invokevirtual 166, 3) := by decide +kernel
theorem dX5_upAhead_5 : decode cX5_upAhead 5 = .ok (.ifCond .eq 13, 3) := by decide +kernel
theorem dX5_upAhead_8 : decode cX5_upAhead 8 = .ok (.iload_n 2, 1) := by decide +kernel
theorem dX5_upAhead_9 : decode cX5_upAhead 9 = .ok (.iconst 0, 1) := by decide +kernel
theorem dX5_upAhead_10 : decode cX5_upAhead 10 = .ok (.bipush 60, 2) := by decide +kernel
theorem dX5_upAhead_12 : decode cX5_upAhead 12 = .ok (.invokestatic 66, 3) := by decide +kernel
theorem dX5_upAhead_15 : decode cX5_upAhead 15 = .ok (.ifCond .ne 6, 3) := by decide +kernel
theorem dX5_upAhead_18 : decode cX5_upAhead 18 = .ok (.ldc 70, 2) := by decide +kernel
theorem dX5_upAhead_20 : decode cX5_upAhead 20 = .ok (.ireturn, 1) := by decide +kernel
theorem dX5_upAhead_21 : decode cX5_upAhead 21 = .ok (.aload_n 0, 1) := by decide +kernel
theorem dX5_upAhead_22 : decode cX5_upAhead 22 = .ok (.getfield 30, 3) := by decide +kernel
theorem dX5_upAhead_25 : decode cX5_upAhead 25 = .ok (.aload_n 0, 1) := by decide +kernel
theorem dX5_upAhead_26 : decode cX5_upAhead 26 = .ok (.getfield 26, 3) := by decide +kernel
theorem dX5_upAhead_29 : decode cX5_upAhead 29 = .ok (.invokevirtual 133, 3) := by decide +kernel
theorem dX5_upAhead_32 : decode cX5_upAhead 32 = .ok (.aload_n 0, 1) := by decide +kernel
theorem dX5_upAhead_33 : decode cX5_upAhead 33 = .ok (.getfield 30, 3) := by decide +kernel
theorem dX5_upAhead_36 : decode cX5_upAhead 36 = .ok (.iload_n 2, 1) := by decide +kernel
theorem dX5_upAhead_37 : decode cX5_upAhead 37 = .ok (.invokevirtual 211, 3) := by decide +kernel
theorem dX5_upAhead_40 : decode cX5_upAhead 40 = .ok (.aload_n 0, 1) := by decide +kernel
theorem dX5_upAhead_41 : decode cX5_upAhead 41 = .ok (.getfield 30, 3) := by decide +kernel
theorem dX5_upAhead_44 : decode cX5_upAhead 44 = .ok (.getfield 175, 3) := by decide +kernel
theorem dX5_upAhead_47 : decode cX5_upAhead 47 = .ok (.iload_n 1, 1) := by decide +kernel
theorem dX5_upAhead_48 : decode cX5_upAhead 48 = .ok (.iaload, 1) := by decide +kernel
theorem dX5_upAhead_49 : decode cX5_upAhead 49 = .ok (.ireturn, 1) := by decide +kernel
set_option maxRecDepth 20000 in
theorem ggX5_chill_X5_isRoom : GoodIn wsX5_chill wsX5_isRoom := goodIn_r _ [6, 7, 8, 9, 10, 5, 11, 70, 71, 72, 73, 74, 75, 76, 77, 78, 79, 80, 81, 82, 83, 84, 85, 86, 87, 88, 89, 90, 91] rfl (by decide +kernel)
set_option maxRecDepth 20000 in
theorem gX5_chill_X5_isRoom : GoodIn wsX5_chill (wsV RX5 187 RX5 yX5_isRoom wsX5_isRoom) := goodIn_app (goodIn_of _ (by decide +kernel)) ggX5_chill_X5_isRoom
set_option maxRecDepth 20000 in
theorem ggX5_chill_X5_untilCold : GoodIn wsX5_chill wsX5_untilCold := goodIn_r _ [15, 16, 7, 17, 18, 19, 20, 21, 22, 23, 24, 25, 26, 27, 28, 29, 30, 31, 32, 33, 34, 35, 36, 37, 38, 39, 40, 41, 42, 43, 44, 45, 46, 47, 48, 49, 50, 51, 52, 53, 54, 55, 56, 57, 58, 59, 60, 61, 62, 63, 64, 65, 66, 67, 68, 69, 70, 71, 72, 73, 74, 75, 76, 77, 78, 79, 80, 81, 82, 83, 84, 85, 86, 87, 88, 89, 90, 91] rfl (by decide +kernel)
set_option maxRecDepth 20000 in
theorem gX5_chill_X5_untilCold : GoodIn wsX5_chill (wsV RX5 214 RX5 yX5_untilCold wsX5_untilCold) := goodIn_app (goodIn_of _ (by decide +kernel)) ggX5_chill_X5_untilCold
theorem dX5_chill_0 : decode cX5_chill 0 = .ok (.aload_n 0, 1) := by decide +kernel
theorem dX5_chill_1 : decode cX5_chill 1 = .ok (.iload_n 1, 1) := by decide +kernel
theorem dX5_chill_2 : decode cX5_chill 2 = .ok (.invokevirtual 187, 3) := by decide +kernel
theorem dX5_chill_5 : decode cX5_chill 5 = .ok (.ifCond .ne 6, 3) := by decide +kernel
theorem dX5_chill_8 : decode cX5_chill 8 = .ok (.ldc 70, 2) := by decide +kernel
theorem dX5_chill_10 : decode cX5_chill 10 = .ok (.ireturn, 1) := by decide +kernel
theorem dX5_chill_11 : decode cX5_chill 11 = .ok (.aload_n 0, 1) := by decide +kernel
theorem dX5_chill_12 : decode cX5_chill 12 = .ok (.iconst 1, 1) := by decide +kernel
theorem dX5_chill_13 : decode cX5_chill 13 = .ok (.iload_n 1, 1) := by decide +kernel
theorem dX5_chill_14 : decode cX5_chill 14 = .ok (.ishl, 1) := by decide +kernel
theorem dX5_chill_15 : decode cX5_chill 15 = .ok (.invokevirtual 214, 3) := by decide +kernel
theorem dX5_chill_18 : decode cX5_chill 18 = .ok (.ireturn, 1) := by decide +kernel
set_option maxRecDepth 20000 in
theorem ggX5_first_X0_stands : GoodIn wsX5_first wsX0_stands := goodIn_r _ [10, 11, 85, 86, 87, 88, 89, 90, 91, 92, 93, 94, 95, 96] rfl (by decide +kernel)
set_option maxRecDepth 20000 in
theorem gX5_first_X0_stands : GoodIn wsX5_first (wsV RX5 149 RX0 yX0_stands wsX0_stands) := goodIn_app (goodIn_of _ (by decide +kernel)) ggX5_first_X0_stands
set_option maxRecDepth 20000 in
theorem ggX5_first_X5_within : GoodIn wsX5_first wsX5_within := goodIn_r _ [15] rfl (by decide +kernel)
set_option maxRecDepth 20000 in
theorem gX5_first_X5_within : GoodIn wsX5_first (va_wsS RX5 66 yX5_within wsX5_within) := goodIn_app (goodIn_of _ (by decide +kernel)) ggX5_first_X5_within
set_option maxRecDepth 20000 in
theorem ggX5_first_X5_untilCold : GoodIn wsX5_first wsX5_untilCold := goodIn_r _ [19, 5, 1, 4, 20, 21, 22, 9, 23, 24, 25, 11, 26, 27, 28, 29, 30, 31, 32, 33, 34, 35, 36, 37, 38, 39, 40, 41, 42, 43, 44, 45, 46, 47, 48, 49, 50, 51, 52, 53, 54, 55, 56, 57, 58, 59, 60, 61, 62, 63, 64, 65, 66, 67, 68, 69, 75, 76, 77, 78, 79, 80, 81, 82, 83, 84, 85, 86, 87, 88, 89, 90, 91, 92, 93, 94, 95, 96] rfl (by decide +kernel)
set_option maxRecDepth 20000 in
theorem gX5_first_X5_untilCold : GoodIn wsX5_first (wsV RX5 214 RX5 yX5_untilCold wsX5_untilCold) := goodIn_app (goodIn_of _ (by decide +kernel)) ggX5_first_X5_untilCold
set_option maxRecDepth 20000 in
theorem ggX5_first_X0_coldRooms : GoodIn wsX5_first wsX0_coldRooms := goodIn_r _ [42, 11, 28, 25, 85, 86, 87, 88, 89, 90, 91, 92, 93, 94, 95, 96] rfl (by decide +kernel)
set_option maxRecDepth 20000 in
theorem gX5_first_X0_coldRooms : GoodIn wsX5_first (wsV RX5 162 RX0 yX0_coldRooms wsX0_coldRooms) := goodIn_app (goodIn_of _ (by decide +kernel)) ggX5_first_X0_coldRooms
set_option maxRecDepth 20000 in
theorem ggX5_first_J6_numberOfTrailingZeros_0f7a4 : GoodIn wsX5_first wsJ6_numberOfTrailingZeros_0f7a4 := goodIn_r _ [73, 74] rfl (by decide +kernel)
set_option maxRecDepth 20000 in
theorem gX5_first_J6_numberOfTrailingZeros_0f7a4 : GoodIn wsX5_first (va_wsS RX5 218 yJ6_numberOfTrailingZeros_0f7a4 wsJ6_numberOfTrailingZeros_0f7a4) := goodIn_app (goodIn_of _ (by decide +kernel)) ggX5_first_J6_numberOfTrailingZeros_0f7a4
theorem dX5_first_0 : decode cX5_first 0 = .ok (.aload_n 0, 1) := by decide +kernel
theorem dX5_first_1 : decode cX5_first 1 = .ok (.getfield 26, 3) := by decide +kernel
theorem dX5_first_4 : decode cX5_first 4 = .ok (.invokevirtual 149, 3) := by decide +kernel
theorem dX5_first_7 : decode cX5_first 7 = .ok (.ifCond .ne 6, 3) := by decide +kernel
theorem dX5_first_10 : decode cX5_first 10 = .ok (.ldc 145, 2) := by decide +kernel
theorem dX5_first_12 : decode cX5_first 12 = .ok (.ireturn, 1) := by decide +kernel
theorem dX5_first_13 : decode cX5_first 13 = .ok (.iload_n 1, 1) := by decide +kernel
theorem dX5_first_14 : decode cX5_first 14 = .ok (.iconst 0, 1) := by decide +kernel
theorem dX5_first_15 : decode cX5_first 15 = .ok (.iconst 1, 1) := by decide +kernel
theorem dX5_first_16 : decode cX5_first 16 = .ok (.invokestatic 66, 3) := by decide +kernel
theorem dX5_first_19 : decode cX5_first 19 = .ok (.ifCond .ne 6, 3) := by decide +kernel
theorem dX5_first_22 : decode cX5_first 22 = .ok (.ldc 70, 2) := by decide +kernel
theorem dX5_first_24 : decode cX5_first 24 = .ok (.ireturn, 1) := by decide +kernel
theorem dX5_first_25 : decode cX5_first 25 = .ok (.aload_n 0, 1) := by decide +kernel
theorem dX5_first_26 : decode cX5_first 26 = .ok (.iconst (-1), 1) := by decide +kernel
theorem dX5_first_27 : decode cX5_first 27 = .ok (.invokevirtual 214, 3) := by decide +kernel
theorem dX5_first_30 : decode cX5_first 30 = .ok (.istore_n 2, 1) := by decide +kernel
theorem dX5_first_31 : decode cX5_first 31 = .ok (.iload_n 2, 1) := by decide +kernel
theorem dX5_first_32 : decode cX5_first 32 = .ok (.ldc 217, 2) := by decide +kernel
theorem dX5_first_34 : decode cX5_first 34 = .ok (.if_icmp .eq 8, 3) := by decide +kernel
theorem dX5_first_37 : decode cX5_first 37 = .ok (.iload_n 1, 1) := by decide +kernel
theorem dX5_first_38 : decode cX5_first 38 = .ok (.iconst 1, 1) := by decide +kernel
theorem dX5_first_39 : decode cX5_first 39 = .ok (.if_icmp .ne 5, 3) := by decide +kernel
theorem dX5_first_42 : decode cX5_first 42 = .ok (.iload_n 2, 1) := by decide +kernel
theorem dX5_first_43 : decode cX5_first 43 = .ok (.ireturn, 1) := by decide +kernel
theorem dX5_first_44 : decode cX5_first 44 = .ok (.aload_n 0, 1) := by decide +kernel
theorem dX5_first_45 : decode cX5_first 45 = .ok (.getfield 30, 3) := by decide +kernel
theorem dX5_first_48 : decode cX5_first 48 = .ok (.invokevirtual 162, 3) := by decide +kernel
theorem dX5_first_51 : decode cX5_first 51 = .ok (.invokestatic 218, 3) := by decide +kernel
theorem dX5_first_54 : decode cX5_first 54 = .ok (.ireturn, 1) := by decide +kernel
set_option maxRecDepth 20000 in
theorem ggX5_filled_X5_isTube : GoodIn wsX5_filled wsX5_isTube := goodIn_r _ [11, 3, 12, 13, 14, 10, 15, 64, 65, 66, 67, 68, 69, 70, 71, 72, 73, 74, 75, 76, 77, 78, 79, 80, 81, 82, 83, 84, 85] rfl (by decide +kernel)
set_option maxRecDepth 20000 in
theorem gX5_filled_X5_isTube : GoodIn wsX5_filled (wsV RX5 166 RX5 yX5_isTube wsX5_isTube) := goodIn_app (goodIn_of _ (by decide +kernel)) ggX5_filled_X5_isTube
set_option maxRecDepth 20000 in
theorem ggX5_filled_X0_become : GoodIn wsX5_filled wsX0_become := goodIn_r _ [20, 21, 22, 23, 24, 25, 26, 27, 28, 29, 30, 31, 32, 33, 34, 35, 36, 74, 75, 76, 77, 78, 79, 80, 81, 82, 83, 84, 85] rfl (by decide +kernel)
set_option maxRecDepth 20000 in
theorem gX5_filled_X0_become : GoodIn wsX5_filled (wsV RX5 133 RX0 yX0_become wsX0_become) := goodIn_app (goodIn_of _ (by decide +kernel)) ggX5_filled_X0_become
set_option maxRecDepth 20000 in
theorem ggX5_filled_X0_passMinute : GoodIn wsX5_filled wsX0_passMinute := goodIn_r _ [40, 24, 23, 26, 21, 41, 42, 43, 44, 31, 45, 46, 47, 25, 48, 49, 50, 19, 51, 32, 36, 33, 52, 53, 54, 55, 35, 56, 57, 58, 59, 34, 60, 61, 62, 63, 22, 74, 75, 76, 77, 78, 79, 80, 81, 82, 83, 84, 85] rfl (by decide +kernel)
set_option maxRecDepth 20000 in
theorem gX5_filled_X0_passMinute : GoodIn wsX5_filled (wsV RX5 159 RX0 yX0_passMinute wsX0_passMinute) := goodIn_app (goodIn_of _ (by decide +kernel)) ggX5_filled_X0_passMinute
theorem dX5_filled_0 : decode cX5_filled 0 = .ok (.aload_n 0, 1) := by decide +kernel
theorem dX5_filled_1 : decode cX5_filled 1 = .ok (.iload_n 1, 1) := by decide +kernel
theorem dX5_filled_2 : decode cX5_filled 2 = .ok (.invokevirtual 166, 3) := by decide +kernel
theorem dX5_filled_5 : decode cX5_filled 5 = .ok (.ifCond .ne 6, 3) := by decide +kernel
theorem dX5_filled_8 : decode cX5_filled 8 = .ok (.ldc 70, 2) := by decide +kernel
theorem dX5_filled_10 : decode cX5_filled 10 = .ok (.ireturn, 1) := by decide +kernel
theorem dX5_filled_11 : decode cX5_filled 11 = .ok (.aload_n 0, 1) := by decide +kernel
theorem dX5_filled_12 : decode cX5_filled 12 = .ok (.getfield 30, 3) := by decide +kernel
theorem dX5_filled_15 : decode cX5_filled 15 = .ok (.aload_n 0, 1) := by decide +kernel
theorem dX5_filled_16 : decode cX5_filled 16 = .ok (.getfield 26, 3) := by decide +kernel
theorem dX5_filled_19 : decode cX5_filled 19 = .ok (.invokevirtual 133, 3) := by decide +kernel
theorem dX5_filled_22 : decode cX5_filled 22 = .ok (.iconst 0, 1) := by decide +kernel
theorem dX5_filled_23 : decode cX5_filled 23 = .ok (.istore_n 2, 1) := by decide +kernel
theorem dX5_filled_24 : decode cX5_filled 24 = .ok (.iload_n 2, 1) := by decide +kernel
theorem dX5_filled_25 : decode cX5_filled 25 = .ok (.bipush 60, 2) := by decide +kernel
theorem dX5_filled_27 : decode cX5_filled 27 = .ok (.if_icmp .gt 39, 3) := by decide +kernel
theorem dX5_filled_30 : decode cX5_filled 30 = .ok (.aload_n 0, 1) := by decide +kernel
theorem dX5_filled_31 : decode cX5_filled 31 = .ok (.getfield 30, 3) := by decide +kernel
theorem dX5_filled_34 : decode cX5_filled 34 = .ok (.getfield 175, 3) := by decide +kernel
theorem dX5_filled_37 : decode cX5_filled 37 = .ok (.iload_n 1, 1) := by decide +kernel
theorem dX5_filled_38 : decode cX5_filled 38 = .ok (.iaload, 1) := by decide +kernel
theorem dX5_filled_39 : decode cX5_filled 39 = .ok (.aload_n 0, 1) := by decide +kernel
theorem dX5_filled_40 : decode cX5_filled 40 = .ok (.getfield 30, 3) := by decide +kernel
theorem dX5_filled_43 : decode cX5_filled 43 = .ok (.getfield 196, 3) := by decide +kernel
theorem dX5_filled_46 : decode cX5_filled 46 = .ok (.iload_n 1, 1) := by decide +kernel
theorem dX5_filled_47 : decode cX5_filled 47 = .ok (.iaload, 1) := by decide +kernel
theorem dX5_filled_48 : decode cX5_filled 48 = .ok (.if_icmp .ne 5, 3) := by decide +kernel
theorem dX5_filled_51 : decode cX5_filled 51 = .ok (.iload_n 2, 1) := by decide +kernel
theorem dX5_filled_52 : decode cX5_filled 52 = .ok (.ireturn, 1) := by decide +kernel
theorem dX5_filled_53 : decode cX5_filled 53 = .ok (.aload_n 0, 1) := by decide +kernel
theorem dX5_filled_54 : decode cX5_filled 54 = .ok (.getfield 30, 3) := by decide +kernel
theorem dX5_filled_57 : decode cX5_filled 57 = .ok (.invokevirtual 159, 3) := by decide +kernel
theorem dX5_filled_60 : decode cX5_filled 60 = .ok (.iinc 2 1, 3) := by decide +kernel
theorem dX5_filled_63 : decode cX5_filled 63 = .ok (.goto (-39), 3) := by decide +kernel
theorem dX5_filled_66 : decode cX5_filled 66 = .ok (.ldc 217, 2) := by decide +kernel
theorem dX5_filled_68 : decode cX5_filled 68 = .ok (.ireturn, 1) := by decide +kernel
set_option maxRecDepth 20000 in
theorem ggX5_outs_X5_isRoom : GoodIn wsX5_outs wsX5_isRoom := goodIn_r _ [8, 3, 9, 10, 11, 7, 12, 91, 92, 93, 94, 95, 96, 97, 98, 99, 100, 101, 102, 103, 104, 105, 106, 107, 108, 109, 110, 111, 112] rfl (by decide +kernel)
set_option maxRecDepth 20000 in
theorem gX5_outs_X5_isRoom : GoodIn wsX5_outs (wsV RX5 187 RX5 yX5_isRoom wsX5_isRoom) := goodIn_app (goodIn_of _ (by decide +kernel)) ggX5_outs_X5_isRoom
set_option maxRecDepth 20000 in
theorem ggX5_outs_X5_within : GoodIn wsX5_outs wsX5_within := goodIn_r _ [12] rfl (by decide +kernel)
set_option maxRecDepth 20000 in
theorem gX5_outs_X5_within : GoodIn wsX5_outs (va_wsS RX5 66 yX5_within wsX5_within) := goodIn_app (goodIn_of _ (by decide +kernel)) ggX5_outs_X5_within
set_option maxRecDepth 20000 in
theorem ggX5_outs_X0_tubesAt : GoodIn wsX5_outs wsX0_tubesAt := goodIn_r _ [17, 18, 19, 101, 102, 103, 104, 105, 106, 107, 108, 109, 110, 111, 112] rfl (by decide +kernel)
set_option maxRecDepth 20000 in
theorem gX5_outs_X0_tubesAt : GoodIn wsX5_outs (wsV RX5 202 RX0 yX0_tubesAt wsX0_tubesAt) := goodIn_app (goodIn_of _ (by decide +kernel)) ggX5_outs_X0_tubesAt
set_option maxRecDepth 20000 in
theorem ggX5_outs_X5_isPart : GoodIn wsX5_outs wsX5_isPart := goodIn_r _ [22] rfl (by decide +kernel)
set_option maxRecDepth 20000 in
theorem gX5_outs_X5_isPart : GoodIn wsX5_outs (va_wsS RX5 223 yX5_isPart wsX5_isPart) := goodIn_app (goodIn_of _ (by decide +kernel)) ggX5_outs_X5_isPart
set_option maxRecDepth 20000 in
theorem ggX5_outs_X5_isFewer : GoodIn wsX5_outs wsX5_isFewer := goodIn_r _ [25, 2, 26, 27, 28, 29, 30, 31, 32] rfl (by decide +kernel)
set_option maxRecDepth 20000 in
theorem gX5_outs_X5_isFewer : GoodIn wsX5_outs (va_wsS RX5 227 yX5_isFewer wsX5_isFewer) := goodIn_app (goodIn_of _ (by decide +kernel)) ggX5_outs_X5_isFewer
set_option maxRecDepth 20000 in
theorem ggX5_outs_X5_staysWarm : GoodIn wsX5_outs wsX5_staysWarm := goodIn_r _ [36, 37, 3, 38, 39, 40, 16, 41, 42, 43, 44, 18, 45, 46, 47, 48, 49, 50, 51, 52, 19, 53, 54, 55, 56, 57, 58, 59, 60, 61, 62, 63, 64, 65, 66, 67, 68, 69, 70, 71, 72, 73, 74, 75, 76, 77, 78, 79, 80, 81, 82, 83, 84, 85, 86, 87, 91, 92, 93, 94, 95, 96, 97, 98, 99, 100, 101, 102, 103, 104, 105, 106, 107, 108, 109, 110, 111, 112] rfl (by decide +kernel)
set_option maxRecDepth 20000 in
theorem gX5_outs_X5_staysWarm : GoodIn wsX5_outs (wsV RX5 230 RX5 yX5_staysWarm wsX5_staysWarm) := goodIn_app (goodIn_of _ (by decide +kernel)) ggX5_outs_X5_staysWarm
set_option maxRecDepth 20000 in
theorem ggX5_outs_X5_toldSet : GoodIn wsX5_outs wsX5_toldSet := goodIn_r _ [90, 2, 26, 27, 28, 29, 30, 31, 32] rfl (by decide +kernel)
set_option maxRecDepth 20000 in
theorem gX5_outs_X5_toldSet : GoodIn wsX5_outs (va_wsS RX5 233 yX5_toldSet wsX5_toldSet) := goodIn_app (goodIn_of _ (by decide +kernel)) ggX5_outs_X5_toldSet
theorem dX5_outs_0 : decode cX5_outs 0 = .ok (.aload_n 0, 1) := by decide +kernel
theorem dX5_outs_1 : decode cX5_outs 1 = .ok (.iload_n 1, 1) := by decide +kernel
theorem dX5_outs_2 : decode cX5_outs 2 = .ok (.invokevirtual 187, 3) := by decide +kernel
theorem dX5_outs_5 : decode cX5_outs 5 = .ok (.ifCond .eq 22, 3) := by decide +kernel
theorem dX5_outs_8 : decode cX5_outs 8 = .ok (.iload_n 2, 1) := by decide +kernel
theorem dX5_outs_9 : decode cX5_outs 9 = .ok (.iconst 1, 1) := by decide +kernel
theorem dX5_outs_10 : decode cX5_outs 10 = .ok (.bipush 30, 2) := by decide +kernel
theorem dX5_outs_12 : decode cX5_outs 12 = .ok (.invokestatic 66, 3) := by decide +kernel
theorem dX5_outs_15 : decode cX5_outs 15 = .ok (.ifCond .eq 12, 3) := by decide +kernel
theorem dX5_outs_18 : decode cX5_outs 18 = .ok (.iload_n 3, 1) := by decide +kernel
theorem dX5_outs_19 : decode cX5_outs 19 = .ok (.iconst 0, 1) := by decide +kernel
theorem dX5_outs_20 : decode cX5_outs 20 = .ok (.iconst 1, 1) := by decide +kernel
theorem dX5_outs_21 : decode cX5_outs 21 = .ok (.invokestatic 66, 3) := by decide +kernel
theorem dX5_outs_24 : decode cX5_outs 24 = .ok (.ifCond .ne 6, 3) := by decide +kernel
theorem dX5_outs_27 : decode cX5_outs 27 = .ok (.ldc 70, 2) := by decide +kernel
theorem dX5_outs_29 : decode cX5_outs 29 = .ok (.ireturn, 1) := by decide +kernel
theorem dX5_outs_30 : decode cX5_outs 30 = .ok (.ldc 217, 2) := by decide +kernel
theorem dX5_outs_32 : decode cX5_outs 32 = .ok (.istore 4, 2) := by decide +kernel
theorem dX5_outs_34 : decode cX5_outs 34 = .ok (.aload_n 0, 1) := by decide +kernel
theorem dX5_outs_35 : decode cX5_outs 35 = .ok (.getfield 26, 3) := by decide +kernel
theorem dX5_outs_38 : decode cX5_outs 38 = .ok (.iload_n 1, 1) := by decide +kernel
theorem dX5_outs_39 : decode cX5_outs 39 = .ok (.invokevirtual 202, 3) := by decide +kernel
theorem dX5_outs_42 : decode cX5_outs 42 = .ok (.istore 5, 2) := by decide +kernel
theorem dX5_outs_44 : decode cX5_outs 44 = .ok (.iconst 0, 1) := by decide +kernel
theorem dX5_outs_45 : decode cX5_outs 45 = .ok (.istore 6, 2) := by decide +kernel
theorem dX5_outs_47 : decode cX5_outs 47 = .ok (.iload 6, 2) := by decide +kernel
theorem dX5_outs_49 : decode cX5_outs 49 = .ok (.iload 5, 2) := by decide +kernel
theorem dX5_outs_51 : decode cX5_outs 51 = .ok (.if_icmp .gt 44, 3) := by decide +kernel
theorem dX5_outs_54 : decode cX5_outs 54 = .ok (.iload 6, 2) := by decide +kernel
theorem dX5_outs_56 : decode cX5_outs 56 = .ok (.iload 5, 2) := by decide +kernel
theorem dX5_outs_58 : decode cX5_outs 58 = .ok (.invokestatic 223, 3) := by decide +kernel
theorem dX5_outs_61 : decode cX5_outs 61 = .ok (.ifCond .eq 28, 3) := by decide +kernel
theorem dX5_outs_64 : decode cX5_outs 64 = .ok (.iload 6, 2) := by decide +kernel
theorem dX5_outs_66 : decode cX5_outs 66 = .ok (.iload 4, 2) := by decide +kernel
theorem dX5_outs_68 : decode cX5_outs 68 = .ok (.invokestatic 227, 3) := by decide +kernel
theorem dX5_outs_71 : decode cX5_outs 71 = .ok (.ifCond .eq 18, 3) := by decide +kernel
theorem dX5_outs_74 : decode cX5_outs 74 = .ok (.aload_n 0, 1) := by decide +kernel
theorem dX5_outs_75 : decode cX5_outs 75 = .ok (.iload_n 1, 1) := by decide +kernel
theorem dX5_outs_76 : decode cX5_outs 76 = .ok (.iload_n 2, 1) := by decide +kernel
theorem dX5_outs_77 : decode cX5_outs 77 = .ok (.iload 6, 2) := by decide +kernel
theorem dX5_outs_79 : decode cX5_outs 79 = .ok (.invokevirtual 230, 3) := by decide +kernel
theorem dX5_outs_82 : decode cX5_outs 82 = .ok (.ifCond .eq 7, 3) := by decide +kernel
theorem dX5_outs_85 : decode cX5_outs 85 = .ok (.iload 6, 2) := by decide +kernel
theorem dX5_outs_87 : decode cX5_outs 87 = .ok (.istore 4, 2) := by decide +kernel
theorem dX5_outs_89 : decode cX5_outs 89 = .ok (.iinc 6 1, 3) := by decide +kernel
theorem dX5_outs_92 : decode cX5_outs 92 = .ok (.goto (-45), 3) := by decide +kernel
theorem dX5_outs_95 : decode cX5_outs 95 = .ok (.iload 4, 2) := by decide +kernel
theorem dX5_outs_97 : decode cX5_outs 97 = .ok (.iload_n 3, 1) := by decide +kernel
theorem dX5_outs_98 : decode cX5_outs 98 = .ok (.invokestatic 233, 3) := by decide +kernel
theorem dX5_outs_101 : decode cX5_outs 101 = .ok (.ireturn, 1) := by decide +kernel
set_option maxRecDepth 20000 in
theorem ggX5_shakes_X5_isRoom : GoodIn wsX5_shakes wsX5_isRoom := goodIn_r _ [8, 3, 9, 10, 11, 7, 12, 99, 100, 101, 102, 103, 104, 105, 106, 107, 108, 109, 110, 111, 112, 113, 114, 115, 116, 117, 118, 119, 120] rfl (by decide +kernel)
set_option maxRecDepth 20000 in
theorem gX5_shakes_X5_isRoom : GoodIn wsX5_shakes (wsV RX5 187 RX5 yX5_isRoom wsX5_isRoom) := goodIn_app (goodIn_of _ (by decide +kernel)) ggX5_shakes_X5_isRoom
set_option maxRecDepth 20000 in
theorem ggX5_shakes_X5_within : GoodIn wsX5_shakes wsX5_within := goodIn_r _ [12] rfl (by decide +kernel)
set_option maxRecDepth 20000 in
theorem gX5_shakes_X5_within : GoodIn wsX5_shakes (va_wsS RX5 66 yX5_within wsX5_within) := goodIn_app (goodIn_of _ (by decide +kernel)) ggX5_shakes_X5_within
set_option maxRecDepth 20000 in
theorem ggX5_shakes_X0_tubesAt : GoodIn wsX5_shakes wsX0_tubesAt := goodIn_r _ [17, 18, 19, 109, 110, 111, 112, 113, 114, 115, 116, 117, 118, 119, 120] rfl (by decide +kernel)
set_option maxRecDepth 20000 in
theorem gX5_shakes_X0_tubesAt : GoodIn wsX5_shakes (wsV RX5 202 RX0 yX0_tubesAt wsX0_tubesAt) := goodIn_app (goodIn_of _ (by decide +kernel)) ggX5_shakes_X0_tubesAt
set_option maxRecDepth 20000 in
theorem ggX5_shakes_X5_isPart : GoodIn wsX5_shakes wsX5_isPart := goodIn_r _ [22] rfl (by decide +kernel)
set_option maxRecDepth 20000 in
theorem gX5_shakes_X5_isPart : GoodIn wsX5_shakes (va_wsS RX5 223 yX5_isPart wsX5_isPart) := goodIn_app (goodIn_of _ (by decide +kernel)) ggX5_shakes_X5_isPart
set_option maxRecDepth 20000 in
theorem ggX5_shakes_X5_isFewer : GoodIn wsX5_shakes wsX5_isFewer := goodIn_r _ [25, 2, 26, 27, 28, 29, 30, 31, 32] rfl (by decide +kernel)
set_option maxRecDepth 20000 in
theorem gX5_shakes_X5_isFewer : GoodIn wsX5_shakes (va_wsS RX5 227 yX5_isFewer wsX5_isFewer) := goodIn_app (goodIn_of _ (by decide +kernel)) ggX5_shakes_X5_isFewer
set_option maxRecDepth 20000 in
theorem ggX5_shakes_X5_isWarmShaken : GoodIn wsX5_shakes wsX5_isWarmShaken := goodIn_r _ [36, 37, 3, 38, 39, 40, 16, 41, 42, 43, 44, 18, 45, 46, 47, 48, 49, 50, 51, 52, 19, 53, 54, 55, 56, 57, 58, 59, 60, 61, 62, 63, 64, 65, 66, 67, 68, 69, 70, 71, 72, 73, 74, 75, 76, 77, 78, 79, 80, 81, 82, 83, 84, 85, 86, 87, 88, 89, 90, 91, 92, 93, 94, 95, 99, 100, 101, 102, 103, 104, 105, 106, 107, 108, 109, 110, 111, 112, 113, 114, 115, 116, 117, 118, 119, 120] rfl (by decide +kernel)
set_option maxRecDepth 20000 in
theorem gX5_shakes_X5_isWarmShaken : GoodIn wsX5_shakes (wsV RX5 236 RX5 yX5_isWarmShaken wsX5_isWarmShaken) := goodIn_app (goodIn_of _ (by decide +kernel)) ggX5_shakes_X5_isWarmShaken
set_option maxRecDepth 20000 in
theorem ggX5_shakes_X5_toldSet : GoodIn wsX5_shakes wsX5_toldSet := goodIn_r _ [98, 2, 26, 27, 28, 29, 30, 31, 32] rfl (by decide +kernel)
set_option maxRecDepth 20000 in
theorem gX5_shakes_X5_toldSet : GoodIn wsX5_shakes (va_wsS RX5 233 yX5_toldSet wsX5_toldSet) := goodIn_app (goodIn_of _ (by decide +kernel)) ggX5_shakes_X5_toldSet
theorem dX5_shakes_0 : decode cX5_shakes 0 = .ok (.aload_n 0, 1) := by decide +kernel
theorem dX5_shakes_1 : decode cX5_shakes 1 = .ok (.iload_n 1, 1) := by decide +kernel
theorem dX5_shakes_2 : decode cX5_shakes 2 = .ok (.invokevirtual 187, 3) := by decide +kernel
theorem dX5_shakes_5 : decode cX5_shakes 5 = .ok (.ifCond .eq 22, 3) := by decide +kernel
theorem dX5_shakes_8 : decode cX5_shakes 8 = .ok (.iload_n 2, 1) := by decide +kernel
theorem dX5_shakes_9 : decode cX5_shakes 9 = .ok (.iconst 1, 1) := by decide +kernel
theorem dX5_shakes_10 : decode cX5_shakes 10 = .ok (.bipush 30, 2) := by decide +kernel
theorem dX5_shakes_12 : decode cX5_shakes 12 = .ok (.invokestatic 66, 3) := by decide +kernel
theorem dX5_shakes_15 : decode cX5_shakes 15 = .ok (.ifCond .eq 12, 3) := by decide +kernel
theorem dX5_shakes_18 : decode cX5_shakes 18 = .ok (.iload_n 3, 1) := by decide +kernel
theorem dX5_shakes_19 : decode cX5_shakes 19 = .ok (.iconst 0, 1) := by decide +kernel
theorem dX5_shakes_20 : decode cX5_shakes 20 = .ok (.iconst 1, 1) := by decide +kernel
theorem dX5_shakes_21 : decode cX5_shakes 21 = .ok (.invokestatic 66, 3) := by decide +kernel
theorem dX5_shakes_24 : decode cX5_shakes 24 = .ok (.ifCond .ne 6, 3) := by decide +kernel
theorem dX5_shakes_27 : decode cX5_shakes 27 = .ok (.ldc 70, 2) := by decide +kernel
theorem dX5_shakes_29 : decode cX5_shakes 29 = .ok (.ireturn, 1) := by decide +kernel
theorem dX5_shakes_30 : decode cX5_shakes 30 = .ok (.ldc 217, 2) := by decide +kernel
theorem dX5_shakes_32 : decode cX5_shakes 32 = .ok (.istore 4, 2) := by decide +kernel
theorem dX5_shakes_34 : decode cX5_shakes 34 = .ok (.aload_n 0, 1) := by decide +kernel
theorem dX5_shakes_35 : decode cX5_shakes 35 = .ok (.getfield 26, 3) := by decide +kernel
theorem dX5_shakes_38 : decode cX5_shakes 38 = .ok (.iload_n 1, 1) := by decide +kernel
theorem dX5_shakes_39 : decode cX5_shakes 39 = .ok (.invokevirtual 202, 3) := by decide +kernel
theorem dX5_shakes_42 : decode cX5_shakes 42 = .ok (.istore 5, 2) := by decide +kernel
theorem dX5_shakes_44 : decode cX5_shakes 44 = .ok (.iconst 0, 1) := by decide +kernel
theorem dX5_shakes_45 : decode cX5_shakes 45 = .ok (.istore 6, 2) := by decide +kernel
theorem dX5_shakes_47 : decode cX5_shakes 47 = .ok (.iload 6, 2) := by decide +kernel
theorem dX5_shakes_49 : decode cX5_shakes 49 = .ok (.iload 5, 2) := by decide +kernel
theorem dX5_shakes_51 : decode cX5_shakes 51 = .ok (.if_icmp .gt 44, 3) := by decide +kernel
theorem dX5_shakes_54 : decode cX5_shakes 54 = .ok (.iload 6, 2) := by decide +kernel
theorem dX5_shakes_56 : decode cX5_shakes 56 = .ok (.iload 5, 2) := by decide +kernel
theorem dX5_shakes_58 : decode cX5_shakes 58 = .ok (.invokestatic 223, 3) := by decide +kernel
theorem dX5_shakes_61 : decode cX5_shakes 61 = .ok (.ifCond .eq 28, 3) := by decide +kernel
theorem dX5_shakes_64 : decode cX5_shakes 64 = .ok (.iload 6, 2) := by decide +kernel
theorem dX5_shakes_66 : decode cX5_shakes 66 = .ok (.iload 4, 2) := by decide +kernel
theorem dX5_shakes_68 : decode cX5_shakes 68 = .ok (.invokestatic 227, 3) := by decide +kernel
theorem dX5_shakes_71 : decode cX5_shakes 71 = .ok (.ifCond .eq 18, 3) := by decide +kernel
theorem dX5_shakes_74 : decode cX5_shakes 74 = .ok (.aload_n 0, 1) := by decide +kernel
theorem dX5_shakes_75 : decode cX5_shakes 75 = .ok (.iload_n 1, 1) := by decide +kernel
theorem dX5_shakes_76 : decode cX5_shakes 76 = .ok (.iload_n 2, 1) := by decide +kernel
theorem dX5_shakes_77 : decode cX5_shakes 77 = .ok (.iload 6, 2) := by decide +kernel
theorem dX5_shakes_79 : decode cX5_shakes 79 = .ok (.invokevirtual 236, 3) := by decide +kernel
theorem dX5_shakes_82 : decode cX5_shakes 82 = .ok (.ifCond .eq 7, 3) := by decide +kernel
theorem dX5_shakes_85 : decode cX5_shakes 85 = .ok (.iload 6, 2) := by decide +kernel
theorem dX5_shakes_87 : decode cX5_shakes 87 = .ok (.istore 4, 2) := by decide +kernel
theorem dX5_shakes_89 : decode cX5_shakes 89 = .ok (.iinc 6 1, 3) := by decide +kernel
theorem dX5_shakes_92 : decode cX5_shakes 92 = .ok (.goto (-45), 3) := by decide +kernel
theorem dX5_shakes_95 : decode cX5_shakes 95 = .ok (.iload 4, 2) := by decide +kernel
theorem dX5_shakes_97 : decode cX5_shakes 97 = .ok (.iload_n 3, 1) := by decide +kernel
theorem dX5_shakes_98 : decode cX5_shakes 98 = .ok (.invokestatic 233, 3) := by decide +kernel
theorem dX5_shakes_101 : decode cX5_shakes 101 = .ok (.ireturn, 1) := by decide +kernel
set_option maxRecDepth 20000 in
theorem ggX5_hang_X5_isTube : GoodIn wsX5_hang wsX5_isTube := goodIn_r _ [11, 2, 12, 13, 14, 10, 15, 68, 69, 70, 71, 72, 73, 74, 75, 76, 77, 78, 79, 80, 81, 82, 83, 84, 85, 86, 87, 88, 89] rfl (by decide +kernel)
set_option maxRecDepth 20000 in
theorem gX5_hang_X5_isTube : GoodIn wsX5_hang (wsV RX5 166 RX5 yX5_isTube wsX5_isTube) := goodIn_app (goodIn_of _ (by decide +kernel)) ggX5_hang_X5_isTube
set_option maxRecDepth 20000 in
theorem ggX5_hang_X5_within : GoodIn wsX5_hang wsX5_within := goodIn_r _ [15] rfl (by decide +kernel)
set_option maxRecDepth 20000 in
theorem gX5_hang_X5_within : GoodIn wsX5_hang (va_wsS RX5 66 yX5_within wsX5_within) := goodIn_app (goodIn_of _ (by decide +kernel)) ggX5_hang_X5_within
set_option maxRecDepth 20000 in
theorem ggX5_hang_X0_become : GoodIn wsX5_hang wsX0_become := goodIn_r _ [20, 21, 22, 23, 24, 25, 26, 27, 28, 29, 30, 31, 32, 33, 34, 35, 36, 78, 79, 80, 81, 82, 83, 84, 85, 86, 87, 88, 89] rfl (by decide +kernel)
set_option maxRecDepth 20000 in
theorem gX5_hang_X0_become : GoodIn wsX5_hang (wsV RX5 133 RX0 yX0_become wsX0_become) := goodIn_app (goodIn_of _ (by decide +kernel)) ggX5_hang_X0_become
set_option maxRecDepth 20000 in
theorem ggX5_hang_X0_passMinutes : GoodIn wsX5_hang wsX0_passMinutes := goodIn_r _ [40, 41, 42, 43, 19, 44, 24, 23, 26, 21, 45, 46, 47, 48, 31, 49, 50, 51, 25, 52, 53, 54, 55, 32, 36, 33, 56, 57, 58, 59, 35, 60, 61, 62, 63, 34, 64, 65, 66, 67, 22, 78, 79, 80, 81, 82, 83, 84, 85, 86, 87, 88, 89] rfl (by decide +kernel)
set_option maxRecDepth 20000 in
theorem gX5_hang_X0_passMinutes : GoodIn wsX5_hang (wsV RX5 211 RX0 yX0_passMinutes wsX0_passMinutes) := goodIn_app (goodIn_of _ (by decide +kernel)) ggX5_hang_X0_passMinutes
theorem dX5_hang_0 : decode cX5_hang 0 = .ok (.aload_n 0, 1) := by decide +kernel
theorem dX5_hang_1 : decode cX5_hang 1 = .ok (.iload_n 1, 1) := by decide +kernel
theorem dX5_hang_2 : decode cX5_hang 2 = .ok (.invokevirtual 166, 3) := by decide +kernel
theorem dX5_hang_5 : decode cX5_hang 5 = .ok (.ifCond .eq 22, 3) := by decide +kernel
theorem dX5_hang_8 : decode cX5_hang 8 = .ok (.iload_n 2, 1) := by decide +kernel
theorem dX5_hang_9 : decode cX5_hang 9 = .ok (.iconst 1, 1) := by decide +kernel
theorem dX5_hang_10 : decode cX5_hang 10 = .ok (.bipush 30, 2) := by decide +kernel
theorem dX5_hang_12 : decode cX5_hang 12 = .ok (.invokestatic 66, 3) := by decide +kernel
theorem dX5_hang_15 : decode cX5_hang 15 = .ok (.ifCond .eq 12, 3) := by decide +kernel
theorem dX5_hang_18 : decode cX5_hang 18 = .ok (.iload_n 3, 1) := by decide +kernel
theorem dX5_hang_19 : decode cX5_hang 19 = .ok (.iconst 0, 1) := by decide +kernel
theorem dX5_hang_20 : decode cX5_hang 20 = .ok (.iconst 1, 1) := by decide +kernel
theorem dX5_hang_21 : decode cX5_hang 21 = .ok (.invokestatic 66, 3) := by decide +kernel
theorem dX5_hang_24 : decode cX5_hang 24 = .ok (.ifCond .ne 6, 3) := by decide +kernel
theorem dX5_hang_27 : decode cX5_hang 27 = .ok (.ldc 70, 2) := by decide +kernel
theorem dX5_hang_29 : decode cX5_hang 29 = .ok (.ireturn, 1) := by decide +kernel
theorem dX5_hang_30 : decode cX5_hang 30 = .ok (.iconst 0, 1) := by decide +kernel
theorem dX5_hang_31 : decode cX5_hang 31 = .ok (.istore 4, 2) := by decide +kernel
theorem dX5_hang_33 : decode cX5_hang 33 = .ok (.iconst (-1), 1) := by decide +kernel
theorem dX5_hang_34 : decode cX5_hang 34 = .ok (.istore 5, 2) := by decide +kernel
theorem dX5_hang_36 : decode cX5_hang 36 = .ok (.iconst 0, 1) := by decide +kernel
theorem dX5_hang_37 : decode cX5_hang 37 = .ok (.istore 6, 2) := by decide +kernel
theorem dX5_hang_39 : decode cX5_hang 39 = .ok (.iload 6, 2) := by decide +kernel
theorem dX5_hang_41 : decode cX5_hang 41 = .ok (.aload_n 0, 1) := by decide +kernel
theorem dX5_hang_42 : decode cX5_hang 42 = .ok (.getfield 26, 3) := by decide +kernel
theorem dX5_hang_45 : decode cX5_hang 45 = .ok (.getfield 239, 3) := by decide +kernel
theorem dX5_hang_48 : decode cX5_hang 48 = .ok (.if_icmp .gt 68, 3) := by decide +kernel
theorem dX5_hang_51 : decode cX5_hang 51 = .ok (.aload_n 0, 1) := by decide +kernel
theorem dX5_hang_52 : decode cX5_hang 52 = .ok (.getfield 30, 3) := by decide +kernel
theorem dX5_hang_55 : decode cX5_hang 55 = .ok (.aload_n 0, 1) := by decide +kernel
theorem dX5_hang_56 : decode cX5_hang 56 = .ok (.getfield 26, 3) := by decide +kernel
theorem dX5_hang_59 : decode cX5_hang 59 = .ok (.invokevirtual 133, 3) := by decide +kernel
theorem dX5_hang_62 : decode cX5_hang 62 = .ok (.aload_n 0, 1) := by decide +kernel
theorem dX5_hang_63 : decode cX5_hang 63 = .ok (.getfield 30, 3) := by decide +kernel
theorem dX5_hang_66 : decode cX5_hang 66 = .ok (.getfield 172, 3) := by decide +kernel
theorem dX5_hang_69 : decode cX5_hang 69 = .ok (.iload_n 1, 1) := by decide +kernel
theorem dX5_hang_70 : decode cX5_hang 70 = .ok (.iload 6, 2) := by decide +kernel
theorem dX5_hang_72 : decode cX5_hang 72 = .ok (.iastore, 1) := by decide +kernel
theorem dX5_hang_73 : decode cX5_hang 73 = .ok (.aload_n 0, 1) := by decide +kernel
theorem dX5_hang_74 : decode cX5_hang 74 = .ok (.getfield 30, 3) := by decide +kernel
theorem dX5_hang_77 : decode cX5_hang 77 = .ok (.iload_n 2, 1) := by decide +kernel
theorem dX5_hang_78 : decode cX5_hang 78 = .ok (.invokevirtual 211, 3) := by decide +kernel
theorem dX5_hang_81 : decode cX5_hang 81 = .ok (.aload_n 0, 1) := by decide +kernel
theorem dX5_hang_82 : decode cX5_hang 82 = .ok (.getfield 30, 3) := by decide +kernel
theorem dX5_hang_85 : decode cX5_hang 85 = .ok (.getfield 175, 3) := by decide +kernel
theorem dX5_hang_88 : decode cX5_hang 88 = .ok (.iload_n 1, 1) := by decide +kernel
theorem dX5_hang_89 : decode cX5_hang 89 = .ok (.iaload, 1) := by decide +kernel
theorem dX5_hang_90 : decode cX5_hang 90 = .ok (.iload 5, 2) := by decide +kernel
theorem dX5_hang_92 : decode cX5_hang 92 = .ok (.if_icmp .le 18, 3) := by decide +kernel
theorem dX5_hang_95 : decode cX5_hang 95 = .ok (.aload_n 0, 1) := by decide +kernel
theorem dX5_hang_96 : decode cX5_hang 96 = .ok (.getfield 30, 3) := by decide +kernel
theorem dX5_hang_99 : decode cX5_hang 99 = .ok (.getfield 175, 3) := by decide +kernel
theorem dX5_hang_102 : decode cX5_hang 102 = .ok (.iload_n 1, 1) := by decide +kernel
theorem dX5_hang_103 : decode cX5_hang 103 = .ok (.iaload, 1) := by decide +kernel
theorem dX5_hang_104 : decode cX5_hang 104 = .ok (.istore 5, 2) := by decide +kernel
theorem dX5_hang_106 : decode cX5_hang 106 = .ok (.iload 6, 2) := by decide +kernel
theorem dX5_hang_108 : decode cX5_hang 108 = .ok (.istore 4, 2) := by decide +kernel
theorem dX5_hang_110 : decode cX5_hang 110 = .ok (.iinc 6 1, 3) := by decide +kernel
theorem dX5_hang_113 : decode cX5_hang 113 = .ok (.goto (-74), 3) := by decide +kernel
theorem dX5_hang_116 : decode cX5_hang 116 = .ok (.iload_n 3, 1) := by decide +kernel
theorem dX5_hang_117 : decode cX5_hang 117 = .ok (.ifCond .ne 8, 3) := by decide +kernel
theorem dX5_hang_120 : decode cX5_hang 120 = .ok (.iload 4, 2) := by decide +kernel
theorem dX5_hang_122 : decode cX5_hang 122 = .ok (.goto 5, 3) := by decide +kernel
theorem dX5_hang_125 : decode cX5_hang 125 = .ok (.iload 5, 2) := by decide +kernel
theorem dX5_hang_127 : decode cX5_hang 127 = .ok (.ireturn, 1) := by decide +kernel
set_option maxRecDepth 20000 in
theorem ggX5_fire_X5_isRoom : GoodIn wsX5_fire wsX5_isRoom := goodIn_r _ [10, 3, 11, 12, 13, 9, 14, 68, 69, 70, 71, 72, 73, 74, 75, 76, 77, 78, 79, 80, 81, 82, 83, 84, 85, 86, 87, 88, 89] rfl (by decide +kernel)
set_option maxRecDepth 20000 in
theorem gX5_fire_X5_isRoom : GoodIn wsX5_fire (wsV RX5 187 RX5 yX5_isRoom wsX5_isRoom) := goodIn_app (goodIn_of _ (by decide +kernel)) ggX5_fire_X5_isRoom
set_option maxRecDepth 20000 in
theorem ggX5_fire_X5_within : GoodIn wsX5_fire wsX5_within := goodIn_r _ [14] rfl (by decide +kernel)
set_option maxRecDepth 20000 in
theorem gX5_fire_X5_within : GoodIn wsX5_fire (va_wsS RX5 66 yX5_within wsX5_within) := goodIn_app (goodIn_of _ (by decide +kernel)) ggX5_fire_X5_within
set_option maxRecDepth 20000 in
theorem ggX5_fire_X0_become : GoodIn wsX5_fire wsX0_become := goodIn_r _ [19, 20, 21, 22, 23, 24, 25, 26, 27, 28, 29, 30, 31, 32, 33, 34, 35, 78, 79, 80, 81, 82, 83, 84, 85, 86, 87, 88, 89] rfl (by decide +kernel)
set_option maxRecDepth 20000 in
theorem gX5_fire_X0_become : GoodIn wsX5_fire (wsV RX5 133 RX0 yX0_become wsX0_become) := goodIn_app (goodIn_of _ (by decide +kernel)) ggX5_fire_X0_become
set_option maxRecDepth 20000 in
theorem ggX5_fire_X0_passMinutes : GoodIn wsX5_fire wsX0_passMinutes := goodIn_r _ [39, 40, 41, 42, 18, 43, 23, 22, 25, 20, 44, 45, 46, 47, 30, 48, 49, 50, 24, 51, 52, 53, 54, 31, 35, 32, 55, 56, 57, 58, 34, 59, 60, 61, 62, 33, 63, 64, 65, 66, 21, 78, 79, 80, 81, 82, 83, 84, 85, 86, 87, 88, 89] rfl (by decide +kernel)
set_option maxRecDepth 20000 in
theorem gX5_fire_X0_passMinutes : GoodIn wsX5_fire (wsV RX5 211 RX0 yX0_passMinutes wsX0_passMinutes) := goodIn_app (goodIn_of _ (by decide +kernel)) ggX5_fire_X0_passMinutes
set_option maxRecDepth 20000 in
theorem ggX5_fire_X0_isCold : GoodIn wsX5_fire wsX0_isCold := goodIn_r _ [66, 22, 25, 21, 78, 79, 80, 81, 82, 83, 84, 85, 86, 87, 88, 89] rfl (by decide +kernel)
set_option maxRecDepth 20000 in
theorem gX5_fire_X0_isCold : GoodIn wsX5_fire (wsV RX5 208 RX0 yX0_isCold wsX0_isCold) := goodIn_app (goodIn_of _ (by decide +kernel)) ggX5_fire_X0_isCold
theorem dX5_fire_0 : decode cX5_fire 0 = .ok (.aload_n 0, 1) := by decide +kernel
theorem dX5_fire_1 : decode cX5_fire 1 = .ok (.iload_n 1, 1) := by decide +kernel
theorem dX5_fire_2 : decode cX5_fire 2 = .ok (.invokevirtual 187, 3) := by decide +kernel
theorem dX5_fire_5 : decode cX5_fire 5 = .ok (.ifCond .eq 13, 3) := by decide +kernel
theorem dX5_fire_8 : decode cX5_fire 8 = .ok (.iload_n 2, 1) := by decide +kernel
theorem dX5_fire_9 : decode cX5_fire 9 = .ok (.iconst 1, 1) := by decide +kernel
theorem dX5_fire_10 : decode cX5_fire 10 = .ok (.bipush 30, 2) := by decide +kernel
theorem dX5_fire_12 : decode cX5_fire 12 = .ok (.invokestatic 66, 3) := by decide +kernel
theorem dX5_fire_15 : decode cX5_fire 15 = .ok (.ifCond .ne 6, 3) := by decide +kernel
theorem dX5_fire_18 : decode cX5_fire 18 = .ok (.ldc 70, 2) := by decide +kernel
theorem dX5_fire_20 : decode cX5_fire 20 = .ok (.ireturn, 1) := by decide +kernel
theorem dX5_fire_21 : decode cX5_fire 21 = .ok (.iconst 0, 1) := by decide +kernel
theorem dX5_fire_22 : decode cX5_fire 22 = .ok (.istore_n 3, 1) := by decide +kernel
theorem dX5_fire_23 : decode cX5_fire 23 = .ok (.iload_n 3, 1) := by decide +kernel
theorem dX5_fire_24 : decode cX5_fire 24 = .ok (.bipush 20, 2) := by decide +kernel
theorem dX5_fire_26 : decode cX5_fire 26 = .ok (.if_icmp .gt 51, 3) := by decide +kernel
theorem dX5_fire_29 : decode cX5_fire 29 = .ok (.aload_n 0, 1) := by decide +kernel
theorem dX5_fire_30 : decode cX5_fire 30 = .ok (.getfield 30, 3) := by decide +kernel
theorem dX5_fire_33 : decode cX5_fire 33 = .ok (.aload_n 0, 1) := by decide +kernel
theorem dX5_fire_34 : decode cX5_fire 34 = .ok (.getfield 26, 3) := by decide +kernel
theorem dX5_fire_37 : decode cX5_fire 37 = .ok (.invokevirtual 133, 3) := by decide +kernel
theorem dX5_fire_40 : decode cX5_fire 40 = .ok (.aload_n 0, 1) := by decide +kernel
theorem dX5_fire_41 : decode cX5_fire 41 = .ok (.getfield 30, 3) := by decide +kernel
theorem dX5_fire_44 : decode cX5_fire 44 = .ok (.getfield 190, 3) := by decide +kernel
theorem dX5_fire_47 : decode cX5_fire 47 = .ok (.iload_n 1, 1) := by decide +kernel
theorem dX5_fire_48 : decode cX5_fire 48 = .ok (.iload_n 3, 1) := by decide +kernel
theorem dX5_fire_49 : decode cX5_fire 49 = .ok (.iastore, 1) := by decide +kernel
theorem dX5_fire_50 : decode cX5_fire 50 = .ok (.aload_n 0, 1) := by decide +kernel
theorem dX5_fire_51 : decode cX5_fire 51 = .ok (.getfield 30, 3) := by decide +kernel
theorem dX5_fire_54 : decode cX5_fire 54 = .ok (.iload_n 2, 1) := by decide +kernel
theorem dX5_fire_55 : decode cX5_fire 55 = .ok (.invokevirtual 211, 3) := by decide +kernel
theorem dX5_fire_58 : decode cX5_fire 58 = .ok (.aload_n 0, 1) := by decide +kernel
theorem dX5_fire_59 : decode cX5_fire 59 = .ok (.getfield 30, 3) := by decide +kernel
theorem dX5_fire_62 : decode cX5_fire 62 = .ok (.iload_n 1, 1) := by decide +kernel
theorem dX5_fire_63 : decode cX5_fire 63 = .ok (.invokevirtual 208, 3) := by decide +kernel
theorem dX5_fire_66 : decode cX5_fire 66 = .ok (.ifCond .ne 5, 3) := by decide +kernel
theorem dX5_fire_69 : decode cX5_fire 69 = .ok (.iload_n 3, 1) := by decide +kernel
theorem dX5_fire_70 : decode cX5_fire 70 = .ok (.ireturn, 1) := by decide +kernel
theorem dX5_fire_71 : decode cX5_fire 71 = .ok (.iinc 3 1, 3) := by decide +kernel
theorem dX5_fire_74 : decode cX5_fire 74 = .ok (.goto (-51), 3) := by decide +kernel
theorem dX5_fire_77 : decode cX5_fire 77 = .ok (.ldc 217, 2) := by decide +kernel
theorem dX5_fire_79 : decode cX5_fire 79 = .ok (.ireturn, 1) := by decide +kernel
set_option maxRecDepth 20000 in
theorem ggX5_pours_X5_isTube : GoodIn wsX5_pours wsX5_isTube := goodIn_r _ [10, 3, 11, 12, 13, 9, 14, 60, 61, 62, 63, 64, 65, 66, 67, 68, 69, 70, 71, 72, 73, 74, 75, 76, 77, 78, 79, 80, 81] rfl (by decide +kernel)
set_option maxRecDepth 20000 in
theorem gX5_pours_X5_isTube : GoodIn wsX5_pours (wsV RX5 166 RX5 yX5_isTube wsX5_isTube) := goodIn_app (goodIn_of _ (by decide +kernel)) ggX5_pours_X5_isTube
set_option maxRecDepth 20000 in
theorem ggX5_pours_X5_within : GoodIn wsX5_pours wsX5_within := goodIn_r _ [14] rfl (by decide +kernel)
set_option maxRecDepth 20000 in
theorem gX5_pours_X5_within : GoodIn wsX5_pours (va_wsS RX5 66 yX5_within wsX5_within) := goodIn_app (goodIn_of _ (by decide +kernel)) ggX5_pours_X5_within
set_option maxRecDepth 20000 in
theorem ggX5_pours_X0_become : GoodIn wsX5_pours wsX0_become := goodIn_r _ [19, 20, 21, 22, 23, 24, 25, 26, 27, 28, 29, 30, 31, 32, 33, 34, 35, 70, 71, 72, 73, 74, 75, 76, 77, 78, 79, 80, 81] rfl (by decide +kernel)
set_option maxRecDepth 20000 in
theorem gX5_pours_X0_become : GoodIn wsX5_pours (wsV RX5 133 RX0 yX0_become wsX0_become) := goodIn_app (goodIn_of _ (by decide +kernel)) ggX5_pours_X0_become
set_option maxRecDepth 20000 in
theorem ggX5_pours_X5_canPour : GoodIn wsX5_pours wsX5_canPour := goodIn_r _ [38, 39, 40, 11, 41, 42, 43, 18, 44, 23, 32, 45, 46, 9, 47, 48, 49, 50, 51, 35, 34, 52, 53, 54, 55, 56, 57, 58, 59, 36, 37, 70, 71, 72, 73, 74, 75, 76, 77, 78, 79, 80, 81] rfl (by decide +kernel)
set_option maxRecDepth 20000 in
theorem gX5_pours_X5_canPour : GoodIn wsX5_pours (va_wsS RX5 242 yX5_canPour wsX5_canPour) := goodIn_app (goodIn_of _ (by decide +kernel)) ggX5_pours_X5_canPour
theorem dX5_pours_0 : decode cX5_pours 0 = .ok (.aload_n 0, 1) := by decide +kernel
theorem dX5_pours_1 : decode cX5_pours 1 = .ok (.iload_n 1, 1) := by decide +kernel
theorem dX5_pours_2 : decode cX5_pours 2 = .ok (.invokevirtual 166, 3) := by decide +kernel
theorem dX5_pours_5 : decode cX5_pours 5 = .ok (.ifCond .eq 18, 3) := by decide +kernel
theorem dX5_pours_8 : decode cX5_pours 8 = .ok (.iload_n 2, 1) := by decide +kernel
theorem dX5_pours_9 : decode cX5_pours 9 = .ok (.iconst 0, 1) := by decide +kernel
theorem dX5_pours_10 : decode cX5_pours 10 = .ok (.bipush 40, 2) := by decide +kernel
theorem dX5_pours_12 : decode cX5_pours 12 = .ok (.invokestatic 66, 3) := by decide +kernel
theorem dX5_pours_15 : decode cX5_pours 15 = .ok (.ifCond .eq 8, 3) := by decide +kernel
theorem dX5_pours_18 : decode cX5_pours 18 = .ok (.iload_n 3, 1) := by decide +kernel
theorem dX5_pours_19 : decode cX5_pours 19 = .ok (.iconst (-1), 1) := by decide +kernel
theorem dX5_pours_20 : decode cX5_pours 20 = .ok (.if_icmp .ge 6, 3) := by decide +kernel
theorem dX5_pours_23 : decode cX5_pours 23 = .ok (.ldc 70, 2) := by decide +kernel
theorem dX5_pours_25 : decode cX5_pours 25 = .ok (.ireturn, 1) := by decide +kernel
theorem dX5_pours_26 : decode cX5_pours 26 = .ok (.aload_n 0, 1) := by decide +kernel
theorem dX5_pours_27 : decode cX5_pours 27 = .ok (.getfield 30, 3) := by decide +kernel
theorem dX5_pours_30 : decode cX5_pours 30 = .ok (.aload_n 0, 1) := by decide +kernel
theorem dX5_pours_31 : decode cX5_pours 31 = .ok (.getfield 26, 3) := by decide +kernel
theorem dX5_pours_34 : decode cX5_pours 34 = .ok (.invokevirtual 133, 3) := by decide +kernel
theorem dX5_pours_37 : decode cX5_pours 37 = .ok (.iconst 0, 1) := by decide +kernel
theorem dX5_pours_38 : decode cX5_pours 38 = .ok (.istore 4, 2) := by decide +kernel
theorem dX5_pours_40 : decode cX5_pours 40 = .ok (.iload 4, 2) := by decide +kernel
theorem dX5_pours_42 : decode cX5_pours 42 = .ok (.iconst 3, 1) := by decide +kernel
theorem dX5_pours_43 : decode cX5_pours 43 = .ok (.if_icmp .gt 56, 3) := by decide +kernel
theorem dX5_pours_46 : decode cX5_pours 46 = .ok (.aload_n 0, 1) := by decide +kernel
theorem dX5_pours_47 : decode cX5_pours 47 = .ok (.getfield 30, 3) := by decide +kernel
theorem dX5_pours_50 : decode cX5_pours 50 = .ok (.aload_n 0, 1) := by decide +kernel
theorem dX5_pours_51 : decode cX5_pours 51 = .ok (.getfield 44, 3) := by decide +kernel
theorem dX5_pours_54 : decode cX5_pours 54 = .ok (.iload_n 1, 1) := by decide +kernel
theorem dX5_pours_55 : decode cX5_pours 55 = .ok (.iload_n 2, 1) := by decide +kernel
theorem dX5_pours_56 : decode cX5_pours 56 = .ok (.iconst 0, 1) := by decide +kernel
theorem dX5_pours_57 : decode cX5_pours 57 = .ok (.iload 4, 2) := by decide +kernel
theorem dX5_pours_59 : decode cX5_pours 59 = .ok (.invokestatic 242, 3) := by decide +kernel
theorem dX5_pours_62 : decode cX5_pours 62 = .ok (.ifCond .eq 31, 3) := by decide +kernel
theorem dX5_pours_65 : decode cX5_pours 65 = .ok (.iload_n 3, 1) := by decide +kernel
theorem dX5_pours_66 : decode cX5_pours 66 = .ok (.iconst (-1), 1) := by decide +kernel
theorem dX5_pours_67 : decode cX5_pours 67 = .ok (.if_icmp .ne 8, 3) := by decide +kernel
theorem dX5_pours_70 : decode cX5_pours 70 = .ok (.iload 4, 2) := by decide +kernel
theorem dX5_pours_72 : decode cX5_pours 72 = .ok (.goto 20, 3) := by decide +kernel
theorem dX5_pours_75 : decode cX5_pours 75 = .ok (.iload_n 3, 1) := by decide +kernel
theorem dX5_pours_76 : decode cX5_pours 76 = .ok (.iload 4, 2) := by decide +kernel
theorem dX5_pours_78 : decode cX5_pours 78 = .ok (.if_icmp .ge 12, 3) := by decide +kernel
theorem dX5_pours_81 : decode cX5_pours 81 = .ok (.aload_n 0, 1) := by decide +kernel
theorem dX5_pours_82 : decode cX5_pours 82 = .ok (.getfield 44, 3) := by decide +kernel
theorem dX5_pours_85 : decode cX5_pours 85 = .ok (.iload_n 3, 1) := by decide +kernel
theorem dX5_pours_86 : decode cX5_pours 86 = .ok (.iaload, 1) := by decide +kernel
theorem dX5_pours_87 : decode cX5_pours 87 = .ok (.goto 5, 3) := by decide +kernel
theorem dX5_pours_90 : decode cX5_pours 90 = .ok (.ldc 217, 2) := by decide +kernel
theorem dX5_pours_92 : decode cX5_pours 92 = .ok (.ireturn, 1) := by decide +kernel
theorem dX5_pours_93 : decode cX5_pours 93 = .ok (.iinc 4 1, 3) := by decide +kernel
theorem dX5_pours_96 : decode cX5_pours 96 = .ok (.goto (-56), 3) := by decide +kernel
theorem dX5_pours_99 : decode cX5_pours 99 = .ok (.ldc 217, 2) := by decide +kernel
theorem dX5_pours_101 : decode cX5_pours 101 = .ok (.ireturn, 1) := by decide +kernel
set_option maxRecDepth 20000 in
theorem ggX5_mix_X5_isRoom : GoodIn wsX5_mix wsX5_isRoom := goodIn_r _ [13, 3, 14, 15, 16, 12, 17, 33, 34, 35, 36, 37, 38, 39, 40, 41, 42, 43, 44, 45, 46, 47, 48, 49, 50, 51, 52, 53, 54] rfl (by decide +kernel)
set_option maxRecDepth 20000 in
theorem gX5_mix_X5_isRoom : GoodIn wsX5_mix (wsV RX5 187 RX5 yX5_isRoom wsX5_isRoom) := goodIn_app (goodIn_of _ (by decide +kernel)) ggX5_mix_X5_isRoom
set_option maxRecDepth 20000 in
theorem ggX5_mix_X5_within : GoodIn wsX5_mix wsX5_within := goodIn_r _ [17] rfl (by decide +kernel)
set_option maxRecDepth 20000 in
theorem gX5_mix_X5_within : GoodIn wsX5_mix (va_wsS RX5 66 yX5_within wsX5_within) := goodIn_app (goodIn_of _ (by decide +kernel)) ggX5_mix_X5_within
set_option maxRecDepth 20000 in
theorem ggX5_mix_X0_tubesAt : GoodIn wsX5_mix wsX0_tubesAt := goodIn_r _ [22, 23, 24, 43, 44, 45, 46, 47, 48, 49, 50, 51, 52, 53, 54] rfl (by decide +kernel)
set_option maxRecDepth 20000 in
theorem gX5_mix_X0_tubesAt : GoodIn wsX5_mix (wsV RX5 202 RX0 yX0_tubesAt wsX0_tubesAt) := goodIn_app (goodIn_of _ (by decide +kernel)) ggX5_mix_X0_tubesAt
set_option maxRecDepth 20000 in
theorem ggX5_mix_X5_isPart : GoodIn wsX5_mix wsX5_isPart := goodIn_r _ [27] rfl (by decide +kernel)
set_option maxRecDepth 20000 in
theorem gX5_mix_X5_isPart : GoodIn wsX5_mix (va_wsS RX5 223 yX5_isPart wsX5_isPart) := goodIn_app (goodIn_of _ (by decide +kernel)) ggX5_mix_X5_isPart
set_option maxRecDepth 20000 in
theorem ggX5_mix_X0_upIn : GoodIn wsX5_mix wsX0_upIn := goodIn_r _ [31, 23, 32, 43, 44, 45, 46, 47, 48, 49, 50, 51, 52, 53, 54] rfl (by decide +kernel)
set_option maxRecDepth 20000 in
theorem gX5_mix_X0_upIn : GoodIn wsX5_mix (wsV RX5 246 RX0 yX0_upIn wsX0_upIn) := goodIn_app (goodIn_of _ (by decide +kernel)) ggX5_mix_X0_upIn
theorem dX5_mix_0 : decode cX5_mix 0 = .ok (.aload_n 0, 1) := by decide +kernel
theorem dX5_mix_1 : decode cX5_mix 1 = .ok (.iload_n 1, 1) := by decide +kernel
theorem dX5_mix_2 : decode cX5_mix 2 = .ok (.invokevirtual 187, 3) := by decide +kernel
theorem dX5_mix_5 : decode cX5_mix 5 = .ok (.ifCond .eq 23, 3) := by decide +kernel
theorem dX5_mix_8 : decode cX5_mix 8 = .ok (.iload_n 2, 1) := by decide +kernel
theorem dX5_mix_9 : decode cX5_mix 9 = .ok (.iconst 0, 1) := by decide +kernel
theorem dX5_mix_10 : decode cX5_mix 10 = .ok (.sipush 999, 3) := by decide +kernel
theorem dX5_mix_13 : decode cX5_mix 13 = .ok (.invokestatic 66, 3) := by decide +kernel
theorem dX5_mix_16 : decode cX5_mix 16 = .ok (.ifCond .eq 12, 3) := by decide +kernel
theorem dX5_mix_19 : decode cX5_mix 19 = .ok (.iload_n 3, 1) := by decide +kernel
theorem dX5_mix_20 : decode cX5_mix 20 = .ok (.iconst 0, 1) := by decide +kernel
theorem dX5_mix_21 : decode cX5_mix 21 = .ok (.iconst 1, 1) := by decide +kernel
theorem dX5_mix_22 : decode cX5_mix 22 = .ok (.invokestatic 66, 3) := by decide +kernel
theorem dX5_mix_25 : decode cX5_mix 25 = .ok (.ifCond .ne 6, 3) := by decide +kernel
theorem dX5_mix_28 : decode cX5_mix 28 = .ok (.ldc 70, 2) := by decide +kernel
theorem dX5_mix_30 : decode cX5_mix 30 = .ok (.ireturn, 1) := by decide +kernel
theorem dX5_mix_31 : decode cX5_mix 31 = .ok (.iconst 0, 1) := by decide +kernel
theorem dX5_mix_32 : decode cX5_mix 32 = .ok (.istore 4, 2) := by decide +kernel
theorem dX5_mix_34 : decode cX5_mix 34 = .ok (.ldc 217, 2) := by decide +kernel
theorem dX5_mix_36 : decode cX5_mix 36 = .ok (.istore 5, 2) := by decide +kernel
theorem dX5_mix_38 : decode cX5_mix 38 = .ok (.aload_n 0, 1) := by decide +kernel
theorem dX5_mix_39 : decode cX5_mix 39 = .ok (.getfield 26, 3) := by decide +kernel
theorem dX5_mix_42 : decode cX5_mix 42 = .ok (.iload_n 1, 1) := by decide +kernel
theorem dX5_mix_43 : decode cX5_mix 43 = .ok (.invokevirtual 202, 3) := by decide +kernel
theorem dX5_mix_46 : decode cX5_mix 46 = .ok (.istore 6, 2) := by decide +kernel
theorem dX5_mix_48 : decode cX5_mix 48 = .ok (.iconst 0, 1) := by decide +kernel
theorem dX5_mix_49 : decode cX5_mix 49 = .ok (.istore 7, 2) := by decide +kernel
theorem dX5_mix_51 : decode cX5_mix 51 = .ok (.iload 7, 2) := by decide +kernel
theorem dX5_mix_53 : decode cX5_mix 53 = .ok (.iload 6, 2) := by decide +kernel
theorem dX5_mix_55 : decode cX5_mix 55 = .ok (.if_icmp .gt 62, 3) := by decide +kernel
theorem dX5_mix_58 : decode cX5_mix 58 = .ok (.iload 7, 2) := by decide +kernel
theorem dX5_mix_60 : decode cX5_mix 60 = .ok (.iload 6, 2) := by decide +kernel
theorem dX5_mix_62 : decode cX5_mix 62 = .ok (.invokestatic 223, 3) := by decide +kernel
theorem dX5_mix_65 : decode cX5_mix 65 = .ok (.ifCond .eq 46, 3) := by decide +kernel
theorem dX5_mix_68 : decode cX5_mix 68 = .ok (.sipush 999, 3) := by decide +kernel
theorem dX5_mix_71 : decode cX5_mix 71 = .ok (.aload_n 0, 1) := by decide +kernel
theorem dX5_mix_72 : decode cX5_mix 72 = .ok (.getfield 26, 3) := by decide +kernel
theorem dX5_mix_75 : decode cX5_mix 75 = .ok (.getfield 205, 3) := by decide +kernel
theorem dX5_mix_78 : decode cX5_mix 78 = .ok (.iload_n 1, 1) := by decide +kernel
theorem dX5_mix_79 : decode cX5_mix 79 = .ok (.iaload, 1) := by decide +kernel
theorem dX5_mix_80 : decode cX5_mix 80 = .ok (.aload_n 0, 1) := by decide +kernel
theorem dX5_mix_81 : decode cX5_mix 81 = .ok (.getfield 26, 3) := by decide +kernel
theorem dX5_mix_84 : decode cX5_mix 84 = .ok (.iload 7, 2) := by decide +kernel
theorem dX5_mix_86 : decode cX5_mix 86 = .ok (.invokevirtual 246, 3) := by decide +kernel
theorem dX5_mix_89 : decode cX5_mix 89 = .ok (.iadd, 1) := by decide +kernel
theorem dX5_mix_90 : decode cX5_mix 90 = .ok (.invokestatic 249, 3) := by decide +kernel
theorem dX5_mix_93 : decode cX5_mix 93 = .ok (.iload_n 2, 1) := by decide +kernel
theorem dX5_mix_94 : decode cX5_mix 94 = .ok (.if_icmp .ne 17, 3) := by decide +kernel
theorem dX5_mix_97 : decode cX5_mix 97 = .ok (.iinc 4 1, 3) := by decide +kernel
theorem dX5_mix_100 : decode cX5_mix 100 = .ok (.iload 5, 2) := by decide +kernel
theorem dX5_mix_102 : decode cX5_mix 102 = .ok (.ldc 217, 2) := by decide +kernel
theorem dX5_mix_104 : decode cX5_mix 104 = .ok (.if_icmp .ne 7, 3) := by decide +kernel
theorem dX5_mix_107 : decode cX5_mix 107 = .ok (.iload 7, 2) := by decide +kernel
theorem dX5_mix_109 : decode cX5_mix 109 = .ok (.istore 5, 2) := by decide +kernel
theorem dX5_mix_111 : decode cX5_mix 111 = .ok (.iinc 7 1, 3) := by decide +kernel
theorem dX5_mix_114 : decode cX5_mix 114 = .ok (.goto (-63), 3) := by decide +kernel
theorem dX5_mix_117 : decode cX5_mix 117 = .ok (.iload_n 3, 1) := by decide +kernel
theorem dX5_mix_118 : decode cX5_mix 118 = .ok (.ifCond .ne 8, 3) := by decide +kernel
theorem dX5_mix_121 : decode cX5_mix 121 = .ok (.iload 4, 2) := by decide +kernel
theorem dX5_mix_123 : decode cX5_mix 123 = .ok (.goto 5, 3) := by decide +kernel
theorem dX5_mix_126 : decode cX5_mix 126 = .ok (.iload 5, 2) := by decide +kernel
theorem dX5_mix_128 : decode cX5_mix 128 = .ok (.ireturn, 1) := by decide +kernel
set_option maxRecDepth 20000 in
theorem ggX5_degrees_X0_stands : GoodIn wsX5_degrees wsX0_stands := goodIn_r _ [7, 8, 30, 31, 32, 33, 34, 35, 36, 37, 38, 39, 40, 41] rfl (by decide +kernel)
set_option maxRecDepth 20000 in
theorem gX5_degrees_X0_stands : GoodIn wsX5_degrees (wsV RX5 149 RX0 yX0_stands wsX0_stands) := goodIn_app (goodIn_of _ (by decide +kernel)) ggX5_degrees_X0_stands
set_option maxRecDepth 20000 in
theorem ggX5_degrees_X0_all : GoodIn wsX5_degrees wsX0_all := goodIn_r _ [12, 8, 13, 14, 15, 16, 6, 17, 18, 19, 30, 31, 32, 33, 34, 35, 36, 37, 38, 39, 40, 41] rfl (by decide +kernel)
set_option maxRecDepth 20000 in
theorem gX5_degrees_X0_all : GoodIn wsX5_degrees (wsV RX5 254 RX0 yX0_all wsX0_all) := goodIn_app (goodIn_of _ (by decide +kernel)) ggX5_degrees_X0_all
theorem dX5_degrees_0 : decode cX5_degrees 0 = .ok (.aload_n 0, 1) := by decide +kernel
theorem dX5_degrees_1 : decode cX5_degrees 1 = .ok (.getfield 26, 3) := by decide +kernel
theorem dX5_degrees_4 : decode cX5_degrees 4 = .ok (.invokevirtual 149, 3) := by decide +kernel
theorem dX5_degrees_7 : decode cX5_degrees 7 = .ok (.ifCond .eq 13, 3) := by decide +kernel
theorem dX5_degrees_10 : decode cX5_degrees 10 = .ok (.aload_n 0, 1) := by decide +kernel
theorem dX5_degrees_11 : decode cX5_degrees 11 = .ok (.getfield 26, 3) := by decide +kernel
theorem dX5_degrees_14 : decode cX5_degrees 14 = .ok (.invokevirtual 254, 3) := by decide +kernel
theorem dX5_degrees_17 : decode cX5_degrees 17 = .ok (.goto 5, 3) := by decide +kernel
theorem dX5_degrees_20 : decode cX5_degrees 20 = .ok (.ldc 145, 2) := by decide +kernel
theorem dX5_degrees_22 : decode cX5_degrees 22 = .ok (.ireturn, 1) := by decide +kernel
set_option maxRecDepth 20000 in
theorem ggX5_sale_X5_isTube : GoodIn wsX5_sale wsX5_isTube := goodIn_r _ [13, 3, 14, 15, 16, 12, 17, 63, 64, 65, 66, 67, 68, 69, 70, 71, 72, 73, 74, 75, 76, 77, 78, 79, 80, 81, 82, 83, 84] rfl (by decide +kernel)
set_option maxRecDepth 20000 in
theorem gX5_sale_X5_isTube : GoodIn wsX5_sale (wsV RX5 166 RX5 yX5_isTube wsX5_isTube) := goodIn_app (goodIn_of _ (by decide +kernel)) ggX5_sale_X5_isTube
set_option maxRecDepth 20000 in
theorem ggX5_sale_X5_within : GoodIn wsX5_sale wsX5_within := goodIn_r _ [17] rfl (by decide +kernel)
set_option maxRecDepth 20000 in
theorem gX5_sale_X5_within : GoodIn wsX5_sale (va_wsS RX5 66 yX5_within wsX5_within) := goodIn_app (goodIn_of _ (by decide +kernel)) ggX5_sale_X5_within
set_option maxRecDepth 20000 in
theorem ggX5_sale_X0_become : GoodIn wsX5_sale wsX0_become := goodIn_r _ [22, 23, 24, 25, 26, 27, 28, 29, 30, 31, 32, 33, 34, 35, 36, 37, 38, 73, 74, 75, 76, 77, 78, 79, 80, 81, 82, 83, 84] rfl (by decide +kernel)
set_option maxRecDepth 20000 in
theorem gX5_sale_X0_become : GoodIn wsX5_sale (wsV RX5 133 RX0 yX0_become wsX0_become) := goodIn_app (goodIn_of _ (by decide +kernel)) ggX5_sale_X0_become
set_option maxRecDepth 20000 in
theorem ggX5_sale_X0_passMinute : GoodIn wsX5_sale wsX0_passMinute := goodIn_r _ [42, 26, 25, 28, 23, 43, 6, 7, 8, 33, 44, 45, 46, 27, 47, 48, 49, 21, 50, 34, 38, 35, 51, 52, 53, 54, 37, 55, 56, 57, 58, 36, 59, 60, 61, 62, 24, 73, 74, 75, 76, 77, 78, 79, 80, 81, 82, 83, 84] rfl (by decide +kernel)
set_option maxRecDepth 20000 in
theorem gX5_sale_X0_passMinute : GoodIn wsX5_sale (wsV RX5 159 RX0 yX0_passMinute wsX0_passMinute) := goodIn_app (goodIn_of _ (by decide +kernel)) ggX5_sale_X0_passMinute
theorem dX5_sale_0 : decode cX5_sale 0 = .ok (.aload_n 0, 1) := by decide +kernel
theorem dX5_sale_1 : decode cX5_sale 1 = .ok (.iload_n 1, 1) := by decide +kernel
theorem dX5_sale_2 : decode cX5_sale 2 = .ok (.invokevirtual 166, 3) := by decide +kernel
theorem dX5_sale_5 : decode cX5_sale 5 = .ok (.ifCond .eq 44, 3) := by decide +kernel
theorem dX5_sale_8 : decode cX5_sale 8 = .ok (.iload_n 2, 1) := by decide +kernel
theorem dX5_sale_9 : decode cX5_sale 9 = .ok (.iconst 1, 1) := by decide +kernel
theorem dX5_sale_10 : decode cX5_sale 10 = .ok (.bipush 30, 2) := by decide +kernel
theorem dX5_sale_12 : decode cX5_sale 12 = .ok (.invokestatic 66, 3) := by decide +kernel
theorem dX5_sale_15 : decode cX5_sale 15 = .ok (.ifCond .eq 34, 3) := by decide +kernel
theorem dX5_sale_18 : decode cX5_sale 18 = .ok (.iload_n 3, 1) := by decide +kernel
theorem dX5_sale_19 : decode cX5_sale 19 = .ok (.iconst 1, 1) := by decide +kernel
theorem dX5_sale_20 : decode cX5_sale 20 = .ok (.bipush 99, 2) := by decide +kernel
theorem dX5_sale_22 : decode cX5_sale 22 = .ok (.invokestatic 66, 3) := by decide +kernel
theorem dX5_sale_25 : decode cX5_sale 25 = .ok (.ifCond .eq 24, 3) := by decide +kernel
theorem dX5_sale_28 : decode cX5_sale 28 = .ok (.iload 4, 2) := by decide +kernel
theorem dX5_sale_30 : decode cX5_sale 30 = .ok (.iconst 0, 1) := by decide +kernel
theorem dX5_sale_31 : decode cX5_sale 31 = .ok (.bipush 9, 2) := by decide +kernel
theorem dX5_sale_33 : decode cX5_sale 33 = .ok (.invokestatic 66, 3) := by decide +kernel
theorem dX5_sale_36 : decode cX5_sale 36 = .ok (.ifCond .eq 13, 3) := by decide +kernel
theorem dX5_sale_39 : decode cX5_sale 39 = .ok (.iload 5, 2) := by decide +kernel
theorem dX5_sale_41 : decode cX5_sale 41 = .ok (.iconst 0, 1) := by decide +kernel
theorem dX5_sale_42 : decode cX5_sale 42 = .ok (.iconst 1, 1) := by decide +kernel
theorem dX5_sale_43 : decode cX5_sale 43 = .ok (.invokestatic 66, 3) := by decide +kernel
theorem dX5_sale_46 : decode cX5_sale 46 = .ok (.ifCond .ne 6, 3) := by decide +kernel
theorem dX5_sale_49 : decode cX5_sale 49 = .ok (.ldc 70, 2) := by decide +kernel
theorem dX5_sale_51 : decode cX5_sale 51 = .ok (.ireturn, 1) := by decide +kernel
theorem dX5_sale_52 : decode cX5_sale 52 = .ok (.iconst 0, 1) := by decide +kernel
theorem dX5_sale_53 : decode cX5_sale 53 = .ok (.istore 6, 2) := by decide +kernel
theorem dX5_sale_55 : decode cX5_sale 55 = .ok (.iconst (-1), 1) := by decide +kernel
theorem dX5_sale_56 : decode cX5_sale 56 = .ok (.istore 7, 2) := by decide +kernel
theorem dX5_sale_58 : decode cX5_sale 58 = .ok (.aload_n 0, 1) := by decide +kernel
theorem dX5_sale_59 : decode cX5_sale 59 = .ok (.getfield 30, 3) := by decide +kernel
theorem dX5_sale_62 : decode cX5_sale 62 = .ok (.aload_n 0, 1) := by decide +kernel
theorem dX5_sale_63 : decode cX5_sale 63 = .ok (.getfield 26, 3) := by decide +kernel
theorem dX5_sale_66 : decode cX5_sale 66 = .ok (.invokevirtual 133, 3) := by decide +kernel
theorem dX5_sale_69 : decode cX5_sale 69 = .ok (.iconst 0, 1) := by decide +kernel
theorem dX5_sale_70 : decode cX5_sale 70 = .ok (.istore 8, 2) := by decide +kernel
theorem dX5_sale_72 : decode cX5_sale 72 = .ok (.iload 8, 2) := by decide +kernel
theorem dX5_sale_74 : decode cX5_sale 74 = .ok (.iload_n 2, 1) := by decide +kernel
theorem dX5_sale_75 : decode cX5_sale 75 = .ok (.if_icmp .gt 54, 3) := by decide +kernel
theorem dX5_sale_78 : decode cX5_sale 78 = .ok (.aload_n 0, 1) := by decide +kernel
theorem dX5_sale_79 : decode cX5_sale 79 = .ok (.getfield 30, 3) := by decide +kernel
theorem dX5_sale_82 : decode cX5_sale 82 = .ok (.getfield 175, 3) := by decide +kernel
theorem dX5_sale_85 : decode cX5_sale 85 = .ok (.iload_n 1, 1) := by decide +kernel
theorem dX5_sale_86 : decode cX5_sale 86 = .ok (.iaload, 1) := by decide +kernel
theorem dX5_sale_87 : decode cX5_sale 87 = .ok (.iconst 0, 1) := by decide +kernel
theorem dX5_sale_88 : decode cX5_sale 88 = .ok (.iload_n 3, 1) := by decide +kernel
theorem dX5_sale_89 : decode cX5_sale 89 = .ok (.iload 4, 2) := by decide +kernel
theorem dX5_sale_91 : decode cX5_sale 91 = .ok (.iload 8, 2) := by decide +kernel
theorem dX5_sale_93 : decode cX5_sale 93 = .ok (.imul, 1) := by decide +kernel
theorem dX5_sale_94 : decode cX5_sale 94 = .ok (.isub, 1) := by decide +kernel
theorem dX5_sale_95 : decode cX5_sale 95 = .ok (.invokestatic 257, 3) := by decide +kernel
theorem dX5_sale_98 : decode cX5_sale 98 = .ok (.imul, 1) := by decide +kernel
theorem dX5_sale_99 : decode cX5_sale 99 = .ok (.istore 9, 2) := by decide +kernel
theorem dX5_sale_101 : decode cX5_sale 101 = .ok (.iload 9, 2) := by decide +kernel
theorem dX5_sale_103 : decode cX5_sale 103 = .ok (.iload 7, 2) := by decide +kernel
theorem dX5_sale_105 : decode cX5_sale 105 = .ok (.if_icmp .le 11, 3) := by decide +kernel
theorem dX5_sale_108 : decode cX5_sale 108 = .ok (.iload 9, 2) := by decide +kernel
theorem dX5_sale_110 : decode cX5_sale 110 = .ok (.istore 7, 2) := by decide +kernel
theorem dX5_sale_112 : decode cX5_sale 112 = .ok (.iload 8, 2) := by decide +kernel
theorem dX5_sale_114 : decode cX5_sale 114 = .ok (.istore 6, 2) := by decide +kernel
theorem dX5_sale_116 : decode cX5_sale 116 = .ok (.aload_n 0, 1) := by decide +kernel
theorem dX5_sale_117 : decode cX5_sale 117 = .ok (.getfield 30, 3) := by decide +kernel
theorem dX5_sale_120 : decode cX5_sale 120 = .ok (.invokevirtual 159, 3) := by decide +kernel
theorem dX5_sale_123 : decode cX5_sale 123 = .ok (.iinc 8 1, 3) := by decide +kernel
theorem dX5_sale_126 : decode cX5_sale 126 = .ok (.goto (-54), 3) := by decide +kernel
theorem dX5_sale_129 : decode cX5_sale 129 = .ok (.iload 5, 2) := by decide +kernel
theorem dX5_sale_131 : decode cX5_sale 131 = .ok (.ifCond .ne 8, 3) := by decide +kernel
theorem dX5_sale_134 : decode cX5_sale 134 = .ok (.iload 6, 2) := by decide +kernel
theorem dX5_sale_136 : decode cX5_sale 136 = .ok (.goto 5, 3) := by decide +kernel
theorem dX5_sale_139 : decode cX5_sale 139 = .ok (.iload 7, 2) := by decide +kernel
theorem dX5_sale_141 : decode cX5_sale 141 = .ok (.ireturn, 1) := by decide +kernel
set_option maxRecDepth 20000 in
theorem ggX5_who_X5_isTube : GoodIn wsX5_who wsX5_isTube := goodIn_r _ [10, 3, 11, 12, 13, 9, 14, 105, 106, 107, 108, 109, 110, 111, 112, 113, 114, 115, 116, 117, 118, 119, 120, 121, 122, 123, 124, 125, 126] rfl (by decide +kernel)
set_option maxRecDepth 20000 in
theorem gX5_who_X5_isTube : GoodIn wsX5_who (wsV RX5 166 RX5 yX5_isTube wsX5_isTube) := goodIn_app (goodIn_of _ (by decide +kernel)) ggX5_who_X5_isTube
set_option maxRecDepth 20000 in
theorem ggX5_who_X5_within : GoodIn wsX5_who wsX5_within := goodIn_r _ [14] rfl (by decide +kernel)
set_option maxRecDepth 20000 in
theorem gX5_who_X5_within : GoodIn wsX5_who (va_wsS RX5 66 yX5_within wsX5_within) := goodIn_app (goodIn_of _ (by decide +kernel)) ggX5_who_X5_within
set_option maxRecDepth 20000 in
theorem ggX5_who_X5_isRoom : GoodIn wsX5_who wsX5_isRoom := goodIn_r _ [18, 3, 4, 12, 13, 9, 14, 105, 106, 107, 108, 109, 110, 111, 112, 113, 114, 115, 116, 117, 118, 119, 120, 121, 122, 123, 124, 125, 126] rfl (by decide +kernel)
set_option maxRecDepth 20000 in
theorem gX5_who_X5_isRoom : GoodIn wsX5_who (wsV RX5 187 RX5 yX5_isRoom wsX5_isRoom) := goodIn_app (goodIn_of _ (by decide +kernel)) ggX5_who_X5_isRoom
set_option maxRecDepth 20000 in
theorem ggX5_who_X5_isRow : GoodIn wsX5_who wsX5_isRow := goodIn_r _ [21, 12, 13, 9, 14] rfl (by decide +kernel)
set_option maxRecDepth 20000 in
theorem gX5_who_X5_isRow : GoodIn wsX5_who (va_wsS RX5 62 yX5_isRow wsX5_isRow) := goodIn_app (goodIn_of _ (by decide +kernel)) ggX5_who_X5_isRow
set_option maxRecDepth 20000 in
theorem ggX5_who_X2_reach : GoodIn wsX5_who wsX2_reach := goodIn_r _ [26, 27, 28, 29, 30, 25, 31, 32, 127, 128, 129] rfl (by decide +kernel)
