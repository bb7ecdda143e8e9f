set_option maxRecDepth 20000 in
theorem gX6_row_X6_finding : GoodIn wsX6_row (wsV RX6 68 RX6 yX6_finding wsX6_finding) := goodIn_app (goodIn_of _ (by decide +kernel)) ggX6_row_X6_finding
theorem dX6_row_0 : decode cX6_row 0 = .ok (.aload_n 0, 1) := by decide +kernel
theorem dX6_row_1 : decode cX6_row 1 = .ok (.iconst 0, 1) := by decide +kernel
theorem dX6_row_2 : decode cX6_row 2 = .ok (.putfield 47, 3) := by decide +kernel
theorem dX6_row_5 : decode cX6_row 5 = .ok (.iload_n 1, 1) := by decide +kernel
theorem dX6_row_6 : decode cX6_row 6 = .ok (.invokestatic 61, 3) := by decide +kernel
theorem dX6_row_9 : decode cX6_row 9 = .ok (.ifCond .eq 21, 3) := by decide +kernel
theorem dX6_row_12 : decode cX6_row 12 = .ok (.iload_n 2, 1) := by decide +kernel
theorem dX6_row_13 : decode cX6_row 13 = .ok (.i2l, 1) := by decide +kernel
theorem dX6_row_14 : decode cX6_row 14 = .ok (.lconst 0, 1) := by decide +kernel
theorem dX6_row_15 : decode cX6_row 15 = .ok (.ldc2_w 65, 3) := by decide +kernel
theorem dX6_row_18 : decode cX6_row 18 = .ok (.invokestatic 57, 3) := by decide +kernel
theorem dX6_row_21 : decode cX6_row 21 = .ok (.ifCond .eq 9, 3) := by decide +kernel
theorem dX6_row_24 : decode cX6_row 24 = .ok (.iload_n 3, 1) := by decide +kernel
theorem dX6_row_25 : decode cX6_row 25 = .ok (.bipush 40, 2) := by decide +kernel
theorem dX6_row_27 : decode cX6_row 27 = .ok (.if_icmp .le 6, 3) := by decide +kernel
theorem dX6_row_30 : decode cX6_row 30 = .ok (.ldc 67, 2) := by decide +kernel
theorem dX6_row_32 : decode cX6_row 32 = .ok (.ireturn, 1) := by decide +kernel
theorem dX6_row_33 : decode cX6_row 33 = .ok (.aload_n 0, 1) := by decide +kernel
theorem dX6_row_34 : decode cX6_row 34 = .ok (.iconst 0, 1) := by decide +kernel
theorem dX6_row_35 : decode cX6_row 35 = .ok (.putfield 51, 3) := by decide +kernel
theorem dX6_row_38 : decode cX6_row 38 = .ok (.iload_n 3, 1) := by decide +kernel
theorem dX6_row_39 : decode cX6_row 39 = .ok (.ifCond .ge 9, 3) := by decide +kernel
theorem dX6_row_42 : decode cX6_row 42 = .ok (.aload_n 0, 1) := by decide +kernel
theorem dX6_row_43 : decode cX6_row 43 = .ok (.iconst 4, 1) := by decide +kernel
theorem dX6_row_44 : decode cX6_row 44 = .ok (.invokevirtual 68, 3) := by decide +kernel
theorem dX6_row_47 : decode cX6_row 47 = .ok (.ireturn, 1) := by decide +kernel
theorem dX6_row_48 : decode cX6_row 48 = .ok (.aload_n 0, 1) := by decide +kernel
theorem dX6_row_49 : decode cX6_row 49 = .ok (.getfield 7, 3) := by decide +kernel
theorem dX6_row_52 : decode cX6_row 52 = .ok (.iload_n 1, 1) := by decide +kernel
theorem dX6_row_53 : decode cX6_row 53 = .ok (.iload_n 2, 1) := by decide +kernel
theorem dX6_row_54 : decode cX6_row 54 = .ok (.iastore, 1) := by decide +kernel
theorem dX6_row_55 : decode cX6_row 55 = .ok (.aload_n 0, 1) := by decide +kernel
theorem dX6_row_56 : decode cX6_row 56 = .ok (.getfield 13, 3) := by decide +kernel
theorem dX6_row_59 : decode cX6_row 59 = .ok (.iload_n 1, 1) := by decide +kernel
theorem dX6_row_60 : decode cX6_row 60 = .ok (.iload_n 3, 1) := by decide +kernel
theorem dX6_row_61 : decode cX6_row 61 = .ok (.iastore, 1) := by decide +kernel
theorem dX6_row_62 : decode cX6_row 62 = .ok (.iconst 0, 1) := by decide +kernel
theorem dX6_row_63 : decode cX6_row 63 = .ok (.istore 4, 2) := by decide +kernel
theorem dX6_row_65 : decode cX6_row 65 = .ok (.iload 4, 2) := by decide +kernel
theorem dX6_row_67 : decode cX6_row 67 = .ok (.bipush 40, 2) := by decide +kernel
theorem dX6_row_69 : decode cX6_row 69 = .ok (.if_icmp .ge 22, 3) := by decide +kernel
theorem dX6_row_72 : decode cX6_row 72 = .ok (.aload_n 0, 1) := by decide +kernel
theorem dX6_row_73 : decode cX6_row 73 = .ok (.getfield 16, 3) := by decide +kernel
theorem dX6_row_76 : decode cX6_row 76 = .ok (.bipush 40, 2) := by decide +kernel
theorem dX6_row_78 : decode cX6_row 78 = .ok (.iload_n 1, 1) := by decide +kernel
theorem dX6_row_79 : decode cX6_row 79 = .ok (.imul, 1) := by decide +kernel
theorem dX6_row_80 : decode cX6_row 80 = .ok (.iload 4, 2) := by decide +kernel
theorem dX6_row_82 : decode cX6_row 82 = .ok (.iadd, 1) := by decide +kernel
theorem dX6_row_83 : decode cX6_row 83 = .ok (.iconst 0, 1) := by decide +kernel
theorem dX6_row_84 : decode cX6_row 84 = .ok (.iastore, 1) := by decide +kernel
theorem dX6_row_85 : decode cX6_row 85 = .ok (.iinc 4 1, 3) := by decide +kernel
theorem dX6_row_88 : decode cX6_row 88 = .ok (.goto (-23), 3) := by decide +kernel
theorem dX6_row_91 : decode cX6_row 91 = .ok (.iload_n 3, 1) := by decide +kernel
theorem dX6_row_92 : decode cX6_row 92 = .ok (.ireturn, 1) := by decide +kernel
set_option maxRecDepth 20000 in
theorem ggX6_set_X6_isRow : GoodIn wsX6_set wsX6_isRow := goodIn_r _ [10, 11, 12, 13, 9, 14] rfl (by decide +kernel)
set_option maxRecDepth 20000 in
theorem gX6_set_X6_isRow : GoodIn wsX6_set (va_wsS RX6 61 yX6_isRow wsX6_isRow) := goodIn_app (goodIn_of _ (by decide +kernel)) ggX6_set_X6_isRow
set_option maxRecDepth 20000 in
theorem ggX6_set_X6_finding : GoodIn wsX6_set wsX6_finding := goodIn_r _ [18, 3, 19, 20, 21, 22, 23, 24, 25, 26, 27, 28, 29, 30, 31, 32, 33, 34, 35, 36, 37, 38, 39, 40, 41, 42, 43] rfl (by decide +kernel)
set_option maxRecDepth 20000 in
theorem gX6_set_X6_finding : GoodIn wsX6_set (wsV RX6 68 RX6 yX6_finding wsX6_finding) := goodIn_app (goodIn_of _ (by decide +kernel)) ggX6_set_X6_finding
set_option maxRecDepth 20000 in
theorem ggX6_set_X6_in : GoodIn wsX6_set wsX6_in := goodIn_r _ [14] rfl (by decide +kernel)
set_option maxRecDepth 20000 in
theorem gX6_set_X6_in : GoodIn wsX6_set (va_wsS RX6 57 yX6_in wsX6_in) := goodIn_app (goodIn_of _ (by decide +kernel)) ggX6_set_X6_in
theorem dX6_set_0 : decode cX6_set 0 = .ok (.aload_n 0, 1) := by decide +kernel
theorem dX6_set_1 : decode cX6_set 1 = .ok (.iconst 0, 1) := by decide +kernel
theorem dX6_set_2 : decode cX6_set 2 = .ok (.putfield 47, 3) := by decide +kernel
theorem dX6_set_5 : decode cX6_set 5 = .ok (.iload_n 1, 1) := by decide +kernel
theorem dX6_set_6 : decode cX6_set 6 = .ok (.invokestatic 61, 3) := by decide +kernel
theorem dX6_set_9 : decode cX6_set 9 = .ok (.ifCond .ne 6, 3) := by decide +kernel
theorem dX6_set_12 : decode cX6_set 12 = .ok (.ldc 67, 2) := by decide +kernel
theorem dX6_set_14 : decode cX6_set 14 = .ok (.ireturn, 1) := by decide +kernel
theorem dX6_set_15 : decode cX6_set 15 = .ok (.aload_n 0, 1) := by decide +kernel
theorem dX6_set_16 : decode cX6_set 16 = .ok (.iconst 0, 1) := by decide +kernel
theorem dX6_set_17 : decode cX6_set 17 = .ok (.putfield 51, 3) := by decide +kernel
theorem dX6_set_20 : decode cX6_set 20 = .ok (.aload_n 0, 1) := by decide +kernel
theorem dX6_set_21 : decode cX6_set 21 = .ok (.getfield 7, 3) := by decide +kernel
theorem dX6_set_24 : decode cX6_set 24 = .ok (.iload_n 1, 1) := by decide +kernel
theorem dX6_set_25 : decode cX6_set 25 = .ok (.iaload, 1) := by decide +kernel
theorem dX6_set_26 : decode cX6_set 26 = .ok (.ifCond .ge 9, 3) := by decide +kernel
theorem dX6_set_29 : decode cX6_set 29 = .ok (.aload_n 0, 1) := by decide +kernel
theorem dX6_set_30 : decode cX6_set 30 = .ok (.iconst 1, 1) := by decide +kernel
theorem dX6_set_31 : decode cX6_set 31 = .ok (.invokevirtual 68, 3) := by decide +kernel
theorem dX6_set_34 : decode cX6_set 34 = .ok (.ireturn, 1) := by decide +kernel
theorem dX6_set_35 : decode cX6_set 35 = .ok (.iload_n 2, 1) := by decide +kernel
theorem dX6_set_36 : decode cX6_set 36 = .ok (.i2l, 1) := by decide +kernel
theorem dX6_set_37 : decode cX6_set 37 = .ok (.lconst 0, 1) := by decide +kernel
theorem dX6_set_38 : decode cX6_set 38 = .ok (.aload_n 0, 1) := by decide +kernel
theorem dX6_set_39 : decode cX6_set 39 = .ok (.getfield 13, 3) := by decide +kernel
theorem dX6_set_42 : decode cX6_set 42 = .ok (.iload_n 1, 1) := by decide +kernel
theorem dX6_set_43 : decode cX6_set 43 = .ok (.iaload, 1) := by decide +kernel
theorem dX6_set_44 : decode cX6_set 44 = .ok (.iconst 1, 1) := by decide +kernel
theorem dX6_set_45 : decode cX6_set 45 = .ok (.isub, 1) := by decide +kernel
theorem dX6_set_46 : decode cX6_set 46 = .ok (.i2l, 1) := by decide +kernel
theorem dX6_set_47 : decode cX6_set 47 = .ok (.invokestatic 57, 3) := by decide +kernel
theorem dX6_set_50 : decode cX6_set 50 = .ok (.ifCond .ne 9, 3) := by decide +kernel
theorem dX6_set_53 : decode cX6_set 53 = .ok (.aload_n 0, 1) := by decide +kernel
theorem dX6_set_54 : decode cX6_set 54 = .ok (.iconst 2, 1) := by decide +kernel
theorem dX6_set_55 : decode cX6_set 55 = .ok (.invokevirtual 68, 3) := by decide +kernel
theorem dX6_set_58 : decode cX6_set 58 = .ok (.ireturn, 1) := by decide +kernel
theorem dX6_set_59 : decode cX6_set 59 = .ok (.aload_n 0, 1) := by decide +kernel
theorem dX6_set_60 : decode cX6_set 60 = .ok (.getfield 16, 3) := by decide +kernel
theorem dX6_set_63 : decode cX6_set 63 = .ok (.bipush 40, 2) := by decide +kernel
theorem dX6_set_65 : decode cX6_set 65 = .ok (.iload_n 1, 1) := by decide +kernel
theorem dX6_set_66 : decode cX6_set 66 = .ok (.imul, 1) := by decide +kernel
theorem dX6_set_67 : decode cX6_set 67 = .ok (.iload_n 2, 1) := by decide +kernel
theorem dX6_set_68 : decode cX6_set 68 = .ok (.iadd, 1) := by decide +kernel
theorem dX6_set_69 : decode cX6_set 69 = .ok (.aload_n 0, 1) := by decide +kernel
theorem dX6_set_70 : decode cX6_set 70 = .ok (.getfield 7, 3) := by decide +kernel
theorem dX6_set_73 : decode cX6_set 73 = .ok (.iload_n 1, 1) := by decide +kernel
theorem dX6_set_74 : decode cX6_set 74 = .ok (.iaload, 1) := by decide +kernel
theorem dX6_set_75 : decode cX6_set 75 = .ok (.ifCond .ne 8, 3) := by decide +kernel
theorem dX6_set_78 : decode cX6_set 78 = .ok (.iload_n 3, 1) := by decide +kernel
theorem dX6_set_79 : decode cX6_set 79 = .ok (.i2b, 1) := by decide +kernel
theorem dX6_set_80 : decode cX6_set 80 = .ok (.goto 19, 3) := by decide +kernel
theorem dX6_set_83 : decode cX6_set 83 = .ok (.aload_n 0, 1) := by decide +kernel
theorem dX6_set_84 : decode cX6_set 84 = .ok (.getfield 7, 3) := by decide +kernel
theorem dX6_set_87 : decode cX6_set 87 = .ok (.iload_n 1, 1) := by decide +kernel
theorem dX6_set_88 : decode cX6_set 88 = .ok (.iaload, 1) := by decide +kernel
theorem dX6_set_89 : decode cX6_set 89 = .ok (.iconst 1, 1) := by decide +kernel
theorem dX6_set_90 : decode cX6_set 90 = .ok (.if_icmp .ne 8, 3) := by decide +kernel
theorem dX6_set_93 : decode cX6_set 93 = .ok (.iload_n 3, 1) := by decide +kernel
theorem dX6_set_94 : decode cX6_set 94 = .ok (.i2s, 1) := by decide +kernel
theorem dX6_set_95 : decode cX6_set 95 = .ok (.goto 4, 3) := by decide +kernel
theorem dX6_set_98 : decode cX6_set 98 = .ok (.iload_n 3, 1) := by decide +kernel
theorem dX6_set_99 : decode cX6_set 99 = .ok (.iastore, 1) := by decide +kernel
theorem dX6_set_100 : decode cX6_set 100 = .ok (.aload_n 0, 1) := by decide +kernel
theorem dX6_set_101 : decode cX6_set 101 = .ok (.getfield 16, 3) := by decide +kernel
theorem dX6_set_104 : decode cX6_set 104 = .ok (.bipush 40, 2) := by decide +kernel
theorem dX6_set_106 : decode cX6_set 106 = .ok (.iload_n 1, 1) := by decide +kernel
theorem dX6_set_107 : decode cX6_set 107 = .ok (.imul, 1) := by decide +kernel
theorem dX6_set_108 : decode cX6_set 108 = .ok (.iload_n 2, 1) := by decide +kernel
theorem dX6_set_109 : decode cX6_set 109 = .ok (.iadd, 1) := by decide +kernel
theorem dX6_set_110 : decode cX6_set 110 = .ok (.iaload, 1) := by decide +kernel
theorem dX6_set_111 : decode cX6_set 111 = .ok (.ireturn, 1) := by decide +kernel
set_option maxRecDepth 20000 in
theorem ggX6_copy_X6_isRow : GoodIn wsX6_copy wsX6_isRow := goodIn_r _ [10, 11, 12, 13, 9, 14] rfl (by decide +kernel)
set_option maxRecDepth 20000 in
theorem gX6_copy_X6_isRow : GoodIn wsX6_copy (va_wsS RX6 61 yX6_isRow wsX6_isRow) := goodIn_app (goodIn_of _ (by decide +kernel)) ggX6_copy_X6_isRow
set_option maxRecDepth 20000 in
theorem ggX6_copy_X6_finding : GoodIn wsX6_copy wsX6_finding := goodIn_r _ [18, 3, 19, 20, 21, 22, 23, 24, 25, 26, 27, 28, 29, 30, 31, 32, 33, 34, 35, 36, 37, 38, 39, 40, 41, 42, 43] rfl (by decide +kernel)
set_option maxRecDepth 20000 in
theorem gX6_copy_X6_finding : GoodIn wsX6_copy (wsV RX6 68 RX6 yX6_finding wsX6_finding) := goodIn_app (goodIn_of _ (by decide +kernel)) ggX6_copy_X6_finding
theorem dX6_copy_0 : decode cX6_copy 0 = .ok (.aload_n 0, 1) := by decide +kernel
theorem dX6_copy_1 : decode cX6_copy 1 = .ok (.iconst 0, 1) := by decide +kernel
theorem dX6_copy_2 : decode cX6_copy 2 = .ok (.putfield 47, 3) := by decide +kernel
theorem dX6_copy_5 : decode cX6_copy 5 = .ok (.iload_n 1, 1) := by decide +kernel
theorem dX6_copy_6 : decode cX6_copy 6 = .ok (.invokestatic 61, 3) := by decide +kernel
theorem dX6_copy_9 : decode cX6_copy 9 = .ok (.ifCond .eq 10, 3) := by decide +kernel
theorem dX6_copy_12 : decode cX6_copy 12 = .ok (.iload_n 3, 1) := by decide +kernel
theorem dX6_copy_13 : decode cX6_copy 13 = .ok (.invokestatic 61, 3) := by decide +kernel
theorem dX6_copy_16 : decode cX6_copy 16 = .ok (.ifCond .ne 6, 3) := by decide +kernel
theorem dX6_copy_19 : decode cX6_copy 19 = .ok (.ldc 67, 2) := by decide +kernel
theorem dX6_copy_21 : decode cX6_copy 21 = .ok (.ireturn, 1) := by decide +kernel
theorem dX6_copy_22 : decode cX6_copy 22 = .ok (.aload_n 0, 1) := by decide +kernel
theorem dX6_copy_23 : decode cX6_copy 23 = .ok (.iconst 0, 1) := by decide +kernel
theorem dX6_copy_24 : decode cX6_copy 24 = .ok (.putfield 51, 3) := by decide +kernel
theorem dX6_copy_27 : decode cX6_copy 27 = .ok (.aload_n 0, 1) := by decide +kernel
theorem dX6_copy_28 : decode cX6_copy 28 = .ok (.getfield 7, 3) := by decide +kernel
theorem dX6_copy_31 : decode cX6_copy 31 = .ok (.iload_n 1, 1) := by decide +kernel
theorem dX6_copy_32 : decode cX6_copy 32 = .ok (.iaload, 1) := by decide +kernel
theorem dX6_copy_33 : decode cX6_copy 33 = .ok (.ifCond .lt 12, 3) := by decide +kernel
theorem dX6_copy_36 : decode cX6_copy 36 = .ok (.aload_n 0, 1) := by decide +kernel
theorem dX6_copy_37 : decode cX6_copy 37 = .ok (.getfield 7, 3) := by decide +kernel
theorem dX6_copy_40 : decode cX6_copy 40 = .ok (.iload_n 3, 1) := by decide +kernel
theorem dX6_copy_41 : decode cX6_copy 41 = .ok (.iaload, 1) := by decide +kernel
theorem dX6_copy_42 : decode cX6_copy 42 = .ok (.ifCond .ge 9, 3) := by decide +kernel
theorem dX6_copy_45 : decode cX6_copy 45 = .ok (.aload_n 0, 1) := by decide +kernel
theorem dX6_copy_46 : decode cX6_copy 46 = .ok (.iconst 1, 1) := by decide +kernel
theorem dX6_copy_47 : decode cX6_copy 47 = .ok (.invokevirtual 68, 3) := by decide +kernel
theorem dX6_copy_50 : decode cX6_copy 50 = .ok (.ireturn, 1) := by decide +kernel
theorem dX6_copy_51 : decode cX6_copy 51 = .ok (.aload_n 0, 1) := by decide +kernel
theorem dX6_copy_52 : decode cX6_copy 52 = .ok (.getfield 7, 3) := by decide +kernel
theorem dX6_copy_55 : decode cX6_copy 55 = .ok (.iload_n 1, 1) := by decide +kernel
theorem dX6_copy_56 : decode cX6_copy 56 = .ok (.iaload, 1) := by decide +kernel
theorem dX6_copy_57 : decode cX6_copy 57 = .ok (.aload_n 0, 1) := by decide +kernel
theorem dX6_copy_58 : decode cX6_copy 58 = .ok (.getfield 7, 3) := by decide +kernel
theorem dX6_copy_61 : decode cX6_copy 61 = .ok (.iload_n 3, 1) := by decide +kernel
theorem dX6_copy_62 : decode cX6_copy 62 = .ok (.iaload, 1) := by decide +kernel
theorem dX6_copy_63 : decode cX6_copy 63 = .ok (.if_icmp .eq 9, 3) := by decide +kernel
theorem dX6_copy_66 : decode cX6_copy 66 = .ok (.aload_n 0, 1) := by decide +kernel
theorem dX6_copy_67 : decode cX6_copy 67 = .ok (.iconst 5, 1) := by decide +kernel
theorem dX6_copy_68 : decode cX6_copy 68 = .ok (.invokevirtual 68, 3) := by decide +kernel
theorem dX6_copy_71 : decode cX6_copy 71 = .ok (.ireturn, 1) := by decide +kernel
theorem dX6_copy_72 : decode cX6_copy 72 = .ok (.iload_n 2, 1) := by decide +kernel
theorem dX6_copy_73 : decode cX6_copy 73 = .ok (.ifCond .lt 48, 3) := by decide +kernel
theorem dX6_copy_76 : decode cX6_copy 76 = .ok (.iload 4, 2) := by decide +kernel
theorem dX6_copy_78 : decode cX6_copy 78 = .ok (.ifCond .lt 43, 3) := by decide +kernel
theorem dX6_copy_81 : decode cX6_copy 81 = .ok (.iload 5, 2) := by decide +kernel
theorem dX6_copy_83 : decode cX6_copy 83 = .ok (.ifCond .lt 38, 3) := by decide +kernel
theorem dX6_copy_86 : decode cX6_copy 86 = .ok (.iload_n 2, 1) := by decide +kernel
theorem dX6_copy_87 : decode cX6_copy 87 = .ok (.i2l, 1) := by decide +kernel
theorem dX6_copy_88 : decode cX6_copy 88 = .ok (.iload 5, 2) := by decide +kernel
theorem dX6_copy_90 : decode cX6_copy 90 = .ok (.i2l, 1) := by decide +kernel
theorem dX6_copy_91 : decode cX6_copy 91 = .ok (.ladd, 1) := by decide +kernel
theorem dX6_copy_92 : decode cX6_copy 92 = .ok (.aload_n 0, 1) := by decide +kernel
theorem dX6_copy_93 : decode cX6_copy 93 = .ok (.getfield 13, 3) := by decide +kernel
theorem dX6_copy_96 : decode cX6_copy 96 = .ok (.iload_n 1, 1) := by decide +kernel
theorem dX6_copy_97 : decode cX6_copy 97 = .ok (.iaload, 1) := by decide +kernel
theorem dX6_copy_98 : decode cX6_copy 98 = .ok (.i2l, 1) := by decide +kernel
theorem dX6_copy_99 : decode cX6_copy 99 = .ok (.lcmp, 1) := by decide +kernel
theorem dX6_copy_100 : decode cX6_copy 100 = .ok (.ifCond .gt 21, 3) := by decide +kernel
theorem dX6_copy_103 : decode cX6_copy 103 = .ok (.iload 4, 2) := by decide +kernel
theorem dX6_copy_105 : decode cX6_copy 105 = .ok (.i2l, 1) := by decide +kernel
theorem dX6_copy_106 : decode cX6_copy 106 = .ok (.iload 5, 2) := by decide +kernel
theorem dX6_copy_108 : decode cX6_copy 108 = .ok (.i2l, 1) := by decide +kernel
theorem dX6_copy_109 : decode cX6_copy 109 = .ok (.ladd, 1) := by decide +kernel
theorem dX6_copy_110 : decode cX6_copy 110 = .ok (.aload_n 0, 1) := by decide +kernel
theorem dX6_copy_111 : decode cX6_copy 111 = .ok (.getfield 13, 3) := by decide +kernel
theorem dX6_copy_114 : decode cX6_copy 114 = .ok (.iload_n 3, 1) := by decide +kernel
theorem dX6_copy_115 : decode cX6_copy 115 = .ok (.iaload, 1) := by decide +kernel
theorem dX6_copy_116 : decode cX6_copy 116 = .ok (.i2l, 1) := by decide +kernel
theorem dX6_copy_117 : decode cX6_copy 117 = .ok (.lcmp, 1) := by decide +kernel
theorem dX6_copy_118 : decode cX6_copy 118 = .ok (.ifCond .le 9, 3) := by decide +kernel
theorem dX6_copy_121 : decode cX6_copy 121 = .ok (.aload_n 0, 1) := by decide +kernel
theorem dX6_copy_122 : decode cX6_copy 122 = .ok (.iconst 2, 1) := by decide +kernel
theorem dX6_copy_123 : decode cX6_copy 123 = .ok (.invokevirtual 68, 3) := by decide +kernel
theorem dX6_copy_126 : decode cX6_copy 126 = .ok (.ireturn, 1) := by decide +kernel
theorem dX6_copy_127 : decode cX6_copy 127 = .ok (.iload_n 2, 1) := by decide +kernel
theorem dX6_copy_128 : decode cX6_copy 128 = .ok (.iload 4, 2) := by decide +kernel
theorem dX6_copy_130 : decode cX6_copy 130 = .ok (.if_icmp .lt 7, 3) := by decide +kernel
theorem dX6_copy_133 : decode cX6_copy 133 = .ok (.iconst 1, 1) := by decide +kernel
theorem dX6_copy_134 : decode cX6_copy 134 = .ok (.goto 4, 3) := by decide +kernel
theorem dX6_copy_137 : decode cX6_copy 137 = .ok (.iconst 0, 1) := by decide +kernel
theorem dX6_copy_138 : decode cX6_copy 138 = .ok (.istore 6, 2) := by decide +kernel
theorem dX6_copy_140 : decode cX6_copy 140 = .ok (.iconst 0, 1) := by decide +kernel
theorem dX6_copy_141 : decode cX6_copy 141 = .ok (.istore 7, 2) := by decide +kernel
theorem dX6_copy_143 : decode cX6_copy 143 = .ok (.iload 7, 2) := by decide +kernel
theorem dX6_copy_145 : decode cX6_copy 145 = .ok (.iload 5, 2) := by decide +kernel
theorem dX6_copy_147 : decode cX6_copy 147 = .ok (.if_icmp .ge 57, 3) := by decide +kernel
theorem dX6_copy_150 : decode cX6_copy 150 = .ok (.iload 6, 2) := by decide +kernel
theorem dX6_copy_152 : decode cX6_copy 152 = .ok (.ifCond .eq 8, 3) := by decide +kernel
theorem dX6_copy_155 : decode cX6_copy 155 = .ok (.iload 7, 2) := by decide +kernel
theorem dX6_copy_157 : decode cX6_copy 157 = .ok (.goto 10, 3) := by decide +kernel
theorem dX6_copy_160 : decode cX6_copy 160 = .ok (.iload 5, 2) := by decide +kernel
theorem dX6_copy_162 : decode cX6_copy 162 = .ok (.iconst 1, 1) := by decide +kernel
theorem dX6_copy_163 : decode cX6_copy 163 = .ok (.isub, 1) := by decide +kernel
theorem dX6_copy_164 : decode cX6_copy 164 = .ok (.iload 7, 2) := by decide +kernel
theorem dX6_copy_166 : decode cX6_copy 166 = .ok (.isub, 1) := by decide +kernel
theorem dX6_copy_167 : decode cX6_copy 167 = .ok (.istore 8, 2) := by decide +kernel
theorem dX6_copy_169 : decode cX6_copy 169 = .ok (.aload_n 0, 1) := by decide +kernel
theorem dX6_copy_170 : decode cX6_copy 170 = .ok (.getfield 16, 3) := by decide +kernel
theorem dX6_copy_173 : decode cX6_copy 173 = .ok (.bipush 40, 2) := by decide +kernel
theorem dX6_copy_175 : decode cX6_copy 175 = .ok (.iload_n 3, 1) := by decide +kernel
theorem dX6_copy_176 : decode cX6_copy 176 = .ok (.imul, 1) := by decide +kernel
theorem dX6_copy_177 : decode cX6_copy 177 = .ok (.iload 4, 2) := by decide +kernel
theorem dX6_copy_179 : decode cX6_copy 179 = .ok (.iadd, 1) := by decide +kernel
theorem dX6_copy_180 : decode cX6_copy 180 = .ok (.iload 8, 2) := by decide +kernel
theorem dX6_copy_182 : decode cX6_copy 182 = .ok (.iadd, 1) := by decide +kernel
theorem dX6_copy_183 : decode cX6_copy 183 = .ok (.aload_n 0, 1) := by decide +kernel
theorem dX6_copy_184 : decode cX6_copy 184 = .ok (.getfield 16, 3) := by decide +kernel
theorem dX6_copy_187 : decode cX6_copy 187 = .ok (.bipush 40, 2) := by decide +kernel
theorem dX6_copy_189 : decode cX6_copy 189 = .ok (.iload_n 1, 1) := by decide +kernel
theorem dX6_copy_190 : decode cX6_copy 190 = .ok (.imul, 1) := by decide +kernel
theorem dX6_copy_191 : decode cX6_copy 191 = .ok (.iload_n 2, 1) := by decide +kernel
theorem dX6_copy_192 : decode cX6_copy 192 = .ok (.iadd, 1) := by decide +kernel
theorem dX6_copy_193 : decode cX6_copy 193 = .ok (.iload 8, 2) := by decide +kernel
theorem dX6_copy_195 : decode cX6_copy 195 = .ok (.iadd, 1) := by decide +kernel
theorem dX6_copy_196 : decode cX6_copy 196 = .ok (.iaload, 1) := by decide +kernel
theorem dX6_copy_197 : decode cX6_copy 197 = .ok (.iastore, 1) := by decide +kernel
theorem dX6_copy_198 : decode cX6_copy 198 = .ok (.iinc 7 1, 3) := by decide +kernel
theorem dX6_copy_201 : decode cX6_copy 201 = .ok (.goto (-58), 3) := by decide +kernel
theorem dX6_copy_204 : decode cX6_copy 204 = .ok (.iload 5, 2) := by decide +kernel
theorem dX6_copy_206 : decode cX6_copy 206 = .ok (.ireturn, 1) := by decide +kernel
set_option maxRecDepth 20000 in
theorem ggX6_drop_X6_isRow : GoodIn wsX6_drop wsX6_isRow := goodIn_r _ [9, 10, 11, 12, 8, 13] rfl (by decide +kernel)
set_option maxRecDepth 20000 in
theorem gX6_drop_X6_isRow : GoodIn wsX6_drop (va_wsS RX6 61 yX6_isRow wsX6_isRow) := goodIn_app (goodIn_of _ (by decide +kernel)) ggX6_drop_X6_isRow
set_option maxRecDepth 20000 in
theorem ggX6_drop_X6_finding : GoodIn wsX6_drop wsX6_finding := goodIn_r _ [17, 3, 18, 19, 20, 21, 22, 23, 24, 25, 26, 27, 28, 29, 30, 31, 32, 33, 34, 35, 36, 37, 38, 39, 40, 41, 42] rfl (by decide +kernel)
set_option maxRecDepth 20000 in
theorem gX6_drop_X6_finding : GoodIn wsX6_drop (wsV RX6 68 RX6 yX6_finding wsX6_finding) := goodIn_app (goodIn_of _ (by decide +kernel)) ggX6_drop_X6_finding
theorem dX6_drop_0 : decode cX6_drop 0 = .ok (.aload_n 0, 1) := by decide +kernel
theorem dX6_drop_1 : decode cX6_drop 1 = .ok (.iconst 0, 1) := by decide +kernel
theorem dX6_drop_2 : decode cX6_drop 2 = .ok (.putfield 47, 3) := by decide +kernel
theorem dX6_drop_5 : decode cX6_drop 5 = .ok (.iload_n 1, 1) := by decide +kernel
theorem dX6_drop_6 : decode cX6_drop 6 = .ok (.invokestatic 61, 3) := by decide +kernel
theorem dX6_drop_9 : decode cX6_drop 9 = .ok (.ifCond .ne 6, 3) := by decide +kernel
theorem dX6_drop_12 : decode cX6_drop 12 = .ok (.ldc 67, 2) := by decide +kernel
theorem dX6_drop_14 : decode cX6_drop 14 = .ok (.ireturn, 1) := by decide +kernel
theorem dX6_drop_15 : decode cX6_drop 15 = .ok (.aload_n 0, 1) := by decide +kernel
theorem dX6_drop_16 : decode cX6_drop 16 = .ok (.iconst 0, 1) := by decide +kernel
theorem dX6_drop_17 : decode cX6_drop 17 = .ok (.putfield 51, 3) := by decide +kernel
theorem dX6_drop_20 : decode cX6_drop 20 = .ok (.aload_n 0, 1) := by decide +kernel
theorem dX6_drop_21 : decode cX6_drop 21 = .ok (.getfield 7, 3) := by decide +kernel
theorem dX6_drop_24 : decode cX6_drop 24 = .ok (.iload_n 1, 1) := by decide +kernel
theorem dX6_drop_25 : decode cX6_drop 25 = .ok (.iaload, 1) := by decide +kernel
theorem dX6_drop_26 : decode cX6_drop 26 = .ok (.ifCond .ge 9, 3) := by decide +kernel
theorem dX6_drop_29 : decode cX6_drop 29 = .ok (.aload_n 0, 1) := by decide +kernel
theorem dX6_drop_30 : decode cX6_drop 30 = .ok (.iconst 1, 1) := by decide +kernel
theorem dX6_drop_31 : decode cX6_drop 31 = .ok (.invokevirtual 68, 3) := by decide +kernel
theorem dX6_drop_34 : decode cX6_drop 34 = .ok (.ireturn, 1) := by decide +kernel
theorem dX6_drop_35 : decode cX6_drop 35 = .ok (.aload_n 0, 1) := by decide +kernel
theorem dX6_drop_36 : decode cX6_drop 36 = .ok (.getfield 7, 3) := by decide +kernel
theorem dX6_drop_39 : decode cX6_drop 39 = .ok (.iload_n 1, 1) := by decide +kernel
theorem dX6_drop_40 : decode cX6_drop 40 = .ok (.iconst (-1), 1) := by decide +kernel
theorem dX6_drop_41 : decode cX6_drop 41 = .ok (.iastore, 1) := by decide +kernel
theorem dX6_drop_42 : decode cX6_drop 42 = .ok (.aload_n 0, 1) := by decide +kernel
theorem dX6_drop_43 : decode cX6_drop 43 = .ok (.getfield 13, 3) := by decide +kernel
theorem dX6_drop_46 : decode cX6_drop 46 = .ok (.iload_n 1, 1) := by decide +kernel
theorem dX6_drop_47 : decode cX6_drop 47 = .ok (.iaload, 1) := by decide +kernel
theorem dX6_drop_48 : decode cX6_drop 48 = .ok (.ireturn, 1) := by decide +kernel
set_option maxRecDepth 20000 in
theorem ggX6_feed_X6_in : GoodIn wsX6_feed wsX6_in := goodIn_r _ [10] rfl (by decide +kernel)
set_option maxRecDepth 20000 in
theorem gX6_feed_X6_in : GoodIn wsX6_feed (va_wsS RX6 57 yX6_in wsX6_in) := goodIn_app (goodIn_of _ (by decide +kernel)) ggX6_feed_X6_in
theorem dX6_feed_0 : decode cX6_feed 0 = .ok (.aload_n 0, 1) := by decide +kernel
theorem dX6_feed_1 : decode cX6_feed 1 = .ok (.iconst 0, 1) := by decide +kernel
theorem dX6_feed_2 : decode cX6_feed 2 = .ok (.putfield 47, 3) := by decide +kernel
theorem dX6_feed_5 : decode cX6_feed 5 = .ok (.iload_n 1, 1) := by decide +kernel
theorem dX6_feed_6 : decode cX6_feed 6 = .ok (.i2l, 1) := by decide +kernel
theorem dX6_feed_7 : decode cX6_feed 7 = .ok (.lconst 0, 1) := by decide +kernel
theorem dX6_feed_8 : decode cX6_feed 8 = .ok (.ldc2_w 72, 3) := by decide +kernel
theorem dX6_feed_11 : decode cX6_feed 11 = .ok (.invokestatic 57, 3) := by decide +kernel
theorem dX6_feed_14 : decode cX6_feed 14 = .ok (.ifCond .ne 6, 3) := by decide +kernel
theorem dX6_feed_17 : decode cX6_feed 17 = .ok (.ldc 67, 2) := by decide +kernel
theorem dX6_feed_19 : decode cX6_feed 19 = .ok (.ireturn, 1) := by decide +kernel
theorem dX6_feed_20 : decode cX6_feed 20 = .ok (.aload_n 0, 1) := by decide +kernel
theorem dX6_feed_21 : decode cX6_feed 21 = .ok (.getfield 74, 3) := by decide +kernel
theorem dX6_feed_24 : decode cX6_feed 24 = .ok (.bipush 120, 2) := by decide +kernel
theorem dX6_feed_26 : decode cX6_feed 26 = .ok (.if_icmp .ne 6, 3) := by decide +kernel
theorem dX6_feed_29 : decode cX6_feed 29 = .ok (.ldc 77, 2) := by decide +kernel
theorem dX6_feed_31 : decode cX6_feed 31 = .ok (.ireturn, 1) := by decide +kernel
theorem dX6_feed_32 : decode cX6_feed 32 = .ok (.aload_n 0, 1) := by decide +kernel
theorem dX6_feed_33 : decode cX6_feed 33 = .ok (.getfield 31, 3) := by decide +kernel
theorem dX6_feed_36 : decode cX6_feed 36 = .ok (.aload_n 0, 1) := by decide +kernel
theorem dX6_feed_37 : decode cX6_feed 37 = .ok (.getfield 74, 3) := by decide +kernel
theorem dX6_feed_40 : decode cX6_feed 40 = .ok (.iload_n 1, 1) := by decide +kernel
theorem dX6_feed_41 : decode cX6_feed 41 = .ok (.iastore, 1) := by decide +kernel
theorem dX6_feed_42 : decode cX6_feed 42 = .ok (.aload_n 0, 1) := by decide +kernel
theorem dX6_feed_43 : decode cX6_feed 43 = .ok (.dup, 1) := by decide +kernel
theorem dX6_feed_44 : decode cX6_feed 44 = .ok (.getfield 74, 3) := by decide +kernel
theorem dX6_feed_47 : decode cX6_feed 47 = .ok (.iconst 1, 1) := by decide +kernel
theorem dX6_feed_48 : decode cX6_feed 48 = .ok (.iadd, 1) := by decide +kernel
theorem dX6_feed_49 : decode cX6_feed 49 = .ok (.putfield 74, 3) := by decide +kernel
theorem dX6_feed_52 : decode cX6_feed 52 = .ok (.aload_n 0, 1) := by decide +kernel
theorem dX6_feed_53 : decode cX6_feed 53 = .ok (.getfield 74, 3) := by decide +kernel
theorem dX6_feed_56 : decode cX6_feed 56 = .ok (.ireturn, 1) := by decide +kernel
theorem dX6_bad_0 : decode cX6_bad 0 = .ok (.aload_n 0, 1) := by decide +kernel
theorem dX6_bad_1 : decode cX6_bad 1 = .ok (.getfield 78, 3) := by decide +kernel
theorem dX6_bad_4 : decode cX6_bad 4 = .ok (.ifCond .ne 16, 3) := by decide +kernel
theorem dX6_bad_7 : decode cX6_bad 7 = .ok (.aload_n 0, 1) := by decide +kernel
theorem dX6_bad_8 : decode cX6_bad 8 = .ok (.iload_n 1, 1) := by decide +kernel
theorem dX6_bad_9 : decode cX6_bad 9 = .ok (.putfield 78, 3) := by decide +kernel
theorem dX6_bad_12 : decode cX6_bad 12 = .ok (.aload_n 0, 1) := by decide +kernel
theorem dX6_bad_13 : decode cX6_bad 13 = .ok (.aload_n 0, 1) := by decide +kernel
theorem dX6_bad_14 : decode cX6_bad 14 = .ok (.getfield 81, 3) := by decide +kernel
theorem dX6_bad_17 : decode cX6_bad 17 = .ok (.putfield 84, 3) := by decide +kernel
theorem dX6_bad_20 : decode cX6_bad 20 = .ok (.return_, 1) := by decide +kernel
set_option maxRecDepth 20000 in
theorem ggX6_nextToken_X6_in : GoodIn wsX6_nextToken wsX6_in := goodIn_r _ [15] rfl (by decide +kernel)
set_option maxRecDepth 20000 in
theorem gX6_nextToken_X6_in : GoodIn wsX6_nextToken (va_wsS RX6 57 yX6_in wsX6_in) := goodIn_app (goodIn_of _ (by decide +kernel)) ggX6_nextToken_X6_in
theorem dX6_nextToken_0 : decode cX6_nextToken 0 = .ok (.aload_n 0, 1) := by decide +kernel
theorem dX6_nextToken_1 : decode cX6_nextToken 1 = .ok (.aload_n 0, 1) := by decide +kernel
theorem dX6_nextToken_2 : decode cX6_nextToken 2 = .ok (.getfield 87, 3) := by decide +kernel
theorem dX6_nextToken_5 : decode cX6_nextToken 5 = .ok (.putfield 81, 3) := by decide +kernel
theorem dX6_nextToken_8 : decode cX6_nextToken 8 = .ok (.aload_n 0, 1) := by decide +kernel
theorem dX6_nextToken_9 : decode cX6_nextToken 9 = .ok (.aload_n 0, 1) := by decide +kernel
theorem dX6_nextToken_10 : decode cX6_nextToken 10 = .ok (.getfield 87, 3) := by decide +kernel
theorem dX6_nextToken_13 : decode cX6_nextToken 13 = .ok (.aload_n 0, 1) := by decide +kernel
theorem dX6_nextToken_14 : decode cX6_nextToken 14 = .ok (.getfield 74, 3) := by decide +kernel
theorem dX6_nextToken_17 : decode cX6_nextToken 17 = .ok (.if_icmp .ge 15, 3) := by decide +kernel
theorem dX6_nextToken_20 : decode cX6_nextToken 20 = .ok (.aload_n 0, 1) := by decide +kernel
theorem dX6_nextToken_21 : decode cX6_nextToken 21 = .ok (.getfield 31, 3) := by decide +kernel
theorem dX6_nextToken_24 : decode cX6_nextToken 24 = .ok (.aload_n 0, 1) := by decide +kernel
theorem dX6_nextToken_25 : decode cX6_nextToken 25 = .ok (.getfield 87, 3) := by decide +kernel
theorem dX6_nextToken_28 : decode cX6_nextToken 28 = .ok (.iaload, 1) := by decide +kernel
theorem dX6_nextToken_29 : decode cX6_nextToken 29 = .ok (.goto 5, 3) := by decide +kernel
theorem dX6_nextToken_32 : decode cX6_nextToken 32 = .ok (.ldc 90, 2) := by decide +kernel
theorem dX6_nextToken_34 : decode cX6_nextToken 34 = .ok (.putfield 91, 3) := by decide +kernel
theorem dX6_nextToken_37 : decode cX6_nextToken 37 = .ok (.aload_n 0, 1) := by decide +kernel
theorem dX6_nextToken_38 : decode cX6_nextToken 38 = .ok (.aload_n 0, 1) := by decide +kernel
theorem dX6_nextToken_39 : decode cX6_nextToken 39 = .ok (.getfield 87, 3) := by decide +kernel
theorem dX6_nextToken_42 : decode cX6_nextToken 42 = .ok (.aload_n 0, 1) := by decide +kernel
theorem dX6_nextToken_43 : decode cX6_nextToken 43 = .ok (.getfield 74, 3) := by decide +kernel
theorem dX6_nextToken_46 : decode cX6_nextToken 46 = .ok (.if_icmp .ne 7, 3) := by decide +kernel
theorem dX6_nextToken_49 : decode cX6_nextToken 49 = .ok (.iconst 1, 1) := by decide +kernel
theorem dX6_nextToken_50 : decode cX6_nextToken 50 = .ok (.goto 68, 3) := by decide +kernel
theorem dX6_nextToken_53 : decode cX6_nextToken 53 = .ok (.aload_n 0, 1) := by decide +kernel
theorem dX6_nextToken_54 : decode cX6_nextToken 54 = .ok (.getfield 91, 3) := by decide +kernel
theorem dX6_nextToken_57 : decode cX6_nextToken 57 = .ok (.i2l, 1) := by decide +kernel
theorem dX6_nextToken_58 : decode cX6_nextToken 58 = .ok (.ldc2_w 94, 3) := by decide +kernel
theorem dX6_nextToken_61 : decode cX6_nextToken 61 = .ok (.ldc2_w 96, 3) := by decide +kernel
theorem dX6_nextToken_64 : decode cX6_nextToken 64 = .ok (.invokestatic 57, 3) := by decide +kernel
theorem dX6_nextToken_67 : decode cX6_nextToken 67 = .ok (.ifCond .eq 7, 3) := by decide +kernel
theorem dX6_nextToken_70 : decode cX6_nextToken 70 = .ok (.iconst 2, 1) := by decide +kernel
theorem dX6_nextToken_71 : decode cX6_nextToken 71 = .ok (.goto 47, 3) := by decide +kernel
theorem dX6_nextToken_74 : decode cX6_nextToken 74 = .ok (.aload_n 0, 1) := by decide +kernel
theorem dX6_nextToken_75 : decode cX6_nextToken 75 = .ok (.getfield 91, 3) := by decide +kernel
theorem dX6_nextToken_78 : decode cX6_nextToken 78 = .ok (.i2l, 1) := by decide +kernel
theorem dX6_nextToken_79 : decode cX6_nextToken 79 = .ok (.ldc2_w 98, 3) := by decide +kernel
theorem dX6_nextToken_82 : decode cX6_nextToken 82 = .ok (.ldc2_w 100, 3) := by decide +kernel
theorem dX6_nextToken_85 : decode cX6_nextToken 85 = .ok (.invokestatic 57, 3) := by decide +kernel
theorem dX6_nextToken_88 : decode cX6_nextToken 88 = .ok (.ifCond .eq 7, 3) := by decide +kernel
theorem dX6_nextToken_91 : decode cX6_nextToken 91 = .ok (.iconst 3, 1) := by decide +kernel
theorem dX6_nextToken_92 : decode cX6_nextToken 92 = .ok (.goto 26, 3) := by decide +kernel
theorem dX6_nextToken_95 : decode cX6_nextToken 95 = .ok (.aload_n 0, 1) := by decide +kernel
theorem dX6_nextToken_96 : decode cX6_nextToken 96 = .ok (.getfield 91, 3) := by decide +kernel
theorem dX6_nextToken_99 : decode cX6_nextToken 99 = .ok (.bipush 44, 2) := by decide +kernel
theorem dX6_nextToken_101 : decode cX6_nextToken 101 = .ok (.if_icmp .eq 12, 3) := by decide +kernel
theorem dX6_nextToken_104 : decode cX6_nextToken 104 = .ok (.aload_n 0, 1) := by decide +kernel
theorem dX6_nextToken_105 : decode cX6_nextToken 105 = .ok (.getfield 91, 3) := by decide +kernel
theorem dX6_nextToken_108 : decode cX6_nextToken 108 = .ok (.bipush 59, 2) := by decide +kernel
theorem dX6_nextToken_110 : decode cX6_nextToken 110 = .ok (.if_icmp .ne 7, 3) := by decide +kernel
theorem dX6_nextToken_113 : decode cX6_nextToken 113 = .ok (.iconst 4, 1) := by decide +kernel
theorem dX6_nextToken_114 : decode cX6_nextToken 114 = .ok (.goto 4, 3) := by decide +kernel
theorem dX6_nextToken_117 : decode cX6_nextToken 117 = .ok (.iconst 0, 1) := by decide +kernel
theorem dX6_nextToken_118 : decode cX6_nextToken 118 = .ok (.putfield 102, 3) := by decide +kernel
theorem dX6_nextToken_121 : decode cX6_nextToken 121 = .ok (.aload_n 0, 1) := by decide +kernel
theorem dX6_nextToken_122 : decode cX6_nextToken 122 = .ok (.dup, 1) := by decide +kernel
theorem dX6_nextToken_123 : decode cX6_nextToken 123 = .ok (.getfield 87, 3) := by decide +kernel
theorem dX6_nextToken_126 : decode cX6_nextToken 126 = .ok (.aload_n 0, 1) := by decide +kernel
theorem dX6_nextToken_127 : decode cX6_nextToken 127 = .ok (.getfield 87, 3) := by decide +kernel
theorem dX6_nextToken_130 : decode cX6_nextToken 130 = .ok (.aload_n 0, 1) := by decide +kernel
theorem dX6_nextToken_131 : decode cX6_nextToken 131 = .ok (.getfield 74, 3) := by decide +kernel
theorem dX6_nextToken_134 : decode cX6_nextToken 134 = .ok (.if_icmp .ge 7, 3) := by decide +kernel
theorem dX6_nextToken_137 : decode cX6_nextToken 137 = .ok (.iconst 1, 1) := by decide +kernel
theorem dX6_nextToken_138 : decode cX6_nextToken 138 = .ok (.goto 4, 3) := by decide +kernel
theorem dX6_nextToken_141 : decode cX6_nextToken 141 = .ok (.iconst 0, 1) := by decide +kernel
theorem dX6_nextToken_142 : decode cX6_nextToken 142 = .ok (.iadd, 1) := by decide +kernel
theorem dX6_nextToken_143 : decode cX6_nextToken 143 = .ok (.putfield 87, 3) := by decide +kernel
theorem dX6_nextToken_146 : decode cX6_nextToken 146 = .ok (.aload_n 0, 1) := by decide +kernel
theorem dX6_nextToken_147 : decode cX6_nextToken 147 = .ok (.getfield 102, 3) := by decide +kernel
theorem dX6_nextToken_150 : decode cX6_nextToken 150 = .ok (.iconst 3, 1) := by decide +kernel
theorem dX6_nextToken_151 : decode cX6_nextToken 151 = .ok (.if_icmp .ne 126, 3) := by decide +kernel
theorem dX6_nextToken_154 : decode cX6_nextToken 154 = .ok (.aload_n 0, 1) := by decide +kernel
theorem dX6_nextToken_155 : decode cX6_nextToken 155 = .ok (.dup, 1) := by decide +kernel
theorem dX6_nextToken_156 : decode cX6_nextToken 156 = .ok (.getfield 91, 3) := by decide +kernel
theorem dX6_nextToken_159 : decode cX6_nextToken 159 = .ok (.bipush 48, 2) := by decide +kernel
theorem dX6_nextToken_161 : decode cX6_nextToken 161 = .ok (.isub, 1) := by decide +kernel
theorem dX6_nextToken_162 : decode cX6_nextToken 162 = .ok (.putfield 91, 3) := by decide +kernel
theorem dX6_nextToken_165 : decode cX6_nextToken 165 = .ok (.aload_n 0, 1) := by decide +kernel
theorem dX6_nextToken_166 : decode cX6_nextToken 166 = .ok (.getfield 87, 3) := by decide +kernel
theorem dX6_nextToken_169 : decode cX6_nextToken 169 = .ok (.aload_n 0, 1) := by decide +kernel
theorem dX6_nextToken_170 : decode cX6_nextToken 170 = .ok (.getfield 74, 3) := by decide +kernel
theorem dX6_nextToken_173 : decode cX6_nextToken 173 = .ok (.if_icmp .ge 82, 3) := by decide +kernel
theorem dX6_nextToken_176 : decode cX6_nextToken 176 = .ok (.aload_n 0, 1) := by decide +kernel
theorem dX6_nextToken_177 : decode cX6_nextToken 177 = .ok (.getfield 31, 3) := by decide +kernel
theorem dX6_nextToken_180 : decode cX6_nextToken 180 = .ok (.aload_n 0, 1) := by decide +kernel
theorem dX6_nextToken_181 : decode cX6_nextToken 181 = .ok (.getfield 87, 3) := by decide +kernel
theorem dX6_nextToken_184 : decode cX6_nextToken 184 = .ok (.iaload, 1) := by decide +kernel
theorem dX6_nextToken_185 : decode cX6_nextToken 185 = .ok (.i2l, 1) := by decide +kernel
theorem dX6_nextToken_186 : decode cX6_nextToken 186 = .ok (.ldc2_w 98, 3) := by decide +kernel
theorem dX6_nextToken_189 : decode cX6_nextToken 189 = .ok (.ldc2_w 100, 3) := by decide +kernel
theorem dX6_nextToken_192 : decode cX6_nextToken 192 = .ok (.invokestatic 57, 3) := by decide +kernel
theorem dX6_nextToken_195 : decode cX6_nextToken 195 = .ok (.ifCond .eq 60, 3) := by decide +kernel
theorem dX6_nextToken_198 : decode cX6_nextToken 198 = .ok (.aload_n 0, 1) := by decide +kernel
theorem dX6_nextToken_199 : decode cX6_nextToken 199 = .ok (.aload_n 0, 1) := by decide +kernel
theorem dX6_nextToken_200 : decode cX6_nextToken 200 = .ok (.getfield 87, 3) := by decide +kernel
theorem dX6_nextToken_203 : decode cX6_nextToken 203 = .ok (.aload_n 0, 1) := by decide +kernel
theorem dX6_nextToken_204 : decode cX6_nextToken 204 = .ok (.getfield 81, 3) := by decide +kernel
theorem dX6_nextToken_207 : decode cX6_nextToken 207 = .ok (.isub, 1) := by decide +kernel
theorem dX6_nextToken_208 : decode cX6_nextToken 208 = .ok (.iconst 2, 1) := by decide +kernel
theorem dX6_nextToken_209 : decode cX6_nextToken 209 = .ok (.if_icmp .ge 26, 3) := by decide +kernel
theorem dX6_nextToken_212 : decode cX6_nextToken 212 = .ok (.bipush 10, 2) := by decide +kernel
theorem dX6_nextToken_214 : decode cX6_nextToken 214 = .ok (.aload_n 0, 1) := by decide +kernel
theorem dX6_nextToken_215 : decode cX6_nextToken 215 = .ok (.getfield 91, 3) := by decide +kernel
theorem dX6_nextToken_218 : decode cX6_nextToken 218 = .ok (.imul, 1) := by decide +kernel
theorem dX6_nextToken_219 : decode cX6_nextToken 219 = .ok (.aload_n 0, 1) := by decide +kernel
theorem dX6_nextToken_220 : decode cX6_nextToken 220 = .ok (.getfield 31, 3) := by decide +kernel
theorem dX6_nextToken_223 : decode cX6_nextToken 223 = .ok (.aload_n 0, 1) := by decide +kernel
theorem dX6_nextToken_224 : decode cX6_nextToken 224 = .ok (.getfield 87, 3) := by decide +kernel
theorem dX6_nextToken_227 : decode cX6_nextToken 227 = .ok (.iaload, 1) := by decide +kernel
theorem dX6_nextToken_228 : decode cX6_nextToken 228 = .ok (.iadd, 1) := by decide +kernel
theorem dX6_nextToken_229 : decode cX6_nextToken 229 = .ok (.bipush 48, 2) := by decide +kernel
theorem dX6_nextToken_231 : decode cX6_nextToken 231 = .ok (.isub, 1) := by decide +kernel
theorem dX6_nextToken_232 : decode cX6_nextToken 232 = .ok (.goto 7, 3) := by decide +kernel
theorem dX6_nextToken_235 : decode cX6_nextToken 235 = .ok (.aload_n 0, 1) := by decide +kernel
theorem dX6_nextToken_236 : decode cX6_nextToken 236 = .ok (.getfield 91, 3) := by decide +kernel
theorem dX6_nextToken_239 : decode cX6_nextToken 239 = .ok (.putfield 91, 3) := by decide +kernel
theorem dX6_nextToken_242 : decode cX6_nextToken 242 = .ok (.aload_n 0, 1) := by decide +kernel
theorem dX6_nextToken_243 : decode cX6_nextToken 243 = .ok (.dup, 1) := by decide +kernel
theorem dX6_nextToken_244 : decode cX6_nextToken 244 = .ok (.getfield 87, 3) := by decide +kernel
theorem dX6_nextToken_247 : decode cX6_nextToken 247 = .ok (.iconst 1, 1) := by decide +kernel
theorem dX6_nextToken_248 : decode cX6_nextToken 248 = .ok (.iadd, 1) := by decide +kernel
theorem dX6_nextToken_249 : decode cX6_nextToken 249 = .ok (.putfield 87, 3) := by decide +kernel
theorem dX6_nextToken_252 : decode cX6_nextToken 252 = .ok (.goto (-87), 3) := by decide +kernel
theorem dX6_nextToken_255 : decode cX6_nextToken 255 = .ok (.aload_n 0, 1) := by decide +kernel
theorem dX6_nextToken_256 : decode cX6_nextToken 256 = .ok (.aload_n 0, 1) := by decide +kernel
theorem dX6_nextToken_257 : decode cX6_nextToken 257 = .ok (.getfield 87, 3) := by decide +kernel
theorem dX6_nextToken_260 : decode cX6_nextToken 260 = .ok (.aload_n 0, 1) := by decide +kernel
theorem dX6_nextToken_261 : decode cX6_nextToken 261 = .ok (.getfield 81, 3) := by decide +kernel
theorem dX6_nextToken_264 : decode cX6_nextToken 264 = .ok (.isub, 1) := by decide +kernel
theorem dX6_nextToken_265 : decode cX6_nextToken 265 = .ok (.iconst 2, 1) := by decide +kernel
theorem dX6_nextToken_266 : decode cX6_nextToken 266 = .ok (.if_icmp .le 7, 3) := by decide +kernel
theorem dX6_nextToken_269 : decode cX6_nextToken 269 = .ok (.iconst 0, 1) := by decide +kernel
theorem dX6_nextToken_270 : decode cX6_nextToken 270 = .ok (.goto 4, 3) := by decide +kernel
theorem dX6_nextToken_273 : decode cX6_nextToken 273 = .ok (.iconst 3, 1) := by decide +kernel
theorem dX6_nextToken_274 : decode cX6_nextToken 274 = .ok (.putfield 102, 3) := by decide +kernel
theorem dX6_nextToken_277 : decode cX6_nextToken 277 = .ok (.return_, 1) := by decide +kernel
set_option maxRecDepth 20000 in
theorem ggX6_must_X6_bad : GoodIn wsX6_must wsX6_bad := goodIn_r _ [6, 1, 7, 8, 26, 27, 28, 29, 30, 31, 32, 33, 34, 35, 36, 37, 38, 39, 40, 41, 42, 43, 44, 45, 46, 47, 48, 49] rfl (by decide +kernel)
set_option maxRecDepth 20000 in
theorem gX6_must_X6_bad : GoodIn wsX6_must (wsV RX6 105 RX6 yX6_bad wsX6_bad) := goodIn_app (goodIn_of _ (by decide +kernel)) ggX6_must_X6_bad
set_option maxRecDepth 20000 in
theorem ggX6_must_X6_nextToken : GoodIn wsX6_must wsX6_nextToken := goodIn_r _ [12, 13, 7, 14, 15, 16, 17, 18, 19, 20, 21, 22, 23, 24, 5, 25, 26, 27, 28, 29, 30, 31, 32, 33, 34, 35, 36, 37, 38, 39, 40, 41, 42, 43, 44, 45, 46, 47, 48, 49] rfl (by decide +kernel)
set_option maxRecDepth 20000 in
theorem gX6_must_X6_nextToken : GoodIn wsX6_must (wsV RX6 109 RX6 yX6_nextToken wsX6_nextToken) := goodIn_app (goodIn_of _ (by decide +kernel)) ggX6_must_X6_nextToken
theorem dX6_must_0 : decode cX6_must 0 = .ok (.iload_n 1, 1) := by decide +kernel
theorem dX6_must_1 : decode cX6_must 1 = .ok (.ifCond .ne 8, 3) := by decide +kernel
theorem dX6_must_4 : decode cX6_must 4 = .ok (.aload_n 0, 1) := by decide +kernel
theorem dX6_must_5 : decode cX6_must 5 = .ok (.iconst 1, 1) := by decide +kernel
theorem dX6_must_6 : decode cX6_must 6 = .ok (.invokevirtual 105, 3) := by decide +kernel
theorem dX6_must_9 : decode cX6_must 9 = .ok (.aload_n 0, 1) := by decide +kernel
theorem dX6_must_10 : decode cX6_must 10 = .ok (.getfield 78, 3) := by decide +kernel
theorem dX6_must_13 : decode cX6_must 13 = .ok (.ifCond .ne 7, 3) := by decide +kernel
theorem dX6_must_16 : decode cX6_must 16 = .ok (.aload_n 0, 1) := by decide +kernel
theorem dX6_must_17 : decode cX6_must 17 = .ok (.invokevirtual 109, 3) := by decide +kernel
theorem dX6_must_20 : decode cX6_must 20 = .ok (.return_, 1) := by decide +kernel
theorem dX6_isLetter_0 : decode cX6_isLetter 0 = .ok (.aload_n 0, 1) := by decide +kernel
theorem dX6_isLetter_1 : decode cX6_isLetter 1 = .ok (.getfield 78, 3) := by decide +kernel
theorem dX6_isLetter_4 : decode cX6_isLetter 4 = .ok (.ifCond .ne 23, 3) := by decide +kernel
theorem dX6_isLetter_7 : decode cX6_isLetter 7 = .ok (.aload_n 0, 1) := by decide +kernel
theorem dX6_isLetter_8 : decode cX6_isLetter 8 = .ok (.getfield 102, 3) := by decide +kernel
theorem dX6_isLetter_11 : decode cX6_isLetter 11 = .ok (.iconst 2, 1) := by decide +kernel
theorem dX6_isLetter_12 : decode cX6_isLetter 12 = .ok (.if_icmp .ne 15, 3) := by decide +kernel
theorem dX6_isLetter_15 : decode cX6_isLetter 15 = .ok (.aload_n 0, 1) := by decide +kernel
theorem dX6_isLetter_16 : decode cX6_isLetter 16 = .ok (.getfield 91, 3) := by decide +kernel
theorem dX6_isLetter_19 : decode cX6_isLetter 19 = .ok (.iload_n 1, 1) := by decide +kernel
theorem dX6_isLetter_20 : decode cX6_isLetter 20 = .ok (.if_icmp .ne 7, 3) := by decide +kernel
theorem dX6_isLetter_23 : decode cX6_isLetter 23 = .ok (.iconst 1, 1) := by decide +kernel
theorem dX6_isLetter_24 : decode cX6_isLetter 24 = .ok (.goto 4, 3) := by decide +kernel
theorem dX6_isLetter_27 : decode cX6_isLetter 27 = .ok (.iconst 0, 1) := by decide +kernel
theorem dX6_isLetter_28 : decode cX6_isLetter 28 = .ok (.ireturn, 1) := by decide +kernel
set_option maxRecDepth 20000 in
theorem ggX6_number_X6_bad : GoodIn wsX6_number wsX6_bad := goodIn_r _ [8, 1, 9, 10, 30, 31, 32, 33, 34, 35, 36, 37, 38, 39, 40, 41, 42, 43, 44, 45, 46, 47, 48, 49, 50, 51, 52, 53] rfl (by decide +kernel)
set_option maxRecDepth 20000 in
theorem gX6_number_X6_bad : GoodIn wsX6_number (wsV RX6 105 RX6 yX6_bad wsX6_bad) := goodIn_app (goodIn_of _ (by decide +kernel)) ggX6_number_X6_bad
set_option maxRecDepth 20000 in
theorem ggX6_number_X6_in : GoodIn wsX6_number wsX6_in := goodIn_r _ [13] rfl (by decide +kernel)
set_option maxRecDepth 20000 in
theorem gX6_number_X6_in : GoodIn wsX6_number (va_wsS RX6 57 yX6_in wsX6_in) := goodIn_app (goodIn_of _ (by decide +kernel)) ggX6_number_X6_in
set_option maxRecDepth 20000 in
theorem ggX6_number_X6_must : GoodIn wsX6_number wsX6_must := goodIn_r _ [17, 1, 4, 5, 6, 7, 8, 9, 10, 18, 19, 20, 21, 22, 23, 24, 25, 3, 26, 27, 28, 29, 2, 11, 12, 13, 30, 31, 32, 33, 34, 35, 36, 37, 38, 39, 40, 41, 42, 43, 44, 45, 46, 47, 48, 49, 50, 51, 52, 53] rfl (by decide +kernel)
set_option maxRecDepth 20000 in
theorem gX6_number_X6_must : GoodIn wsX6_number (wsV RX6 112 RX6 yX6_must wsX6_must) := goodIn_app (goodIn_of _ (by decide +kernel)) ggX6_number_X6_must
theorem dX6_number_0 : decode cX6_number 0 = .ok (.aload_n 0, 1) := by decide +kernel
theorem dX6_number_1 : decode cX6_number 1 = .ok (.getfield 78, 3) := by decide +kernel
theorem dX6_number_4 : decode cX6_number 4 = .ok (.ifCond .ne 16, 3) := by decide +kernel
theorem dX6_number_7 : decode cX6_number 7 = .ok (.aload_n 0, 1) := by decide +kernel
theorem dX6_number_8 : decode cX6_number 8 = .ok (.getfield 102, 3) := by decide +kernel
theorem dX6_number_11 : decode cX6_number 11 = .ok (.iconst 3, 1) := by decide +kernel
theorem dX6_number_12 : decode cX6_number 12 = .ok (.if_icmp .eq 8, 3) := by decide +kernel
theorem dX6_number_15 : decode cX6_number 15 = .ok (.aload_n 0, 1) := by decide +kernel
theorem dX6_number_16 : decode cX6_number 16 = .ok (.iconst 1, 1) := by decide +kernel
theorem dX6_number_17 : decode cX6_number 17 = .ok (.invokevirtual 105, 3) := by decide +kernel
theorem dX6_number_20 : decode cX6_number 20 = .ok (.aload_n 0, 1) := by decide +kernel
theorem dX6_number_21 : decode cX6_number 21 = .ok (.getfield 78, 3) := by decide +kernel
theorem dX6_number_24 : decode cX6_number 24 = .ok (.ifCond .ne 23, 3) := by decide +kernel
theorem dX6_number_27 : decode cX6_number 27 = .ok (.aload_n 0, 1) := by decide +kernel
theorem dX6_number_28 : decode cX6_number 28 = .ok (.getfield 91, 3) := by decide +kernel
theorem dX6_number_31 : decode cX6_number 31 = .ok (.i2l, 1) := by decide +kernel
theorem dX6_number_32 : decode cX6_number 32 = .ok (.iload_n 1, 1) := by decide +kernel
theorem dX6_number_33 : decode cX6_number 33 = .ok (.i2l, 1) := by decide +kernel
theorem dX6_number_34 : decode cX6_number 34 = .ok (.iload_n 2, 1) := by decide +kernel
theorem dX6_number_35 : decode cX6_number 35 = .ok (.i2l, 1) := by decide +kernel
theorem dX6_number_36 : decode cX6_number 36 = .ok (.invokestatic 57, 3) := by decide +kernel
theorem dX6_number_39 : decode cX6_number 39 = .ok (.ifCond .ne 8, 3) := by decide +kernel
theorem dX6_number_42 : decode cX6_number 42 = .ok (.aload_n 0, 1) := by decide +kernel
theorem dX6_number_43 : decode cX6_number 43 = .ok (.iconst 2, 1) := by decide +kernel
theorem dX6_number_44 : decode cX6_number 44 = .ok (.invokevirtual 105, 3) := by decide +kernel
theorem dX6_number_47 : decode cX6_number 47 = .ok (.aload_n 0, 1) := by decide +kernel
theorem dX6_number_48 : decode cX6_number 48 = .ok (.getfield 78, 3) := by decide +kernel
theorem dX6_number_51 : decode cX6_number 51 = .ok (.ifCond .ne 10, 3) := by decide +kernel
theorem dX6_number_54 : decode cX6_number 54 = .ok (.aload_n 0, 1) := by decide +kernel
theorem dX6_number_55 : decode cX6_number 55 = .ok (.getfield 91, 3) := by decide +kernel
theorem dX6_number_58 : decode cX6_number 58 = .ok (.goto 4, 3) := by decide +kernel
theorem dX6_number_61 : decode cX6_number 61 = .ok (.iload_n 1, 1) := by decide +kernel
theorem dX6_number_62 : decode cX6_number 62 = .ok (.istore_n 3, 1) := by decide +kernel
theorem dX6_number_63 : decode cX6_number 63 = .ok (.aload_n 0, 1) := by decide +kernel
theorem dX6_number_64 : decode cX6_number 64 = .ok (.iconst 1, 1) := by decide +kernel
theorem dX6_number_65 : decode cX6_number 65 = .ok (.invokevirtual 112, 3) := by decide +kernel
theorem dX6_number_68 : decode cX6_number 68 = .ok (.iload_n 3, 1) := by decide +kernel
theorem dX6_number_69 : decode cX6_number 69 = .ok (.ireturn, 1) := by decide +kernel
set_option maxRecDepth 20000 in
theorem ggX6_mustSign_X6_must : GoodIn wsX6_mustSign wsX6_must := goodIn_r _ [7, 8, 9, 10, 11, 6, 12, 13, 14, 15, 16, 17, 18, 19, 20, 21, 22, 2, 23, 24, 25, 26, 1, 27, 28, 29, 30, 31, 32, 33, 34, 35, 36, 37, 38, 39, 40, 41, 42, 43, 44, 45, 46, 47, 48, 49, 50, 51, 52, 53] rfl (by decide +kernel)
set_option maxRecDepth 20000 in
theorem gX6_mustSign_X6_must : GoodIn wsX6_mustSign (wsV RX6 112 RX6 yX6_must wsX6_must) := goodIn_app (goodIn_of _ (by decide +kernel)) ggX6_mustSign_X6_must
theorem dX6_mustSign_0 : decode cX6_mustSign 0 = .ok (.aload_n 0, 1) := by decide +kernel
theorem dX6_mustSign_1 : decode cX6_mustSign 1 = .ok (.aload_n 0, 1) := by decide +kernel
theorem dX6_mustSign_2 : decode cX6_mustSign 2 = .ok (.getfield 102, 3) := by decide +kernel
theorem dX6_mustSign_5 : decode cX6_mustSign 5 = .ok (.iconst 4, 1) := by decide +kernel
theorem dX6_mustSign_6 : decode cX6_mustSign 6 = .ok (.if_icmp .ne 15, 3) := by decide +kernel
theorem dX6_mustSign_9 : decode cX6_mustSign 9 = .ok (.aload_n 0, 1) := by decide +kernel
theorem dX6_mustSign_10 : decode cX6_mustSign 10 = .ok (.getfield 91, 3) := by decide +kernel
theorem dX6_mustSign_13 : decode cX6_mustSign 13 = .ok (.iload_n 1, 1) := by decide +kernel
theorem dX6_mustSign_14 : decode cX6_mustSign 14 = .ok (.if_icmp .ne 7, 3) := by decide +kernel
theorem dX6_mustSign_17 : decode cX6_mustSign 17 = .ok (.iconst 1, 1) := by decide +kernel
theorem dX6_mustSign_18 : decode cX6_mustSign 18 = .ok (.goto 4, 3) := by decide +kernel
theorem dX6_mustSign_21 : decode cX6_mustSign 21 = .ok (.iconst 0, 1) := by decide +kernel
theorem dX6_mustSign_22 : decode cX6_mustSign 22 = .ok (.invokevirtual 112, 3) := by decide +kernel
theorem dX6_mustSign_25 : decode cX6_mustSign 25 = .ok (.return_, 1) := by decide +kernel
set_option maxRecDepth 20000 in
theorem ggX6_begin_X6_nextToken : GoodIn wsX6_begin wsX6_nextToken := goodIn_r _ [7, 1, 8, 9, 10, 11, 12, 13, 14, 15, 16, 17, 18, 19, 6, 20, 21, 22, 23, 24, 25, 26, 27, 28, 29, 30, 31, 32, 33, 34, 35, 36, 37, 38, 39, 40, 41, 42, 43, 44] rfl (by decide +kernel)
set_option maxRecDepth 20000 in
theorem gX6_begin_X6_nextToken : GoodIn wsX6_begin (wsV RX6 109 RX6 yX6_nextToken wsX6_nextToken) := goodIn_app (goodIn_of _ (by decide +kernel)) ggX6_begin_X6_nextToken
theorem dX6_begin_0 : decode cX6_begin 0 = .ok (.aload_n 0, 1) := by decide +kernel
theorem dX6_begin_1 : decode cX6_begin 1 = .ok (.iconst 0, 1) := by decide +kernel
theorem dX6_begin_2 : decode cX6_begin 2 = .ok (.putfield 87, 3) := by decide +kernel
theorem dX6_begin_5 : decode cX6_begin 5 = .ok (.aload_n 0, 1) := by decide +kernel
theorem dX6_begin_6 : decode cX6_begin 6 = .ok (.iconst 0, 1) := by decide +kernel
theorem dX6_begin_7 : decode cX6_begin 7 = .ok (.putfield 78, 3) := by decide +kernel
theorem dX6_begin_10 : decode cX6_begin 10 = .ok (.aload_n 0, 1) := by decide +kernel
theorem dX6_begin_11 : decode cX6_begin 11 = .ok (.invokevirtual 109, 3) := by decide +kernel
theorem dX6_begin_14 : decode cX6_begin 14 = .ok (.return_, 1) := by decide +kernel
set_option maxRecDepth 20000 in
theorem ggX6_failed_X6_bad : GoodIn wsX6_failed wsX6_bad := goodIn_r _ [9, 1, 10, 11, 12, 13, 14, 15, 16, 17, 18, 19, 20, 21, 22, 23, 24, 25, 26, 27, 28, 29, 30, 31, 32, 33, 34, 35] rfl (by decide +kernel)
set_option maxRecDepth 20000 in
theorem gX6_failed_X6_bad : GoodIn wsX6_failed (wsV RX6 105 RX6 yX6_bad wsX6_bad) := goodIn_app (goodIn_of _ (by decide +kernel)) ggX6_failed_X6_bad
theorem dX6_failed_0 : decode cX6_failed 0 = .ok (.aload_n 0, 1) := by decide +kernel
theorem dX6_failed_1 : decode cX6_failed 1 = .ok (.getfield 78, 3) := by decide +kernel
theorem dX6_failed_4 : decode cX6_failed 4 = .ok (.ifCond .ne 16, 3) := by decide +kernel
theorem dX6_failed_7 : decode cX6_failed 7 = .ok (.aload_n 0, 1) := by decide +kernel
theorem dX6_failed_8 : decode cX6_failed 8 = .ok (.getfield 102, 3) := by decide +kernel
theorem dX6_failed_11 : decode cX6_failed 11 = .ok (.iconst 1, 1) := by decide +kernel
theorem dX6_failed_12 : decode cX6_failed 12 = .ok (.if_icmp .eq 8, 3) := by decide +kernel
theorem dX6_failed_15 : decode cX6_failed 15 = .ok (.aload_n 0, 1) := by decide +kernel
theorem dX6_failed_16 : decode cX6_failed 16 = .ok (.iconst 1, 1) := by decide +kernel
theorem dX6_failed_17 : decode cX6_failed 17 = .ok (.invokevirtual 105, 3) := by decide +kernel
theorem dX6_failed_20 : decode cX6_failed 20 = .ok (.aload_n 0, 1) := by decide +kernel
theorem dX6_failed_21 : decode cX6_failed 21 = .ok (.iconst 0, 1) := by decide +kernel
theorem dX6_failed_22 : decode cX6_failed 22 = .ok (.putfield 74, 3) := by decide +kernel
theorem dX6_failed_25 : decode cX6_failed 25 = .ok (.aload_n 0, 1) := by decide +kernel
theorem dX6_failed_26 : decode cX6_failed 26 = .ok (.aload_n 0, 1) := by decide +kernel
theorem dX6_failed_27 : decode cX6_failed 27 = .ok (.getfield 78, 3) := by decide +kernel
theorem dX6_failed_30 : decode cX6_failed 30 = .ok (.ifCond .le 10, 3) := by decide +kernel
theorem dX6_failed_33 : decode cX6_failed 33 = .ok (.aload_n 0, 1) := by decide +kernel
theorem dX6_failed_34 : decode cX6_failed 34 = .ok (.getfield 78, 3) := by decide +kernel
theorem dX6_failed_37 : decode cX6_failed 37 = .ok (.goto 7, 3) := by decide +kernel
theorem dX6_failed_40 : decode cX6_failed 40 = .ok (.aload_n 0, 1) := by decide +kernel
theorem dX6_failed_41 : decode cX6_failed 41 = .ok (.getfield 116, 3) := by decide +kernel
theorem dX6_failed_44 : decode cX6_failed 44 = .ok (.putfield 116, 3) := by decide +kernel
theorem dX6_failed_47 : decode cX6_failed 47 = .ok (.aload_n 0, 1) := by decide +kernel
theorem dX6_failed_48 : decode cX6_failed 48 = .ok (.getfield 78, 3) := by decide +kernel
theorem dX6_failed_51 : decode cX6_failed 51 = .ok (.ifCond .le 7, 3) := by decide +kernel
theorem dX6_failed_54 : decode cX6_failed 54 = .ok (.iconst 1, 1) := by decide +kernel
theorem dX6_failed_55 : decode cX6_failed 55 = .ok (.goto 4, 3) := by decide +kernel
theorem dX6_failed_58 : decode cX6_failed 58 = .ok (.iconst 0, 1) := by decide +kernel
theorem dX6_failed_59 : decode cX6_failed 59 = .ok (.ireturn, 1) := by decide +kernel
theorem dX6_fault_0 : decode cX6_fault 0 = .ok (.aload_n 0, 1) := by decide +kernel
theorem dX6_fault_1 : decode cX6_fault 1 = .ok (.iconst 0, 1) := by decide +kernel
theorem dX6_fault_2 : decode cX6_fault 2 = .ok (.putfield 47, 3) := by decide +kernel
theorem dX6_fault_5 : decode cX6_fault 5 = .ok (.aload_n 0, 1) := by decide +kernel
theorem dX6_fault_6 : decode cX6_fault 6 = .ok (.getfield 116, 3) := by decide +kernel
theorem dX6_fault_9 : decode cX6_fault 9 = .ok (.ireturn, 1) := by decide +kernel
theorem dX6_kindBy_0 : decode cX6_kindBy 0 = .ok (.iload_n 0, 1) := by decide +kernel
theorem dX6_kindBy_1 : decode cX6_kindBy 1 = .ok (.bipush 112, 2) := by decide +kernel
theorem dX6_kindBy_3 : decode cX6_kindBy 3 = .ok (.if_icmp .ne 7, 3) := by decide +kernel
theorem dX6_kindBy_6 : decode cX6_kindBy 6 = .ok (.iconst 1, 1) := by decide +kernel
theorem dX6_kindBy_7 : decode cX6_kindBy 7 = .ok (.goto 45, 3) := by decide +kernel
theorem dX6_kindBy_10 : decode cX6_kindBy 10 = .ok (.iload_n 0, 1) := by decide +kernel
theorem dX6_kindBy_11 : decode cX6_kindBy 11 = .ok (.bipush 103, 2) := by decide +kernel
theorem dX6_kindBy_13 : decode cX6_kindBy 13 = .ok (.if_icmp .ne 7, 3) := by decide +kernel
theorem dX6_kindBy_16 : decode cX6_kindBy 16 = .ok (.iconst 2, 1) := by decide +kernel
theorem dX6_kindBy_17 : decode cX6_kindBy 17 = .ok (.goto 35, 3) := by decide +kernel
theorem dX6_kindBy_20 : decode cX6_kindBy 20 = .ok (.iload_n 0, 1) := by decide +kernel
theorem dX6_kindBy_21 : decode cX6_kindBy 21 = .ok (.bipush 115, 2) := by decide +kernel
theorem dX6_kindBy_23 : decode cX6_kindBy 23 = .ok (.if_icmp .ne 7, 3) := by decide +kernel
theorem dX6_kindBy_26 : decode cX6_kindBy 26 = .ok (.iconst 3, 1) := by decide +kernel
theorem dX6_kindBy_27 : decode cX6_kindBy 27 = .ok (.goto 25, 3) := by decide +kernel
theorem dX6_kindBy_30 : decode cX6_kindBy 30 = .ok (.iload_n 0, 1) := by decide +kernel
theorem dX6_kindBy_31 : decode cX6_kindBy 31 = .ok (.bipush 119, 2) := by decide +kernel
theorem dX6_kindBy_33 : decode cX6_kindBy 33 = .ok (.if_icmp .ne 7, 3) := by decide +kernel
theorem dX6_kindBy_36 : decode cX6_kindBy 36 = .ok (.iconst 4, 1) := by decide +kernel
theorem dX6_kindBy_37 : decode cX6_kindBy 37 = .ok (.goto 15, 3) := by decide +kernel
theorem dX6_kindBy_40 : decode cX6_kindBy 40 = .ok (.iload_n 0, 1) := by decide +kernel
theorem dX6_kindBy_41 : decode cX6_kindBy 41 = .ok (.bipush 108, 2) := by decide +kernel
theorem dX6_kindBy_43 : decode cX6_kindBy 43 = .ok (.if_icmp .ne 7, 3) := by decide +kernel
theorem dX6_kindBy_46 : decode cX6_kindBy 46 = .ok (.iconst 5, 1) := by decide +kernel
theorem dX6_kindBy_47 : decode cX6_kindBy 47 = .ok (.goto 5, 3) := by decide +kernel
theorem dX6_kindBy_50 : decode cX6_kindBy 50 = .ok (.ldc 90, 2) := by decide +kernel
theorem dX6_kindBy_52 : decode cX6_kindBy 52 = .ok (.ireturn, 1) := by decide +kernel
set_option maxRecDepth 20000 in
theorem ggX6_isSort_X6_kindBy : GoodIn wsX6_isSort wsX6_kindBy := goodIn_r _ [8, 4] rfl (by decide +kernel)
set_option maxRecDepth 20000 in
theorem gX6_isSort_X6_kindBy : GoodIn wsX6_isSort (va_wsS RX6 119 yX6_kindBy wsX6_kindBy) := goodIn_app (goodIn_of _ (by decide +kernel)) ggX6_isSort_X6_kindBy
theorem dX6_isSort_0 : decode cX6_isSort 0 = .ok (.aload_n 0, 1) := by decide +kernel
theorem dX6_isSort_1 : decode cX6_isSort 1 = .ok (.getfield 78, 3) := by decide +kernel
theorem dX6_isSort_4 : decode cX6_isSort 4 = .ok (.ifCond .ne 27, 3) := by decide +kernel
theorem dX6_isSort_7 : decode cX6_isSort 7 = .ok (.aload_n 0, 1) := by decide +kernel
theorem dX6_isSort_8 : decode cX6_isSort 8 = .ok (.getfield 102, 3) := by decide +kernel
theorem dX6_isSort_11 : decode cX6_isSort 11 = .ok (.iconst 2, 1) := by decide +kernel
theorem dX6_isSort_12 : decode cX6_isSort 12 = .ok (.if_icmp .ne 19, 3) := by decide +kernel
theorem dX6_isSort_15 : decode cX6_isSort 15 = .ok (.aload_n 0, 1) := by decide +kernel
theorem dX6_isSort_16 : decode cX6_isSort 16 = .ok (.getfield 91, 3) := by decide +kernel
theorem dX6_isSort_19 : decode cX6_isSort 19 = .ok (.invokestatic 119, 3) := by decide +kernel
theorem dX6_isSort_22 : decode cX6_isSort 22 = .ok (.ldc 90, 2) := by decide +kernel
theorem dX6_isSort_24 : decode cX6_isSort 24 = .ok (.if_icmp .eq 7, 3) := by decide +kernel
theorem dX6_isSort_27 : decode cX6_isSort 27 = .ok (.iconst 1, 1) := by decide +kernel
theorem dX6_isSort_28 : decode cX6_isSort 28 = .ok (.goto 4, 3) := by decide +kernel
theorem dX6_isSort_31 : decode cX6_isSort 31 = .ok (.iconst 0, 1) := by decide +kernel
theorem dX6_isSort_32 : decode cX6_isSort 32 = .ok (.ireturn, 1) := by decide +kernel
set_option maxRecDepth 20000 in
theorem ggX6_readRoom_X6_bad : GoodIn wsX6_readRoom wsX6_bad := goodIn_r _ [7, 2, 8, 9, 43, 44, 45, 46, 47, 48, 49, 50, 51, 52, 53, 54, 55, 56, 57, 58, 59, 60, 61, 62, 63, 64, 65, 66] rfl (by decide +kernel)
set_option maxRecDepth 20000 in
theorem gX6_readRoom_X6_bad : GoodIn wsX6_readRoom (wsV RX6 105 RX6 yX6_bad wsX6_bad) := goodIn_app (goodIn_of _ (by decide +kernel)) ggX6_readRoom_X6_bad
set_option maxRecDepth 20000 in
theorem ggX6_readRoom_X6_isLetter : GoodIn wsX6_readRoom wsX6_isLetter := goodIn_r _ [13, 2, 14, 15, 43, 44, 45, 46, 47, 48, 49, 50, 51, 52, 53, 54, 55, 56, 57, 58, 59, 60, 61, 62, 63, 64, 65, 66] rfl (by decide +kernel)
set_option maxRecDepth 20000 in
theorem gX6_readRoom_X6_isLetter : GoodIn wsX6_readRoom (wsV RX6 122 RX6 yX6_isLetter wsX6_isLetter) := goodIn_app (goodIn_of _ (by decide +kernel)) ggX6_readRoom_X6_isLetter
set_option maxRecDepth 20000 in
theorem ggX6_readRoom_X6_must : GoodIn wsX6_readRoom wsX6_must := goodIn_r _ [19, 2, 3, 4, 5, 6, 7, 8, 9, 20, 21, 22, 23, 24, 25, 26, 27, 15, 28, 29, 30, 31, 14, 32, 33, 34, 43, 44, 45, 46, 47, 48, 49, 50, 51, 52, 53, 54, 55, 56, 57, 58, 59, 60, 61, 62, 63, 64, 65, 66] rfl (by decide +kernel)
set_option maxRecDepth 20000 in
theorem gX6_readRoom_X6_must : GoodIn wsX6_readRoom (wsV RX6 112 RX6 yX6_must wsX6_must) := goodIn_app (goodIn_of _ (by decide +kernel)) ggX6_readRoom_X6_must
set_option maxRecDepth 20000 in
theorem ggX6_readRoom_X6_number : GoodIn wsX6_readRoom wsX6_number := goodIn_r _ [38, 2, 14, 15, 3, 4, 5, 6, 7, 8, 9, 32, 33, 34, 16, 17, 18, 19, 20, 21, 22, 23, 24, 25, 26, 27, 28, 29, 30, 31, 43, 44, 45, 46, 47, 48, 49, 50, 51, 52, 53, 54, 55, 56, 57, 58, 59, 60, 61, 62, 63, 64, 65, 66] rfl (by decide +kernel)
set_option maxRecDepth 20000 in
theorem gX6_readRoom_X6_number : GoodIn wsX6_readRoom (wsV RX6 125 RX6 yX6_number wsX6_number) := goodIn_app (goodIn_of _ (by decide +kernel)) ggX6_readRoom_X6_number
set_option maxRecDepth 20000 in
theorem ggX6_readRoom_X6_mustSign : GoodIn wsX6_readRoom wsX6_mustSign := goodIn_r _ [42, 14, 15, 16, 17, 18, 6, 19, 2, 3, 4, 5, 7, 8, 9, 20, 21, 22, 23, 24, 25, 26, 27, 28, 29, 30, 31, 32, 33, 34, 43, 44, 45, 46, 47, 48, 49, 50, 51, 52, 53, 54, 55, 56, 57, 58, 59, 60, 61, 62, 63, 64, 65, 66] rfl (by decide +kernel)
set_option maxRecDepth 20000 in
theorem gX6_readRoom_X6_mustSign : GoodIn wsX6_readRoom (wsV RX6 129 RX6 yX6_mustSign wsX6_mustSign) := goodIn_app (goodIn_of _ (by decide +kernel)) ggX6_readRoom_X6_mustSign
theorem dX6_readRoom_0 : decode cX6_readRoom 0 = .ok (.aload_n 0, 1) := by decide +kernel
theorem dX6_readRoom_1 : decode cX6_readRoom 1 = .ok (.getfield 22, 3) := by decide +kernel
theorem dX6_readRoom_4 : decode cX6_readRoom 4 = .ok (.iconst 0, 1) := by decide +kernel
theorem dX6_readRoom_5 : decode cX6_readRoom 5 = .ok (.iaload, 1) := by decide +kernel
theorem dX6_readRoom_6 : decode cX6_readRoom 6 = .ok (.iconst 5, 1) := by decide +kernel
theorem dX6_readRoom_7 : decode cX6_readRoom 7 = .ok (.if_icmp .ne 8, 3) := by decide +kernel
theorem dX6_readRoom_10 : decode cX6_readRoom 10 = .ok (.aload_n 0, 1) := by decide +kernel
theorem dX6_readRoom_11 : decode cX6_readRoom 11 = .ok (.iconst 3, 1) := by decide +kernel
theorem dX6_readRoom_12 : decode cX6_readRoom 12 = .ok (.invokevirtual 105, 3) := by decide +kernel
theorem dX6_readRoom_15 : decode cX6_readRoom 15 = .ok (.aload_n 0, 1) := by decide +kernel
theorem dX6_readRoom_16 : decode cX6_readRoom 16 = .ok (.aload_n 0, 1) := by decide +kernel
theorem dX6_readRoom_17 : decode cX6_readRoom 17 = .ok (.bipush 109, 2) := by decide +kernel
theorem dX6_readRoom_19 : decode cX6_readRoom 19 = .ok (.invokevirtual 122, 3) := by decide +kernel
theorem dX6_readRoom_22 : decode cX6_readRoom 22 = .ok (.invokevirtual 112, 3) := by decide +kernel
theorem dX6_readRoom_25 : decode cX6_readRoom 25 = .ok (.aload_n 0, 1) := by decide +kernel
theorem dX6_readRoom_26 : decode cX6_readRoom 26 = .ok (.iconst 0, 1) := by decide +kernel
theorem dX6_readRoom_27 : decode cX6_readRoom 27 = .ok (.bipush 99, 2) := by decide +kernel
theorem dX6_readRoom_29 : decode cX6_readRoom 29 = .ok (.invokevirtual 125, 3) := by decide +kernel
theorem dX6_readRoom_32 : decode cX6_readRoom 32 = .ok (.istore_n 1, 1) := by decide +kernel
theorem dX6_readRoom_33 : decode cX6_readRoom 33 = .ok (.aload_n 0, 1) := by decide +kernel
theorem dX6_readRoom_34 : decode cX6_readRoom 34 = .ok (.bipush 44, 2) := by decide +kernel
theorem dX6_readRoom_36 : decode cX6_readRoom 36 = .ok (.invokevirtual 129, 3) := by decide +kernel
theorem dX6_readRoom_39 : decode cX6_readRoom 39 = .ok (.aload_n 0, 1) := by decide +kernel
theorem dX6_readRoom_40 : decode cX6_readRoom 40 = .ok (.iconst 0, 1) := by decide +kernel
theorem dX6_readRoom_41 : decode cX6_readRoom 41 = .ok (.bipush 20, 2) := by decide +kernel
theorem dX6_readRoom_43 : decode cX6_readRoom 43 = .ok (.invokevirtual 125, 3) := by decide +kernel
theorem dX6_readRoom_46 : decode cX6_readRoom 46 = .ok (.istore_n 2, 1) := by decide +kernel
theorem dX6_readRoom_47 : decode cX6_readRoom 47 = .ok (.aload_n 0, 1) := by decide +kernel
theorem dX6_readRoom_48 : decode cX6_readRoom 48 = .ok (.bipush 59, 2) := by decide +kernel
theorem dX6_readRoom_50 : decode cX6_readRoom 50 = .ok (.invokevirtual 129, 3) := by decide +kernel
theorem dX6_readRoom_53 : decode cX6_readRoom 53 = .ok (.aload_n 0, 1) := by decide +kernel
theorem dX6_readRoom_54 : decode cX6_readRoom 54 = .ok (.getfield 78, 3) := by decide +kernel
theorem dX6_readRoom_57 : decode cX6_readRoom 57 = .ok (.ifCond .ne 47, 3) := by decide +kernel
theorem dX6_readRoom_60 : decode cX6_readRoom 60 = .ok (.aload_n 0, 1) := by decide +kernel
theorem dX6_readRoom_61 : decode cX6_readRoom 61 = .ok (.getfield 22, 3) := by decide +kernel
theorem dX6_readRoom_64 : decode cX6_readRoom 64 = .ok (.iconst 5, 1) := by decide +kernel
theorem dX6_readRoom_65 : decode cX6_readRoom 65 = .ok (.iconst 2, 1) := by decide +kernel
theorem dX6_readRoom_66 : decode cX6_readRoom 66 = .ok (.aload_n 0, 1) := by decide +kernel
theorem dX6_readRoom_67 : decode cX6_readRoom 67 = .ok (.getfield 22, 3) := by decide +kernel
theorem dX6_readRoom_70 : decode cX6_readRoom 70 = .ok (.iconst 0, 1) := by decide +kernel
theorem dX6_readRoom_71 : decode cX6_readRoom 71 = .ok (.iaload, 1) := by decide +kernel
theorem dX6_readRoom_72 : decode cX6_readRoom 72 = .ok (.imul, 1) := by decide +kernel
theorem dX6_readRoom_73 : decode cX6_readRoom 73 = .ok (.iadd, 1) := by decide +kernel
theorem dX6_readRoom_74 : decode cX6_readRoom 74 = .ok (.iload_n 1, 1) := by decide +kernel
theorem dX6_readRoom_75 : decode cX6_readRoom 75 = .ok (.iastore, 1) := by decide +kernel
theorem dX6_readRoom_76 : decode cX6_readRoom 76 = .ok (.aload_n 0, 1) := by decide +kernel
theorem dX6_readRoom_77 : decode cX6_readRoom 77 = .ok (.getfield 22, 3) := by decide +kernel
theorem dX6_readRoom_80 : decode cX6_readRoom 80 = .ok (.iconst 5, 1) := by decide +kernel
theorem dX6_readRoom_81 : decode cX6_readRoom 81 = .ok (.iconst 2, 1) := by decide +kernel
theorem dX6_readRoom_82 : decode cX6_readRoom 82 = .ok (.aload_n 0, 1) := by decide +kernel
theorem dX6_readRoom_83 : decode cX6_readRoom 83 = .ok (.getfield 22, 3) := by decide +kernel
theorem dX6_readRoom_86 : decode cX6_readRoom 86 = .ok (.iconst 0, 1) := by decide +kernel
theorem dX6_readRoom_87 : decode cX6_readRoom 87 = .ok (.iaload, 1) := by decide +kernel
theorem dX6_readRoom_88 : decode cX6_readRoom 88 = .ok (.imul, 1) := by decide +kernel
theorem dX6_readRoom_89 : decode cX6_readRoom 89 = .ok (.iadd, 1) := by decide +kernel
theorem dX6_readRoom_90 : decode cX6_readRoom 90 = .ok (.iconst 1, 1) := by decide +kernel
theorem dX6_readRoom_91 : decode cX6_readRoom 91 = .ok (.iadd, 1) := by decide +kernel
theorem dX6_readRoom_92 : decode cX6_readRoom 92 = .ok (.iload_n 2, 1) := by decide +kernel
theorem dX6_readRoom_93 : decode cX6_readRoom 93 = .ok (.iastore, 1) := by decide +kernel
theorem dX6_readRoom_94 : decode cX6_readRoom 94 = .ok (.aload_n 0, 1) := by decide +kernel
theorem dX6_readRoom_95 : decode cX6_readRoom 95 = .ok (.getfield 22, 3) := by decide +kernel
theorem dX6_readRoom_98 : decode cX6_readRoom 98 = .ok (.iconst 0, 1) := by decide +kernel
theorem dX6_readRoom_99 : decode cX6_readRoom 99 = .ok (.dup2, 1) := by decide +kernel
theorem dX6_readRoom_100 : decode cX6_readRoom 100 = .ok (.iaload, 1) := by decide +kernel
theorem dX6_readRoom_101 : decode cX6_readRoom 101 = .ok (.iconst 1, 1) := by decide +kernel
theorem dX6_readRoom_102 : decode cX6_readRoom 102 = .ok (.iadd, 1) := by decide +kernel
theorem dX6_readRoom_103 : decode cX6_readRoom 103 = .ok (.iastore, 1) := by decide +kernel
theorem dX6_readRoom_104 : decode cX6_readRoom 104 = .ok (.return_, 1) := by decide +kernel
set_option maxRecDepth 20000 in
theorem ggX6_readTube_X6_kindBy : GoodIn wsX6_readTube wsX6_kindBy := goodIn_r _ [7, 8] rfl (by decide +kernel)
set_option maxRecDepth 20000 in
theorem gX6_readTube_X6_kindBy : GoodIn wsX6_readTube (va_wsS RX6 119 yX6_kindBy wsX6_kindBy) := goodIn_app (goodIn_of _ (by decide +kernel)) ggX6_readTube_X6_kindBy
set_option maxRecDepth 20000 in
theorem ggX6_readTube_X6_bad : GoodIn wsX6_readTube wsX6_bad := goodIn_r _ [12, 3, 13, 14, 42, 43, 44, 45, 46, 47, 48, 49, 50, 51, 52, 53, 54, 55, 56, 57, 58, 59, 60, 61, 62, 63, 64, 65] rfl (by decide +kernel)
set_option maxRecDepth 20000 in
theorem gX6_readTube_X6_bad : GoodIn wsX6_readTube (wsV RX6 105 RX6 yX6_bad wsX6_bad) := goodIn_app (goodIn_of _ (by decide +kernel)) ggX6_readTube_X6_bad
set_option maxRecDepth 20000 in
theorem ggX6_readTube_X6_must : GoodIn wsX6_readTube wsX6_must := goodIn_r _ [18, 3, 9, 10, 11, 6, 12, 13, 14, 19, 20, 21, 22, 23, 24, 25, 8, 1, 26, 27, 28, 29, 30, 31, 32, 33, 42, 43, 44, 45, 46, 47, 48, 49, 50, 51, 52, 53, 54, 55, 56, 57, 58, 59, 60, 61, 62, 63, 64, 65] rfl (by decide +kernel)
set_option maxRecDepth 20000 in
theorem gX6_readTube_X6_must : GoodIn wsX6_readTube (wsV RX6 112 RX6 yX6_must wsX6_must) := goodIn_app (goodIn_of _ (by decide +kernel)) ggX6_readTube_X6_must
set_option maxRecDepth 20000 in
theorem ggX6_readTube_X6_number : GoodIn wsX6_readTube wsX6_number := goodIn_r _ [37, 3, 30, 1, 9, 10, 11, 6, 12, 13, 14, 31, 32, 33, 15, 16, 17, 18, 19, 20, 21, 22, 23, 24, 25, 8, 26, 27, 28, 29, 42, 43, 44, 45, 46, 47, 48, 49, 50, 51, 52, 53, 54, 55, 56, 57, 58, 59, 60, 61, 62, 63, 64, 65] rfl (by decide +kernel)
set_option maxRecDepth 20000 in
theorem gX6_readTube_X6_number : GoodIn wsX6_readTube (wsV RX6 125 RX6 yX6_number wsX6_number) := goodIn_app (goodIn_of _ (by decide +kernel)) ggX6_readTube_X6_number
set_option maxRecDepth 20000 in
theorem ggX6_readTube_X6_mustSign : GoodIn wsX6_readTube wsX6_mustSign := goodIn_r _ [41, 30, 1, 15, 16, 17, 6, 18, 3, 9, 10, 11, 12, 13, 14, 19, 20, 21, 22, 23, 24, 25, 8, 26, 27, 28, 29, 31, 32, 33, 42, 43, 44, 45, 46, 47, 48, 49, 50, 51, 52, 53, 54, 55, 56, 57, 58, 59, 60, 61, 62, 63, 64, 65] rfl (by decide +kernel)
set_option maxRecDepth 20000 in
theorem gX6_readTube_X6_mustSign : GoodIn wsX6_readTube (wsV RX6 129 RX6 yX6_mustSign wsX6_mustSign) := goodIn_app (goodIn_of _ (by decide +kernel)) ggX6_readTube_X6_mustSign
theorem dX6_readTube_0 : decode cX6_readTube 0 = .ok (.aload_n 0, 1) := by decide +kernel
theorem dX6_readTube_1 : decode cX6_readTube 1 = .ok (.getfield 91, 3) := by decide +kernel
theorem dX6_readTube_4 : decode cX6_readTube 4 = .ok (.invokestatic 119, 3) := by decide +kernel
theorem dX6_readTube_7 : decode cX6_readTube 7 = .ok (.istore_n 1, 1) := by decide +kernel
theorem dX6_readTube_8 : decode cX6_readTube 8 = .ok (.aload_n 0, 1) := by decide +kernel
theorem dX6_readTube_9 : decode cX6_readTube 9 = .ok (.getfield 22, 3) := by decide +kernel
theorem dX6_readTube_12 : decode cX6_readTube 12 = .ok (.iconst 1, 1) := by decide +kernel
theorem dX6_readTube_13 : decode cX6_readTube 13 = .ok (.iaload, 1) := by decide +kernel
theorem dX6_readTube_14 : decode cX6_readTube 14 = .ok (.bipush 6, 2) := by decide +kernel
theorem dX6_readTube_16 : decode cX6_readTube 16 = .ok (.if_icmp .ne 8, 3) := by decide +kernel
theorem dX6_readTube_19 : decode cX6_readTube 19 = .ok (.aload_n 0, 1) := by decide +kernel
theorem dX6_readTube_20 : decode cX6_readTube 20 = .ok (.iconst 3, 1) := by decide +kernel
theorem dX6_readTube_21 : decode cX6_readTube 21 = .ok (.invokevirtual 105, 3) := by decide +kernel
theorem dX6_readTube_24 : decode cX6_readTube 24 = .ok (.aload_n 0, 1) := by decide +kernel
theorem dX6_readTube_25 : decode cX6_readTube 25 = .ok (.iconst 1, 1) := by decide +kernel
theorem dX6_readTube_26 : decode cX6_readTube 26 = .ok (.invokevirtual 112, 3) := by decide +kernel
theorem dX6_readTube_29 : decode cX6_readTube 29 = .ok (.aload_n 0, 1) := by decide +kernel
theorem dX6_readTube_30 : decode cX6_readTube 30 = .ok (.iconst 0, 1) := by decide +kernel
theorem dX6_readTube_31 : decode cX6_readTube 31 = .ok (.aload_n 0, 1) := by decide +kernel
theorem dX6_readTube_32 : decode cX6_readTube 32 = .ok (.getfield 22, 3) := by decide +kernel
theorem dX6_readTube_35 : decode cX6_readTube 35 = .ok (.iconst 0, 1) := by decide +kernel
theorem dX6_readTube_36 : decode cX6_readTube 36 = .ok (.iaload, 1) := by decide +kernel
theorem dX6_readTube_37 : decode cX6_readTube 37 = .ok (.invokevirtual 125, 3) := by decide +kernel
theorem dX6_readTube_40 : decode cX6_readTube 40 = .ok (.istore_n 2, 1) := by decide +kernel
theorem dX6_readTube_41 : decode cX6_readTube 41 = .ok (.aload_n 0, 1) := by decide +kernel
theorem dX6_readTube_42 : decode cX6_readTube 42 = .ok (.bipush 44, 2) := by decide +kernel
theorem dX6_readTube_44 : decode cX6_readTube 44 = .ok (.invokevirtual 129, 3) := by decide +kernel
theorem dX6_readTube_47 : decode cX6_readTube 47 = .ok (.aload_n 0, 1) := by decide +kernel
theorem dX6_readTube_48 : decode cX6_readTube 48 = .ok (.iconst 1, 1) := by decide +kernel
theorem dX6_readTube_49 : decode cX6_readTube 49 = .ok (.bipush 9, 2) := by decide +kernel
theorem dX6_readTube_51 : decode cX6_readTube 51 = .ok (.invokevirtual 125, 3) := by decide +kernel
theorem dX6_readTube_54 : decode cX6_readTube 54 = .ok (.istore_n 3, 1) := by decide +kernel
theorem dX6_readTube_55 : decode cX6_readTube 55 = .ok (.aload_n 0, 1) := by decide +kernel
theorem dX6_readTube_56 : decode cX6_readTube 56 = .ok (.bipush 44, 2) := by decide +kernel
theorem dX6_readTube_58 : decode cX6_readTube 58 = .ok (.invokevirtual 129, 3) := by decide +kernel
theorem dX6_readTube_61 : decode cX6_readTube 61 = .ok (.aload_n 0, 1) := by decide +kernel
theorem dX6_readTube_62 : decode cX6_readTube 62 = .ok (.iconst 1, 1) := by decide +kernel
theorem dX6_readTube_63 : decode cX6_readTube 63 = .ok (.bipush 40, 2) := by decide +kernel
theorem dX6_readTube_65 : decode cX6_readTube 65 = .ok (.invokevirtual 125, 3) := by decide +kernel
theorem dX6_readTube_68 : decode cX6_readTube 68 = .ok (.istore 4, 2) := by decide +kernel
theorem dX6_readTube_70 : decode cX6_readTube 70 = .ok (.aload_n 0, 1) := by decide +kernel
theorem dX6_readTube_71 : decode cX6_readTube 71 = .ok (.bipush 59, 2) := by decide +kernel
theorem dX6_readTube_73 : decode cX6_readTube 73 = .ok (.invokevirtual 129, 3) := by decide +kernel
theorem dX6_readTube_76 : decode cX6_readTube 76 = .ok (.aload_n 0, 1) := by decide +kernel
theorem dX6_readTube_77 : decode cX6_readTube 77 = .ok (.getfield 78, 3) := by decide +kernel
theorem dX6_readTube_80 : decode cX6_readTube 80 = .ok (.ifCond .ne 65, 3) := by decide +kernel
theorem dX6_readTube_83 : decode cX6_readTube 83 = .ok (.bipush 15, 2) := by decide +kernel
theorem dX6_readTube_85 : decode cX6_readTube 85 = .ok (.iconst 5, 1) := by decide +kernel
theorem dX6_readTube_86 : decode cX6_readTube 86 = .ok (.aload_n 0, 1) := by decide +kernel
theorem dX6_readTube_87 : decode cX6_readTube 87 = .ok (.getfield 22, 3) := by decide +kernel
theorem dX6_readTube_90 : decode cX6_readTube 90 = .ok (.iconst 1, 1) := by decide +kernel
theorem dX6_readTube_91 : decode cX6_readTube 91 = .ok (.iaload, 1) := by decide +kernel
theorem dX6_readTube_92 : decode cX6_readTube 92 = .ok (.imul, 1) := by decide +kernel
theorem dX6_readTube_93 : decode cX6_readTube 93 = .ok (.iadd, 1) := by decide +kernel
theorem dX6_readTube_94 : decode cX6_readTube 94 = .ok (.istore 5, 2) := by decide +kernel
theorem dX6_readTube_96 : decode cX6_readTube 96 = .ok (.aload_n 0, 1) := by decide +kernel
theorem dX6_readTube_97 : decode cX6_readTube 97 = .ok (.getfield 22, 3) := by decide +kernel
theorem dX6_readTube_100 : decode cX6_readTube 100 = .ok (.iload 5, 2) := by decide +kernel
theorem dX6_readTube_102 : decode cX6_readTube 102 = .ok (.iload_n 1, 1) := by decide +kernel
theorem dX6_readTube_103 : decode cX6_readTube 103 = .ok (.iastore, 1) := by decide +kernel
theorem dX6_readTube_104 : decode cX6_readTube 104 = .ok (.aload_n 0, 1) := by decide +kernel
theorem dX6_readTube_105 : decode cX6_readTube 105 = .ok (.getfield 22, 3) := by decide +kernel
theorem dX6_readTube_108 : decode cX6_readTube 108 = .ok (.iload 5, 2) := by decide +kernel
theorem dX6_readTube_110 : decode cX6_readTube 110 = .ok (.iconst 1, 1) := by decide +kernel
theorem dX6_readTube_111 : decode cX6_readTube 111 = .ok (.iadd, 1) := by decide +kernel
theorem dX6_readTube_112 : decode cX6_readTube 112 = .ok (.iload_n 2, 1) := by decide +kernel
theorem dX6_readTube_113 : decode cX6_readTube 113 = .ok (.iastore, 1) := by decide +kernel
theorem dX6_readTube_114 : decode cX6_readTube 114 = .ok (.aload_n 0, 1) := by decide +kernel
theorem dX6_readTube_115 : decode cX6_readTube 115 = .ok (.getfield 22, 3) := by decide +kernel
theorem dX6_readTube_118 : decode cX6_readTube 118 = .ok (.iload 5, 2) := by decide +kernel
theorem dX6_readTube_120 : decode cX6_readTube 120 = .ok (.iconst 2, 1) := by decide +kernel
theorem dX6_readTube_121 : decode cX6_readTube 121 = .ok (.iadd, 1) := by decide +kernel
theorem dX6_readTube_122 : decode cX6_readTube 122 = .ok (.iload_n 3, 1) := by decide +kernel
theorem dX6_readTube_123 : decode cX6_readTube 123 = .ok (.iastore, 1) := by decide +kernel
theorem dX6_readTube_124 : decode cX6_readTube 124 = .ok (.aload_n 0, 1) := by decide +kernel
theorem dX6_readTube_125 : decode cX6_readTube 125 = .ok (.getfield 22, 3) := by decide +kernel
theorem dX6_readTube_128 : decode cX6_readTube 128 = .ok (.iload 5, 2) := by decide +kernel
theorem dX6_readTube_130 : decode cX6_readTube 130 = .ok (.iconst 3, 1) := by decide +kernel
theorem dX6_readTube_131 : decode cX6_readTube 131 = .ok (.iadd, 1) := by decide +kernel
theorem dX6_readTube_132 : decode cX6_readTube 132 = .ok (.iload 4, 2) := by decide +kernel
theorem dX6_readTube_134 : decode cX6_readTube 134 = .ok (.iastore, 1) := by decide +kernel
theorem dX6_readTube_135 : decode cX6_readTube 135 = .ok (.aload_n 0, 1) := by decide +kernel
theorem dX6_readTube_136 : decode cX6_readTube 136 = .ok (.getfield 22, 3) := by decide +kernel
theorem dX6_readTube_139 : decode cX6_readTube 139 = .ok (.iconst 1, 1) := by decide +kernel
theorem dX6_readTube_140 : decode cX6_readTube 140 = .ok (.dup2, 1) := by decide +kernel
theorem dX6_readTube_141 : decode cX6_readTube 141 = .ok (.iaload, 1) := by decide +kernel
theorem dX6_readTube_142 : decode cX6_readTube 142 = .ok (.iconst 1, 1) := by decide +kernel
theorem dX6_readTube_143 : decode cX6_readTube 143 = .ok (.iadd, 1) := by decide +kernel
theorem dX6_readTube_144 : decode cX6_readTube 144 = .ok (.iastore, 1) := by decide +kernel
theorem dX6_readTube_145 : decode cX6_readTube 145 = .ok (.return_, 1) := by decide +kernel
set_option maxRecDepth 20000 in
theorem ggX6_house_X6_begin : GoodIn wsX6_house wsX6_begin := goodIn_r _ [11, 12, 13, 14, 15, 16, 10, 17, 18, 19, 20, 21, 22, 23, 24, 25, 26, 27, 28, 29, 30, 71, 72, 73, 74, 75, 76, 77, 78, 79, 80, 81, 82, 83, 84, 85, 86, 87, 88, 89, 90, 91, 92, 93, 94] rfl (by decide +kernel)
set_option maxRecDepth 20000 in
theorem gX6_house_X6_begin : GoodIn wsX6_house (wsV RX6 132 RX6 yX6_begin wsX6_begin) := goodIn_app (goodIn_of _ (by decide +kernel)) ggX6_house_X6_begin
set_option maxRecDepth 20000 in
theorem ggX6_house_X6_isLetter : GoodIn wsX6_house wsX6_isLetter := goodIn_r _ [34, 13, 27, 22, 71, 72, 73, 74, 75, 76, 77, 78, 79, 80, 81, 82, 83, 84, 85, 86, 87, 88, 89, 90, 91, 92, 93, 94] rfl (by decide +kernel)
set_option maxRecDepth 20000 in
theorem gX6_house_X6_isLetter : GoodIn wsX6_house (wsV RX6 122 RX6 yX6_isLetter wsX6_isLetter) := goodIn_app (goodIn_of _ (by decide +kernel)) ggX6_house_X6_isLetter
set_option maxRecDepth 20000 in
theorem ggX6_house_X6_must : GoodIn wsX6_house wsX6_must := goodIn_r _ [38, 13, 39, 40, 41, 10, 42, 18, 4, 14, 15, 16, 17, 12, 19, 20, 21, 22, 23, 24, 25, 26, 27, 28, 29, 30, 71, 72, 73, 74, 75, 76, 77, 78, 79, 80, 81, 82, 83, 84, 85, 86, 87, 88, 89, 90, 91, 92, 93, 94] rfl (by decide +kernel)
set_option maxRecDepth 20000 in
theorem gX6_house_X6_must : GoodIn wsX6_house (wsV RX6 112 RX6 yX6_must wsX6_must) := goodIn_app (goodIn_of _ (by decide +kernel)) ggX6_house_X6_must
set_option maxRecDepth 20000 in
theorem ggX6_house_X6_number : GoodIn wsX6_house wsX6_number := goodIn_r _ [46, 13, 27, 22, 39, 40, 41, 10, 42, 18, 4, 28, 29, 30, 35, 36, 37, 38, 14, 15, 16, 17, 12, 19, 20, 21, 23, 24, 25, 26, 71, 72, 73, 74, 75, 76, 77, 78, 79, 80, 81, 82, 83, 84, 85, 86, 87, 88, 89, 90, 91, 92, 93, 94] rfl (by decide +kernel)
set_option maxRecDepth 20000 in
theorem gX6_house_X6_number : GoodIn wsX6_house (wsV RX6 125 RX6 yX6_number wsX6_number) := goodIn_app (goodIn_of _ (by decide +kernel)) ggX6_house_X6_number
set_option maxRecDepth 20000 in
theorem ggX6_house_X6_mustSign : GoodIn wsX6_house wsX6_mustSign := goodIn_r _ [50, 27, 22, 35, 36, 37, 10, 38, 13, 39, 40, 41, 42, 18, 4, 14, 15, 16, 17, 12, 19, 20, 21, 23, 24, 25, 26, 28, 29, 30, 71, 72, 73, 74, 75, 76, 77, 78, 79, 80, 81, 82, 83, 84, 85, 86, 87, 88, 89, 90, 91, 92, 93, 94] rfl (by decide +kernel)
set_option maxRecDepth 20000 in
theorem gX6_house_X6_mustSign : GoodIn wsX6_house (wsV RX6 129 RX6 yX6_mustSign wsX6_mustSign) := goodIn_app (goodIn_of _ (by decide +kernel)) ggX6_house_X6_mustSign
set_option maxRecDepth 20000 in
theorem ggX6_house_X6_bad : GoodIn wsX6_house wsX6_bad := goodIn_r _ [42, 13, 18, 4, 71, 72, 73, 74, 75, 76, 77, 78, 79, 80, 81, 82, 83, 84, 85, 86, 87, 88, 89, 90, 91, 92, 93, 94] rfl (by decide +kernel)
set_option maxRecDepth 20000 in
theorem gX6_house_X6_bad : GoodIn wsX6_house (wsV RX6 105 RX6 yX6_bad wsX6_bad) := goodIn_app (goodIn_of _ (by decide +kernel)) ggX6_house_X6_bad
set_option maxRecDepth 20000 in
theorem ggX6_house_X6_readRoom : GoodIn wsX6_house wsX6_readRoom := goodIn_r _ [54, 2, 13, 39, 40, 41, 10, 42, 18, 4, 31, 32, 33, 34, 27, 22, 35, 36, 37, 38, 14, 15, 16, 17, 12, 19, 20, 21, 23, 24, 25, 26, 28, 29, 30, 43, 44, 45, 46, 47, 48, 49, 50, 71, 72, 73, 74, 75, 76, 77, 78, 79, 80, 81, 82, 83, 84, 85, 86, 87, 88, 89, 90, 91, 92, 93, 94] rfl (by decide +kernel)
set_option maxRecDepth 20000 in
theorem gX6_house_X6_readRoom : GoodIn wsX6_house (wsV RX6 135 RX6 yX6_readRoom wsX6_readRoom) := goodIn_app (goodIn_of _ (by decide +kernel)) ggX6_house_X6_readRoom
set_option maxRecDepth 20000 in
theorem ggX6_house_X6_isSort : GoodIn wsX6_house wsX6_isSort := goodIn_r _ [58, 13, 27, 22, 21, 59, 60, 10, 61, 71, 72, 73, 74, 75, 76, 77, 78, 79, 80, 81, 82, 83, 84, 85, 86, 87, 88, 89, 90, 91, 92, 93, 94] rfl (by decide +kernel)
set_option maxRecDepth 20000 in
theorem gX6_house_X6_isSort : GoodIn wsX6_house (wsV RX6 138 RX6 yX6_isSort wsX6_isSort) := goodIn_app (goodIn_of _ (by decide +kernel)) ggX6_house_X6_isSort
set_option maxRecDepth 20000 in
theorem ggX6_house_X6_readTube : GoodIn wsX6_house wsX6_readTube := goodIn_r _ [65, 22, 2, 13, 59, 60, 10, 61, 21, 39, 40, 41, 42, 18, 4, 35, 36, 37, 38, 14, 15, 16, 17, 12, 19, 20, 23, 24, 25, 26, 27, 28, 29, 30, 43, 44, 45, 46, 47, 48, 49, 50, 71, 72, 73, 74, 75, 76, 77, 78, 79, 80, 81, 82, 83, 84, 85, 86, 87, 88, 89, 90, 91, 92, 93, 94] rfl (by decide +kernel)
set_option maxRecDepth 20000 in
theorem gX6_house_X6_readTube : GoodIn wsX6_house (wsV RX6 142 RX6 yX6_readTube wsX6_readTube) := goodIn_app (goodIn_of _ (by decide +kernel)) ggX6_house_X6_readTube
set_option maxRecDepth 20000 in
theorem ggX6_house_X6_failed : GoodIn wsX6_house wsX6_failed := goodIn_r _ [69, 13, 27, 19, 70, 39, 40, 41, 10, 42, 18, 4, 71, 72, 73, 74, 75, 76, 77, 78, 79, 80, 81, 82, 83, 84, 85, 86, 87, 88, 89, 90, 91, 92, 93, 94] rfl (by decide +kernel)
set_option maxRecDepth 20000 in
theorem gX6_house_X6_failed : GoodIn wsX6_house (wsV RX6 145 RX6 yX6_failed wsX6_failed) := goodIn_app (goodIn_of _ (by decide +kernel)) ggX6_house_X6_failed
theorem dX6_house_0 : decode cX6_house 0 = .ok (.aload_n 0, 1) := by decide +kernel
theorem dX6_house_1 : decode cX6_house 1 = .ok (.iconst 0, 1) := by decide +kernel
theorem dX6_house_2 : decode cX6_house 2 = .ok (.putfield 47, 3) := by decide +kernel
theorem dX6_house_5 : decode cX6_house 5 = .ok (.aload_n 0, 1) := by decide +kernel
theorem dX6_house_6 : decode cX6_house 6 = .ok (.invokevirtual 132, 3) := by decide +kernel
theorem dX6_house_9 : decode cX6_house 9 = .ok (.iconst 0, 1) := by decide +kernel
theorem dX6_house_10 : decode cX6_house 10 = .ok (.istore_n 1, 1) := by decide +kernel
theorem dX6_house_11 : decode cX6_house 11 = .ok (.iload_n 1, 1) := by decide +kernel
theorem dX6_house_12 : decode cX6_house 12 = .ok (.bipush 45, 2) := by decide +kernel
theorem dX6_house_14 : decode cX6_house 14 = .ok (.if_icmp .ge 16, 3) := by decide +kernel
theorem dX6_house_17 : decode cX6_house 17 = .ok (.aload_n 0, 1) := by decide +kernel
theorem dX6_house_18 : decode cX6_house 18 = .ok (.getfield 22, 3) := by decide +kernel
theorem dX6_house_21 : decode cX6_house 21 = .ok (.iload_n 1, 1) := by decide +kernel
theorem dX6_house_22 : decode cX6_house 22 = .ok (.iconst 0, 1) := by decide +kernel
theorem dX6_house_23 : decode cX6_house 23 = .ok (.iastore, 1) := by decide +kernel
theorem dX6_house_24 : decode cX6_house 24 = .ok (.iinc 1 1, 3) := by decide +kernel
theorem dX6_house_27 : decode cX6_house 27 = .ok (.goto (-16), 3) := by decide +kernel
theorem dX6_house_30 : decode cX6_house 30 = .ok (.aload_n 0, 1) := by decide +kernel
theorem dX6_house_31 : decode cX6_house 31 = .ok (.aload_n 0, 1) := by decide +kernel
theorem dX6_house_32 : decode cX6_house 32 = .ok (.bipush 104, 2) := by decide +kernel
theorem dX6_house_34 : decode cX6_house 34 = .ok (.invokevirtual 122, 3) := by decide +kernel
theorem dX6_house_37 : decode cX6_house 37 = .ok (.invokevirtual 112, 3) := by decide +kernel
theorem dX6_house_40 : decode cX6_house 40 = .ok (.aload_n 0, 1) := by decide +kernel
theorem dX6_house_41 : decode cX6_house 41 = .ok (.getfield 22, 3) := by decide +kernel
theorem dX6_house_44 : decode cX6_house 44 = .ok (.iconst 2, 1) := by decide +kernel
theorem dX6_house_45 : decode cX6_house 45 = .ok (.aload_n 0, 1) := by decide +kernel
theorem dX6_house_46 : decode cX6_house 46 = .ok (.iconst 0, 1) := by decide +kernel
theorem dX6_house_47 : decode cX6_house 47 = .ok (.bipush 9, 2) := by decide +kernel
theorem dX6_house_49 : decode cX6_house 49 = .ok (.invokevirtual 125, 3) := by decide +kernel
theorem dX6_house_52 : decode cX6_house 52 = .ok (.iastore, 1) := by decide +kernel
theorem dX6_house_53 : decode cX6_house 53 = .ok (.aload_n 0, 1) := by decide +kernel
theorem dX6_house_54 : decode cX6_house 54 = .ok (.bipush 44, 2) := by decide +kernel
theorem dX6_house_56 : decode cX6_house 56 = .ok (.invokevirtual 129, 3) := by decide +kernel
theorem dX6_house_59 : decode cX6_house 59 = .ok (.aload_n 0, 1) := by decide +kernel
theorem dX6_house_60 : decode cX6_house 60 = .ok (.getfield 22, 3) := by decide +kernel
theorem dX6_house_63 : decode cX6_house 63 = .ok (.iconst 3, 1) := by decide +kernel
theorem dX6_house_64 : decode cX6_house 64 = .ok (.aload_n 0, 1) := by decide +kernel
theorem dX6_house_65 : decode cX6_house 65 = .ok (.iconst 0, 1) := by decide +kernel
theorem dX6_house_66 : decode cX6_house 66 = .ok (.bipush 60, 2) := by decide +kernel
theorem dX6_house_68 : decode cX6_house 68 = .ok (.invokevirtual 125, 3) := by decide +kernel
theorem dX6_house_71 : decode cX6_house 71 = .ok (.iastore, 1) := by decide +kernel
theorem dX6_house_72 : decode cX6_house 72 = .ok (.aload_n 0, 1) := by decide +kernel
theorem dX6_house_73 : decode cX6_house 73 = .ok (.bipush 59, 2) := by decide +kernel
theorem dX6_house_75 : decode cX6_house 75 = .ok (.invokevirtual 129, 3) := by decide +kernel
theorem dX6_house_78 : decode cX6_house 78 = .ok (.aload_n 0, 1) := by decide +kernel
theorem dX6_house_79 : decode cX6_house 79 = .ok (.bipush 109, 2) := by decide +kernel
theorem dX6_house_81 : decode cX6_house 81 = .ok (.invokevirtual 122, 3) := by decide +kernel
theorem dX6_house_84 : decode cX6_house 84 = .ok (.ifCond .ne 8, 3) := by decide +kernel
theorem dX6_house_87 : decode cX6_house 87 = .ok (.aload_n 0, 1) := by decide +kernel
theorem dX6_house_88 : decode cX6_house 88 = .ok (.iconst 1, 1) := by decide +kernel
theorem dX6_house_89 : decode cX6_house 89 = .ok (.invokevirtual 105, 3) := by decide +kernel
theorem dX6_house_92 : decode cX6_house 92 = .ok (.aload_n 0, 1) := by decide +kernel
theorem dX6_house_93 : decode cX6_house 93 = .ok (.bipush 109, 2) := by decide +kernel
theorem dX6_house_95 : decode cX6_house 95 = .ok (.invokevirtual 122, 3) := by decide +kernel
theorem dX6_house_98 : decode cX6_house 98 = .ok (.ifCond .eq 10, 3) := by decide +kernel
theorem dX6_house_101 : decode cX6_house 101 = .ok (.aload_n 0, 1) := by decide +kernel
theorem dX6_house_102 : decode cX6_house 102 = .ok (.invokevirtual 135, 3) := by decide +kernel
theorem dX6_house_105 : decode cX6_house 105 = .ok (.goto (-13), 3) := by decide +kernel
theorem dX6_house_108 : decode cX6_house 108 = .ok (.aload_n 0, 1) := by decide +kernel
theorem dX6_house_109 : decode cX6_house 109 = .ok (.invokevirtual 138, 3) := by decide +kernel
theorem dX6_house_112 : decode cX6_house 112 = .ok (.ifCond .ne 8, 3) := by decide +kernel
theorem dX6_house_115 : decode cX6_house 115 = .ok (.aload_n 0, 1) := by decide +kernel
theorem dX6_house_116 : decode cX6_house 116 = .ok (.iconst 1, 1) := by decide +kernel
theorem dX6_house_117 : decode cX6_house 117 = .ok (.invokevirtual 105, 3) := by decide +kernel
theorem dX6_house_120 : decode cX6_house 120 = .ok (.aload_n 0, 1) := by decide +kernel
theorem dX6_house_121 : decode cX6_house 121 = .ok (.invokevirtual 138, 3) := by decide +kernel
theorem dX6_house_124 : decode cX6_house 124 = .ok (.ifCond .eq 10, 3) := by decide +kernel
theorem dX6_house_127 : decode cX6_house 127 = .ok (.aload_n 0, 1) := by decide +kernel
theorem dX6_house_128 : decode cX6_house 128 = .ok (.invokevirtual 142, 3) := by decide +kernel
theorem dX6_house_131 : decode cX6_house 131 = .ok (.goto (-11), 3) := by decide +kernel
theorem dX6_house_134 : decode cX6_house 134 = .ok (.aload_n 0, 1) := by decide +kernel
theorem dX6_house_135 : decode cX6_house 135 = .ok (.invokevirtual 145, 3) := by decide +kernel
theorem dX6_house_138 : decode cX6_house 138 = .ok (.ifCond .eq 11, 3) := by decide +kernel
theorem dX6_house_141 : decode cX6_house 141 = .ok (.ldc 148, 2) := by decide +kernel
theorem dX6_house_143 : decode cX6_house 143 = .ok (.aload_n 0, 1) := by decide +kernel
theorem dX6_house_144 : decode cX6_house 144 = .ok (.getfield 84, 3) := by decide +kernel
theorem dX6_house_147 : decode cX6_house 147 = .ok (.isub, 1) := by decide +kernel
theorem dX6_house_148 : decode cX6_house 148 = .ok (.ireturn, 1) := by decide +kernel
theorem dX6_house_149 : decode cX6_house 149 = .ok (.aload_n 0, 1) := by decide +kernel
theorem dX6_house_150 : decode cX6_house 150 = .ok (.iconst 0, 1) := by decide +kernel
theorem dX6_house_151 : decode cX6_house 151 = .ok (.putfield 149, 3) := by decide +kernel
theorem dX6_house_154 : decode cX6_house 154 = .ok (.iconst 0, 1) := by decide +kernel
theorem dX6_house_155 : decode cX6_house 155 = .ok (.istore_n 1, 1) := by decide +kernel
theorem dX6_house_156 : decode cX6_house 156 = .ok (.iload_n 1, 1) := by decide +kernel
theorem dX6_house_157 : decode cX6_house 157 = .ok (.bipush 45, 2) := by decide +kernel
theorem dX6_house_159 : decode cX6_house 159 = .ok (.if_icmp .ge 21, 3) := by decide +kernel
theorem dX6_house_162 : decode cX6_house 162 = .ok (.aload_n 0, 1) := by decide +kernel
theorem dX6_house_163 : decode cX6_house 163 = .ok (.getfield 19, 3) := by decide +kernel
theorem dX6_house_166 : decode cX6_house 166 = .ok (.iload_n 1, 1) := by decide +kernel
theorem dX6_house_167 : decode cX6_house 167 = .ok (.aload_n 0, 1) := by decide +kernel
theorem dX6_house_168 : decode cX6_house 168 = .ok (.getfield 22, 3) := by decide +kernel
theorem dX6_house_171 : decode cX6_house 171 = .ok (.iload_n 1, 1) := by decide +kernel
theorem dX6_house_172 : decode cX6_house 172 = .ok (.iaload, 1) := by decide +kernel
theorem dX6_house_173 : decode cX6_house 173 = .ok (.iastore, 1) := by decide +kernel
theorem dX6_house_174 : decode cX6_house 174 = .ok (.iinc 1 1, 3) := by decide +kernel
theorem dX6_house_177 : decode cX6_house 177 = .ok (.goto (-21), 3) := by decide +kernel
theorem dX6_house_180 : decode cX6_house 180 = .ok (.aload_n 0, 1) := by decide +kernel
theorem dX6_house_181 : decode cX6_house 181 = .ok (.getfield 19, 3) := by decide +kernel
theorem dX6_house_184 : decode cX6_house 184 = .ok (.iconst 1, 1) := by decide +kernel
theorem dX6_house_185 : decode cX6_house 185 = .ok (.iaload, 1) := by decide +kernel
theorem dX6_house_186 : decode cX6_house 186 = .ok (.ireturn, 1) := by decide +kernel
theorem dX6_isThere_0 : decode cX6_isThere 0 = .ok (.aload_n 0, 1) := by decide +kernel
theorem dX6_isThere_1 : decode cX6_isThere 1 = .ok (.getfield 19, 3) := by decide +kernel
theorem dX6_isThere_4 : decode cX6_isThere 4 = .ok (.iconst 0, 1) := by decide +kernel
theorem dX6_isThere_5 : decode cX6_isThere 5 = .ok (.iaload, 1) := by decide +kernel
theorem dX6_isThere_6 : decode cX6_isThere 6 = .ok (.ifCond .le 7, 3) := by decide +kernel
theorem dX6_isThere_9 : decode cX6_isThere 9 = .ok (.iconst 1, 1) := by decide +kernel
theorem dX6_isThere_10 : decode cX6_isThere 10 = .ok (.goto 4, 3) := by decide +kernel
theorem dX6_isThere_13 : decode cX6_isThere 13 = .ok (.iconst 0, 1) := by decide +kernel
theorem dX6_isThere_14 : decode cX6_isThere 14 = .ok (.ireturn, 1) := by decide +kernel
set_option maxRecDepth 20000 in
theorem ggX6_isTube_X6_in : GoodIn wsX6_isTube wsX6_in := goodIn_r _ [5] rfl (by decide +kernel)
set_option maxRecDepth 20000 in
theorem gX6_isTube_X6_in : GoodIn wsX6_isTube (va_wsS RX6 57 yX6_in wsX6_in) := goodIn_app (goodIn_of _ (by decide +kernel)) ggX6_isTube_X6_in
theorem dX6_isTube_0 : decode cX6_isTube 0 = .ok (.iload_n 1, 1) := by decide +kernel
theorem dX6_isTube_1 : decode cX6_isTube 1 = .ok (.i2l, 1) := by decide +kernel
theorem dX6_isTube_2 : decode cX6_isTube 2 = .ok (.lconst 0, 1) := by decide +kernel
theorem dX6_isTube_3 : decode cX6_isTube 3 = .ok (.aload_n 0, 1) := by decide +kernel
theorem dX6_isTube_4 : decode cX6_isTube 4 = .ok (.getfield 19, 3) := by decide +kernel
theorem dX6_isTube_7 : decode cX6_isTube 7 = .ok (.iconst 1, 1) := by decide +kernel
theorem dX6_isTube_8 : decode cX6_isTube 8 = .ok (.iaload, 1) := by decide +kernel
theorem dX6_isTube_9 : decode cX6_isTube 9 = .ok (.iconst 1, 1) := by decide +kernel
theorem dX6_isTube_10 : decode cX6_isTube 10 = .ok (.isub, 1) := by decide +kernel
theorem dX6_isTube_11 : decode cX6_isTube 11 = .ok (.i2l, 1) := by decide +kernel
theorem dX6_isTube_12 : decode cX6_isTube 12 = .ok (.invokestatic 57, 3) := by decide +kernel
theorem dX6_isTube_15 : decode cX6_isTube 15 = .ok (.ireturn, 1) := by decide +kernel
set_option maxRecDepth 20000 in
theorem ggX6_isRoom_X6_in : GoodIn wsX6_isRoom wsX6_in := goodIn_r _ [5] rfl (by decide +kernel)
set_option maxRecDepth 20000 in
theorem gX6_isRoom_X6_in : GoodIn wsX6_isRoom (va_wsS RX6 57 yX6_in wsX6_in) := goodIn_app (goodIn_of _ (by decide +kernel)) ggX6_isRoom_X6_in
theorem dX6_isRoom_0 : decode cX6_isRoom 0 = .ok (.iload_n 1, 1) := by decide +kernel
theorem dX6_isRoom_1 : decode cX6_isRoom 1 = .ok (.i2l, 1) := by decide +kernel
theorem dX6_isRoom_2 : decode cX6_isRoom 2 = .ok (.lconst 0, 1) := by decide +kernel
theorem dX6_isRoom_3 : decode cX6_isRoom 3 = .ok (.aload_n 0, 1) := by decide +kernel
theorem dX6_isRoom_4 : decode cX6_isRoom 4 = .ok (.getfield 19, 3) := by decide +kernel
theorem dX6_isRoom_7 : decode cX6_isRoom 7 = .ok (.iconst 0, 1) := by decide +kernel
theorem dX6_isRoom_8 : decode cX6_isRoom 8 = .ok (.iaload, 1) := by decide +kernel
theorem dX6_isRoom_9 : decode cX6_isRoom 9 = .ok (.iconst 1, 1) := by decide +kernel
theorem dX6_isRoom_10 : decode cX6_isRoom 10 = .ok (.isub, 1) := by decide +kernel
theorem dX6_isRoom_11 : decode cX6_isRoom 11 = .ok (.i2l, 1) := by decide +kernel
theorem dX6_isRoom_12 : decode cX6_isRoom 12 = .ok (.invokestatic 57, 3) := by decide +kernel
theorem dX6_isRoom_15 : decode cX6_isRoom 15 = .ok (.ireturn, 1) := by decide +kernel
set_option maxRecDepth 20000 in
theorem ggX6_isPlace_X6_isThere : GoodIn wsX6_isPlace wsX6_isThere := goodIn_r _ [6, 1, 10, 11, 12, 13, 14, 15, 16, 17, 18, 19, 20, 21, 22, 23, 24, 25, 26, 27, 28, 29, 30, 31, 32, 33] rfl (by decide +kernel)
set_option maxRecDepth 20000 in
theorem gX6_isPlace_X6_isThere : GoodIn wsX6_isPlace (wsV RX6 152 RX6 yX6_isThere wsX6_isThere) := goodIn_app (goodIn_of _ (by decide +kernel)) ggX6_isPlace_X6_isThere
set_option maxRecDepth 20000 in
theorem ggX6_isPlace_X6_in : GoodIn wsX6_isPlace wsX6_in := goodIn_r _ [9] rfl (by decide +kernel)
set_option maxRecDepth 20000 in
theorem gX6_isPlace_X6_in : GoodIn wsX6_isPlace (va_wsS RX6 57 yX6_in wsX6_in) := goodIn_app (goodIn_of _ (by decide +kernel)) ggX6_isPlace_X6_in
theorem dX6_isPlace_0 : decode cX6_isPlace 0 = .ok (.aload_n 0, 1) := by decide +kernel
theorem dX6_isPlace_1 : decode cX6_isPlace 1 = .ok (.invokevirtual 152, 3) := by decide +kernel
theorem dX6_isPlace_4 : decode cX6_isPlace 4 = .ok (.ifCond .eq 23, 3) := by decide +kernel
theorem dX6_isPlace_7 : decode cX6_isPlace 7 = .ok (.iload_n 1, 1) := by decide +kernel
theorem dX6_isPlace_8 : decode cX6_isPlace 8 = .ok (.i2l, 1) := by decide +kernel
theorem dX6_isPlace_9 : decode cX6_isPlace 9 = .ok (.lconst 0, 1) := by decide +kernel
theorem dX6_isPlace_10 : decode cX6_isPlace 10 = .ok (.aload_n 0, 1) := by decide +kernel
theorem dX6_isPlace_11 : decode cX6_isPlace 11 = .ok (.getfield 19, 3) := by decide +kernel
theorem dX6_isPlace_14 : decode cX6_isPlace 14 = .ok (.iconst 0, 1) := by decide +kernel
theorem dX6_isPlace_15 : decode cX6_isPlace 15 = .ok (.iaload, 1) := by decide +kernel
theorem dX6_isPlace_16 : decode cX6_isPlace 16 = .ok (.i2l, 1) := by decide +kernel
theorem dX6_isPlace_17 : decode cX6_isPlace 17 = .ok (.invokestatic 57, 3) := by decide +kernel
theorem dX6_isPlace_20 : decode cX6_isPlace 20 = .ok (.ifCond .eq 7, 3) := by decide +kernel
theorem dX6_isPlace_23 : decode cX6_isPlace 23 = .ok (.iconst 1, 1) := by decide +kernel
theorem dX6_isPlace_24 : decode cX6_isPlace 24 = .ok (.goto 4, 3) := by decide +kernel
theorem dX6_isPlace_27 : decode cX6_isPlace 27 = .ok (.iconst 0, 1) := by decide +kernel
theorem dX6_isPlace_28 : decode cX6_isPlace 28 = .ok (.ireturn, 1) := by decide +kernel
theorem dX6_bits_0 : decode cX6_bits 0 = .ok (.iconst 0, 1) := by decide +kernel
theorem dX6_bits_1 : decode cX6_bits 1 = .ok (.istore_n 1, 1) := by decide +kernel
theorem dX6_bits_2 : decode cX6_bits 2 = .ok (.iconst 0, 1) := by decide +kernel
theorem dX6_bits_3 : decode cX6_bits 3 = .ok (.istore_n 2, 1) := by decide +kernel
theorem dX6_bits_4 : decode cX6_bits 4 = .ok (.iload_n 2, 1) := by decide +kernel
theorem dX6_bits_5 : decode cX6_bits 5 = .ok (.bipush 6, 2) := by decide +kernel
theorem dX6_bits_7 : decode cX6_bits 7 = .ok (.if_icmp .ge 17, 3) := by decide +kernel
theorem dX6_bits_10 : decode cX6_bits 10 = .ok (.iload_n 1, 1) := by decide +kernel
theorem dX6_bits_11 : decode cX6_bits 11 = .ok (.iload_n 0, 1) := by decide +kernel
theorem dX6_bits_12 : decode cX6_bits 12 = .ok (.iload_n 2, 1) := by decide +kernel
theorem dX6_bits_13 : decode cX6_bits 13 = .ok (.ishr, 1) := by decide +kernel
theorem dX6_bits_14 : decode cX6_bits 14 = .ok (.iconst 1, 1) := by decide +kernel
theorem dX6_bits_15 : decode cX6_bits 15 = .ok (.iand, 1) := by decide +kernel
theorem dX6_bits_16 : decode cX6_bits 16 = .ok (.iadd, 1) := by decide +kernel
theorem dX6_bits_17 : decode cX6_bits 17 = .ok (.istore_n 1, 1) := by decide +kernel
theorem dX6_bits_18 : decode cX6_bits 18 = .ok (.iinc 2 1, 3) := by decide +kernel
theorem dX6_bits_21 : decode cX6_bits 21 = .ok (.goto (-17), 3) := by decide +kernel
theorem dX6_bits_24 : decode cX6_bits 24 = .ok (.iload_n 1, 1) := by decide +kernel
theorem dX6_bits_25 : decode cX6_bits 25 = .ok (.ireturn, 1) := by decide +kernel
theorem dX6_has_0 : decode cX6_has 0 = .ok (.iload_n 0, 1) := by decide +kernel
theorem dX6_has_1 : decode cX6_has 1 = .ok (.iload_n 1, 1) := by decide +kernel
theorem dX6_has_2 : decode cX6_has 2 = .ok (.ishr, 1) := by decide +kernel
theorem dX6_has_3 : decode cX6_has 3 = .ok (.iconst 1, 1) := by decide +kernel
theorem dX6_has_4 : decode cX6_has 4 = .ok (.iand, 1) := by decide +kernel
theorem dX6_has_5 : decode cX6_has 5 = .ok (.iconst 1, 1) := by decide +kernel
theorem dX6_has_6 : decode cX6_has 6 = .ok (.if_icmp .ne 7, 3) := by decide +kernel
theorem dX6_has_9 : decode cX6_has 9 = .ok (.iconst 1, 1) := by decide +kernel
theorem dX6_has_10 : decode cX6_has 10 = .ok (.goto 4, 3) := by decide +kernel
theorem dX6_has_13 : decode cX6_has 13 = .ok (.iconst 0, 1) := by decide +kernel
theorem dX6_has_14 : decode cX6_has 14 = .ok (.ireturn, 1) := by decide +kernel
theorem dX6_of_0 : decode cX6_of 0 = .ok (.aload_n 0, 1) := by decide +kernel
theorem dX6_of_1 : decode cX6_of 1 = .ok (.bipush 15, 2) := by decide +kernel
theorem dX6_of_3 : decode cX6_of 3 = .ok (.iconst 5, 1) := by decide +kernel
theorem dX6_of_4 : decode cX6_of 4 = .ok (.iload_n 1, 1) := by decide +kernel
theorem dX6_of_5 : decode cX6_of 5 = .ok (.imul, 1) := by decide +kernel
theorem dX6_of_6 : decode cX6_of 6 = .ok (.iadd, 1) := by decide +kernel
theorem dX6_of_7 : decode cX6_of 7 = .ok (.iload_n 2, 1) := by decide +kernel
theorem dX6_of_8 : decode cX6_of 8 = .ok (.iadd, 1) := by decide +kernel
theorem dX6_of_9 : decode cX6_of 9 = .ok (.iaload, 1) := by decide +kernel
theorem dX6_of_10 : decode cX6_of 10 = .ok (.ireturn, 1) := by decide +kernel
theorem dX6_be_0 : decode cX6_be 0 = .ok (.aload_n 0, 1) := by decide +kernel
theorem dX6_be_1 : decode cX6_be 1 = .ok (.bipush 15, 2) := by decide +kernel
theorem dX6_be_3 : decode cX6_be 3 = .ok (.iconst 5, 1) := by decide +kernel
theorem dX6_be_4 : decode cX6_be 4 = .ok (.iload_n 1, 1) := by decide +kernel
theorem dX6_be_5 : decode cX6_be 5 = .ok (.imul, 1) := by decide +kernel
theorem dX6_be_6 : decode cX6_be 6 = .ok (.iadd, 1) := by decide +kernel
theorem dX6_be_7 : decode cX6_be 7 = .ok (.iload_n 2, 1) := by decide +kernel
theorem dX6_be_8 : decode cX6_be 8 = .ok (.iadd, 1) := by decide +kernel
theorem dX6_be_9 : decode cX6_be 9 = .ok (.iload_n 3, 1) := by decide +kernel
theorem dX6_be_10 : decode cX6_be 10 = .ok (.iastore, 1) := by decide +kernel
theorem dX6_be_11 : decode cX6_be 11 = .ok (.return_, 1) := by decide +kernel
theorem dX6_warmth_0 : decode cX6_warmth 0 = .ok (.aload_n 0, 1) := by decide +kernel
theorem dX6_warmth_1 : decode cX6_warmth 1 = .ok (.iconst 5, 1) := by decide +kernel
theorem dX6_warmth_2 : decode cX6_warmth 2 = .ok (.iconst 2, 1) := by decide +kernel
theorem dX6_warmth_3 : decode cX6_warmth 3 = .ok (.iload_n 1, 1) := by decide +kernel
theorem dX6_warmth_4 : decode cX6_warmth 4 = .ok (.imul, 1) := by decide +kernel
theorem dX6_warmth_5 : decode cX6_warmth 5 = .ok (.iadd, 1) := by decide +kernel
theorem dX6_warmth_6 : decode cX6_warmth 6 = .ok (.iaload, 1) := by decide +kernel
theorem dX6_warmth_7 : decode cX6_warmth 7 = .ok (.ireturn, 1) := by decide +kernel
set_option maxRecDepth 20000 in
theorem ggX6_isOut_X6_of : GoodIn wsX6_isOut wsX6_of := goodIn_r _ [4] rfl (by decide +kernel)
set_option maxRecDepth 20000 in
theorem gX6_isOut_X6_of : GoodIn wsX6_isOut (va_wsS RX6 155 yX6_of wsX6_of) := goodIn_app (goodIn_of _ (by decide +kernel)) ggX6_isOut_X6_of
theorem dX6_isOut_0 : decode cX6_isOut 0 = .ok (.aload_n 0, 1) := by decide +kernel
theorem dX6_isOut_1 : decode cX6_isOut 1 = .ok (.iload_n 1, 1) := by decide +kernel
theorem dX6_isOut_2 : decode cX6_isOut 2 = .ok (.iconst 1, 1) := by decide +kernel
theorem dX6_isOut_3 : decode cX6_isOut 3 = .ok (.invokestatic 155, 3) := by decide +kernel
theorem dX6_isOut_6 : decode cX6_isOut 6 = .ok (.aload_n 0, 1) := by decide +kernel
theorem dX6_isOut_7 : decode cX6_isOut 7 = .ok (.iconst 0, 1) := by decide +kernel
theorem dX6_isOut_8 : decode cX6_isOut 8 = .ok (.iaload, 1) := by decide +kernel
theorem dX6_isOut_9 : decode cX6_isOut 9 = .ok (.if_icmp .ne 7, 3) := by decide +kernel
theorem dX6_isOut_12 : decode cX6_isOut 12 = .ok (.iconst 1, 1) := by decide +kernel
theorem dX6_isOut_13 : decode cX6_isOut 13 = .ok (.goto 4, 3) := by decide +kernel
theorem dX6_isOut_16 : decode cX6_isOut 16 = .ok (.iconst 0, 1) := by decide +kernel
theorem dX6_isOut_17 : decode cX6_isOut 17 = .ok (.ireturn, 1) := by decide +kernel
set_option maxRecDepth 20000 in
theorem ggX6_isCold_X6_warmth : GoodIn wsX6_isCold wsX6_warmth := goodIn_r _ [4] rfl (by decide +kernel)
set_option maxRecDepth 20000 in
theorem gX6_isCold_X6_warmth : GoodIn wsX6_isCold (va_wsS RX6 159 yX6_warmth wsX6_warmth) := goodIn_app (goodIn_of _ (by decide +kernel)) ggX6_isCold_X6_warmth
theorem dX6_isCold_0 : decode cX6_isCold 0 = .ok (.aload_n 0, 1) := by decide +kernel
theorem dX6_isCold_1 : decode cX6_isCold 1 = .ok (.iload_n 1, 1) := by decide +kernel
theorem dX6_isCold_2 : decode cX6_isCold 2 = .ok (.invokestatic 159, 3) := by decide +kernel
theorem dX6_isCold_5 : decode cX6_isCold 5 = .ok (.aload_n 0, 1) := by decide +kernel
theorem dX6_isCold_6 : decode cX6_isCold 6 = .ok (.iconst 3, 1) := by decide +kernel
theorem dX6_isCold_7 : decode cX6_isCold 7 = .ok (.iaload, 1) := by decide +kernel
theorem dX6_isCold_8 : decode cX6_isCold 8 = .ok (.if_icmp .gt 7, 3) := by decide +kernel
theorem dX6_isCold_11 : decode cX6_isCold 11 = .ok (.iconst 1, 1) := by decide +kernel
theorem dX6_isCold_12 : decode cX6_isCold 12 = .ok (.goto 4, 3) := by decide +kernel
theorem dX6_isCold_15 : decode cX6_isCold 15 = .ok (.iconst 0, 1) := by decide +kernel
theorem dX6_isCold_16 : decode cX6_isCold 16 = .ok (.ireturn, 1) := by decide +kernel
set_option maxRecDepth 20000 in
theorem ggX6_wants_X6_of : GoodIn wsX6_wants wsX6_of := goodIn_r _ [4] rfl (by decide +kernel)
set_option maxRecDepth 20000 in
theorem gX6_wants_X6_of : GoodIn wsX6_wants (va_wsS RX6 155 yX6_of wsX6_of) := goodIn_app (goodIn_of _ (by decide +kernel)) ggX6_wants_X6_of
set_option maxRecDepth 20000 in
theorem ggX6_wants_X6_isOut : GoodIn wsX6_wants wsX6_isOut := goodIn_r _ [7, 1, 2, 3, 4] rfl (by decide +kernel)
set_option maxRecDepth 20000 in
theorem gX6_wants_X6_isOut : GoodIn wsX6_wants (va_wsS RX6 163 yX6_isOut wsX6_isOut) := goodIn_app (goodIn_of _ (by decide +kernel)) ggX6_wants_X6_isOut
set_option maxRecDepth 20000 in
theorem ggX6_wants_X6_isCold : GoodIn wsX6_wants wsX6_isCold := goodIn_r _ [10, 11, 12, 3, 13] rfl (by decide +kernel)
set_option maxRecDepth 20000 in
theorem gX6_wants_X6_isCold : GoodIn wsX6_wants (va_wsS RX6 167 yX6_isCold wsX6_isCold) := goodIn_app (goodIn_of _ (by decide +kernel)) ggX6_wants_X6_isCold
theorem dX6_wants_0 : decode cX6_wants 0 = .ok (.aload_n 0, 1) := by decide +kernel
theorem dX6_wants_1 : decode cX6_wants 1 = .ok (.iload_n 1, 1) := by decide +kernel
theorem dX6_wants_2 : decode cX6_wants 2 = .ok (.iconst 0, 1) := by decide +kernel
theorem dX6_wants_3 : decode cX6_wants 3 = .ok (.invokestatic 155, 3) := by decide +kernel
theorem dX6_wants_6 : decode cX6_wants 6 = .ok (.istore_n 2, 1) := by decide +kernel
theorem dX6_wants_7 : decode cX6_wants 7 = .ok (.aload_n 0, 1) := by decide +kernel
theorem dX6_wants_8 : decode cX6_wants 8 = .ok (.iload_n 1, 1) := by decide +kernel
theorem dX6_wants_9 : decode cX6_wants 9 = .ok (.iconst 2, 1) := by decide +kernel
theorem dX6_wants_10 : decode cX6_wants 10 = .ok (.invokestatic 155, 3) := by decide +kernel
theorem dX6_wants_13 : decode cX6_wants 13 = .ok (.istore_n 3, 1) := by decide +kernel
theorem dX6_wants_14 : decode cX6_wants 14 = .ok (.iload_n 2, 1) := by decide +kernel
theorem dX6_wants_15 : decode cX6_wants 15 = .ok (.tableswitch 53 1 3 #[25, 27, 39], 25) := by decide +kernel
theorem dX6_wants_40 : decode cX6_wants 40 = .ok (.iload_n 3, 1) := by decide +kernel
theorem dX6_wants_41 : decode cX6_wants 41 = .ok (.ireturn, 1) := by decide +kernel
theorem dX6_wants_42 : decode cX6_wants 42 = .ok (.iload_n 3, 1) := by decide +kernel
theorem dX6_wants_43 : decode cX6_wants 43 = .ok (.aload_n 0, 1) := by decide +kernel
theorem dX6_wants_44 : decode cX6_wants 44 = .ok (.iload_n 1, 1) := by decide +kernel
theorem dX6_wants_45 : decode cX6_wants 45 = .ok (.iconst 4, 1) := by decide +kernel
theorem dX6_wants_46 : decode cX6_wants 46 = .ok (.invokestatic 155, 3) := by decide +kernel
theorem dX6_wants_49 : decode cX6_wants 49 = .ok (.bipush 10, 2) := by decide +kernel
theorem dX6_wants_51 : decode cX6_wants 51 = .ok (.idiv, 1) := by decide +kernel
theorem dX6_wants_52 : decode cX6_wants 52 = .ok (.iadd, 1) := by decide +kernel
theorem dX6_wants_53 : decode cX6_wants 53 = .ok (.ireturn, 1) := by decide +kernel
theorem dX6_wants_54 : decode cX6_wants 54 = .ok (.aload_n 0, 1) := by decide +kernel
theorem dX6_wants_55 : decode cX6_wants 55 = .ok (.iconst 4, 1) := by decide +kernel
theorem dX6_wants_56 : decode cX6_wants 56 = .ok (.iaload, 1) := by decide +kernel
theorem dX6_wants_57 : decode cX6_wants 57 = .ok (.iconst 2, 1) := by decide +kernel
theorem dX6_wants_58 : decode cX6_wants 58 = .ok (.irem, 1) := by decide +kernel
theorem dX6_wants_59 : decode cX6_wants 59 = .ok (.ifCond .ne 7, 3) := by decide +kernel
theorem dX6_wants_62 : decode cX6_wants 62 = .ok (.iload_n 3, 1) := by decide +kernel
theorem dX6_wants_63 : decode cX6_wants 63 = .ok (.goto 4, 3) := by decide +kernel
theorem dX6_wants_66 : decode cX6_wants 66 = .ok (.iconst 0, 1) := by decide +kernel
theorem dX6_wants_67 : decode cX6_wants 67 = .ok (.ireturn, 1) := by decide +kernel
theorem dX6_wants_68 : decode cX6_wants 68 = .ok (.aload_n 0, 1) := by decide +kernel
theorem dX6_wants_69 : decode cX6_wants 69 = .ok (.iload_n 1, 1) := by decide +kernel
theorem dX6_wants_70 : decode cX6_wants 70 = .ok (.invokestatic 163, 3) := by decide +kernel
theorem dX6_wants_73 : decode cX6_wants 73 = .ok (.ifCond .ne 16, 3) := by decide +kernel
theorem dX6_wants_76 : decode cX6_wants 76 = .ok (.aload_n 0, 1) := by decide +kernel
theorem dX6_wants_77 : decode cX6_wants 77 = .ok (.aload_n 0, 1) := by decide +kernel
theorem dX6_wants_78 : decode cX6_wants 78 = .ok (.iload_n 1, 1) := by decide +kernel
theorem dX6_wants_79 : decode cX6_wants 79 = .ok (.iconst 1, 1) := by decide +kernel
theorem dX6_wants_80 : decode cX6_wants 80 = .ok (.invokestatic 155, 3) := by decide +kernel
theorem dX6_wants_83 : decode cX6_wants 83 = .ok (.invokestatic 167, 3) := by decide +kernel
theorem dX6_wants_86 : decode cX6_wants 86 = .ok (.ifCond .eq 7, 3) := by decide +kernel
theorem dX6_wants_89 : decode cX6_wants 89 = .ok (.iconst 0, 1) := by decide +kernel
theorem dX6_wants_90 : decode cX6_wants 90 = .ok (.goto 4, 3) := by decide +kernel
theorem dX6_wants_93 : decode cX6_wants 93 = .ok (.iload_n 3, 1) := by decide +kernel
theorem dX6_wants_94 : decode cX6_wants 94 = .ok (.ireturn, 1) := by decide +kernel
set_option maxRecDepth 20000 in
theorem ggX6_gives_X6_warmth : GoodIn wsX6_gives wsX6_warmth := goodIn_r _ [4] rfl (by decide +kernel)
set_option maxRecDepth 20000 in
theorem gX6_gives_X6_warmth : GoodIn wsX6_gives (va_wsS RX6 159 yX6_warmth wsX6_warmth) := goodIn_app (goodIn_of _ (by decide +kernel)) ggX6_gives_X6_warmth
theorem dX6_gives_0 : decode cX6_gives 0 = .ok (.iload_n 1, 1) := by decide +kernel
theorem dX6_gives_1 : decode cX6_gives 1 = .ok (.aload_n 0, 1) := by decide +kernel
theorem dX6_gives_2 : decode cX6_gives 2 = .ok (.iconst 0, 1) := by decide +kernel
theorem dX6_gives_3 : decode cX6_gives 3 = .ok (.iaload, 1) := by decide +kernel
theorem dX6_gives_4 : decode cX6_gives 4 = .ok (.if_icmp .ge 32, 3) := by decide +kernel
theorem dX6_gives_7 : decode cX6_gives 7 = .ok (.aload_n 0, 1) := by decide +kernel
theorem dX6_gives_8 : decode cX6_gives 8 = .ok (.iload_n 1, 1) := by decide +kernel
theorem dX6_gives_9 : decode cX6_gives 9 = .ok (.invokestatic 159, 3) := by decide +kernel
theorem dX6_gives_12 : decode cX6_gives 12 = .ok (.iload_n 2, 1) := by decide +kernel
theorem dX6_gives_13 : decode cX6_gives 13 = .ok (.iadd, 1) := by decide +kernel
theorem dX6_gives_14 : decode cX6_gives 14 = .ok (.istore_n 3, 1) := by decide +kernel
theorem dX6_gives_15 : decode cX6_gives 15 = .ok (.aload_n 0, 1) := by decide +kernel
theorem dX6_gives_16 : decode cX6_gives 16 = .ok (.iconst 5, 1) := by decide +kernel
theorem dX6_gives_17 : decode cX6_gives 17 = .ok (.iconst 2, 1) := by decide +kernel
theorem dX6_gives_18 : decode cX6_gives 18 = .ok (.iload_n 1, 1) := by decide +kernel
theorem dX6_gives_19 : decode cX6_gives 19 = .ok (.imul, 1) := by decide +kernel
theorem dX6_gives_20 : decode cX6_gives 20 = .ok (.iadd, 1) := by decide +kernel
theorem dX6_gives_21 : decode cX6_gives 21 = .ok (.iload_n 3, 1) := by decide +kernel
theorem dX6_gives_22 : decode cX6_gives 22 = .ok (.sipush 999, 3) := by decide +kernel
theorem dX6_gives_25 : decode cX6_gives 25 = .ok (.if_icmp .le 9, 3) := by decide +kernel
theorem dX6_gives_28 : decode cX6_gives 28 = .ok (.sipush 999, 3) := by decide +kernel
theorem dX6_gives_31 : decode cX6_gives 31 = .ok (.goto 4, 3) := by decide +kernel
theorem dX6_gives_34 : decode cX6_gives 34 = .ok (.iload_n 3, 1) := by decide +kernel
theorem dX6_gives_35 : decode cX6_gives 35 = .ok (.iastore, 1) := by decide +kernel
theorem dX6_gives_36 : decode cX6_gives 36 = .ok (.return_, 1) := by decide +kernel
set_option maxRecDepth 20000 in
theorem ggX6_minute_X6_of : GoodIn wsX6_minute wsX6_of := goodIn_r _ [4] rfl (by decide +kernel)
set_option maxRecDepth 20000 in
theorem gX6_minute_X6_of : GoodIn wsX6_minute (va_wsS RX6 155 yX6_of wsX6_of) := goodIn_app (goodIn_of _ (by decide +kernel)) ggX6_minute_X6_of
set_option maxRecDepth 20000 in
theorem ggX6_minute_X6_be : GoodIn wsX6_minute wsX6_be := goodIn_r _ [7] rfl (by decide +kernel)
set_option maxRecDepth 20000 in
theorem gX6_minute_X6_be : GoodIn wsX6_minute (va_wsS RX6 170 yX6_be wsX6_be) := goodIn_app (goodIn_of _ (by decide +kernel)) ggX6_minute_X6_be
set_option maxRecDepth 20000 in
theorem ggX6_minute_X6_gives : GoodIn wsX6_minute wsX6_gives := goodIn_r _ [10, 11, 12, 3, 13] rfl (by decide +kernel)
set_option maxRecDepth 20000 in
theorem gX6_minute_X6_gives : GoodIn wsX6_minute (va_wsS RX6 174 yX6_gives wsX6_gives) := goodIn_app (goodIn_of _ (by decide +kernel)) ggX6_minute_X6_gives
set_option maxRecDepth 20000 in
theorem ggX6_minute_X6_wants : GoodIn wsX6_minute wsX6_wants := goodIn_r _ [16, 1, 2, 3, 4, 17, 18, 19, 20, 21, 22, 11, 12, 13] rfl (by decide +kernel)
set_option maxRecDepth 20000 in
theorem gX6_minute_X6_wants : GoodIn wsX6_minute (va_wsS RX6 178 yX6_wants wsX6_wants) := goodIn_app (goodIn_of _ (by decide +kernel)) ggX6_minute_X6_wants
set_option maxRecDepth 20000 in
theorem ggX6_minute_X6_isOut : GoodIn wsX6_minute wsX6_isOut := goodIn_r _ [19, 1, 2, 3, 4] rfl (by decide +kernel)
set_option maxRecDepth 20000 in
theorem gX6_minute_X6_isOut : GoodIn wsX6_minute (va_wsS RX6 163 yX6_isOut wsX6_isOut) := goodIn_app (goodIn_of _ (by decide +kernel)) ggX6_minute_X6_isOut
set_option maxRecDepth 20000 in
theorem ggX6_minute_X6_warmth : GoodIn wsX6_minute wsX6_warmth := goodIn_r _ [13] rfl (by decide +kernel)
set_option maxRecDepth 20000 in
theorem gX6_minute_X6_warmth : GoodIn wsX6_minute (va_wsS RX6 159 yX6_warmth wsX6_warmth) := goodIn_app (goodIn_of _ (by decide +kernel)) ggX6_minute_X6_warmth
theorem dX6_minute_0 : decode cX6_minute 0 = .ok (.iconst 0, 1) := by decide +kernel
theorem dX6_minute_1 : decode cX6_minute 1 = .ok (.istore_n 1, 1) := by decide +kernel
theorem dX6_minute_2 : decode cX6_minute 2 = .ok (.iload_n 1, 1) := by decide +kernel
theorem dX6_minute_3 : decode cX6_minute 3 = .ok (.aload_n 0, 1) := by decide +kernel
theorem dX6_minute_4 : decode cX6_minute 4 = .ok (.iconst 1, 1) := by decide +kernel
theorem dX6_minute_5 : decode cX6_minute 5 = .ok (.iaload, 1) := by decide +kernel
theorem dX6_minute_6 : decode cX6_minute 6 = .ok (.if_icmp .ge 150, 3) := by decide +kernel
theorem dX6_minute_9 : decode cX6_minute 9 = .ok (.aload_n 0, 1) := by decide +kernel
theorem dX6_minute_10 : decode cX6_minute 10 = .ok (.iload_n 1, 1) := by decide +kernel
theorem dX6_minute_11 : decode cX6_minute 11 = .ok (.iconst 1, 1) := by decide +kernel
theorem dX6_minute_12 : decode cX6_minute 12 = .ok (.invokestatic 155, 3) := by decide +kernel
theorem dX6_minute_15 : decode cX6_minute 15 = .ok (.istore_n 2, 1) := by decide +kernel
theorem dX6_minute_16 : decode cX6_minute 16 = .ok (.aload_n 0, 1) := by decide +kernel
theorem dX6_minute_17 : decode cX6_minute 17 = .ok (.iload_n 1, 1) := by decide +kernel
theorem dX6_minute_18 : decode cX6_minute 18 = .ok (.iconst 0, 1) := by decide +kernel
theorem dX6_minute_19 : decode cX6_minute 19 = .ok (.invokestatic 155, 3) := by decide +kernel
theorem dX6_minute_22 : decode cX6_minute 22 = .ok (.iconst 5, 1) := by decide +kernel
theorem dX6_minute_23 : decode cX6_minute 23 = .ok (.if_icmp .ne 32, 3) := by decide +kernel
theorem dX6_minute_26 : decode cX6_minute 26 = .ok (.aload_n 0, 1) := by decide +kernel
theorem dX6_minute_27 : decode cX6_minute 27 = .ok (.iload_n 1, 1) := by decide +kernel
theorem dX6_minute_28 : decode cX6_minute 28 = .ok (.iconst 4, 1) := by decide +kernel
theorem dX6_minute_29 : decode cX6_minute 29 = .ok (.invokestatic 155, 3) := by decide +kernel
theorem dX6_minute_32 : decode cX6_minute 32 = .ok (.ifCond .le 23, 3) := by decide +kernel
theorem dX6_minute_35 : decode cX6_minute 35 = .ok (.aload_n 0, 1) := by decide +kernel
theorem dX6_minute_36 : decode cX6_minute 36 = .ok (.iload_n 1, 1) := by decide +kernel
theorem dX6_minute_37 : decode cX6_minute 37 = .ok (.iconst 4, 1) := by decide +kernel
theorem dX6_minute_38 : decode cX6_minute 38 = .ok (.aload_n 0, 1) := by decide +kernel
theorem dX6_minute_39 : decode cX6_minute 39 = .ok (.iload_n 1, 1) := by decide +kernel
theorem dX6_minute_40 : decode cX6_minute 40 = .ok (.iconst 4, 1) := by decide +kernel
theorem dX6_minute_41 : decode cX6_minute 41 = .ok (.invokestatic 155, 3) := by decide +kernel
theorem dX6_minute_44 : decode cX6_minute 44 = .ok (.iconst 1, 1) := by decide +kernel
theorem dX6_minute_45 : decode cX6_minute 45 = .ok (.isub, 1) := by decide +kernel
theorem dX6_minute_46 : decode cX6_minute 46 = .ok (.invokestatic 170, 3) := by decide +kernel
theorem dX6_minute_49 : decode cX6_minute 49 = .ok (.aload_n 0, 1) := by decide +kernel
theorem dX6_minute_50 : decode cX6_minute 50 = .ok (.iload_n 2, 1) := by decide +kernel
theorem dX6_minute_51 : decode cX6_minute 51 = .ok (.iconst 1, 1) := by decide +kernel
theorem dX6_minute_52 : decode cX6_minute 52 = .ok (.invokestatic 174, 3) := by decide +kernel
theorem dX6_minute_55 : decode cX6_minute 55 = .ok (.aload_n 0, 1) := by decide +kernel
theorem dX6_minute_56 : decode cX6_minute 56 = .ok (.iload_n 1, 1) := by decide +kernel
theorem dX6_minute_57 : decode cX6_minute 57 = .ok (.invokestatic 178, 3) := by decide +kernel
theorem dX6_minute_60 : decode cX6_minute 60 = .ok (.istore_n 3, 1) := by decide +kernel
theorem dX6_minute_61 : decode cX6_minute 61 = .ok (.aload_n 0, 1) := by decide +kernel
theorem dX6_minute_62 : decode cX6_minute 62 = .ok (.iload_n 1, 1) := by decide +kernel
theorem dX6_minute_63 : decode cX6_minute 63 = .ok (.iconst 3, 1) := by decide +kernel
theorem dX6_minute_64 : decode cX6_minute 64 = .ok (.invokestatic 155, 3) := by decide +kernel
theorem dX6_minute_67 : decode cX6_minute 67 = .ok (.aload_n 0, 1) := by decide +kernel
theorem dX6_minute_68 : decode cX6_minute 68 = .ok (.iload_n 1, 1) := by decide +kernel
theorem dX6_minute_69 : decode cX6_minute 69 = .ok (.iconst 4, 1) := by decide +kernel
theorem dX6_minute_70 : decode cX6_minute 70 = .ok (.invokestatic 155, 3) := by decide +kernel
theorem dX6_minute_73 : decode cX6_minute 73 = .ok (.isub, 1) := by decide +kernel
theorem dX6_minute_74 : decode cX6_minute 74 = .ok (.istore 4, 2) := by decide +kernel
theorem dX6_minute_76 : decode cX6_minute 76 = .ok (.aload_n 0, 1) := by decide +kernel
theorem dX6_minute_77 : decode cX6_minute 77 = .ok (.iload_n 1, 1) := by decide +kernel
theorem dX6_minute_78 : decode cX6_minute 78 = .ok (.invokestatic 163, 3) := by decide +kernel
theorem dX6_minute_81 : decode cX6_minute 81 = .ok (.ifCond .eq 7, 3) := by decide +kernel
theorem dX6_minute_84 : decode cX6_minute 84 = .ok (.iconst 0, 1) := by decide +kernel
theorem dX6_minute_85 : decode cX6_minute 85 = .ok (.goto 8, 3) := by decide +kernel
theorem dX6_minute_88 : decode cX6_minute 88 = .ok (.aload_n 0, 1) := by decide +kernel
theorem dX6_minute_89 : decode cX6_minute 89 = .ok (.iload_n 2, 1) := by decide +kernel
theorem dX6_minute_90 : decode cX6_minute 90 = .ok (.invokestatic 159, 3) := by decide +kernel
theorem dX6_minute_93 : decode cX6_minute 93 = .ok (.istore 5, 2) := by decide +kernel
theorem dX6_minute_95 : decode cX6_minute 95 = .ok (.iload_n 3, 1) := by decide +kernel
theorem dX6_minute_96 : decode cX6_minute 96 = .ok (.iload 4, 2) := by decide +kernel
theorem dX6_minute_98 : decode cX6_minute 98 = .ok (.if_icmp .le 8, 3) := by decide +kernel
theorem dX6_minute_101 : decode cX6_minute 101 = .ok (.iload 4, 2) := by decide +kernel
theorem dX6_minute_103 : decode cX6_minute 103 = .ok (.goto 4, 3) := by decide +kernel
theorem dX6_minute_106 : decode cX6_minute 106 = .ok (.iload_n 3, 1) := by decide +kernel
theorem dX6_minute_107 : decode cX6_minute 107 = .ok (.istore_n 3, 1) := by decide +kernel
theorem dX6_minute_108 : decode cX6_minute 108 = .ok (.iload_n 3, 1) := by decide +kernel
theorem dX6_minute_109 : decode cX6_minute 109 = .ok (.iload 5, 2) := by decide +kernel
theorem dX6_minute_111 : decode cX6_minute 111 = .ok (.if_icmp .le 8, 3) := by decide +kernel
theorem dX6_minute_114 : decode cX6_minute 114 = .ok (.iload 5, 2) := by decide +kernel
theorem dX6_minute_116 : decode cX6_minute 116 = .ok (.goto 4, 3) := by decide +kernel
theorem dX6_minute_119 : decode cX6_minute 119 = .ok (.iload_n 3, 1) := by decide +kernel
theorem dX6_minute_120 : decode cX6_minute 120 = .ok (.istore_n 3, 1) := by decide +kernel
theorem dX6_minute_121 : decode cX6_minute 121 = .ok (.iload_n 3, 1) := by decide +kernel
theorem dX6_minute_122 : decode cX6_minute 122 = .ok (.ifCond .le 28, 3) := by decide +kernel
theorem dX6_minute_125 : decode cX6_minute 125 = .ok (.aload_n 0, 1) := by decide +kernel
theorem dX6_minute_126 : decode cX6_minute 126 = .ok (.iconst 5, 1) := by decide +kernel
theorem dX6_minute_127 : decode cX6_minute 127 = .ok (.iconst 2, 1) := by decide +kernel
theorem dX6_minute_128 : decode cX6_minute 128 = .ok (.iload_n 2, 1) := by decide +kernel
theorem dX6_minute_129 : decode cX6_minute 129 = .ok (.imul, 1) := by decide +kernel
theorem dX6_minute_130 : decode cX6_minute 130 = .ok (.iadd, 1) := by decide +kernel
theorem dX6_minute_131 : decode cX6_minute 131 = .ok (.dup2, 1) := by decide +kernel
theorem dX6_minute_132 : decode cX6_minute 132 = .ok (.iaload, 1) := by decide +kernel
theorem dX6_minute_133 : decode cX6_minute 133 = .ok (.iload_n 3, 1) := by decide +kernel
theorem dX6_minute_134 : decode cX6_minute 134 = .ok (.isub, 1) := by decide +kernel
theorem dX6_minute_135 : decode cX6_minute 135 = .ok (.iastore, 1) := by decide +kernel
theorem dX6_minute_136 : decode cX6_minute 136 = .ok (.aload_n 0, 1) := by decide +kernel
theorem dX6_minute_137 : decode cX6_minute 137 = .ok (.iload_n 1, 1) := by decide +kernel
theorem dX6_minute_138 : decode cX6_minute 138 = .ok (.iconst 4, 1) := by decide +kernel
theorem dX6_minute_139 : decode cX6_minute 139 = .ok (.aload_n 0, 1) := by decide +kernel
theorem dX6_minute_140 : decode cX6_minute 140 = .ok (.iload_n 1, 1) := by decide +kernel
theorem dX6_minute_141 : decode cX6_minute 141 = .ok (.iconst 4, 1) := by decide +kernel
theorem dX6_minute_142 : decode cX6_minute 142 = .ok (.invokestatic 155, 3) := by decide +kernel
theorem dX6_minute_145 : decode cX6_minute 145 = .ok (.iload_n 3, 1) := by decide +kernel
theorem dX6_minute_146 : decode cX6_minute 146 = .ok (.iadd, 1) := by decide +kernel
theorem dX6_minute_147 : decode cX6_minute 147 = .ok (.invokestatic 170, 3) := by decide +kernel
theorem dX6_minute_150 : decode cX6_minute 150 = .ok (.iinc 1 1, 3) := by decide +kernel
theorem dX6_minute_153 : decode cX6_minute 153 = .ok (.goto (-151), 3) := by decide +kernel
theorem dX6_minute_156 : decode cX6_minute 156 = .ok (.iconst 0, 1) := by decide +kernel
theorem dX6_minute_157 : decode cX6_minute 157 = .ok (.istore_n 1, 1) := by decide +kernel
theorem dX6_minute_158 : decode cX6_minute 158 = .ok (.iload_n 1, 1) := by decide +kernel
theorem dX6_minute_159 : decode cX6_minute 159 = .ok (.aload_n 0, 1) := by decide +kernel
theorem dX6_minute_160 : decode cX6_minute 160 = .ok (.iconst 0, 1) := by decide +kernel
theorem dX6_minute_161 : decode cX6_minute 161 = .ok (.iaload, 1) := by decide +kernel
theorem dX6_minute_162 : decode cX6_minute 162 = .ok (.if_icmp .ge 49, 3) := by decide +kernel
theorem dX6_minute_165 : decode cX6_minute 165 = .ok (.aload_n 0, 1) := by decide +kernel
theorem dX6_minute_166 : decode cX6_minute 166 = .ok (.iload_n 1, 1) := by decide +kernel
theorem dX6_minute_167 : decode cX6_minute 167 = .ok (.invokestatic 159, 3) := by decide +kernel
theorem dX6_minute_170 : decode cX6_minute 170 = .ok (.aload_n 0, 1) := by decide +kernel
theorem dX6_minute_171 : decode cX6_minute 171 = .ok (.iconst 2, 1) := by decide +kernel
theorem dX6_minute_172 : decode cX6_minute 172 = .ok (.iaload, 1) := by decide +kernel
theorem dX6_minute_173 : decode cX6_minute 173 = .ok (.isub, 1) := by decide +kernel
theorem dX6_minute_174 : decode cX6_minute 174 = .ok (.istore_n 2, 1) := by decide +kernel
theorem dX6_minute_175 : decode cX6_minute 175 = .ok (.aload_n 0, 1) := by decide +kernel
theorem dX6_minute_176 : decode cX6_minute 176 = .ok (.iconst 5, 1) := by decide +kernel
theorem dX6_minute_177 : decode cX6_minute 177 = .ok (.iconst 2, 1) := by decide +kernel
theorem dX6_minute_178 : decode cX6_minute 178 = .ok (.iload_n 1, 1) := by decide +kernel
theorem dX6_minute_179 : decode cX6_minute 179 = .ok (.imul, 1) := by decide +kernel
theorem dX6_minute_180 : decode cX6_minute 180 = .ok (.iadd, 1) := by decide +kernel
theorem dX6_minute_181 : decode cX6_minute 181 = .ok (.iload_n 2, 1) := by decide +kernel
theorem dX6_minute_182 : decode cX6_minute 182 = .ok (.ifCond .ge 7, 3) := by decide +kernel
theorem dX6_minute_185 : decode cX6_minute 185 = .ok (.iconst 0, 1) := by decide +kernel
theorem dX6_minute_186 : decode cX6_minute 186 = .ok (.goto 4, 3) := by decide +kernel
theorem dX6_minute_189 : decode cX6_minute 189 = .ok (.iload_n 2, 1) := by decide +kernel
theorem dX6_minute_190 : decode cX6_minute 190 = .ok (.iastore, 1) := by decide +kernel
theorem dX6_minute_191 : decode cX6_minute 191 = .ok (.aload_n 0, 1) := by decide +kernel
theorem dX6_minute_192 : decode cX6_minute 192 = .ok (.iload_n 1, 1) := by decide +kernel
theorem dX6_minute_193 : decode cX6_minute 193 = .ok (.aload_n 0, 1) := by decide +kernel
theorem dX6_minute_194 : decode cX6_minute 194 = .ok (.iconst 5, 1) := by decide +kernel
theorem dX6_minute_195 : decode cX6_minute 195 = .ok (.iconst 2, 1) := by decide +kernel
theorem dX6_minute_196 : decode cX6_minute 196 = .ok (.iload_n 1, 1) := by decide +kernel
theorem dX6_minute_197 : decode cX6_minute 197 = .ok (.imul, 1) := by decide +kernel
theorem dX6_minute_198 : decode cX6_minute 198 = .ok (.iadd, 1) := by decide +kernel
theorem dX6_minute_199 : decode cX6_minute 199 = .ok (.iconst 1, 1) := by decide +kernel
theorem dX6_minute_200 : decode cX6_minute 200 = .ok (.iadd, 1) := by decide +kernel
theorem dX6_minute_201 : decode cX6_minute 201 = .ok (.iaload, 1) := by decide +kernel
theorem dX6_minute_202 : decode cX6_minute 202 = .ok (.invokestatic 174, 3) := by decide +kernel
theorem dX6_minute_205 : decode cX6_minute 205 = .ok (.iinc 1 1, 3) := by decide +kernel
theorem dX6_minute_208 : decode cX6_minute 208 = .ok (.goto (-50), 3) := by decide +kernel
theorem dX6_minute_211 : decode cX6_minute 211 = .ok (.aload_n 0, 1) := by decide +kernel
theorem dX6_minute_212 : decode cX6_minute 212 = .ok (.iconst 4, 1) := by decide +kernel
theorem dX6_minute_213 : decode cX6_minute 213 = .ok (.dup2, 1) := by decide +kernel
theorem dX6_minute_214 : decode cX6_minute 214 = .ok (.iaload, 1) := by decide +kernel
theorem dX6_minute_215 : decode cX6_minute 215 = .ok (.iconst 1, 1) := by decide +kernel
theorem dX6_minute_216 : decode cX6_minute 216 = .ok (.iadd, 1) := by decide +kernel
theorem dX6_minute_217 : decode cX6_minute 217 = .ok (.iastore, 1) := by decide +kernel
theorem dX6_minute_218 : decode cX6_minute 218 = .ok (.return_, 1) := by decide +kernel
set_option maxRecDepth 20000 in
theorem ggX6_minutesOf_X6_minute : GoodIn wsX6_minutesOf wsX6_minute := goodIn_r _ [4, 5, 6, 3, 7, 8, 9, 10, 11, 12, 13, 14, 15, 16, 17, 18, 19, 20, 21, 22, 23, 24, 25] rfl (by decide +kernel)
set_option maxRecDepth 20000 in
theorem gX6_minutesOf_X6_minute : GoodIn wsX6_minutesOf (va_wsS RX6 181 yX6_minute wsX6_minute) := goodIn_app (goodIn_of _ (by decide +kernel)) ggX6_minutesOf_X6_minute
theorem dX6_minutesOf_0 : decode cX6_minutesOf 0 = .ok (.iconst 0, 1) := by decide +kernel
theorem dX6_minutesOf_1 : decode cX6_minutesOf 1 = .ok (.istore_n 2, 1) := by decide +kernel
theorem dX6_minutesOf_2 : decode cX6_minutesOf 2 = .ok (.iload_n 2, 1) := by decide +kernel
theorem dX6_minutesOf_3 : decode cX6_minutesOf 3 = .ok (.iload_n 1, 1) := by decide +kernel
theorem dX6_minutesOf_4 : decode cX6_minutesOf 4 = .ok (.if_icmp .ge 13, 3) := by decide +kernel
theorem dX6_minutesOf_7 : decode cX6_minutesOf 7 = .ok (.aload_n 0, 1) := by decide +kernel
theorem dX6_minutesOf_8 : decode cX6_minutesOf 8 = .ok (.invokestatic 181, 3) := by decide +kernel
theorem dX6_minutesOf_11 : decode cX6_minutesOf 11 = .ok (.iinc 2 1, 3) := by decide +kernel
theorem dX6_minutesOf_14 : decode cX6_minutesOf 14 = .ok (.goto (-12), 3) := by decide +kernel
theorem dX6_minutesOf_17 : decode cX6_minutesOf 17 = .ok (.return_, 1) := by decide +kernel
set_option maxRecDepth 20000 in
theorem ggX6_colds_X6_isCold : GoodIn wsX6_colds wsX6_isCold := goodIn_r _ [4, 5, 6, 3, 7] rfl (by decide +kernel)
set_option maxRecDepth 20000 in
theorem gX6_colds_X6_isCold : GoodIn wsX6_colds (va_wsS RX6 167 yX6_isCold wsX6_isCold) := goodIn_app (goodIn_of _ (by decide +kernel)) ggX6_colds_X6_isCold
theorem dX6_colds_0 : decode cX6_colds 0 = .ok (.iconst 0, 1) := by decide +kernel
theorem dX6_colds_1 : decode cX6_colds 1 = .ok (.istore_n 1, 1) := by decide +kernel
theorem dX6_colds_2 : decode cX6_colds 2 = .ok (.iconst 0, 1) := by decide +kernel
theorem dX6_colds_3 : decode cX6_colds 3 = .ok (.istore_n 2, 1) := by decide +kernel
theorem dX6_colds_4 : decode cX6_colds 4 = .ok (.iload_n 2, 1) := by decide +kernel
theorem dX6_colds_5 : decode cX6_colds 5 = .ok (.aload_n 0, 1) := by decide +kernel
theorem dX6_colds_6 : decode cX6_colds 6 = .ok (.iconst 0, 1) := by decide +kernel
theorem dX6_colds_7 : decode cX6_colds 7 = .ok (.iaload, 1) := by decide +kernel
theorem dX6_colds_8 : decode cX6_colds 8 = .ok (.if_icmp .ge 27, 3) := by decide +kernel
theorem dX6_colds_11 : decode cX6_colds 11 = .ok (.iload_n 1, 1) := by decide +kernel
theorem dX6_colds_12 : decode cX6_colds 12 = .ok (.aload_n 0, 1) := by decide +kernel
theorem dX6_colds_13 : decode cX6_colds 13 = .ok (.iload_n 2, 1) := by decide +kernel
theorem dX6_colds_14 : decode cX6_colds 14 = .ok (.invokestatic 167, 3) := by decide +kernel
theorem dX6_colds_17 : decode cX6_colds 17 = .ok (.ifCond .eq 9, 3) := by decide +kernel
theorem dX6_colds_20 : decode cX6_colds 20 = .ok (.iconst 1, 1) := by decide +kernel
theorem dX6_colds_21 : decode cX6_colds 21 = .ok (.iload_n 2, 1) := by decide +kernel
theorem dX6_colds_22 : decode cX6_colds 22 = .ok (.ishl, 1) := by decide +kernel
theorem dX6_colds_23 : decode cX6_colds 23 = .ok (.goto 4, 3) := by decide +kernel
theorem dX6_colds_26 : decode cX6_colds 26 = .ok (.iconst 0, 1) := by decide +kernel
theorem dX6_colds_27 : decode cX6_colds 27 = .ok (.ior, 1) := by decide +kernel
theorem dX6_colds_28 : decode cX6_colds 28 = .ok (.istore_n 1, 1) := by decide +kernel
theorem dX6_colds_29 : decode cX6_colds 29 = .ok (.iinc 2 1, 3) := by decide +kernel
theorem dX6_colds_32 : decode cX6_colds 32 = .ok (.goto (-28), 3) := by decide +kernel
theorem dX6_colds_35 : decode cX6_colds 35 = .ok (.iload_n 1, 1) := by decide +kernel
theorem dX6_colds_36 : decode cX6_colds 36 = .ok (.ireturn, 1) := by decide +kernel
set_option maxRecDepth 20000 in
theorem ggX6_tubesIn_X6_of : GoodIn wsX6_tubesIn wsX6_of := goodIn_r _ [4] rfl (by decide +kernel)
set_option maxRecDepth 20000 in
theorem gX6_tubesIn_X6_of : GoodIn wsX6_tubesIn (va_wsS RX6 155 yX6_of wsX6_of) := goodIn_app (goodIn_of _ (by decide +kernel)) ggX6_tubesIn_X6_of
theorem dX6_tubesIn_0 : decode cX6_tubesIn 0 = .ok (.iconst 0, 1) := by decide +kernel
theorem dX6_tubesIn_1 : decode cX6_tubesIn 1 = .ok (.istore_n 2, 1) := by decide +kernel
theorem dX6_tubesIn_2 : decode cX6_tubesIn 2 = .ok (.iconst 0, 1) := by decide +kernel
theorem dX6_tubesIn_3 : decode cX6_tubesIn 3 = .ok (.istore_n 3, 1) := by decide +kernel
theorem dX6_tubesIn_4 : decode cX6_tubesIn 4 = .ok (.iload_n 3, 1) := by decide +kernel
theorem dX6_tubesIn_5 : decode cX6_tubesIn 5 = .ok (.aload_n 0, 1) := by decide +kernel
theorem dX6_tubesIn_6 : decode cX6_tubesIn 6 = .ok (.iconst 1, 1) := by decide +kernel
