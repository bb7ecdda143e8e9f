theorem dX6_pours_158 : decode cX6_pours 158 = .ok (.bipush 36, 2) := by decide +kernel
theorem dX6_pours_160 : decode cX6_pours 160 = .ok (.imul, 1) := by decide +kernel
theorem dX6_pours_161 : decode cX6_pours 161 = .ok (.istore 4, 2) := by decide +kernel
theorem dX6_pours_163 : decode cX6_pours 163 = .ok (.iinc 5 1, 3) := by decide +kernel
theorem dX6_pours_166 : decode cX6_pours 166 = .ok (.goto (-127), 3) := by decide +kernel
theorem dX6_pours_169 : decode cX6_pours 169 = .ok (.ldc 90, 2) := by decide +kernel
theorem dX6_pours_171 : decode cX6_pours 171 = .ok (.ireturn, 1) := by decide +kernel
set_option maxRecDepth 20000 in
theorem ggX6_mix_X6_isRoom : GoodIn wsX6_mix wsX6_isRoom := goodIn_r _ [11, 4, 12, 13, 10, 14, 44, 45, 46, 47, 48, 49, 50, 51, 52, 53, 54, 55, 56, 57, 58, 59, 60, 61, 62, 63, 64, 65, 66, 67] rfl (by decide +kernel)
set_option maxRecDepth 20000 in
theorem gX6_mix_X6_isRoom : GoodIn wsX6_mix (wsV RX6 213 RX6 yX6_isRoom wsX6_isRoom) := goodIn_app (goodIn_of _ (by decide +kernel)) ggX6_mix_X6_isRoom
set_option maxRecDepth 20000 in
theorem ggX6_mix_X6_in : GoodIn wsX6_mix wsX6_in := goodIn_r _ [14] rfl (by decide +kernel)
set_option maxRecDepth 20000 in
theorem gX6_mix_X6_in : GoodIn wsX6_mix (va_wsS RX6 57 yX6_in wsX6_in) := goodIn_app (goodIn_of _ (by decide +kernel)) ggX6_mix_X6_in
set_option maxRecDepth 20000 in
theorem ggX6_mix_X6_tubesIn : GoodIn wsX6_mix wsX6_tubesIn := goodIn_r _ [17, 18, 19, 10, 20] rfl (by decide +kernel)
set_option maxRecDepth 20000 in
theorem gX6_mix_X6_tubesIn : GoodIn wsX6_mix (va_wsS RX6 222 yX6_tubesIn wsX6_tubesIn) := goodIn_app (goodIn_of _ (by decide +kernel)) ggX6_mix_X6_tubesIn
set_option maxRecDepth 20000 in
theorem ggX6_mix_X6_layShaken : GoodIn wsX6_mix wsX6_layShaken := goodIn_r _ [24, 4, 6, 25, 26, 27, 10, 28, 29, 30, 31, 32, 33, 34, 18, 19, 20, 35, 36, 37, 38, 39, 40, 41, 42, 43, 44, 45, 46, 47, 48, 49, 50, 51, 52, 53, 54, 55, 56, 57, 58, 59, 60, 61, 62, 63, 64, 65, 66, 67] rfl (by decide +kernel)
set_option maxRecDepth 20000 in
theorem gX6_mix_X6_layShaken : GoodIn wsX6_mix (wsV RX6 247 RX6 yX6_layShaken wsX6_layShaken) := goodIn_app (goodIn_of _ (by decide +kernel)) ggX6_mix_X6_layShaken
set_option maxRecDepth 20000 in
theorem ggX6_mix_X6_warmth : GoodIn wsX6_mix wsX6_warmth := goodIn_r _ [40] rfl (by decide +kernel)
set_option maxRecDepth 20000 in
theorem gX6_mix_X6_warmth : GoodIn wsX6_mix (va_wsS RX6 159 yX6_warmth wsX6_warmth) := goodIn_app (goodIn_of _ (by decide +kernel)) ggX6_mix_X6_warmth
theorem dX6_mix_0 : decode cX6_mix 0 = .ok (.aload_n 0, 1) := by decide +kernel
theorem dX6_mix_1 : decode cX6_mix 1 = .ok (.iconst 0, 1) := by decide +kernel
theorem dX6_mix_2 : decode cX6_mix 2 = .ok (.putfield 47, 3) := by decide +kernel
theorem dX6_mix_5 : decode cX6_mix 5 = .ok (.aload_n 0, 1) := by decide +kernel
theorem dX6_mix_6 : decode cX6_mix 6 = .ok (.iload_n 1, 1) := by decide +kernel
theorem dX6_mix_7 : decode cX6_mix 7 = .ok (.invokevirtual 213, 3) := by decide +kernel
theorem dX6_mix_10 : decode cX6_mix 10 = .ok (.ifCond .eq 25, 3) := by decide +kernel
theorem dX6_mix_13 : decode cX6_mix 13 = .ok (.iload_n 2, 1) := by decide +kernel
theorem dX6_mix_14 : decode cX6_mix 14 = .ok (.i2l, 1) := by decide +kernel
theorem dX6_mix_15 : decode cX6_mix 15 = .ok (.lconst 0, 1) := by decide +kernel
theorem dX6_mix_16 : decode cX6_mix 16 = .ok (.ldc2_w 256, 3) := by decide +kernel
theorem dX6_mix_19 : decode cX6_mix 19 = .ok (.invokestatic 57, 3) := by decide +kernel
theorem dX6_mix_22 : decode cX6_mix 22 = .ok (.ifCond .eq 13, 3) := by decide +kernel
theorem dX6_mix_25 : decode cX6_mix 25 = .ok (.iload_n 3, 1) := by decide +kernel
theorem dX6_mix_26 : decode cX6_mix 26 = .ok (.i2l, 1) := by decide +kernel
theorem dX6_mix_27 : decode cX6_mix 27 = .ok (.lconst 0, 1) := by decide +kernel
theorem dX6_mix_28 : decode cX6_mix 28 = .ok (.lconst 1, 1) := by decide +kernel
theorem dX6_mix_29 : decode cX6_mix 29 = .ok (.invokestatic 57, 3) := by decide +kernel
theorem dX6_mix_32 : decode cX6_mix 32 = .ok (.ifCond .ne 6, 3) := by decide +kernel
theorem dX6_mix_35 : decode cX6_mix 35 = .ok (.ldc 67, 2) := by decide +kernel
theorem dX6_mix_37 : decode cX6_mix 37 = .ok (.ireturn, 1) := by decide +kernel
theorem dX6_mix_38 : decode cX6_mix 38 = .ok (.aload_n 0, 1) := by decide +kernel
theorem dX6_mix_39 : decode cX6_mix 39 = .ok (.getfield 19, 3) := by decide +kernel
theorem dX6_mix_42 : decode cX6_mix 42 = .ok (.iload_n 1, 1) := by decide +kernel
theorem dX6_mix_43 : decode cX6_mix 43 = .ok (.invokestatic 222, 3) := by decide +kernel
theorem dX6_mix_46 : decode cX6_mix 46 = .ok (.istore 4, 2) := by decide +kernel
theorem dX6_mix_48 : decode cX6_mix 48 = .ok (.iconst 0, 1) := by decide +kernel
theorem dX6_mix_49 : decode cX6_mix 49 = .ok (.istore 5, 2) := by decide +kernel
theorem dX6_mix_51 : decode cX6_mix 51 = .ok (.ldc 90, 2) := by decide +kernel
theorem dX6_mix_53 : decode cX6_mix 53 = .ok (.istore 6, 2) := by decide +kernel
theorem dX6_mix_55 : decode cX6_mix 55 = .ok (.iload 4, 2) := by decide +kernel
theorem dX6_mix_57 : decode cX6_mix 57 = .ok (.istore 7, 2) := by decide +kernel
theorem dX6_mix_59 : decode cX6_mix 59 = .ok (.iload 7, 2) := by decide +kernel
theorem dX6_mix_61 : decode cX6_mix 61 = .ok (.ifCond .lt 73, 3) := by decide +kernel
theorem dX6_mix_64 : decode cX6_mix 64 = .ok (.iload 7, 2) := by decide +kernel
theorem dX6_mix_66 : decode cX6_mix 66 = .ok (.iload 4, 2) := by decide +kernel
theorem dX6_mix_68 : decode cX6_mix 68 = .ok (.iconst (-1), 1) := by decide +kernel
theorem dX6_mix_69 : decode cX6_mix 69 = .ok (.ixor, 1) := by decide +kernel
theorem dX6_mix_70 : decode cX6_mix 70 = .ok (.iand, 1) := by decide +kernel
theorem dX6_mix_71 : decode cX6_mix 71 = .ok (.ifCond .ne 57, 3) := by decide +kernel
theorem dX6_mix_74 : decode cX6_mix 74 = .ok (.aload_n 0, 1) := by decide +kernel
theorem dX6_mix_75 : decode cX6_mix 75 = .ok (.iload 7, 2) := by decide +kernel
theorem dX6_mix_77 : decode cX6_mix 77 = .ok (.invokevirtual 247, 3) := by decide +kernel
theorem dX6_mix_80 : decode cX6_mix 80 = .ok (.aload_n 0, 1) := by decide +kernel
theorem dX6_mix_81 : decode cX6_mix 81 = .ok (.getfield 25, 3) := by decide +kernel
theorem dX6_mix_84 : decode cX6_mix 84 = .ok (.iload_n 1, 1) := by decide +kernel
theorem dX6_mix_85 : decode cX6_mix 85 = .ok (.invokestatic 159, 3) := by decide +kernel
theorem dX6_mix_88 : decode cX6_mix 88 = .ok (.iload_n 2, 1) := by decide +kernel
theorem dX6_mix_89 : decode cX6_mix 89 = .ok (.if_icmp .ne 7, 3) := by decide +kernel
theorem dX6_mix_92 : decode cX6_mix 92 = .ok (.iconst 1, 1) := by decide +kernel
theorem dX6_mix_93 : decode cX6_mix 93 = .ok (.goto 4, 3) := by decide +kernel
theorem dX6_mix_96 : decode cX6_mix 96 = .ok (.iconst 0, 1) := by decide +kernel
theorem dX6_mix_97 : decode cX6_mix 97 = .ok (.istore 8, 2) := by decide +kernel
theorem dX6_mix_99 : decode cX6_mix 99 = .ok (.iload 5, 2) := by decide +kernel
theorem dX6_mix_101 : decode cX6_mix 101 = .ok (.iload 8, 2) := by decide +kernel
theorem dX6_mix_103 : decode cX6_mix 103 = .ok (.ifCond .eq 7, 3) := by decide +kernel
theorem dX6_mix_106 : decode cX6_mix 106 = .ok (.iconst 1, 1) := by decide +kernel
theorem dX6_mix_107 : decode cX6_mix 107 = .ok (.goto 4, 3) := by decide +kernel
theorem dX6_mix_110 : decode cX6_mix 110 = .ok (.iconst 0, 1) := by decide +kernel
theorem dX6_mix_111 : decode cX6_mix 111 = .ok (.iadd, 1) := by decide +kernel
theorem dX6_mix_112 : decode cX6_mix 112 = .ok (.istore 5, 2) := by decide +kernel
theorem dX6_mix_114 : decode cX6_mix 114 = .ok (.iload 8, 2) := by decide +kernel
theorem dX6_mix_116 : decode cX6_mix 116 = .ok (.ifCond .eq 8, 3) := by decide +kernel
theorem dX6_mix_119 : decode cX6_mix 119 = .ok (.iload 7, 2) := by decide +kernel
theorem dX6_mix_121 : decode cX6_mix 121 = .ok (.goto 5, 3) := by decide +kernel
theorem dX6_mix_124 : decode cX6_mix 124 = .ok (.iload 6, 2) := by decide +kernel
theorem dX6_mix_126 : decode cX6_mix 126 = .ok (.istore 6, 2) := by decide +kernel
theorem dX6_mix_128 : decode cX6_mix 128 = .ok (.iinc 7 (-1), 3) := by decide +kernel
theorem dX6_mix_131 : decode cX6_mix 131 = .ok (.goto (-72), 3) := by decide +kernel
theorem dX6_mix_134 : decode cX6_mix 134 = .ok (.iload_n 3, 1) := by decide +kernel
theorem dX6_mix_135 : decode cX6_mix 135 = .ok (.ifCond .ne 8, 3) := by decide +kernel
theorem dX6_mix_138 : decode cX6_mix 138 = .ok (.iload 5, 2) := by decide +kernel
theorem dX6_mix_140 : decode cX6_mix 140 = .ok (.goto 5, 3) := by decide +kernel
theorem dX6_mix_143 : decode cX6_mix 143 = .ok (.iload 6, 2) := by decide +kernel
theorem dX6_mix_145 : decode cX6_mix 145 = .ok (.ireturn, 1) := by decide +kernel
set_option maxRecDepth 20000 in
theorem ggX6_degrees_X6_isThere : GoodIn wsX6_degrees wsX6_isThere := goodIn_r _ [8, 2, 21, 22, 23, 24, 25, 26, 27, 28, 29, 30, 31, 32, 33, 34, 35, 36, 37, 38, 39, 40, 41, 42, 43, 44] rfl (by decide +kernel)
set_option maxRecDepth 20000 in
theorem gX6_degrees_X6_isThere : GoodIn wsX6_degrees (wsV RX6 152 RX6 yX6_isThere wsX6_isThere) := goodIn_app (goodIn_of _ (by decide +kernel)) ggX6_degrees_X6_isThere
set_option maxRecDepth 20000 in
theorem ggX6_degrees_X6_degreesOf : GoodIn wsX6_degrees wsX6_degreesOf := goodIn_r _ [11, 12, 13, 7, 14, 15, 16, 17, 18, 19, 20] rfl (by decide +kernel)
set_option maxRecDepth 20000 in
theorem gX6_degrees_X6_degreesOf : GoodIn wsX6_degrees (va_wsS RX6 258 yX6_degreesOf wsX6_degreesOf) := goodIn_app (goodIn_of _ (by decide +kernel)) ggX6_degrees_X6_degreesOf
theorem dX6_degrees_0 : decode cX6_degrees 0 = .ok (.aload_n 0, 1) := by decide +kernel
theorem dX6_degrees_1 : decode cX6_degrees 1 = .ok (.iconst 0, 1) := by decide +kernel
theorem dX6_degrees_2 : decode cX6_degrees 2 = .ok (.putfield 47, 3) := by decide +kernel
theorem dX6_degrees_5 : decode cX6_degrees 5 = .ok (.aload_n 0, 1) := by decide +kernel
theorem dX6_degrees_6 : decode cX6_degrees 6 = .ok (.invokevirtual 152, 3) := by decide +kernel
theorem dX6_degrees_9 : decode cX6_degrees 9 = .ok (.ifCond .eq 13, 3) := by decide +kernel
theorem dX6_degrees_12 : decode cX6_degrees 12 = .ok (.aload_n 0, 1) := by decide +kernel
theorem dX6_degrees_13 : decode cX6_degrees 13 = .ok (.getfield 19, 3) := by decide +kernel
theorem dX6_degrees_16 : decode cX6_degrees 16 = .ok (.invokestatic 258, 3) := by decide +kernel
theorem dX6_degrees_19 : decode cX6_degrees 19 = .ok (.goto 5, 3) := by decide +kernel
theorem dX6_degrees_22 : decode cX6_degrees 22 = .ok (.ldc 189, 2) := by decide +kernel
theorem dX6_degrees_24 : decode cX6_degrees 24 = .ok (.ireturn, 1) := by decide +kernel
set_option maxRecDepth 20000 in
theorem ggX6_sale_X6_isTube : GoodIn wsX6_sale wsX6_isTube := goodIn_r _ [12, 13, 14, 15, 11, 16, 45, 46, 47, 48, 49, 50, 51, 52, 53, 54, 55, 56, 57, 58, 59, 60, 61, 62, 63, 64, 65, 66, 67, 68] rfl (by decide +kernel)
set_option maxRecDepth 20000 in
theorem gX6_sale_X6_isTube : GoodIn wsX6_sale (wsV RX6 198 RX6 yX6_isTube wsX6_isTube) := goodIn_app (goodIn_of _ (by decide +kernel)) ggX6_sale_X6_isTube
set_option maxRecDepth 20000 in
theorem ggX6_sale_X6_in : GoodIn wsX6_sale wsX6_in := goodIn_r _ [16] rfl (by decide +kernel)
set_option maxRecDepth 20000 in
theorem gX6_sale_X6_in : GoodIn wsX6_sale (va_wsS RX6 57 yX6_in wsX6_in) := goodIn_app (goodIn_of _ (by decide +kernel)) ggX6_sale_X6_in
set_option maxRecDepth 20000 in
theorem ggX6_sale_X6_layThen : GoodIn wsX6_sale wsX6_layThen := goodIn_r _ [20, 7, 13, 45, 46, 47, 48, 49, 50, 51, 52, 53, 54, 55, 56, 57, 58, 59, 60, 61, 62, 63, 64, 65, 66, 67, 68] rfl (by decide +kernel)
set_option maxRecDepth 20000 in
theorem gX6_sale_X6_layThen : GoodIn wsX6_sale (wsV RX6 207 RX6 yX6_layThen wsX6_layThen) := goodIn_app (goodIn_of _ (by decide +kernel)) ggX6_sale_X6_layThen
set_option maxRecDepth 20000 in
theorem ggX6_sale_X6_of : GoodIn wsX6_sale wsX6_of := goodIn_r _ [23] rfl (by decide +kernel)
set_option maxRecDepth 20000 in
theorem gX6_sale_X6_of : GoodIn wsX6_sale (va_wsS RX6 155 yX6_of wsX6_of) := goodIn_app (goodIn_of _ (by decide +kernel)) ggX6_sale_X6_of
set_option maxRecDepth 20000 in
theorem ggX6_sale_X6_minute : GoodIn wsX6_sale wsX6_minute := goodIn_r _ [26, 21, 22, 11, 23, 27, 28, 29, 30, 31, 32, 33, 34, 35, 36, 37, 38, 39, 40, 41, 42, 43, 44] rfl (by decide +kernel)
set_option maxRecDepth 20000 in
theorem gX6_sale_X6_minute : GoodIn wsX6_sale (va_wsS RX6 181 yX6_minute wsX6_minute) := goodIn_app (goodIn_of _ (by decide +kernel)) ggX6_sale_X6_minute
theorem dX6_sale_0 : decode cX6_sale 0 = .ok (.aload_n 0, 1) := by decide +kernel
theorem dX6_sale_1 : decode cX6_sale 1 = .ok (.iconst 0, 1) := by decide +kernel
theorem dX6_sale_2 : decode cX6_sale 2 = .ok (.putfield 47, 3) := by decide +kernel
theorem dX6_sale_5 : decode cX6_sale 5 = .ok (.aload_n 0, 1) := by decide +kernel
theorem dX6_sale_6 : decode cX6_sale 6 = .ok (.iload_n 1, 1) := by decide +kernel
theorem dX6_sale_7 : decode cX6_sale 7 = .ok (.invokevirtual 198, 3) := by decide +kernel
theorem dX6_sale_10 : decode cX6_sale 10 = .ok (.ifCond .eq 51, 3) := by decide +kernel
theorem dX6_sale_13 : decode cX6_sale 13 = .ok (.iload_n 2, 1) := by decide +kernel
theorem dX6_sale_14 : decode cX6_sale 14 = .ok (.i2l, 1) := by decide +kernel
theorem dX6_sale_15 : decode cX6_sale 15 = .ok (.lconst 1, 1) := by decide +kernel
theorem dX6_sale_16 : decode cX6_sale 16 = .ok (.ldc2_w 235, 3) := by decide +kernel
theorem dX6_sale_19 : decode cX6_sale 19 = .ok (.invokestatic 57, 3) := by decide +kernel
theorem dX6_sale_22 : decode cX6_sale 22 = .ok (.ifCond .eq 39, 3) := by decide +kernel
theorem dX6_sale_25 : decode cX6_sale 25 = .ok (.iload_n 3, 1) := by decide +kernel
theorem dX6_sale_26 : decode cX6_sale 26 = .ok (.i2l, 1) := by decide +kernel
theorem dX6_sale_27 : decode cX6_sale 27 = .ok (.lconst 1, 1) := by decide +kernel
theorem dX6_sale_28 : decode cX6_sale 28 = .ok (.ldc2_w 261, 3) := by decide +kernel
theorem dX6_sale_31 : decode cX6_sale 31 = .ok (.invokestatic 57, 3) := by decide +kernel
theorem dX6_sale_34 : decode cX6_sale 34 = .ok (.ifCond .eq 27, 3) := by decide +kernel
theorem dX6_sale_37 : decode cX6_sale 37 = .ok (.iload 4, 2) := by decide +kernel
theorem dX6_sale_39 : decode cX6_sale 39 = .ok (.i2l, 1) := by decide +kernel
theorem dX6_sale_40 : decode cX6_sale 40 = .ok (.lconst 0, 1) := by decide +kernel
theorem dX6_sale_41 : decode cX6_sale 41 = .ok (.ldc2_w 263, 3) := by decide +kernel
theorem dX6_sale_44 : decode cX6_sale 44 = .ok (.invokestatic 57, 3) := by decide +kernel
theorem dX6_sale_47 : decode cX6_sale 47 = .ok (.ifCond .eq 14, 3) := by decide +kernel
theorem dX6_sale_50 : decode cX6_sale 50 = .ok (.iload 5, 2) := by decide +kernel
theorem dX6_sale_52 : decode cX6_sale 52 = .ok (.i2l, 1) := by decide +kernel
theorem dX6_sale_53 : decode cX6_sale 53 = .ok (.lconst 0, 1) := by decide +kernel
theorem dX6_sale_54 : decode cX6_sale 54 = .ok (.lconst 1, 1) := by decide +kernel
theorem dX6_sale_55 : decode cX6_sale 55 = .ok (.invokestatic 57, 3) := by decide +kernel
theorem dX6_sale_58 : decode cX6_sale 58 = .ok (.ifCond .ne 6, 3) := by decide +kernel
theorem dX6_sale_61 : decode cX6_sale 61 = .ok (.ldc 67, 2) := by decide +kernel
theorem dX6_sale_63 : decode cX6_sale 63 = .ok (.ireturn, 1) := by decide +kernel
theorem dX6_sale_64 : decode cX6_sale 64 = .ok (.aload_n 0, 1) := by decide +kernel
theorem dX6_sale_65 : decode cX6_sale 65 = .ok (.invokevirtual 207, 3) := by decide +kernel
theorem dX6_sale_68 : decode cX6_sale 68 = .ok (.ldc 90, 2) := by decide +kernel
theorem dX6_sale_70 : decode cX6_sale 70 = .ok (.istore 6, 2) := by decide +kernel
theorem dX6_sale_72 : decode cX6_sale 72 = .ok (.ldc 90, 2) := by decide +kernel
theorem dX6_sale_74 : decode cX6_sale 74 = .ok (.istore 7, 2) := by decide +kernel
theorem dX6_sale_76 : decode cX6_sale 76 = .ok (.iconst 0, 1) := by decide +kernel
theorem dX6_sale_77 : decode cX6_sale 77 = .ok (.istore 8, 2) := by decide +kernel
theorem dX6_sale_79 : decode cX6_sale 79 = .ok (.iload 8, 2) := by decide +kernel
theorem dX6_sale_81 : decode cX6_sale 81 = .ok (.iload_n 2, 1) := by decide +kernel
theorem dX6_sale_82 : decode cX6_sale 82 = .ok (.if_icmp .gt 80, 3) := by decide +kernel
theorem dX6_sale_85 : decode cX6_sale 85 = .ok (.iload_n 3, 1) := by decide +kernel
theorem dX6_sale_86 : decode cX6_sale 86 = .ok (.iload 4, 2) := by decide +kernel
theorem dX6_sale_88 : decode cX6_sale 88 = .ok (.iload 8, 2) := by decide +kernel
theorem dX6_sale_90 : decode cX6_sale 90 = .ok (.imul, 1) := by decide +kernel
theorem dX6_sale_91 : decode cX6_sale 91 = .ok (.isub, 1) := by decide +kernel
theorem dX6_sale_92 : decode cX6_sale 92 = .ok (.istore 9, 2) := by decide +kernel
theorem dX6_sale_94 : decode cX6_sale 94 = .ok (.iload 9, 2) := by decide +kernel
theorem dX6_sale_96 : decode cX6_sale 96 = .ok (.ifCond .le 18, 3) := by decide +kernel
theorem dX6_sale_99 : decode cX6_sale 99 = .ok (.iload 9, 2) := by decide +kernel
theorem dX6_sale_101 : decode cX6_sale 101 = .ok (.aload_n 0, 1) := by decide +kernel
theorem dX6_sale_102 : decode cX6_sale 102 = .ok (.getfield 25, 3) := by decide +kernel
theorem dX6_sale_105 : decode cX6_sale 105 = .ok (.iload_n 1, 1) := by decide +kernel
theorem dX6_sale_106 : decode cX6_sale 106 = .ok (.iconst 4, 1) := by decide +kernel
theorem dX6_sale_107 : decode cX6_sale 107 = .ok (.invokestatic 155, 3) := by decide +kernel
theorem dX6_sale_110 : decode cX6_sale 110 = .ok (.imul, 1) := by decide +kernel
theorem dX6_sale_111 : decode cX6_sale 111 = .ok (.goto 4, 3) := by decide +kernel
theorem dX6_sale_114 : decode cX6_sale 114 = .ok (.iconst 0, 1) := by decide +kernel
theorem dX6_sale_115 : decode cX6_sale 115 = .ok (.istore 10, 2) := by decide +kernel
theorem dX6_sale_117 : decode cX6_sale 117 = .ok (.iload 10, 2) := by decide +kernel
theorem dX6_sale_119 : decode cX6_sale 119 = .ok (.iload 7, 2) := by decide +kernel
theorem dX6_sale_121 : decode cX6_sale 121 = .ok (.if_icmp .le 8, 3) := by decide +kernel
theorem dX6_sale_124 : decode cX6_sale 124 = .ok (.iload 8, 2) := by decide +kernel
theorem dX6_sale_126 : decode cX6_sale 126 = .ok (.goto 5, 3) := by decide +kernel
theorem dX6_sale_129 : decode cX6_sale 129 = .ok (.iload 6, 2) := by decide +kernel
theorem dX6_sale_131 : decode cX6_sale 131 = .ok (.istore 6, 2) := by decide +kernel
theorem dX6_sale_133 : decode cX6_sale 133 = .ok (.iload 10, 2) := by decide +kernel
theorem dX6_sale_135 : decode cX6_sale 135 = .ok (.iload 7, 2) := by decide +kernel
theorem dX6_sale_137 : decode cX6_sale 137 = .ok (.if_icmp .le 8, 3) := by decide +kernel
theorem dX6_sale_140 : decode cX6_sale 140 = .ok (.iload 10, 2) := by decide +kernel
theorem dX6_sale_142 : decode cX6_sale 142 = .ok (.goto 5, 3) := by decide +kernel
theorem dX6_sale_145 : decode cX6_sale 145 = .ok (.iload 7, 2) := by decide +kernel
theorem dX6_sale_147 : decode cX6_sale 147 = .ok (.istore 7, 2) := by decide +kernel
theorem dX6_sale_149 : decode cX6_sale 149 = .ok (.aload_n 0, 1) := by decide +kernel
theorem dX6_sale_150 : decode cX6_sale 150 = .ok (.getfield 25, 3) := by decide +kernel
theorem dX6_sale_153 : decode cX6_sale 153 = .ok (.invokestatic 181, 3) := by decide +kernel
theorem dX6_sale_156 : decode cX6_sale 156 = .ok (.iinc 8 1, 3) := by decide +kernel
theorem dX6_sale_159 : decode cX6_sale 159 = .ok (.goto (-80), 3) := by decide +kernel
theorem dX6_sale_162 : decode cX6_sale 162 = .ok (.iload 5, 2) := by decide +kernel
theorem dX6_sale_164 : decode cX6_sale 164 = .ok (.ifCond .ne 8, 3) := by decide +kernel
theorem dX6_sale_167 : decode cX6_sale 167 = .ok (.iload 6, 2) := by decide +kernel
theorem dX6_sale_169 : decode cX6_sale 169 = .ok (.goto 5, 3) := by decide +kernel
theorem dX6_sale_172 : decode cX6_sale 172 = .ok (.iload 7, 2) := by decide +kernel
theorem dX6_sale_174 : decode cX6_sale 174 = .ok (.ireturn, 1) := by decide +kernel
set_option maxRecDepth 20000 in
theorem ggX6_warmSo_X6_minute : GoodIn wsX6_warmSo wsX6_minute := goodIn_r _ [6, 7, 8, 5, 9, 10, 11, 12, 13, 14, 15, 16, 17, 18, 19, 20, 21, 22, 23, 24, 25, 26, 27] rfl (by decide +kernel)
set_option maxRecDepth 20000 in
theorem gX6_warmSo_X6_minute : GoodIn wsX6_warmSo (va_wsS RX6 181 yX6_minute wsX6_minute) := goodIn_app (goodIn_of _ (by decide +kernel)) ggX6_warmSo_X6_minute
set_option maxRecDepth 20000 in
theorem ggX6_warmSo_X6_warmth : GoodIn wsX6_warmSo wsX6_warmth := goodIn_r _ [18] rfl (by decide +kernel)
set_option maxRecDepth 20000 in
theorem gX6_warmSo_X6_warmth : GoodIn wsX6_warmSo (va_wsS RX6 159 yX6_warmth wsX6_warmth) := goodIn_app (goodIn_of _ (by decide +kernel)) ggX6_warmSo_X6_warmth
theorem dX6_warmSo_0 : decode cX6_warmSo 0 = .ok (.iconst 1, 1) := by decide +kernel
theorem dX6_warmSo_1 : decode cX6_warmSo 1 = .ok (.istore 4, 2) := by decide +kernel
theorem dX6_warmSo_3 : decode cX6_warmSo 3 = .ok (.iconst 0, 1) := by decide +kernel
theorem dX6_warmSo_4 : decode cX6_warmSo 4 = .ok (.istore 5, 2) := by decide +kernel
theorem dX6_warmSo_6 : decode cX6_warmSo 6 = .ok (.iload 5, 2) := by decide +kernel
theorem dX6_warmSo_8 : decode cX6_warmSo 8 = .ok (.iload_n 3, 1) := by decide +kernel
theorem dX6_warmSo_9 : decode cX6_warmSo 9 = .ok (.if_icmp .ge 48, 3) := by decide +kernel
theorem dX6_warmSo_12 : decode cX6_warmSo 12 = .ok (.aload_n 0, 1) := by decide +kernel
theorem dX6_warmSo_13 : decode cX6_warmSo 13 = .ok (.getfield 25, 3) := by decide +kernel
theorem dX6_warmSo_16 : decode cX6_warmSo 16 = .ok (.invokestatic 181, 3) := by decide +kernel
theorem dX6_warmSo_19 : decode cX6_warmSo 19 = .ok (.iload 4, 2) := by decide +kernel
theorem dX6_warmSo_21 : decode cX6_warmSo 21 = .ok (.ifCond .eq 27, 3) := by decide +kernel
theorem dX6_warmSo_24 : decode cX6_warmSo 24 = .ok (.aload_n 0, 1) := by decide +kernel
theorem dX6_warmSo_25 : decode cX6_warmSo 25 = .ok (.getfield 25, 3) := by decide +kernel
theorem dX6_warmSo_28 : decode cX6_warmSo 28 = .ok (.iload_n 1, 1) := by decide +kernel
theorem dX6_warmSo_29 : decode cX6_warmSo 29 = .ok (.invokestatic 159, 3) := by decide +kernel
theorem dX6_warmSo_32 : decode cX6_warmSo 32 = .ok (.aload_n 0, 1) := by decide +kernel
theorem dX6_warmSo_33 : decode cX6_warmSo 33 = .ok (.getfield 16, 3) := by decide +kernel
theorem dX6_warmSo_36 : decode cX6_warmSo 36 = .ok (.iload_n 2, 1) := by decide +kernel
theorem dX6_warmSo_37 : decode cX6_warmSo 37 = .ok (.iload 5, 2) := by decide +kernel
theorem dX6_warmSo_39 : decode cX6_warmSo 39 = .ok (.iadd, 1) := by decide +kernel
theorem dX6_warmSo_40 : decode cX6_warmSo 40 = .ok (.iaload, 1) := by decide +kernel
theorem dX6_warmSo_41 : decode cX6_warmSo 41 = .ok (.if_icmp .ne 7, 3) := by decide +kernel
theorem dX6_warmSo_44 : decode cX6_warmSo 44 = .ok (.iconst 1, 1) := by decide +kernel
theorem dX6_warmSo_45 : decode cX6_warmSo 45 = .ok (.goto 4, 3) := by decide +kernel
theorem dX6_warmSo_48 : decode cX6_warmSo 48 = .ok (.iconst 0, 1) := by decide +kernel
theorem dX6_warmSo_49 : decode cX6_warmSo 49 = .ok (.istore 4, 2) := by decide +kernel
theorem dX6_warmSo_51 : decode cX6_warmSo 51 = .ok (.iinc 5 1, 3) := by decide +kernel
theorem dX6_warmSo_54 : decode cX6_warmSo 54 = .ok (.goto (-48), 3) := by decide +kernel
theorem dX6_warmSo_57 : decode cX6_warmSo 57 = .ok (.iload 4, 2) := by decide +kernel
theorem dX6_warmSo_59 : decode cX6_warmSo 59 = .ok (.ireturn, 1) := by decide +kernel
set_option maxRecDepth 20000 in
theorem ggX6_rowFound_X6_finding : GoodIn wsX6_rowFound wsX6_finding := goodIn_r _ [8, 3, 9, 10, 11, 12, 13, 14, 15, 16, 17, 18, 19, 20, 21, 22, 23, 24, 25, 26, 27, 28, 29, 30, 31, 32, 33] rfl (by decide +kernel)
set_option maxRecDepth 20000 in
theorem gX6_rowFound_X6_finding : GoodIn wsX6_rowFound (wsV RX6 68 RX6 yX6_finding wsX6_finding) := goodIn_app (goodIn_of _ (by decide +kernel)) ggX6_rowFound_X6_finding
theorem dX6_rowFound_0 : decode cX6_rowFound 0 = .ok (.aload_n 0, 1) := by decide +kernel
theorem dX6_rowFound_1 : decode cX6_rowFound 1 = .ok (.getfield 7, 3) := by decide +kernel
theorem dX6_rowFound_4 : decode cX6_rowFound 4 = .ok (.iload_n 1, 1) := by decide +kernel
theorem dX6_rowFound_5 : decode cX6_rowFound 5 = .ok (.iaload, 1) := by decide +kernel
theorem dX6_rowFound_6 : decode cX6_rowFound 6 = .ok (.ifCond .ge 9, 3) := by decide +kernel
theorem dX6_rowFound_9 : decode cX6_rowFound 9 = .ok (.aload_n 0, 1) := by decide +kernel
theorem dX6_rowFound_10 : decode cX6_rowFound 10 = .ok (.iconst 1, 1) := by decide +kernel
theorem dX6_rowFound_11 : decode cX6_rowFound 11 = .ok (.invokevirtual 68, 3) := by decide +kernel
theorem dX6_rowFound_14 : decode cX6_rowFound 14 = .ok (.ireturn, 1) := by decide +kernel
theorem dX6_rowFound_15 : decode cX6_rowFound 15 = .ok (.iload_n 2, 1) := by decide +kernel
theorem dX6_rowFound_16 : decode cX6_rowFound 16 = .ok (.ifCond .lt 19, 3) := by decide +kernel
theorem dX6_rowFound_19 : decode cX6_rowFound 19 = .ok (.iload_n 2, 1) := by decide +kernel
theorem dX6_rowFound_20 : decode cX6_rowFound 20 = .ok (.i2l, 1) := by decide +kernel
theorem dX6_rowFound_21 : decode cX6_rowFound 21 = .ok (.iload_n 3, 1) := by decide +kernel
theorem dX6_rowFound_22 : decode cX6_rowFound 22 = .ok (.i2l, 1) := by decide +kernel
theorem dX6_rowFound_23 : decode cX6_rowFound 23 = .ok (.ladd, 1) := by decide +kernel
theorem dX6_rowFound_24 : decode cX6_rowFound 24 = .ok (.aload_n 0, 1) := by decide +kernel
theorem dX6_rowFound_25 : decode cX6_rowFound 25 = .ok (.getfield 13, 3) := by decide +kernel
theorem dX6_rowFound_28 : decode cX6_rowFound 28 = .ok (.iload_n 1, 1) := by decide +kernel
theorem dX6_rowFound_29 : decode cX6_rowFound 29 = .ok (.iaload, 1) := by decide +kernel
theorem dX6_rowFound_30 : decode cX6_rowFound 30 = .ok (.i2l, 1) := by decide +kernel
theorem dX6_rowFound_31 : decode cX6_rowFound 31 = .ok (.lcmp, 1) := by decide +kernel
theorem dX6_rowFound_32 : decode cX6_rowFound 32 = .ok (.ifCond .le 9, 3) := by decide +kernel
theorem dX6_rowFound_35 : decode cX6_rowFound 35 = .ok (.aload_n 0, 1) := by decide +kernel
theorem dX6_rowFound_36 : decode cX6_rowFound 36 = .ok (.iconst 2, 1) := by decide +kernel
theorem dX6_rowFound_37 : decode cX6_rowFound 37 = .ok (.invokevirtual 68, 3) := by decide +kernel
theorem dX6_rowFound_40 : decode cX6_rowFound 40 = .ok (.ireturn, 1) := by decide +kernel
theorem dX6_rowFound_41 : decode cX6_rowFound 41 = .ok (.aload_n 0, 1) := by decide +kernel
theorem dX6_rowFound_42 : decode cX6_rowFound 42 = .ok (.iconst 0, 1) := by decide +kernel
theorem dX6_rowFound_43 : decode cX6_rowFound 43 = .ok (.putfield 51, 3) := by decide +kernel
theorem dX6_rowFound_46 : decode cX6_rowFound 46 = .ok (.iconst 0, 1) := by decide +kernel
theorem dX6_rowFound_47 : decode cX6_rowFound 47 = .ok (.ireturn, 1) := by decide +kernel
set_option maxRecDepth 20000 in
theorem ggX6_who_X6_isTube : GoodIn wsX6_who wsX6_isTube := goodIn_r _ [11, 5, 12, 13, 10, 14, 68, 69, 70, 71, 72, 73, 74, 75, 76, 77, 78, 79, 80, 81, 82, 83, 84, 85, 86, 87, 88, 89, 90, 91] rfl (by decide +kernel)
set_option maxRecDepth 20000 in
theorem gX6_who_X6_isTube : GoodIn wsX6_who (wsV RX6 198 RX6 yX6_isTube wsX6_isTube) := goodIn_app (goodIn_of _ (by decide +kernel)) ggX6_who_X6_isTube
set_option maxRecDepth 20000 in
theorem ggX6_who_X6_in : GoodIn wsX6_who wsX6_in := goodIn_r _ [14] rfl (by decide +kernel)
set_option maxRecDepth 20000 in
theorem gX6_who_X6_in : GoodIn wsX6_who (va_wsS RX6 57 yX6_in wsX6_in) := goodIn_app (goodIn_of _ (by decide +kernel)) ggX6_who_X6_in
set_option maxRecDepth 20000 in
theorem ggX6_who_X6_isRoom : GoodIn wsX6_who wsX6_isRoom := goodIn_r _ [18, 5, 12, 13, 10, 14, 68, 69, 70, 71, 72, 73, 74, 75, 76, 77, 78, 79, 80, 81, 82, 83, 84, 85, 86, 87, 88, 89, 90, 91] rfl (by decide +kernel)
set_option maxRecDepth 20000 in
theorem gX6_who_X6_isRoom : GoodIn wsX6_who (wsV RX6 213 RX6 yX6_isRoom wsX6_isRoom) := goodIn_app (goodIn_of _ (by decide +kernel)) ggX6_who_X6_isRoom
set_option maxRecDepth 20000 in
theorem ggX6_who_X6_isRow : GoodIn wsX6_who wsX6_isRow := goodIn_r _ [21, 22, 12, 13, 10, 14] rfl (by decide +kernel)
set_option maxRecDepth 20000 in
theorem gX6_who_X6_isRow : GoodIn wsX6_who (va_wsS RX6 61 yX6_isRow wsX6_isRow) := goodIn_app (goodIn_of _ (by decide +kernel)) ggX6_who_X6_isRow
set_option maxRecDepth 20000 in
theorem ggX6_who_X6_rowFound : GoodIn wsX6_who wsX6_rowFound := goodIn_r _ [26, 27, 28, 29, 30, 31, 32, 10, 33, 34, 68, 69, 70, 71, 72, 73, 74, 75, 76, 77, 78, 79, 80, 81, 82, 83, 84, 85, 86, 87, 88, 89, 90, 91] rfl (by decide +kernel)
set_option maxRecDepth 20000 in
theorem gX6_who_X6_rowFound : GoodIn wsX6_who (wsV RX6 267 RX6 yX6_rowFound wsX6_rowFound) := goodIn_app (goodIn_of _ (by decide +kernel)) ggX6_who_X6_rowFound
set_option maxRecDepth 20000 in
theorem ggX6_who_X6_layThen : GoodIn wsX6_who wsX6_layThen := goodIn_r _ [38, 6, 5, 68, 69, 70, 71, 72, 73, 74, 75, 76, 77, 78, 79, 80, 81, 82, 83, 84, 85, 86, 87, 88, 89, 90, 91] rfl (by decide +kernel)
set_option maxRecDepth 20000 in
theorem gX6_who_X6_layThen : GoodIn wsX6_who (wsV RX6 207 RX6 yX6_layThen wsX6_layThen) := goodIn_app (goodIn_of _ (by decide +kernel)) ggX6_who_X6_layThen
set_option maxRecDepth 20000 in
theorem ggX6_who_X6_be : GoodIn wsX6_who wsX6_be := goodIn_r _ [41] rfl (by decide +kernel)
set_option maxRecDepth 20000 in
theorem gX6_who_X6_be : GoodIn wsX6_who (va_wsS RX6 170 yX6_be wsX6_be) := goodIn_app (goodIn_of _ (by decide +kernel)) ggX6_who_X6_be
set_option maxRecDepth 20000 in
theorem ggX6_who_X6_warmSo : GoodIn wsX6_who wsX6_warmSo := goodIn_r _ [45, 6, 46, 47, 48, 10, 49, 50, 51, 52, 39, 40, 41, 53, 54, 55, 56, 57, 58, 59, 60, 61, 62, 63, 64, 65, 66, 67, 68, 69, 70, 71, 72, 73, 74, 75, 76, 77, 78, 79, 80, 81, 82, 83, 84, 85, 86, 87, 88, 89, 90, 91] rfl (by decide +kernel)
set_option maxRecDepth 20000 in
theorem gX6_who_X6_warmSo : GoodIn wsX6_who (wsV RX6 271 RX6 yX6_warmSo wsX6_warmSo) := goodIn_app (goodIn_of _ (by decide +kernel)) ggX6_who_X6_warmSo
theorem dX6_who_0 : decode cX6_who 0 = .ok (.aload_n 0, 1) := by decide +kernel
theorem dX6_who_1 : decode cX6_who 1 = .ok (.iconst 0, 1) := by decide +kernel
theorem dX6_who_2 : decode cX6_who 2 = .ok (.putfield 47, 3) := by decide +kernel
theorem dX6_who_5 : decode cX6_who 5 = .ok (.aload_n 0, 1) := by decide +kernel
theorem dX6_who_6 : decode cX6_who 6 = .ok (.iload_n 1, 1) := by decide +kernel
theorem dX6_who_7 : decode cX6_who 7 = .ok (.invokevirtual 198, 3) := by decide +kernel
theorem dX6_who_10 : decode cX6_who 10 = .ok (.ifCond .eq 44, 3) := by decide +kernel
theorem dX6_who_13 : decode cX6_who 13 = .ok (.iload_n 2, 1) := by decide +kernel
theorem dX6_who_14 : decode cX6_who 14 = .ok (.i2l, 1) := by decide +kernel
theorem dX6_who_15 : decode cX6_who 15 = .ok (.lconst 0, 1) := by decide +kernel
theorem dX6_who_16 : decode cX6_who 16 = .ok (.ldc2_w 65, 3) := by decide +kernel
theorem dX6_who_19 : decode cX6_who 19 = .ok (.invokestatic 57, 3) := by decide +kernel
theorem dX6_who_22 : decode cX6_who 22 = .ok (.ifCond .eq 32, 3) := by decide +kernel
theorem dX6_who_25 : decode cX6_who 25 = .ok (.aload_n 0, 1) := by decide +kernel
theorem dX6_who_26 : decode cX6_who 26 = .ok (.iload_n 3, 1) := by decide +kernel
theorem dX6_who_27 : decode cX6_who 27 = .ok (.invokevirtual 213, 3) := by decide +kernel
theorem dX6_who_30 : decode cX6_who 30 = .ok (.ifCond .eq 24, 3) := by decide +kernel
theorem dX6_who_33 : decode cX6_who 33 = .ok (.iload 4, 2) := by decide +kernel
theorem dX6_who_35 : decode cX6_who 35 = .ok (.invokestatic 61, 3) := by decide +kernel
theorem dX6_who_38 : decode cX6_who 38 = .ok (.ifCond .eq 16, 3) := by decide +kernel
theorem dX6_who_41 : decode cX6_who 41 = .ok (.iload 6, 2) := by decide +kernel
theorem dX6_who_43 : decode cX6_who 43 = .ok (.i2l, 1) := by decide +kernel
theorem dX6_who_44 : decode cX6_who 44 = .ok (.lconst 1, 1) := by decide +kernel
theorem dX6_who_45 : decode cX6_who 45 = .ok (.ldc2_w 265, 3) := by decide +kernel
theorem dX6_who_48 : decode cX6_who 48 = .ok (.invokestatic 57, 3) := by decide +kernel
theorem dX6_who_51 : decode cX6_who 51 = .ok (.ifCond .ne 6, 3) := by decide +kernel
theorem dX6_who_54 : decode cX6_who 54 = .ok (.ldc 67, 2) := by decide +kernel
theorem dX6_who_56 : decode cX6_who 56 = .ok (.ireturn, 1) := by decide +kernel
theorem dX6_who_57 : decode cX6_who 57 = .ok (.aload_n 0, 1) := by decide +kernel
theorem dX6_who_58 : decode cX6_who 58 = .ok (.iload 4, 2) := by decide +kernel
theorem dX6_who_60 : decode cX6_who 60 = .ok (.iload 5, 2) := by decide +kernel
theorem dX6_who_62 : decode cX6_who 62 = .ok (.iload 6, 2) := by decide +kernel
theorem dX6_who_64 : decode cX6_who 64 = .ok (.invokevirtual 267, 3) := by decide +kernel
theorem dX6_who_67 : decode cX6_who 67 = .ok (.istore 7, 2) := by decide +kernel
theorem dX6_who_69 : decode cX6_who 69 = .ok (.iload 7, 2) := by decide +kernel
theorem dX6_who_71 : decode cX6_who 71 = .ok (.ifCond .eq 6, 3) := by decide +kernel
theorem dX6_who_74 : decode cX6_who 74 = .ok (.iload 7, 2) := by decide +kernel
theorem dX6_who_76 : decode cX6_who 76 = .ok (.ireturn, 1) := by decide +kernel
theorem dX6_who_77 : decode cX6_who 77 = .ok (.iconst 0, 1) := by decide +kernel
theorem dX6_who_78 : decode cX6_who 78 = .ok (.istore 8, 2) := by decide +kernel
theorem dX6_who_80 : decode cX6_who 80 = .ok (.iload_n 2, 1) := by decide +kernel
theorem dX6_who_81 : decode cX6_who 81 = .ok (.ifCond .ne 7, 3) := by decide +kernel
theorem dX6_who_84 : decode cX6_who 84 = .ok (.iconst 0, 1) := by decide +kernel
theorem dX6_who_85 : decode cX6_who 85 = .ok (.goto 13, 3) := by decide +kernel
theorem dX6_who_88 : decode cX6_who 88 = .ok (.iload_n 2, 1) := by decide +kernel
theorem dX6_who_89 : decode cX6_who 89 = .ok (.iconst 1, 1) := by decide +kernel
theorem dX6_who_90 : decode cX6_who 90 = .ok (.if_icmp .ne 7, 3) := by decide +kernel
theorem dX6_who_93 : decode cX6_who 93 = .ok (.iconst 2, 1) := by decide +kernel
theorem dX6_who_94 : decode cX6_who 94 = .ok (.goto 4, 3) := by decide +kernel
theorem dX6_who_97 : decode cX6_who 97 = .ok (.iconst 1, 1) := by decide +kernel
theorem dX6_who_98 : decode cX6_who 98 = .ok (.istore 9, 2) := by decide +kernel
theorem dX6_who_100 : decode cX6_who 100 = .ok (.iload_n 2, 1) := by decide +kernel
theorem dX6_who_101 : decode cX6_who 101 = .ok (.iconst 2, 1) := by decide +kernel
theorem dX6_who_102 : decode cX6_who 102 = .ok (.if_icmp .ne 7, 3) := by decide +kernel
theorem dX6_who_105 : decode cX6_who 105 = .ok (.iconst 0, 1) := by decide +kernel
theorem dX6_who_106 : decode cX6_who 106 = .ok (.goto 4, 3) := by decide +kernel
theorem dX6_who_109 : decode cX6_who 109 = .ok (.iconst 1, 1) := by decide +kernel
theorem dX6_who_110 : decode cX6_who 110 = .ok (.istore 10, 2) := by decide +kernel
theorem dX6_who_112 : decode cX6_who 112 = .ok (.iload 10, 2) := by decide +kernel
theorem dX6_who_114 : decode cX6_who 114 = .ok (.iload_n 2, 1) := by decide +kernel
theorem dX6_who_115 : decode cX6_who 115 = .ok (.ifCond .ne 7, 3) := by decide +kernel
theorem dX6_who_118 : decode cX6_who 118 = .ok (.iconst 5, 1) := by decide +kernel
theorem dX6_who_119 : decode cX6_who 119 = .ok (.goto 19, 3) := by decide +kernel
theorem dX6_who_122 : decode cX6_who 122 = .ok (.iload_n 2, 1) := by decide +kernel
theorem dX6_who_123 : decode cX6_who 123 = .ok (.iconst 1, 1) := by decide +kernel
theorem dX6_who_124 : decode cX6_who 124 = .ok (.if_icmp .ne 8, 3) := by decide +kernel
theorem dX6_who_127 : decode cX6_who 127 = .ok (.bipush 9, 2) := by decide +kernel
theorem dX6_who_129 : decode cX6_who 129 = .ok (.goto 9, 3) := by decide +kernel
theorem dX6_who_132 : decode cX6_who 132 = .ok (.aload_n 0, 1) := by decide +kernel
theorem dX6_who_133 : decode cX6_who 133 = .ok (.getfield 19, 3) := by decide +kernel
theorem dX6_who_136 : decode cX6_who 136 = .ok (.iconst 0, 1) := by decide +kernel
theorem dX6_who_137 : decode cX6_who 137 = .ok (.iaload, 1) := by decide +kernel
theorem dX6_who_138 : decode cX6_who 138 = .ok (.if_icmp .gt 56, 3) := by decide +kernel
theorem dX6_who_141 : decode cX6_who 141 = .ok (.aload_n 0, 1) := by decide +kernel
theorem dX6_who_142 : decode cX6_who 142 = .ok (.invokevirtual 207, 3) := by decide +kernel
theorem dX6_who_145 : decode cX6_who 145 = .ok (.aload_n 0, 1) := by decide +kernel
theorem dX6_who_146 : decode cX6_who 146 = .ok (.getfield 25, 3) := by decide +kernel
theorem dX6_who_149 : decode cX6_who 149 = .ok (.iload_n 1, 1) := by decide +kernel
theorem dX6_who_150 : decode cX6_who 150 = .ok (.iload 9, 2) := by decide +kernel
theorem dX6_who_152 : decode cX6_who 152 = .ok (.iload 10, 2) := by decide +kernel
theorem dX6_who_154 : decode cX6_who 154 = .ok (.invokestatic 170, 3) := by decide +kernel
theorem dX6_who_157 : decode cX6_who 157 = .ok (.iload 8, 2) := by decide +kernel
theorem dX6_who_159 : decode cX6_who 159 = .ok (.aload_n 0, 1) := by decide +kernel
theorem dX6_who_160 : decode cX6_who 160 = .ok (.iload_n 3, 1) := by decide +kernel
theorem dX6_who_161 : decode cX6_who 161 = .ok (.bipush 40, 2) := by decide +kernel
theorem dX6_who_163 : decode cX6_who 163 = .ok (.iload 4, 2) := by decide +kernel
theorem dX6_who_165 : decode cX6_who 165 = .ok (.imul, 1) := by decide +kernel
theorem dX6_who_166 : decode cX6_who 166 = .ok (.iload 5, 2) := by decide +kernel
theorem dX6_who_168 : decode cX6_who 168 = .ok (.iadd, 1) := by decide +kernel
theorem dX6_who_169 : decode cX6_who 169 = .ok (.iload 6, 2) := by decide +kernel
theorem dX6_who_171 : decode cX6_who 171 = .ok (.invokevirtual 271, 3) := by decide +kernel
theorem dX6_who_174 : decode cX6_who 174 = .ok (.ifCond .eq 10, 3) := by decide +kernel
theorem dX6_who_177 : decode cX6_who 177 = .ok (.iconst 1, 1) := by decide +kernel
theorem dX6_who_178 : decode cX6_who 178 = .ok (.iload 10, 2) := by decide +kernel
theorem dX6_who_180 : decode cX6_who 180 = .ok (.ishl, 1) := by decide +kernel
theorem dX6_who_181 : decode cX6_who 181 = .ok (.goto 4, 3) := by decide +kernel
theorem dX6_who_184 : decode cX6_who 184 = .ok (.iconst 0, 1) := by decide +kernel
theorem dX6_who_185 : decode cX6_who 185 = .ok (.ior, 1) := by decide +kernel
theorem dX6_who_186 : decode cX6_who 186 = .ok (.istore 8, 2) := by decide +kernel
theorem dX6_who_188 : decode cX6_who 188 = .ok (.iinc 10 1, 3) := by decide +kernel
theorem dX6_who_191 : decode cX6_who 191 = .ok (.goto (-79), 3) := by decide +kernel
theorem dX6_who_194 : decode cX6_who 194 = .ok (.iload 8, 2) := by decide +kernel
theorem dX6_who_196 : decode cX6_who 196 = .ok (.ireturn, 1) := by decide +kernel
set_option maxRecDepth 20000 in
theorem ggX6_frosts_X6_isRoom : GoodIn wsX6_frosts wsX6_isRoom := goodIn_r _ [10, 5, 11, 12, 9, 13, 73, 74, 75, 76, 77, 78, 79, 80, 81, 82, 83, 84, 85, 86, 87, 88, 89, 90, 91, 92, 93, 94, 95, 96] rfl (by decide +kernel)
set_option maxRecDepth 20000 in
theorem gX6_frosts_X6_isRoom : GoodIn wsX6_frosts (wsV RX6 213 RX6 yX6_isRoom wsX6_isRoom) := goodIn_app (goodIn_of _ (by decide +kernel)) ggX6_frosts_X6_isRoom
set_option maxRecDepth 20000 in
theorem ggX6_frosts_X6_in : GoodIn wsX6_frosts wsX6_in := goodIn_r _ [13] rfl (by decide +kernel)
set_option maxRecDepth 20000 in
theorem gX6_frosts_X6_in : GoodIn wsX6_frosts (va_wsS RX6 57 yX6_in wsX6_in) := goodIn_app (goodIn_of _ (by decide +kernel)) ggX6_frosts_X6_in
set_option maxRecDepth 20000 in
theorem ggX6_frosts_X6_isRow : GoodIn wsX6_frosts wsX6_isRow := goodIn_r _ [16, 17, 11, 12, 9, 13] rfl (by decide +kernel)
set_option maxRecDepth 20000 in
theorem gX6_frosts_X6_isRow : GoodIn wsX6_frosts (va_wsS RX6 61 yX6_isRow wsX6_isRow) := goodIn_app (goodIn_of _ (by decide +kernel)) ggX6_frosts_X6_isRow
set_option maxRecDepth 20000 in
theorem ggX6_frosts_X6_rowFound : GoodIn wsX6_frosts wsX6_rowFound := goodIn_r _ [21, 22, 23, 24, 25, 26, 27, 9, 28, 29, 73, 74, 75, 76, 77, 78, 79, 80, 81, 82, 83, 84, 85, 86, 87, 88, 89, 90, 91, 92, 93, 94, 95, 96] rfl (by decide +kernel)
set_option maxRecDepth 20000 in
theorem gX6_frosts_X6_rowFound : GoodIn wsX6_frosts (wsV RX6 267 RX6 yX6_rowFound wsX6_rowFound) := goodIn_app (goodIn_of _ (by decide +kernel)) ggX6_frosts_X6_rowFound
set_option maxRecDepth 20000 in
theorem ggX6_frosts_X6_layThen : GoodIn wsX6_frosts wsX6_layThen := goodIn_r _ [33, 4, 5, 73, 74, 75, 76, 77, 78, 79, 80, 81, 82, 83, 84, 85, 86, 87, 88, 89, 90, 91, 92, 93, 94, 95, 96] rfl (by decide +kernel)
set_option maxRecDepth 20000 in
theorem gX6_frosts_X6_layThen : GoodIn wsX6_frosts (wsV RX6 207 RX6 yX6_layThen wsX6_layThen) := goodIn_app (goodIn_of _ (by decide +kernel)) ggX6_frosts_X6_layThen
set_option maxRecDepth 20000 in
theorem ggX6_frosts_X6_warmSo : GoodIn wsX6_frosts wsX6_warmSo := goodIn_r _ [37, 4, 38, 39, 40, 9, 41, 42, 43, 44, 45, 46, 47, 48, 49, 50, 51, 52, 53, 54, 55, 56, 57, 58, 59, 60, 61, 62, 73, 74, 75, 76, 77, 78, 79, 80, 81, 82, 83, 84, 85, 86, 87, 88, 89, 90, 91, 92, 93, 94, 95, 96] rfl (by decide +kernel)
set_option maxRecDepth 20000 in
theorem gX6_frosts_X6_warmSo : GoodIn wsX6_frosts (wsV RX6 271 RX6 yX6_warmSo wsX6_warmSo) := goodIn_app (goodIn_of _ (by decide +kernel)) ggX6_frosts_X6_warmSo
set_option maxRecDepth 20000 in
theorem ggX6_frosts_X6_layShaken : GoodIn wsX6_frosts wsX6_layShaken := goodIn_r _ [66, 5, 4, 30, 31, 32, 9, 33, 67, 68, 69, 70, 71, 72, 42, 43, 44, 48, 49, 50, 51, 52, 53, 45, 46, 47, 73, 74, 75, 76, 77, 78, 79, 80, 81, 82, 83, 84, 85, 86, 87, 88, 89, 90, 91, 92, 93, 94, 95, 96] rfl (by decide +kernel)
set_option maxRecDepth 20000 in
theorem gX6_frosts_X6_layShaken : GoodIn wsX6_frosts (wsV RX6 247 RX6 yX6_layShaken wsX6_layShaken) := goodIn_app (goodIn_of _ (by decide +kernel)) ggX6_frosts_X6_layShaken
theorem dX6_frosts_0 : decode cX6_frosts 0 = .ok (.aload_n 0, 1) := by decide +kernel
theorem dX6_frosts_1 : decode cX6_frosts 1 = .ok (.iconst 0, 1) := by decide +kernel
theorem dX6_frosts_2 : decode cX6_frosts 2 = .ok (.putfield 47, 3) := by decide +kernel
theorem dX6_frosts_5 : decode cX6_frosts 5 = .ok (.aload_n 0, 1) := by decide +kernel
theorem dX6_frosts_6 : decode cX6_frosts 6 = .ok (.iload_n 1, 1) := by decide +kernel
theorem dX6_frosts_7 : decode cX6_frosts 7 = .ok (.invokevirtual 213, 3) := by decide +kernel
theorem dX6_frosts_10 : decode cX6_frosts 10 = .ok (.ifCond .eq 33, 3) := by decide +kernel
theorem dX6_frosts_13 : decode cX6_frosts 13 = .ok (.iload_n 2, 1) := by decide +kernel
theorem dX6_frosts_14 : decode cX6_frosts 14 = .ok (.i2l, 1) := by decide +kernel
theorem dX6_frosts_15 : decode cX6_frosts 15 = .ok (.lconst 0, 1) := by decide +kernel
theorem dX6_frosts_16 : decode cX6_frosts 16 = .ok (.lconst 1, 1) := by decide +kernel
theorem dX6_frosts_17 : decode cX6_frosts 17 = .ok (.invokestatic 57, 3) := by decide +kernel
theorem dX6_frosts_20 : decode cX6_frosts 20 = .ok (.ifCond .eq 23, 3) := by decide +kernel
theorem dX6_frosts_23 : decode cX6_frosts 23 = .ok (.iload_n 3, 1) := by decide +kernel
theorem dX6_frosts_24 : decode cX6_frosts 24 = .ok (.invokestatic 61, 3) := by decide +kernel
theorem dX6_frosts_27 : decode cX6_frosts 27 = .ok (.ifCond .eq 16, 3) := by decide +kernel
theorem dX6_frosts_30 : decode cX6_frosts 30 = .ok (.iload 5, 2) := by decide +kernel
theorem dX6_frosts_32 : decode cX6_frosts 32 = .ok (.i2l, 1) := by decide +kernel
theorem dX6_frosts_33 : decode cX6_frosts 33 = .ok (.lconst 1, 1) := by decide +kernel
theorem dX6_frosts_34 : decode cX6_frosts 34 = .ok (.ldc2_w 265, 3) := by decide +kernel
theorem dX6_frosts_37 : decode cX6_frosts 37 = .ok (.invokestatic 57, 3) := by decide +kernel
theorem dX6_frosts_40 : decode cX6_frosts 40 = .ok (.ifCond .ne 6, 3) := by decide +kernel
theorem dX6_frosts_43 : decode cX6_frosts 43 = .ok (.ldc 67, 2) := by decide +kernel
theorem dX6_frosts_45 : decode cX6_frosts 45 = .ok (.ireturn, 1) := by decide +kernel
theorem dX6_frosts_46 : decode cX6_frosts 46 = .ok (.aload_n 0, 1) := by decide +kernel
theorem dX6_frosts_47 : decode cX6_frosts 47 = .ok (.iload_n 3, 1) := by decide +kernel
theorem dX6_frosts_48 : decode cX6_frosts 48 = .ok (.iload 4, 2) := by decide +kernel
theorem dX6_frosts_50 : decode cX6_frosts 50 = .ok (.iload 5, 2) := by decide +kernel
theorem dX6_frosts_52 : decode cX6_frosts 52 = .ok (.invokevirtual 267, 3) := by decide +kernel
theorem dX6_frosts_55 : decode cX6_frosts 55 = .ok (.istore 6, 2) := by decide +kernel
theorem dX6_frosts_57 : decode cX6_frosts 57 = .ok (.iload 6, 2) := by decide +kernel
theorem dX6_frosts_59 : decode cX6_frosts 59 = .ok (.ifCond .eq 6, 3) := by decide +kernel
theorem dX6_frosts_62 : decode cX6_frosts 62 = .ok (.iload 6, 2) := by decide +kernel
theorem dX6_frosts_64 : decode cX6_frosts 64 = .ok (.ireturn, 1) := by decide +kernel
theorem dX6_frosts_65 : decode cX6_frosts 65 = .ok (.iconst 0, 1) := by decide +kernel
theorem dX6_frosts_66 : decode cX6_frosts 66 = .ok (.istore 7, 2) := by decide +kernel
theorem dX6_frosts_68 : decode cX6_frosts 68 = .ok (.iconst 0, 1) := by decide +kernel
theorem dX6_frosts_69 : decode cX6_frosts 69 = .ok (.istore 8, 2) := by decide +kernel
theorem dX6_frosts_71 : decode cX6_frosts 71 = .ok (.iload 8, 2) := by decide +kernel
theorem dX6_frosts_73 : decode cX6_frosts 73 = .ok (.bipush 10, 2) := by decide +kernel
theorem dX6_frosts_75 : decode cX6_frosts 75 = .ok (.if_icmp .ge 55, 3) := by decide +kernel
theorem dX6_frosts_78 : decode cX6_frosts 78 = .ok (.iload_n 2, 1) := by decide +kernel
theorem dX6_frosts_79 : decode cX6_frosts 79 = .ok (.ifCond .ne 51, 3) := by decide +kernel
theorem dX6_frosts_82 : decode cX6_frosts 82 = .ok (.aload_n 0, 1) := by decide +kernel
theorem dX6_frosts_83 : decode cX6_frosts 83 = .ok (.invokevirtual 207, 3) := by decide +kernel
theorem dX6_frosts_86 : decode cX6_frosts 86 = .ok (.aload_n 0, 1) := by decide +kernel
theorem dX6_frosts_87 : decode cX6_frosts 87 = .ok (.getfield 25, 3) := by decide +kernel
theorem dX6_frosts_90 : decode cX6_frosts 90 = .ok (.iconst 2, 1) := by decide +kernel
theorem dX6_frosts_91 : decode cX6_frosts 91 = .ok (.iload 8, 2) := by decide +kernel
theorem dX6_frosts_93 : decode cX6_frosts 93 = .ok (.iastore, 1) := by decide +kernel
theorem dX6_frosts_94 : decode cX6_frosts 94 = .ok (.iload 7, 2) := by decide +kernel
theorem dX6_frosts_96 : decode cX6_frosts 96 = .ok (.aload_n 0, 1) := by decide +kernel
theorem dX6_frosts_97 : decode cX6_frosts 97 = .ok (.iload_n 1, 1) := by decide +kernel
theorem dX6_frosts_98 : decode cX6_frosts 98 = .ok (.bipush 40, 2) := by decide +kernel
theorem dX6_frosts_100 : decode cX6_frosts 100 = .ok (.iload_n 3, 1) := by decide +kernel
theorem dX6_frosts_101 : decode cX6_frosts 101 = .ok (.imul, 1) := by decide +kernel
theorem dX6_frosts_102 : decode cX6_frosts 102 = .ok (.iload 4, 2) := by decide +kernel
theorem dX6_frosts_104 : decode cX6_frosts 104 = .ok (.iadd, 1) := by decide +kernel
theorem dX6_frosts_105 : decode cX6_frosts 105 = .ok (.iload 5, 2) := by decide +kernel
theorem dX6_frosts_107 : decode cX6_frosts 107 = .ok (.invokevirtual 271, 3) := by decide +kernel
theorem dX6_frosts_110 : decode cX6_frosts 110 = .ok (.ifCond .eq 10, 3) := by decide +kernel
theorem dX6_frosts_113 : decode cX6_frosts 113 = .ok (.iconst 1, 1) := by decide +kernel
theorem dX6_frosts_114 : decode cX6_frosts 114 = .ok (.iload 8, 2) := by decide +kernel
theorem dX6_frosts_116 : decode cX6_frosts 116 = .ok (.ishl, 1) := by decide +kernel
theorem dX6_frosts_117 : decode cX6_frosts 117 = .ok (.goto 4, 3) := by decide +kernel
theorem dX6_frosts_120 : decode cX6_frosts 120 = .ok (.iconst 0, 1) := by decide +kernel
theorem dX6_frosts_121 : decode cX6_frosts 121 = .ok (.ior, 1) := by decide +kernel
theorem dX6_frosts_122 : decode cX6_frosts 122 = .ok (.istore 7, 2) := by decide +kernel
theorem dX6_frosts_124 : decode cX6_frosts 124 = .ok (.iinc 8 1, 3) := by decide +kernel
theorem dX6_frosts_127 : decode cX6_frosts 127 = .ok (.goto (-56), 3) := by decide +kernel
theorem dX6_frosts_130 : decode cX6_frosts 130 = .ok (.iconst 0, 1) := by decide +kernel
theorem dX6_frosts_131 : decode cX6_frosts 131 = .ok (.istore 8, 2) := by decide +kernel
theorem dX6_frosts_133 : decode cX6_frosts 133 = .ok (.iload 8, 2) := by decide +kernel
theorem dX6_frosts_135 : decode cX6_frosts 135 = .ok (.aload_n 0, 1) := by decide +kernel
theorem dX6_frosts_136 : decode cX6_frosts 136 = .ok (.getfield 19, 3) := by decide +kernel
theorem dX6_frosts_139 : decode cX6_frosts 139 = .ok (.iconst 1, 1) := by decide +kernel
theorem dX6_frosts_140 : decode cX6_frosts 140 = .ok (.iaload, 1) := by decide +kernel
theorem dX6_frosts_141 : decode cX6_frosts 141 = .ok (.if_icmp .gt 83, 3) := by decide +kernel
theorem dX6_frosts_144 : decode cX6_frosts 144 = .ok (.iload_n 2, 1) := by decide +kernel
theorem dX6_frosts_145 : decode cX6_frosts 145 = .ok (.iconst 1, 1) := by decide +kernel
theorem dX6_frosts_146 : decode cX6_frosts 146 = .ok (.if_icmp .ne 78, 3) := by decide +kernel
theorem dX6_frosts_149 : decode cX6_frosts 149 = .ok (.aload_n 0, 1) := by decide +kernel
theorem dX6_frosts_150 : decode cX6_frosts 150 = .ok (.iload 8, 2) := by decide +kernel
theorem dX6_frosts_152 : decode cX6_frosts 152 = .ok (.aload_n 0, 1) := by decide +kernel
theorem dX6_frosts_153 : decode cX6_frosts 153 = .ok (.getfield 19, 3) := by decide +kernel
theorem dX6_frosts_156 : decode cX6_frosts 156 = .ok (.iconst 1, 1) := by decide +kernel
theorem dX6_frosts_157 : decode cX6_frosts 157 = .ok (.iaload, 1) := by decide +kernel
theorem dX6_frosts_158 : decode cX6_frosts 158 = .ok (.if_icmp .ge 10, 3) := by decide +kernel
theorem dX6_frosts_161 : decode cX6_frosts 161 = .ok (.iconst 1, 1) := by decide +kernel
theorem dX6_frosts_162 : decode cX6_frosts 162 = .ok (.iload 8, 2) := by decide +kernel
theorem dX6_frosts_164 : decode cX6_frosts 164 = .ok (.ishl, 1) := by decide +kernel
theorem dX6_frosts_165 : decode cX6_frosts 165 = .ok (.goto 4, 3) := by decide +kernel
theorem dX6_frosts_168 : decode cX6_frosts 168 = .ok (.iconst 0, 1) := by decide +kernel
theorem dX6_frosts_169 : decode cX6_frosts 169 = .ok (.invokevirtual 247, 3) := by decide +kernel
theorem dX6_frosts_172 : decode cX6_frosts 172 = .ok (.iload 7, 2) := by decide +kernel
theorem dX6_frosts_174 : decode cX6_frosts 174 = .ok (.aload_n 0, 1) := by decide +kernel
theorem dX6_frosts_175 : decode cX6_frosts 175 = .ok (.iload_n 1, 1) := by decide +kernel
theorem dX6_frosts_176 : decode cX6_frosts 176 = .ok (.bipush 40, 2) := by decide +kernel
theorem dX6_frosts_178 : decode cX6_frosts 178 = .ok (.iload_n 3, 1) := by decide +kernel
theorem dX6_frosts_179 : decode cX6_frosts 179 = .ok (.imul, 1) := by decide +kernel
theorem dX6_frosts_180 : decode cX6_frosts 180 = .ok (.iload 4, 2) := by decide +kernel
theorem dX6_frosts_182 : decode cX6_frosts 182 = .ok (.iadd, 1) := by decide +kernel
theorem dX6_frosts_183 : decode cX6_frosts 183 = .ok (.iload 5, 2) := by decide +kernel
theorem dX6_frosts_185 : decode cX6_frosts 185 = .ok (.invokevirtual 271, 3) := by decide +kernel
theorem dX6_frosts_188 : decode cX6_frosts 188 = .ok (.ifCond .eq 26, 3) := by decide +kernel
theorem dX6_frosts_191 : decode cX6_frosts 191 = .ok (.iload 8, 2) := by decide +kernel
theorem dX6_frosts_193 : decode cX6_frosts 193 = .ok (.aload_n 0, 1) := by decide +kernel
theorem dX6_frosts_194 : decode cX6_frosts 194 = .ok (.getfield 19, 3) := by decide +kernel
theorem dX6_frosts_197 : decode cX6_frosts 197 = .ok (.iconst 1, 1) := by decide +kernel
theorem dX6_frosts_198 : decode cX6_frosts 198 = .ok (.iaload, 1) := by decide +kernel
theorem dX6_frosts_199 : decode cX6_frosts 199 = .ok (.if_icmp .ge 10, 3) := by decide +kernel
theorem dX6_frosts_202 : decode cX6_frosts 202 = .ok (.iconst 1, 1) := by decide +kernel
theorem dX6_frosts_203 : decode cX6_frosts 203 = .ok (.iload 8, 2) := by decide +kernel
theorem dX6_frosts_205 : decode cX6_frosts 205 = .ok (.ishl, 1) := by decide +kernel
theorem dX6_frosts_206 : decode cX6_frosts 206 = .ok (.goto 9, 3) := by decide +kernel
theorem dX6_frosts_209 : decode cX6_frosts 209 = .ok (.bipush 64, 2) := by decide +kernel
theorem dX6_frosts_211 : decode cX6_frosts 211 = .ok (.goto 4, 3) := by decide +kernel
theorem dX6_frosts_214 : decode cX6_frosts 214 = .ok (.iconst 0, 1) := by decide +kernel
theorem dX6_frosts_215 : decode cX6_frosts 215 = .ok (.ior, 1) := by decide +kernel
theorem dX6_frosts_216 : decode cX6_frosts 216 = .ok (.istore 7, 2) := by decide +kernel
theorem dX6_frosts_218 : decode cX6_frosts 218 = .ok (.iinc 8 1, 3) := by decide +kernel
theorem dX6_frosts_221 : decode cX6_frosts 221 = .ok (.goto (-88), 3) := by decide +kernel
theorem dX6_frosts_224 : decode cX6_frosts 224 = .ok (.iload 7, 2) := by decide +kernel
theorem dX6_frosts_226 : decode cX6_frosts 226 = .ok (.ireturn, 1) := by decide +kernel
set_option maxRecDepth 20000 in
theorem ggX6_forgotten_X6_isRoom : GoodIn wsX6_forgotten wsX6_isRoom := goodIn_r _ [11, 5, 12, 13, 10, 14, 60, 61, 62, 63, 64, 65, 66, 67, 68, 69, 70, 71, 72, 73, 74, 75, 76, 77, 78, 79, 80, 81, 82, 83] rfl (by decide +kernel)
set_option maxRecDepth 20000 in
theorem gX6_forgotten_X6_isRoom : GoodIn wsX6_forgotten (wsV RX6 213 RX6 yX6_isRoom wsX6_isRoom) := goodIn_app (goodIn_of _ (by decide +kernel)) ggX6_forgotten_X6_isRoom
set_option maxRecDepth 20000 in
theorem ggX6_forgotten_X6_in : GoodIn wsX6_forgotten wsX6_in := goodIn_r _ [14] rfl (by decide +kernel)
set_option maxRecDepth 20000 in
theorem gX6_forgotten_X6_in : GoodIn wsX6_forgotten (va_wsS RX6 57 yX6_in wsX6_in) := goodIn_app (goodIn_of _ (by decide +kernel)) ggX6_forgotten_X6_in
set_option maxRecDepth 20000 in
theorem ggX6_forgotten_X6_inside : GoodIn wsX6_forgotten wsX6_inside := goodIn_r _ [18, 5, 19, 20, 10, 21, 22, 23, 24, 60, 61, 62, 63, 64, 65, 66, 67, 68, 69, 70, 71, 72, 73, 74, 75, 76, 77, 78, 79, 80, 81, 82, 83] rfl (by decide +kernel)
set_option maxRecDepth 20000 in
theorem gX6_forgotten_X6_inside : GoodIn wsX6_forgotten (wsV RX6 237 RX6 yX6_inside wsX6_inside) := goodIn_app (goodIn_of _ (by decide +kernel)) ggX6_forgotten_X6_inside
set_option maxRecDepth 20000 in
theorem ggX6_forgotten_X6_has : GoodIn wsX6_forgotten wsX6_has := goodIn_r _ [27] rfl (by decide +kernel)
set_option maxRecDepth 20000 in
theorem gX6_forgotten_X6_has : GoodIn wsX6_forgotten (va_wsS RX6 231 yX6_has wsX6_has) := goodIn_app (goodIn_of _ (by decide +kernel)) ggX6_forgotten_X6_has
set_option maxRecDepth 20000 in
theorem ggX6_forgotten_X6_layOut : GoodIn wsX6_forgotten wsX6_layOut := goodIn_r _ [31, 5, 6, 32, 33, 34, 10, 35, 25, 26, 27, 36, 37, 38, 60, 61, 62, 63, 64, 65, 66, 67, 68, 69, 70, 71, 72, 73, 74, 75, 76, 77, 78, 79, 80, 81, 82, 83] rfl (by decide +kernel)
set_option maxRecDepth 20000 in
theorem gX6_forgotten_X6_layOut : GoodIn wsX6_forgotten (wsV RX6 244 RX6 yX6_layOut wsX6_layOut) := goodIn_app (goodIn_of _ (by decide +kernel)) ggX6_forgotten_X6_layOut
set_option maxRecDepth 20000 in
theorem ggX6_forgotten_X6_minutesOf : GoodIn wsX6_forgotten wsX6_minutesOf := goodIn_r _ [41, 42, 43, 10, 44, 22, 23, 24, 36, 37, 38, 45, 46, 47, 48, 49, 50, 51, 52, 53, 54, 55, 56, 57, 58, 59] rfl (by decide +kernel)
set_option maxRecDepth 20000 in
theorem gX6_forgotten_X6_minutesOf : GoodIn wsX6_forgotten (va_wsS RX6 227 yX6_minutesOf wsX6_minutesOf) := goodIn_app (goodIn_of _ (by decide +kernel)) ggX6_forgotten_X6_minutesOf
set_option maxRecDepth 20000 in
theorem ggX6_forgotten_X6_isCold : GoodIn wsX6_forgotten wsX6_isCold := goodIn_r _ [59, 48, 49, 10, 50] rfl (by decide +kernel)
set_option maxRecDepth 20000 in
theorem gX6_forgotten_X6_isCold : GoodIn wsX6_forgotten (va_wsS RX6 167 yX6_isCold wsX6_isCold) := goodIn_app (goodIn_of _ (by decide +kernel)) ggX6_forgotten_X6_isCold
theorem dX6_forgotten_0 : decode cX6_forgotten 0 = .ok (.aload_n 0, 1) := by decide +kernel
theorem dX6_forgotten_1 : decode cX6_forgotten 1 = .ok (.iconst 0, 1) := by decide +kernel
theorem dX6_forgotten_2 : decode cX6_forgotten 2 = .ok (.putfield 47, 3) := by decide +kernel
theorem dX6_forgotten_5 : decode cX6_forgotten 5 = .ok (.aload_n 0, 1) := by decide +kernel
theorem dX6_forgotten_6 : decode cX6_forgotten 6 = .ok (.iload_n 1, 1) := by decide +kernel
theorem dX6_forgotten_7 : decode cX6_forgotten 7 = .ok (.invokevirtual 213, 3) := by decide +kernel
theorem dX6_forgotten_10 : decode cX6_forgotten 10 = .ok (.ifCond .eq 38, 3) := by decide +kernel
theorem dX6_forgotten_13 : decode cX6_forgotten 13 = .ok (.iload_n 2, 1) := by decide +kernel
theorem dX6_forgotten_14 : decode cX6_forgotten 14 = .ok (.i2l, 1) := by decide +kernel
theorem dX6_forgotten_15 : decode cX6_forgotten 15 = .ok (.lconst 0, 1) := by decide +kernel
theorem dX6_forgotten_16 : decode cX6_forgotten 16 = .ok (.ldc2_w 235, 3) := by decide +kernel
theorem dX6_forgotten_19 : decode cX6_forgotten 19 = .ok (.invokestatic 57, 3) := by decide +kernel
theorem dX6_forgotten_22 : decode cX6_forgotten 22 = .ok (.ifCond .eq 26, 3) := by decide +kernel
theorem dX6_forgotten_25 : decode cX6_forgotten 25 = .ok (.iload_n 3, 1) := by decide +kernel
theorem dX6_forgotten_26 : decode cX6_forgotten 26 = .ok (.i2l, 1) := by decide +kernel
theorem dX6_forgotten_27 : decode cX6_forgotten 27 = .ok (.lconst 0, 1) := by decide +kernel
theorem dX6_forgotten_28 : decode cX6_forgotten 28 = .ok (.ldc2_w 274, 3) := by decide +kernel
theorem dX6_forgotten_31 : decode cX6_forgotten 31 = .ok (.invokestatic 57, 3) := by decide +kernel
theorem dX6_forgotten_34 : decode cX6_forgotten 34 = .ok (.ifCond .eq 14, 3) := by decide +kernel
theorem dX6_forgotten_37 : decode cX6_forgotten 37 = .ok (.iload 4, 2) := by decide +kernel
theorem dX6_forgotten_39 : decode cX6_forgotten 39 = .ok (.i2l, 1) := by decide +kernel
theorem dX6_forgotten_40 : decode cX6_forgotten 40 = .ok (.lconst 0, 1) := by decide +kernel
theorem dX6_forgotten_41 : decode cX6_forgotten 41 = .ok (.lconst 1, 1) := by decide +kernel
theorem dX6_forgotten_42 : decode cX6_forgotten 42 = .ok (.invokestatic 57, 3) := by decide +kernel
theorem dX6_forgotten_45 : decode cX6_forgotten 45 = .ok (.ifCond .ne 7, 3) := by decide +kernel
theorem dX6_forgotten_48 : decode cX6_forgotten 48 = .ok (.ldc2_w 276, 3) := by decide +kernel
theorem dX6_forgotten_51 : decode cX6_forgotten 51 = .ok (.lreturn, 1) := by decide +kernel
theorem dX6_forgotten_52 : decode cX6_forgotten 52 = .ok (.aload_n 0, 1) := by decide +kernel
theorem dX6_forgotten_53 : decode cX6_forgotten 53 = .ok (.invokevirtual 237, 3) := by decide +kernel
theorem dX6_forgotten_56 : decode cX6_forgotten 56 = .ok (.istore 5, 2) := by decide +kernel
theorem dX6_forgotten_58 : decode cX6_forgotten 58 = .ok (.lconst 0, 1) := by decide +kernel
theorem dX6_forgotten_59 : decode cX6_forgotten 59 = .ok (.lstore 6, 2) := by decide +kernel
theorem dX6_forgotten_61 : decode cX6_forgotten 61 = .ok (.lconst 0, 1) := by decide +kernel
theorem dX6_forgotten_62 : decode cX6_forgotten 62 = .ok (.lstore 8, 2) := by decide +kernel
theorem dX6_forgotten_64 : decode cX6_forgotten 64 = .ok (.iconst 0, 1) := by decide +kernel
theorem dX6_forgotten_65 : decode cX6_forgotten 65 = .ok (.istore 10, 2) := by decide +kernel
theorem dX6_forgotten_67 : decode cX6_forgotten 67 = .ok (.iload 10, 2) := by decide +kernel
theorem dX6_forgotten_69 : decode cX6_forgotten 69 = .ok (.iload 5, 2) := by decide +kernel
theorem dX6_forgotten_71 : decode cX6_forgotten 71 = .ok (.if_icmp .gt 125, 3) := by decide +kernel
theorem dX6_forgotten_74 : decode cX6_forgotten 74 = .ok (.iload 10, 2) := by decide +kernel
theorem dX6_forgotten_76 : decode cX6_forgotten 76 = .ok (.iload 5, 2) := by decide +kernel
theorem dX6_forgotten_78 : decode cX6_forgotten 78 = .ok (.iconst (-1), 1) := by decide +kernel
theorem dX6_forgotten_79 : decode cX6_forgotten 79 = .ok (.ixor, 1) := by decide +kernel
theorem dX6_forgotten_80 : decode cX6_forgotten 80 = .ok (.iand, 1) := by decide +kernel
theorem dX6_forgotten_81 : decode cX6_forgotten 81 = .ok (.ifCond .ne 109, 3) := by decide +kernel
theorem dX6_forgotten_84 : decode cX6_forgotten 84 = .ok (.lconst 1, 1) := by decide +kernel
theorem dX6_forgotten_85 : decode cX6_forgotten 85 = .ok (.lstore 11, 2) := by decide +kernel
theorem dX6_forgotten_87 : decode cX6_forgotten 87 = .ok (.iconst 0, 1) := by decide +kernel
theorem dX6_forgotten_88 : decode cX6_forgotten 88 = .ok (.istore 13, 2) := by decide +kernel
theorem dX6_forgotten_90 : decode cX6_forgotten 90 = .ok (.iload 13, 2) := by decide +kernel
theorem dX6_forgotten_92 : decode cX6_forgotten 92 = .ok (.aload_n 0, 1) := by decide +kernel
theorem dX6_forgotten_93 : decode cX6_forgotten 93 = .ok (.getfield 19, 3) := by decide +kernel
theorem dX6_forgotten_96 : decode cX6_forgotten 96 = .ok (.iconst 1, 1) := by decide +kernel
theorem dX6_forgotten_97 : decode cX6_forgotten 97 = .ok (.iaload, 1) := by decide +kernel
theorem dX6_forgotten_98 : decode cX6_forgotten 98 = .ok (.if_icmp .ge 49, 3) := by decide +kernel
theorem dX6_forgotten_101 : decode cX6_forgotten 101 = .ok (.lload 11, 2) := by decide +kernel
theorem dX6_forgotten_103 : decode cX6_forgotten 103 = .ok (.iload 5, 2) := by decide +kernel
theorem dX6_forgotten_105 : decode cX6_forgotten 105 = .ok (.iload 13, 2) := by decide +kernel
theorem dX6_forgotten_107 : decode cX6_forgotten 107 = .ok (.invokestatic 231, 3) := by decide +kernel
theorem dX6_forgotten_110 : decode cX6_forgotten 110 = .ok (.ifCond .ne 7, 3) := by decide +kernel
theorem dX6_forgotten_113 : decode cX6_forgotten 113 = .ok (.lconst 1, 1) := by decide +kernel
theorem dX6_forgotten_114 : decode cX6_forgotten 114 = .ok (.goto 24, 3) := by decide +kernel
theorem dX6_forgotten_117 : decode cX6_forgotten 117 = .ok (.iload 10, 2) := by decide +kernel
theorem dX6_forgotten_119 : decode cX6_forgotten 119 = .ok (.iload 13, 2) := by decide +kernel
theorem dX6_forgotten_121 : decode cX6_forgotten 121 = .ok (.invokestatic 231, 3) := by decide +kernel
theorem dX6_forgotten_124 : decode cX6_forgotten 124 = .ok (.ifCond .eq 12, 3) := by decide +kernel
theorem dX6_forgotten_127 : decode cX6_forgotten 127 = .ok (.ldc2_w 274, 3) := by decide +kernel
theorem dX6_forgotten_130 : decode cX6_forgotten 130 = .ok (.iload_n 3, 1) := by decide +kernel
theorem dX6_forgotten_131 : decode cX6_forgotten 131 = .ok (.i2l, 1) := by decide +kernel
theorem dX6_forgotten_132 : decode cX6_forgotten 132 = .ok (.lsub, 1) := by decide +kernel
theorem dX6_forgotten_133 : decode cX6_forgotten 133 = .ok (.goto 5, 3) := by decide +kernel
theorem dX6_forgotten_136 : decode cX6_forgotten 136 = .ok (.iload_n 3, 1) := by decide +kernel
theorem dX6_forgotten_137 : decode cX6_forgotten 137 = .ok (.i2l, 1) := by decide +kernel
theorem dX6_forgotten_138 : decode cX6_forgotten 138 = .ok (.lmul, 1) := by decide +kernel
theorem dX6_forgotten_139 : decode cX6_forgotten 139 = .ok (.lstore 11, 2) := by decide +kernel
theorem dX6_forgotten_141 : decode cX6_forgotten 141 = .ok (.iinc 13 1, 3) := by decide +kernel
theorem dX6_forgotten_144 : decode cX6_forgotten 144 = .ok (.goto (-54), 3) := by decide +kernel
theorem dX6_forgotten_147 : decode cX6_forgotten 147 = .ok (.aload_n 0, 1) := by decide +kernel
theorem dX6_forgotten_148 : decode cX6_forgotten 148 = .ok (.iload 10, 2) := by decide +kernel
theorem dX6_forgotten_150 : decode cX6_forgotten 150 = .ok (.invokevirtual 244, 3) := by decide +kernel
theorem dX6_forgotten_153 : decode cX6_forgotten 153 = .ok (.aload_n 0, 1) := by decide +kernel
theorem dX6_forgotten_154 : decode cX6_forgotten 154 = .ok (.getfield 25, 3) := by decide +kernel
theorem dX6_forgotten_157 : decode cX6_forgotten 157 = .ok (.iload_n 2, 1) := by decide +kernel
theorem dX6_forgotten_158 : decode cX6_forgotten 158 = .ok (.invokestatic 227, 3) := by decide +kernel
theorem dX6_forgotten_161 : decode cX6_forgotten 161 = .ok (.lload 8, 2) := by decide +kernel
theorem dX6_forgotten_163 : decode cX6_forgotten 163 = .ok (.lload 11, 2) := by decide +kernel
theorem dX6_forgotten_165 : decode cX6_forgotten 165 = .ok (.ladd, 1) := by decide +kernel
theorem dX6_forgotten_166 : decode cX6_forgotten 166 = .ok (.lstore 8, 2) := by decide +kernel
theorem dX6_forgotten_168 : decode cX6_forgotten 168 = .ok (.lload 6, 2) := by decide +kernel
theorem dX6_forgotten_170 : decode cX6_forgotten 170 = .ok (.aload_n 0, 1) := by decide +kernel
theorem dX6_forgotten_171 : decode cX6_forgotten 171 = .ok (.getfield 25, 3) := by decide +kernel
theorem dX6_forgotten_174 : decode cX6_forgotten 174 = .ok (.iload_n 1, 1) := by decide +kernel
theorem dX6_forgotten_175 : decode cX6_forgotten 175 = .ok (.invokestatic 167, 3) := by decide +kernel
theorem dX6_forgotten_178 : decode cX6_forgotten 178 = .ok (.ifCond .eq 7, 3) := by decide +kernel
theorem dX6_forgotten_181 : decode cX6_forgotten 181 = .ok (.lconst 0, 1) := by decide +kernel
theorem dX6_forgotten_182 : decode cX6_forgotten 182 = .ok (.goto 5, 3) := by decide +kernel
theorem dX6_forgotten_185 : decode cX6_forgotten 185 = .ok (.lload 11, 2) := by decide +kernel
theorem dX6_forgotten_187 : decode cX6_forgotten 187 = .ok (.ladd, 1) := by decide +kernel
theorem dX6_forgotten_188 : decode cX6_forgotten 188 = .ok (.lstore 6, 2) := by decide +kernel
theorem dX6_forgotten_190 : decode cX6_forgotten 190 = .ok (.iinc 10 1, 3) := by decide +kernel
theorem dX6_forgotten_193 : decode cX6_forgotten 193 = .ok (.goto (-126), 3) := by decide +kernel
theorem dX6_forgotten_196 : decode cX6_forgotten 196 = .ok (.lload 6, 2) := by decide +kernel
theorem dX6_forgotten_198 : decode cX6_forgotten 198 = .ok (.lstore 10, 2) := by decide +kernel
theorem dX6_forgotten_200 : decode cX6_forgotten 200 = .ok (.lload 8, 2) := by decide +kernel
theorem dX6_forgotten_202 : decode cX6_forgotten 202 = .ok (.lstore 12, 2) := by decide +kernel
theorem dX6_forgotten_204 : decode cX6_forgotten 204 = .ok (.lload 12, 2) := by decide +kernel
theorem dX6_forgotten_206 : decode cX6_forgotten 206 = .ok (.lconst 0, 1) := by decide +kernel
theorem dX6_forgotten_207 : decode cX6_forgotten 207 = .ok (.lcmp, 1) := by decide +kernel
theorem dX6_forgotten_208 : decode cX6_forgotten 208 = .ok (.ifCond .eq 21, 3) := by decide +kernel
theorem dX6_forgotten_211 : decode cX6_forgotten 211 = .ok (.lload 10, 2) := by decide +kernel
theorem dX6_forgotten_213 : decode cX6_forgotten 213 = .ok (.lload 12, 2) := by decide +kernel
theorem dX6_forgotten_215 : decode cX6_forgotten 215 = .ok (.lrem, 1) := by decide +kernel
theorem dX6_forgotten_216 : decode cX6_forgotten 216 = .ok (.lstore 14, 2) := by decide +kernel
theorem dX6_forgotten_218 : decode cX6_forgotten 218 = .ok (.lload 12, 2) := by decide +kernel
theorem dX6_forgotten_220 : decode cX6_forgotten 220 = .ok (.lstore 10, 2) := by decide +kernel
theorem dX6_forgotten_222 : decode cX6_forgotten 222 = .ok (.lload 14, 2) := by decide +kernel
theorem dX6_forgotten_224 : decode cX6_forgotten 224 = .ok (.lstore 12, 2) := by decide +kernel
theorem dX6_forgotten_226 : decode cX6_forgotten 226 = .ok (.goto (-22), 3) := by decide +kernel
theorem dX6_forgotten_229 : decode cX6_forgotten 229 = .ok (.iload 4, 2) := by decide +kernel
theorem dX6_forgotten_231 : decode cX6_forgotten 231 = .ok (.ifCond .ne 8, 3) := by decide +kernel
theorem dX6_forgotten_234 : decode cX6_forgotten 234 = .ok (.lload 6, 2) := by decide +kernel
theorem dX6_forgotten_236 : decode cX6_forgotten 236 = .ok (.goto 5, 3) := by decide +kernel
theorem dX6_forgotten_239 : decode cX6_forgotten 239 = .ok (.lload 8, 2) := by decide +kernel
theorem dX6_forgotten_241 : decode cX6_forgotten 241 = .ok (.lload 10, 2) := by decide +kernel
theorem dX6_forgotten_243 : decode cX6_forgotten 243 = .ok (.ldiv, 1) := by decide +kernel
theorem dX6_forgotten_244 : decode cX6_forgotten 244 = .ok (.lreturn, 1) := by decide +kernel
set_option maxRecDepth 20000 in
theorem ggX6_drawn_X6_isThere : GoodIn wsX6_drawn wsX6_isThere := goodIn_r _ [15, 16, 63, 64, 65, 66, 67, 68, 69, 70, 71, 72, 73, 74, 75, 76, 77, 78, 79, 80, 81, 82, 83, 84, 85, 86] rfl (by decide +kernel)
set_option maxRecDepth 20000 in
theorem gX6_drawn_X6_isThere : GoodIn wsX6_drawn (wsV RX6 152 RX6 yX6_isThere wsX6_isThere) := goodIn_app (goodIn_of _ (by decide +kernel)) ggX6_drawn_X6_isThere
set_option maxRecDepth 20000 in
theorem ggX6_drawn_X6_in : GoodIn wsX6_drawn wsX6_in := goodIn_r _ [19] rfl (by decide +kernel)
set_option maxRecDepth 20000 in
theorem gX6_drawn_X6_in : GoodIn wsX6_drawn (va_wsS RX6 57 yX6_in wsX6_in) := goodIn_app (goodIn_of _ (by decide +kernel)) ggX6_drawn_X6_in
set_option maxRecDepth 20000 in
theorem ggX6_drawn_X6_layThen : GoodIn wsX6_drawn wsX6_layThen := goodIn_r _ [23, 8, 16, 63, 64, 65, 66, 67, 68, 69, 70, 71, 72, 73, 74, 75, 76, 77, 78, 79, 80, 81, 82, 83, 84, 85, 86] rfl (by decide +kernel)
set_option maxRecDepth 20000 in
theorem gX6_drawn_X6_layThen : GoodIn wsX6_drawn (wsV RX6 207 RX6 yX6_layThen wsX6_layThen) := goodIn_app (goodIn_of _ (by decide +kernel)) ggX6_drawn_X6_layThen
set_option maxRecDepth 20000 in
theorem ggX6_drawn_X6_shaken : GoodIn wsX6_drawn wsX6_shaken := goodIn_r _ [26, 27, 28, 14, 29, 30, 31, 32, 33, 34, 35, 36, 37, 38] rfl (by decide +kernel)
set_option maxRecDepth 20000 in
theorem gX6_drawn_X6_shaken : GoodIn wsX6_drawn (va_wsS RX6 204 yX6_shaken wsX6_shaken) := goodIn_app (goodIn_of _ (by decide +kernel)) ggX6_drawn_X6_shaken
set_option maxRecDepth 20000 in
theorem ggX6_drawn_X6_be : GoodIn wsX6_drawn wsX6_be := goodIn_r _ [38] rfl (by decide +kernel)
set_option maxRecDepth 20000 in
theorem gX6_drawn_X6_be : GoodIn wsX6_drawn (va_wsS RX6 170 yX6_be wsX6_be) := goodIn_app (goodIn_of _ (by decide +kernel)) ggX6_drawn_X6_be
set_option maxRecDepth 20000 in
theorem ggX6_drawn_X6_minute : GoodIn wsX6_drawn wsX6_minute := goodIn_r _ [41, 27, 28, 14, 29, 36, 37, 38, 30, 31, 32, 33, 34, 35, 42, 43, 44, 45, 46, 47, 48, 49, 50] rfl (by decide +kernel)
set_option maxRecDepth 20000 in
theorem gX6_drawn_X6_minute : GoodIn wsX6_drawn (va_wsS RX6 181 yX6_minute wsX6_minute) := goodIn_app (goodIn_of _ (by decide +kernel)) ggX6_drawn_X6_minute
set_option maxRecDepth 20000 in
theorem ggX6_drawn_X6_colds : GoodIn wsX6_drawn wsX6_colds := goodIn_r _ [53, 48, 49, 14, 50, 33, 34, 35] rfl (by decide +kernel)
set_option maxRecDepth 20000 in
theorem gX6_drawn_X6_colds : GoodIn wsX6_drawn (va_wsS RX6 195 yX6_colds wsX6_colds) := goodIn_app (goodIn_of _ (by decide +kernel)) ggX6_drawn_X6_colds
set_option maxRecDepth 20000 in
theorem ggX6_drawn_X6_bits : GoodIn wsX6_drawn wsX6_bits := goodIn_r _ [56] rfl (by decide +kernel)
set_option maxRecDepth 20000 in
theorem gX6_drawn_X6_bits : GoodIn wsX6_drawn (va_wsS RX6 241 yX6_bits wsX6_bits) := goodIn_app (goodIn_of _ (by decide +kernel)) ggX6_drawn_X6_bits
set_option maxRecDepth 20000 in
theorem ggX6_drawn_X6_degreesOf : GoodIn wsX6_drawn wsX6_degreesOf := goodIn_r _ [59, 60, 61, 14, 62, 27, 28, 29, 33, 34, 35] rfl (by decide +kernel)
set_option maxRecDepth 20000 in
theorem gX6_drawn_X6_degreesOf : GoodIn wsX6_drawn (va_wsS RX6 258 yX6_degreesOf wsX6_degreesOf) := goodIn_app (goodIn_of _ (by decide +kernel)) ggX6_drawn_X6_degreesOf
theorem dX6_drawn_0 : decode cX6_drawn 0 = .ok (.aload_n 0, 1) := by decide +kernel
theorem dX6_drawn_1 : decode cX6_drawn 1 = .ok (.iconst 0, 1) := by decide +kernel
theorem dX6_drawn_2 : decode cX6_drawn 2 = .ok (.putfield 47, 3) := by decide +kernel
theorem dX6_drawn_5 : decode cX6_drawn 5 = .ok (.aload_n 0, 1) := by decide +kernel
theorem dX6_drawn_6 : decode cX6_drawn 6 = .ok (.invokevirtual 152, 3) := by decide +kernel
theorem dX6_drawn_9 : decode cX6_drawn 9 = .ok (.ifCond .ne 6, 3) := by decide +kernel
theorem dX6_drawn_12 : decode cX6_drawn 12 = .ok (.ldc 189, 2) := by decide +kernel
theorem dX6_drawn_14 : decode cX6_drawn 14 = .ok (.ireturn, 1) := by decide +kernel
theorem dX6_drawn_15 : decode cX6_drawn 15 = .ok (.iload_n 1, 1) := by decide +kernel
theorem dX6_drawn_16 : decode cX6_drawn 16 = .ok (.i2l, 1) := by decide +kernel
theorem dX6_drawn_17 : decode cX6_drawn 17 = .ok (.lconst 0, 1) := by decide +kernel
theorem dX6_drawn_18 : decode cX6_drawn 18 = .ok (.ldc2_w 225, 3) := by decide +kernel
theorem dX6_drawn_21 : decode cX6_drawn 21 = .ok (.invokestatic 57, 3) := by decide +kernel
theorem dX6_drawn_24 : decode cX6_drawn 24 = .ok (.ifCond .eq 25, 3) := by decide +kernel
theorem dX6_drawn_27 : decode cX6_drawn 27 = .ok (.iload_n 2, 1) := by decide +kernel
theorem dX6_drawn_28 : decode cX6_drawn 28 = .ok (.i2l, 1) := by decide +kernel
theorem dX6_drawn_29 : decode cX6_drawn 29 = .ok (.lconst 1, 1) := by decide +kernel
theorem dX6_drawn_30 : decode cX6_drawn 30 = .ok (.ldc2_w 278, 3) := by decide +kernel
theorem dX6_drawn_33 : decode cX6_drawn 33 = .ok (.invokestatic 57, 3) := by decide +kernel
theorem dX6_drawn_36 : decode cX6_drawn 36 = .ok (.ifCond .eq 13, 3) := by decide +kernel
theorem dX6_drawn_39 : decode cX6_drawn 39 = .ok (.iload_n 3, 1) := by decide +kernel
theorem dX6_drawn_40 : decode cX6_drawn 40 = .ok (.i2l, 1) := by decide +kernel
theorem dX6_drawn_41 : decode cX6_drawn 41 = .ok (.lconst 0, 1) := by decide +kernel
theorem dX6_drawn_42 : decode cX6_drawn 42 = .ok (.lconst 1, 1) := by decide +kernel
theorem dX6_drawn_43 : decode cX6_drawn 43 = .ok (.invokestatic 57, 3) := by decide +kernel
theorem dX6_drawn_46 : decode cX6_drawn 46 = .ok (.ifCond .ne 6, 3) := by decide +kernel
theorem dX6_drawn_49 : decode cX6_drawn 49 = .ok (.ldc 67, 2) := by decide +kernel
theorem dX6_drawn_51 : decode cX6_drawn 51 = .ok (.ireturn, 1) := by decide +kernel
theorem dX6_drawn_52 : decode cX6_drawn 52 = .ok (.aload_n 0, 1) := by decide +kernel
theorem dX6_drawn_53 : decode cX6_drawn 53 = .ok (.invokevirtual 207, 3) := by decide +kernel
theorem dX6_drawn_56 : decode cX6_drawn 56 = .ok (.iload_n 2, 1) := by decide +kernel
theorem dX6_drawn_57 : decode cX6_drawn 57 = .ok (.i2l, 1) := by decide +kernel
theorem dX6_drawn_58 : decode cX6_drawn 58 = .ok (.lstore 4, 2) := by decide +kernel
theorem dX6_drawn_60 : decode cX6_drawn 60 = .ok (.iconst 0, 1) := by decide +kernel
theorem dX6_drawn_61 : decode cX6_drawn 61 = .ok (.istore 6, 2) := by decide +kernel
theorem dX6_drawn_63 : decode cX6_drawn 63 = .ok (.iload 6, 2) := by decide +kernel
theorem dX6_drawn_65 : decode cX6_drawn 65 = .ok (.iload_n 1, 1) := by decide +kernel
theorem dX6_drawn_66 : decode cX6_drawn 66 = .ok (.if_icmp .ge 95, 3) := by decide +kernel
theorem dX6_drawn_69 : decode cX6_drawn 69 = .ok (.lload 4, 2) := by decide +kernel
theorem dX6_drawn_71 : decode cX6_drawn 71 = .ok (.ldc2_w 280, 3) := by decide +kernel
theorem dX6_drawn_74 : decode cX6_drawn 74 = .ok (.lmul, 1) := by decide +kernel
theorem dX6_drawn_75 : decode cX6_drawn 75 = .ok (.ldc2_w 282, 3) := by decide +kernel
theorem dX6_drawn_78 : decode cX6_drawn 78 = .ok (.lrem, 1) := by decide +kernel
theorem dX6_drawn_79 : decode cX6_drawn 79 = .ok (.lstore 4, 2) := by decide +kernel
theorem dX6_drawn_81 : decode cX6_drawn 81 = .ok (.lload 4, 2) := by decide +kernel
theorem dX6_drawn_83 : decode cX6_drawn 83 = .ok (.aload_n 0, 1) := by decide +kernel
theorem dX6_drawn_84 : decode cX6_drawn 84 = .ok (.getfield 25, 3) := by decide +kernel
theorem dX6_drawn_87 : decode cX6_drawn 87 = .ok (.iconst 1, 1) := by decide +kernel
theorem dX6_drawn_88 : decode cX6_drawn 88 = .ok (.iaload, 1) := by decide +kernel
theorem dX6_drawn_89 : decode cX6_drawn 89 = .ok (.i2l, 1) := by decide +kernel
theorem dX6_drawn_90 : decode cX6_drawn 90 = .ok (.lrem, 1) := by decide +kernel
theorem dX6_drawn_91 : decode cX6_drawn 91 = .ok (.l2i, 1) := by decide +kernel
theorem dX6_drawn_92 : decode cX6_drawn 92 = .ok (.istore 7, 2) := by decide +kernel
theorem dX6_drawn_94 : decode cX6_drawn 94 = .ok (.lload 4, 2) := by decide +kernel
theorem dX6_drawn_96 : decode cX6_drawn 96 = .ok (.ldc2_w 218, 3) := by decide +kernel
theorem dX6_drawn_99 : decode cX6_drawn 99 = .ok (.lrem, 1) := by decide +kernel
theorem dX6_drawn_100 : decode cX6_drawn 100 = .ok (.lconst 0, 1) := by decide +kernel
theorem dX6_drawn_101 : decode cX6_drawn 101 = .ok (.lcmp, 1) := by decide +kernel
theorem dX6_drawn_102 : decode cX6_drawn 102 = .ok (.ifCond .ne 14, 3) := by decide +kernel
theorem dX6_drawn_105 : decode cX6_drawn 105 = .ok (.aload_n 0, 1) := by decide +kernel
theorem dX6_drawn_106 : decode cX6_drawn 106 = .ok (.getfield 25, 3) := by decide +kernel
theorem dX6_drawn_109 : decode cX6_drawn 109 = .ok (.iload 7, 2) := by decide +kernel
theorem dX6_drawn_111 : decode cX6_drawn 111 = .ok (.invokestatic 204, 3) := by decide +kernel
theorem dX6_drawn_114 : decode cX6_drawn 114 = .ok (.istore 8, 2) := by decide +kernel
theorem dX6_drawn_116 : decode cX6_drawn 116 = .ok (.lload 4, 2) := by decide +kernel
theorem dX6_drawn_118 : decode cX6_drawn 118 = .ok (.ldc2_w 284, 3) := by decide +kernel
theorem dX6_drawn_121 : decode cX6_drawn 121 = .ok (.lrem, 1) := by decide +kernel
theorem dX6_drawn_122 : decode cX6_drawn 122 = .ok (.lconst 0, 1) := by decide +kernel
theorem dX6_drawn_123 : decode cX6_drawn 123 = .ok (.lcmp, 1) := by decide +kernel
theorem dX6_drawn_124 : decode cX6_drawn 124 = .ok (.ifCond .ne 24, 3) := by decide +kernel
theorem dX6_drawn_127 : decode cX6_drawn 127 = .ok (.aload_n 0, 1) := by decide +kernel
theorem dX6_drawn_128 : decode cX6_drawn 128 = .ok (.getfield 25, 3) := by decide +kernel
theorem dX6_drawn_131 : decode cX6_drawn 131 = .ok (.iload 7, 2) := by decide +kernel
theorem dX6_drawn_133 : decode cX6_drawn 133 = .ok (.iconst 1, 1) := by decide +kernel
theorem dX6_drawn_134 : decode cX6_drawn 134 = .ok (.lload 4, 2) := by decide +kernel
theorem dX6_drawn_136 : decode cX6_drawn 136 = .ok (.aload_n 0, 1) := by decide +kernel
theorem dX6_drawn_137 : decode cX6_drawn 137 = .ok (.getfield 25, 3) := by decide +kernel
theorem dX6_drawn_140 : decode cX6_drawn 140 = .ok (.iconst 0, 1) := by decide +kernel
theorem dX6_drawn_141 : decode cX6_drawn 141 = .ok (.iaload, 1) := by decide +kernel
theorem dX6_drawn_142 : decode cX6_drawn 142 = .ok (.i2l, 1) := by decide +kernel
theorem dX6_drawn_143 : decode cX6_drawn 143 = .ok (.lrem, 1) := by decide +kernel
theorem dX6_drawn_144 : decode cX6_drawn 144 = .ok (.l2i, 1) := by decide +kernel
theorem dX6_drawn_145 : decode cX6_drawn 145 = .ok (.invokestatic 170, 3) := by decide +kernel
theorem dX6_drawn_148 : decode cX6_drawn 148 = .ok (.aload_n 0, 1) := by decide +kernel
theorem dX6_drawn_149 : decode cX6_drawn 149 = .ok (.getfield 25, 3) := by decide +kernel
theorem dX6_drawn_152 : decode cX6_drawn 152 = .ok (.invokestatic 181, 3) := by decide +kernel
theorem dX6_drawn_155 : decode cX6_drawn 155 = .ok (.iinc 6 1, 3) := by decide +kernel
theorem dX6_drawn_158 : decode cX6_drawn 158 = .ok (.goto (-95), 3) := by decide +kernel
theorem dX6_drawn_161 : decode cX6_drawn 161 = .ok (.iload_n 3, 1) := by decide +kernel
theorem dX6_drawn_162 : decode cX6_drawn 162 = .ok (.ifCond .ne 16, 3) := by decide +kernel
theorem dX6_drawn_165 : decode cX6_drawn 165 = .ok (.aload_n 0, 1) := by decide +kernel
theorem dX6_drawn_166 : decode cX6_drawn 166 = .ok (.getfield 25, 3) := by decide +kernel
theorem dX6_drawn_169 : decode cX6_drawn 169 = .ok (.invokestatic 195, 3) := by decide +kernel
theorem dX6_drawn_172 : decode cX6_drawn 172 = .ok (.invokestatic 241, 3) := by decide +kernel
theorem dX6_drawn_175 : decode cX6_drawn 175 = .ok (.goto 10, 3) := by decide +kernel
theorem dX6_drawn_178 : decode cX6_drawn 178 = .ok (.aload_n 0, 1) := by decide +kernel
theorem dX6_drawn_179 : decode cX6_drawn 179 = .ok (.getfield 25, 3) := by decide +kernel
theorem dX6_drawn_182 : decode cX6_drawn 182 = .ok (.invokestatic 258, 3) := by decide +kernel
theorem dX6_drawn_185 : decode cX6_drawn 185 = .ok (.ireturn, 1) := by decide +kernel
set_option maxRecDepth 20000 in
theorem ggX6_image_X6_in : GoodIn wsX6_image wsX6_in := goodIn_r _ [10] rfl (by decide +kernel)
set_option maxRecDepth 20000 in
theorem gX6_image_X6_in : GoodIn wsX6_image (va_wsS RX6 57 yX6_in wsX6_in) := goodIn_app (goodIn_of _ (by decide +kernel)) ggX6_image_X6_in
set_option maxRecDepth 20000 in
theorem ggX6_image_X6_isThere : GoodIn wsX6_image wsX6_isThere := goodIn_r _ [14, 5, 15, 16, 17, 18, 19, 20, 21, 22, 23, 24, 25, 26, 27, 28, 29, 30, 31, 32, 33, 34, 35, 36, 37, 38] rfl (by decide +kernel)
set_option maxRecDepth 20000 in
theorem gX6_image_X6_isThere : GoodIn wsX6_image (wsV RX6 152 RX6 yX6_isThere wsX6_isThere) := goodIn_app (goodIn_of _ (by decide +kernel)) ggX6_image_X6_isThere
theorem dX6_image_0 : decode cX6_image 0 = .ok (.aload_n 0, 1) := by decide +kernel
theorem dX6_image_1 : decode cX6_image 1 = .ok (.iconst 0, 1) := by decide +kernel
theorem dX6_image_2 : decode cX6_image 2 = .ok (.putfield 47, 3) := by decide +kernel
theorem dX6_image_5 : decode cX6_image 5 = .ok (.iload_n 1, 1) := by decide +kernel
theorem dX6_image_6 : decode cX6_image 6 = .ok (.i2l, 1) := by decide +kernel
theorem dX6_image_7 : decode cX6_image 7 = .ok (.lconst 0, 1) := by decide +kernel
theorem dX6_image_8 : decode cX6_image 8 = .ok (.lconst 1, 1) := by decide +kernel
theorem dX6_image_9 : decode cX6_image 9 = .ok (.invokestatic 57, 3) := by decide +kernel
theorem dX6_image_12 : decode cX6_image 12 = .ok (.ifCond .ne 6, 3) := by decide +kernel
theorem dX6_image_15 : decode cX6_image 15 = .ok (.ldc 67, 2) := by decide +kernel
theorem dX6_image_17 : decode cX6_image 17 = .ok (.ireturn, 1) := by decide +kernel
theorem dX6_image_18 : decode cX6_image 18 = .ok (.aload_n 0, 1) := by decide +kernel
theorem dX6_image_19 : decode cX6_image 19 = .ok (.invokevirtual 152, 3) := by decide +kernel
theorem dX6_image_22 : decode cX6_image 22 = .ok (.ifCond .ne 6, 3) := by decide +kernel
theorem dX6_image_25 : decode cX6_image 25 = .ok (.ldc 189, 2) := by decide +kernel
theorem dX6_image_27 : decode cX6_image 27 = .ok (.ireturn, 1) := by decide +kernel
theorem dX6_image_28 : decode cX6_image 28 = .ok (.iconst 0, 1) := by decide +kernel
theorem dX6_image_29 : decode cX6_image 29 = .ok (.istore_n 2, 1) := by decide +kernel
theorem dX6_image_30 : decode cX6_image 30 = .ok (.iload_n 2, 1) := by decide +kernel
theorem dX6_image_31 : decode cX6_image 31 = .ok (.bipush 45, 2) := by decide +kernel
theorem dX6_image_33 : decode cX6_image 33 = .ok (.if_icmp .ge 26, 3) := by decide +kernel
theorem dX6_image_36 : decode cX6_image 36 = .ok (.aload_n 0, 1) := by decide +kernel
theorem dX6_image_37 : decode cX6_image 37 = .ok (.getfield 41, 3) := by decide +kernel
theorem dX6_image_40 : decode cX6_image 40 = .ok (.bipush 45, 2) := by decide +kernel
theorem dX6_image_42 : decode cX6_image 42 = .ok (.iload_n 1, 1) := by decide +kernel
theorem dX6_image_43 : decode cX6_image 43 = .ok (.imul, 1) := by decide +kernel
theorem dX6_image_44 : decode cX6_image 44 = .ok (.iload_n 2, 1) := by decide +kernel
theorem dX6_image_45 : decode cX6_image 45 = .ok (.iadd, 1) := by decide +kernel
theorem dX6_image_46 : decode cX6_image 46 = .ok (.aload_n 0, 1) := by decide +kernel
theorem dX6_image_47 : decode cX6_image 47 = .ok (.getfield 19, 3) := by decide +kernel
theorem dX6_image_50 : decode cX6_image 50 = .ok (.iload_n 2, 1) := by decide +kernel
theorem dX6_image_51 : decode cX6_image 51 = .ok (.iaload, 1) := by decide +kernel
theorem dX6_image_52 : decode cX6_image 52 = .ok (.iastore, 1) := by decide +kernel
theorem dX6_image_53 : decode cX6_image 53 = .ok (.iinc 2 1, 3) := by decide +kernel
theorem dX6_image_56 : decode cX6_image 56 = .ok (.goto (-26), 3) := by decide +kernel
theorem dX6_image_59 : decode cX6_image 59 = .ok (.aload_n 0, 1) := by decide +kernel
theorem dX6_image_60 : decode cX6_image 60 = .ok (.getfield 37, 3) := by decide +kernel
theorem dX6_image_63 : decode cX6_image 63 = .ok (.iload_n 1, 1) := by decide +kernel
theorem dX6_image_64 : decode cX6_image 64 = .ok (.iconst 1, 1) := by decide +kernel
theorem dX6_image_65 : decode cX6_image 65 = .ok (.bastore, 1) := by decide +kernel
theorem dX6_image_66 : decode cX6_image 66 = .ok (.iconst 1, 1) := by decide +kernel
theorem dX6_image_67 : decode cX6_image 67 = .ok (.ireturn, 1) := by decide +kernel
set_option maxRecDepth 20000 in
theorem ggX6_restore_X6_in : GoodIn wsX6_restore wsX6_in := goodIn_r _ [11] rfl (by decide +kernel)
set_option maxRecDepth 20000 in
theorem gX6_restore_X6_in : GoodIn wsX6_restore (va_wsS RX6 57 yX6_in wsX6_in) := goodIn_app (goodIn_of _ (by decide +kernel)) ggX6_restore_X6_in
theorem dX6_restore_0 : decode cX6_restore 0 = .ok (.aload_n 0, 1) := by decide +kernel
theorem dX6_restore_1 : decode cX6_restore 1 = .ok (.iconst 0, 1) := by decide +kernel
theorem dX6_restore_2 : decode cX6_restore 2 = .ok (.putfield 47, 3) := by decide +kernel
theorem dX6_restore_5 : decode cX6_restore 5 = .ok (.iload_n 1, 1) := by decide +kernel
theorem dX6_restore_6 : decode cX6_restore 6 = .ok (.i2l, 1) := by decide +kernel
theorem dX6_restore_7 : decode cX6_restore 7 = .ok (.lconst 0, 1) := by decide +kernel
theorem dX6_restore_8 : decode cX6_restore 8 = .ok (.lconst 1, 1) := by decide +kernel
theorem dX6_restore_9 : decode cX6_restore 9 = .ok (.invokestatic 57, 3) := by decide +kernel
theorem dX6_restore_12 : decode cX6_restore 12 = .ok (.ifCond .ne 6, 3) := by decide +kernel
theorem dX6_restore_15 : decode cX6_restore 15 = .ok (.ldc 67, 2) := by decide +kernel
theorem dX6_restore_17 : decode cX6_restore 17 = .ok (.ireturn, 1) := by decide +kernel
theorem dX6_restore_18 : decode cX6_restore 18 = .ok (.aload_n 0, 1) := by decide +kernel
theorem dX6_restore_19 : decode cX6_restore 19 = .ok (.getfield 37, 3) := by decide +kernel
theorem dX6_restore_22 : decode cX6_restore 22 = .ok (.iload_n 1, 1) := by decide +kernel
theorem dX6_restore_23 : decode cX6_restore 23 = .ok (.baload, 1) := by decide +kernel
theorem dX6_restore_24 : decode cX6_restore 24 = .ok (.ifCond .ne 6, 3) := by decide +kernel
theorem dX6_restore_27 : decode cX6_restore 27 = .ok (.ldc 189, 2) := by decide +kernel
theorem dX6_restore_29 : decode cX6_restore 29 = .ok (.ireturn, 1) := by decide +kernel
theorem dX6_restore_30 : decode cX6_restore 30 = .ok (.iconst 0, 1) := by decide +kernel
theorem dX6_restore_31 : decode cX6_restore 31 = .ok (.istore_n 2, 1) := by decide +kernel
theorem dX6_restore_32 : decode cX6_restore 32 = .ok (.iload_n 2, 1) := by decide +kernel
theorem dX6_restore_33 : decode cX6_restore 33 = .ok (.bipush 45, 2) := by decide +kernel
theorem dX6_restore_35 : decode cX6_restore 35 = .ok (.if_icmp .ge 26, 3) := by decide +kernel
theorem dX6_restore_38 : decode cX6_restore 38 = .ok (.aload_n 0, 1) := by decide +kernel
theorem dX6_restore_39 : decode cX6_restore 39 = .ok (.getfield 19, 3) := by decide +kernel
theorem dX6_restore_42 : decode cX6_restore 42 = .ok (.iload_n 2, 1) := by decide +kernel
theorem dX6_restore_43 : decode cX6_restore 43 = .ok (.aload_n 0, 1) := by decide +kernel
theorem dX6_restore_44 : decode cX6_restore 44 = .ok (.getfield 41, 3) := by decide +kernel
theorem dX6_restore_47 : decode cX6_restore 47 = .ok (.bipush 45, 2) := by decide +kernel
theorem dX6_restore_49 : decode cX6_restore 49 = .ok (.iload_n 1, 1) := by decide +kernel
theorem dX6_restore_50 : decode cX6_restore 50 = .ok (.imul, 1) := by decide +kernel
theorem dX6_restore_51 : decode cX6_restore 51 = .ok (.iload_n 2, 1) := by decide +kernel
theorem dX6_restore_52 : decode cX6_restore 52 = .ok (.iadd, 1) := by decide +kernel
theorem dX6_restore_53 : decode cX6_restore 53 = .ok (.iaload, 1) := by decide +kernel
theorem dX6_restore_54 : decode cX6_restore 54 = .ok (.iastore, 1) := by decide +kernel
theorem dX6_restore_55 : decode cX6_restore 55 = .ok (.iinc 2 1, 3) := by decide +kernel
theorem dX6_restore_58 : decode cX6_restore 58 = .ok (.goto (-26), 3) := by decide +kernel
theorem dX6_restore_61 : decode cX6_restore 61 = .ok (.aload_n 0, 1) := by decide +kernel
theorem dX6_restore_62 : decode cX6_restore 62 = .ok (.iconst 0, 1) := by decide +kernel
theorem dX6_restore_63 : decode cX6_restore 63 = .ok (.putfield 149, 3) := by decide +kernel
theorem dX6_restore_66 : decode cX6_restore 66 = .ok (.iconst 1, 1) := by decide +kernel
theorem dX6_restore_67 : decode cX6_restore 67 = .ok (.ireturn, 1) := by decide +kernel
theorem dX6_isOf_0 : decode cX6_isOf 0 = .ok (.iload_n 1, 1) := by decide +kernel
theorem dX6_isOf_1 : decode cX6_isOf 1 = .ok (.ifCond .eq 28, 3) := by decide +kernel
theorem dX6_isOf_4 : decode cX6_isOf 4 = .ok (.iload_n 0, 1) := by decide +kernel
theorem dX6_isOf_5 : decode cX6_isOf 5 = .ok (.iload_n 1, 1) := by decide +kernel
theorem dX6_isOf_6 : decode cX6_isOf 6 = .ok (.if_icmp .eq 23, 3) := by decide +kernel
theorem dX6_isOf_9 : decode cX6_isOf 9 = .ok (.iload_n 1, 1) := by decide +kernel
theorem dX6_isOf_10 : decode cX6_isOf 10 = .ok (.iconst 1, 1) := by decide +kernel
theorem dX6_isOf_11 : decode cX6_isOf 11 = .ok (.if_icmp .ne 8, 3) := by decide +kernel
theorem dX6_isOf_14 : decode cX6_isOf 14 = .ok (.iload_n 0, 1) := by decide +kernel
theorem dX6_isOf_15 : decode cX6_isOf 15 = .ok (.iconst 4, 1) := by decide +kernel
theorem dX6_isOf_16 : decode cX6_isOf 16 = .ok (.if_icmp .lt 13, 3) := by decide +kernel
theorem dX6_isOf_19 : decode cX6_isOf 19 = .ok (.iload_n 1, 1) := by decide +kernel
theorem dX6_isOf_20 : decode cX6_isOf 20 = .ok (.iconst 4, 1) := by decide +kernel
theorem dX6_isOf_21 : decode cX6_isOf 21 = .ok (.if_icmp .ne 12, 3) := by decide +kernel
theorem dX6_isOf_24 : decode cX6_isOf 24 = .ok (.iload_n 0, 1) := by decide +kernel
theorem dX6_isOf_25 : decode cX6_isOf 25 = .ok (.iconst 5, 1) := by decide +kernel
theorem dX6_isOf_26 : decode cX6_isOf 26 = .ok (.if_icmp .ne 7, 3) := by decide +kernel
theorem dX6_isOf_29 : decode cX6_isOf 29 = .ok (.iconst 1, 1) := by decide +kernel
theorem dX6_isOf_30 : decode cX6_isOf 30 = .ok (.goto 4, 3) := by decide +kernel
theorem dX6_isOf_33 : decode cX6_isOf 33 = .ok (.iconst 0, 1) := by decide +kernel
theorem dX6_isOf_34 : decode cX6_isOf 34 = .ok (.ireturn, 1) := by decide +kernel
set_option maxRecDepth 20000 in
theorem ggX6_kind_X6_isTube : GoodIn wsX6_kind wsX6_isTube := goodIn_r _ [8, 2, 9, 10, 7, 11, 15, 16, 17, 18, 19, 20, 21, 22, 23, 24, 25, 26, 27, 28, 29, 30, 31, 32, 33, 34, 35, 36, 37, 38] rfl (by decide +kernel)
set_option maxRecDepth 20000 in
theorem gX6_kind_X6_isTube : GoodIn wsX6_kind (wsV RX6 198 RX6 yX6_isTube wsX6_isTube) := goodIn_app (goodIn_of _ (by decide +kernel)) ggX6_kind_X6_isTube
set_option maxRecDepth 20000 in
theorem ggX6_kind_X6_of : GoodIn wsX6_kind wsX6_of := goodIn_r _ [14] rfl (by decide +kernel)
set_option maxRecDepth 20000 in
theorem gX6_kind_X6_of : GoodIn wsX6_kind (va_wsS RX6 155 yX6_of wsX6_of) := goodIn_app (goodIn_of _ (by decide +kernel)) ggX6_kind_X6_of
theorem dX6_kind_0 : decode cX6_kind 0 = .ok (.aload_n 0, 1) := by decide +kernel
theorem dX6_kind_1 : decode cX6_kind 1 = .ok (.iconst 0, 1) := by decide +kernel
theorem dX6_kind_2 : decode cX6_kind 2 = .ok (.putfield 47, 3) := by decide +kernel
theorem dX6_kind_5 : decode cX6_kind 5 = .ok (.aload_n 0, 1) := by decide +kernel
theorem dX6_kind_6 : decode cX6_kind 6 = .ok (.iload_n 1, 1) := by decide +kernel
theorem dX6_kind_7 : decode cX6_kind 7 = .ok (.invokevirtual 198, 3) := by decide +kernel
theorem dX6_kind_10 : decode cX6_kind 10 = .ok (.ifCond .eq 15, 3) := by decide +kernel
theorem dX6_kind_13 : decode cX6_kind 13 = .ok (.aload_n 0, 1) := by decide +kernel
theorem dX6_kind_14 : decode cX6_kind 14 = .ok (.getfield 19, 3) := by decide +kernel
theorem dX6_kind_17 : decode cX6_kind 17 = .ok (.iload_n 1, 1) := by decide +kernel
theorem dX6_kind_18 : decode cX6_kind 18 = .ok (.iconst 0, 1) := by decide +kernel
theorem dX6_kind_19 : decode cX6_kind 19 = .ok (.invokestatic 155, 3) := by decide +kernel
theorem dX6_kind_22 : decode cX6_kind 22 = .ok (.goto 5, 3) := by decide +kernel
theorem dX6_kind_25 : decode cX6_kind 25 = .ok (.ldc 67, 2) := by decide +kernel
theorem dX6_kind_27 : decode cX6_kind 27 = .ok (.ireturn, 1) := by decide +kernel
set_option maxRecDepth 20000 in
theorem ggX6_as_X6_isTube : GoodIn wsX6_as wsX6_isTube := goodIn_r _ [10, 5, 11, 12, 9, 13, 25, 26, 27, 28, 29, 30, 31, 32, 33, 34, 35, 36, 37, 38, 39, 40, 41, 42, 43, 44, 45, 46, 47, 48] rfl (by decide +kernel)
set_option maxRecDepth 20000 in
theorem gX6_as_X6_isTube : GoodIn wsX6_as (wsV RX6 198 RX6 yX6_isTube wsX6_isTube) := goodIn_app (goodIn_of _ (by decide +kernel)) ggX6_as_X6_isTube
set_option maxRecDepth 20000 in
theorem ggX6_as_X6_in : GoodIn wsX6_as wsX6_in := goodIn_r _ [13] rfl (by decide +kernel)
set_option maxRecDepth 20000 in
theorem gX6_as_X6_in : GoodIn wsX6_as (va_wsS RX6 57 yX6_in wsX6_in) := goodIn_app (goodIn_of _ (by decide +kernel)) ggX6_as_X6_in
set_option maxRecDepth 20000 in
theorem ggX6_as_X6_of : GoodIn wsX6_as wsX6_of := goodIn_r _ [16] rfl (by decide +kernel)
set_option maxRecDepth 20000 in
theorem gX6_as_X6_of : GoodIn wsX6_as (va_wsS RX6 155 yX6_of wsX6_of) := goodIn_app (goodIn_of _ (by decide +kernel)) ggX6_as_X6_of
set_option maxRecDepth 20000 in
theorem ggX6_as_X6_isOf : GoodIn wsX6_as wsX6_isOf := goodIn_r _ [19] rfl (by decide +kernel)
set_option maxRecDepth 20000 in
theorem gX6_as_X6_isOf : GoodIn wsX6_as (va_wsS RX6 286 yX6_isOf wsX6_isOf) := goodIn_app (goodIn_of _ (by decide +kernel)) ggX6_as_X6_isOf
set_option maxRecDepth 20000 in
theorem ggX6_as_X6_finding : GoodIn wsX6_as wsX6_finding := goodIn_r _ [23, 4, 24, 25, 26, 27, 28, 29, 30, 31, 32, 33, 34, 35, 36, 37, 38, 39, 40, 41, 42, 43, 44, 45, 46, 47, 48] rfl (by decide +kernel)
set_option maxRecDepth 20000 in
theorem gX6_as_X6_finding : GoodIn wsX6_as (wsV RX6 68 RX6 yX6_finding wsX6_finding) := goodIn_app (goodIn_of _ (by decide +kernel)) ggX6_as_X6_finding
theorem dX6_as_0 : decode cX6_as 0 = .ok (.aload_n 0, 1) := by decide +kernel
theorem dX6_as_1 : decode cX6_as 1 = .ok (.iconst 0, 1) := by decide +kernel
theorem dX6_as_2 : decode cX6_as 2 = .ok (.putfield 47, 3) := by decide +kernel
theorem dX6_as_5 : decode cX6_as 5 = .ok (.aload_n 0, 1) := by decide +kernel
theorem dX6_as_6 : decode cX6_as 6 = .ok (.iload_n 1, 1) := by decide +kernel
theorem dX6_as_7 : decode cX6_as 7 = .ok (.invokevirtual 198, 3) := by decide +kernel
theorem dX6_as_10 : decode cX6_as 10 = .ok (.ifCond .eq 15, 3) := by decide +kernel
theorem dX6_as_13 : decode cX6_as 13 = .ok (.iload_n 2, 1) := by decide +kernel
theorem dX6_as_14 : decode cX6_as 14 = .ok (.i2l, 1) := by decide +kernel
theorem dX6_as_15 : decode cX6_as 15 = .ok (.lconst 0, 1) := by decide +kernel
theorem dX6_as_16 : decode cX6_as 16 = .ok (.ldc2_w 284, 3) := by decide +kernel
theorem dX6_as_19 : decode cX6_as 19 = .ok (.invokestatic 57, 3) := by decide +kernel
theorem dX6_as_22 : decode cX6_as 22 = .ok (.ifCond .ne 6, 3) := by decide +kernel
theorem dX6_as_25 : decode cX6_as 25 = .ok (.ldc 67, 2) := by decide +kernel
theorem dX6_as_27 : decode cX6_as 27 = .ok (.ireturn, 1) := by decide +kernel
theorem dX6_as_28 : decode cX6_as 28 = .ok (.aload_n 0, 1) := by decide +kernel
theorem dX6_as_29 : decode cX6_as 29 = .ok (.iconst 0, 1) := by decide +kernel
theorem dX6_as_30 : decode cX6_as 30 = .ok (.putfield 51, 3) := by decide +kernel
theorem dX6_as_33 : decode cX6_as 33 = .ok (.aload_n 0, 1) := by decide +kernel
theorem dX6_as_34 : decode cX6_as 34 = .ok (.getfield 19, 3) := by decide +kernel
theorem dX6_as_37 : decode cX6_as 37 = .ok (.iload_n 1, 1) := by decide +kernel
theorem dX6_as_38 : decode cX6_as 38 = .ok (.iconst 0, 1) := by decide +kernel
theorem dX6_as_39 : decode cX6_as 39 = .ok (.invokestatic 155, 3) := by decide +kernel
theorem dX6_as_42 : decode cX6_as 42 = .ok (.iload_n 2, 1) := by decide +kernel
theorem dX6_as_43 : decode cX6_as 43 = .ok (.invokestatic 286, 3) := by decide +kernel
theorem dX6_as_46 : decode cX6_as 46 = .ok (.ifCond .eq 7, 3) := by decide +kernel
theorem dX6_as_49 : decode cX6_as 49 = .ok (.iload_n 1, 1) := by decide +kernel
theorem dX6_as_50 : decode cX6_as 50 = .ok (.goto 8, 3) := by decide +kernel
theorem dX6_as_53 : decode cX6_as 53 = .ok (.aload_n 0, 1) := by decide +kernel
theorem dX6_as_54 : decode cX6_as 54 = .ok (.iconst 3, 1) := by decide +kernel
theorem dX6_as_55 : decode cX6_as 55 = .ok (.invokevirtual 68, 3) := by decide +kernel
theorem dX6_as_58 : decode cX6_as 58 = .ok (.ireturn, 1) := by decide +kernel
theorem dX6_began_0 : decode cX6_began 0 = .ok (.aload_n 0, 1) := by decide +kernel
theorem dX6_began_1 : decode cX6_began 1 = .ok (.getfield 289, 3) := by decide +kernel
theorem dX6_began_4 : decode cX6_began 4 = .ok (.bipush 16, 2) := by decide +kernel
theorem dX6_began_6 : decode cX6_began 6 = .ok (.if_icmp .ge 23, 3) := by decide +kernel
theorem dX6_began_9 : decode cX6_began 9 = .ok (.aload_n 0, 1) := by decide +kernel
theorem dX6_began_10 : decode cX6_began 10 = .ok (.getfield 44, 3) := by decide +kernel
theorem dX6_began_13 : decode cX6_began 13 = .ok (.aload_n 0, 1) := by decide +kernel
theorem dX6_began_14 : decode cX6_began 14 = .ok (.getfield 289, 3) := by decide +kernel
theorem dX6_began_17 : decode cX6_began 17 = .ok (.iload_n 1, 1) := by decide +kernel
theorem dX6_began_18 : decode cX6_began 18 = .ok (.iastore, 1) := by decide +kernel
theorem dX6_began_19 : decode cX6_began 19 = .ok (.aload_n 0, 1) := by decide +kernel
theorem dX6_began_20 : decode cX6_began 20 = .ok (.dup, 1) := by decide +kernel
theorem dX6_began_21 : decode cX6_began 21 = .ok (.getfield 289, 3) := by decide +kernel
theorem dX6_began_24 : decode cX6_began 24 = .ok (.iconst 1, 1) := by decide +kernel
theorem dX6_began_25 : decode cX6_began 25 = .ok (.iadd, 1) := by decide +kernel
theorem dX6_began_26 : decode cX6_began 26 = .ok (.putfield 289, 3) := by decide +kernel
theorem dX6_began_29 : decode cX6_began 29 = .ok (.return_, 1) := by decide +kernel
set_option maxRecDepth 20000 in
theorem ggX6_plainSize_X6_began : GoodIn wsX6_plainSize wsX6_began := goodIn_r _ [6, 7, 8, 12, 13, 14, 15, 16, 17, 18, 19, 20, 21, 22, 23, 24, 25, 26, 27, 28, 29, 30, 31, 32, 33, 34, 35] rfl (by decide +kernel)
set_option maxRecDepth 20000 in
theorem gX6_plainSize_X6_began : GoodIn wsX6_plainSize (wsV RX6 292 RX6 yX6_began wsX6_began) := goodIn_app (goodIn_of _ (by decide +kernel)) ggX6_plainSize_X6_began
set_option maxRecDepth 20000 in
theorem ggX6_plainSize_X6_of : GoodIn wsX6_plainSize wsX6_of := goodIn_r _ [11] rfl (by decide +kernel)
set_option maxRecDepth 20000 in
theorem gX6_plainSize_X6_of : GoodIn wsX6_plainSize (va_wsS RX6 155 yX6_of wsX6_of) := goodIn_app (goodIn_of _ (by decide +kernel)) ggX6_plainSize_X6_of
theorem dX6_plainSize_0 : decode cX6_plainSize 0 = .ok (.aload_n 0, 1) := by decide +kernel
theorem dX6_plainSize_1 : decode cX6_plainSize 1 = .ok (.bipush 10, 2) := by decide +kernel
theorem dX6_plainSize_3 : decode cX6_plainSize 3 = .ok (.invokevirtual 292, 3) := by decide +kernel
theorem dX6_plainSize_6 : decode cX6_plainSize 6 = .ok (.aload_n 0, 1) := by decide +kernel
theorem dX6_plainSize_7 : decode cX6_plainSize 7 = .ok (.getfield 19, 3) := by decide +kernel
theorem dX6_plainSize_10 : decode cX6_plainSize 10 = .ok (.iload_n 1, 1) := by decide +kernel
theorem dX6_plainSize_11 : decode cX6_plainSize 11 = .ok (.iconst 3, 1) := by decide +kernel
theorem dX6_plainSize_12 : decode cX6_plainSize 12 = .ok (.invokestatic 155, 3) := by decide +kernel
theorem dX6_plainSize_15 : decode cX6_plainSize 15 = .ok (.ireturn, 1) := by decide +kernel
set_option maxRecDepth 20000 in
theorem ggX6_woolSize_X6_of : GoodIn wsX6_woolSize wsX6_of := goodIn_r _ [5] rfl (by decide +kernel)
set_option maxRecDepth 20000 in
theorem gX6_woolSize_X6_of : GoodIn wsX6_woolSize (va_wsS RX6 155 yX6_of wsX6_of) := goodIn_app (goodIn_of _ (by decide +kernel)) ggX6_woolSize_X6_of
set_option maxRecDepth 20000 in
theorem ggX6_woolSize_X6_began : GoodIn wsX6_woolSize wsX6_began := goodIn_r _ [9, 10, 11, 16, 17, 18, 19, 20, 21, 22, 23, 24, 25, 26, 27, 28, 29, 30, 31, 32, 33, 34, 35, 36, 37, 38, 39] rfl (by decide +kernel)
set_option maxRecDepth 20000 in
theorem gX6_woolSize_X6_began : GoodIn wsX6_woolSize (wsV RX6 292 RX6 yX6_began wsX6_began) := goodIn_app (goodIn_of _ (by decide +kernel)) ggX6_woolSize_X6_began
set_option maxRecDepth 20000 in
theorem ggX6_woolSize_X6_plainSize : GoodIn wsX6_woolSize wsX6_plainSize := goodIn_r _ [15, 1, 6, 7, 8, 4, 9, 10, 11, 2, 3, 5, 16, 17, 18, 19, 20, 21, 22, 23, 24, 25, 26, 27, 28, 29, 30, 31, 32, 33, 34, 35, 36, 37, 38, 39] rfl (by decide +kernel)
set_option maxRecDepth 20000 in
theorem gX6_woolSize_X6_plainSize : GoodIn wsX6_woolSize (wsV RX6 295 RX6 yX6_plainSize wsX6_plainSize) := goodIn_app (goodIn_of _ (by decide +kernel)) ggX6_woolSize_X6_plainSize
theorem dX6_woolSize_0 : decode cX6_woolSize 0 = .ok (.aload_n 0, 1) := by decide +kernel
theorem dX6_woolSize_1 : decode cX6_woolSize 1 = .ok (.getfield 19, 3) := by decide +kernel
theorem dX6_woolSize_4 : decode cX6_woolSize 4 = .ok (.iload_n 1, 1) := by decide +kernel
theorem dX6_woolSize_5 : decode cX6_woolSize 5 = .ok (.iconst 0, 1) := by decide +kernel
theorem dX6_woolSize_6 : decode cX6_woolSize 6 = .ok (.invokestatic 155, 3) := by decide +kernel
theorem dX6_woolSize_9 : decode cX6_woolSize 9 = .ok (.iconst 5, 1) := by decide +kernel
theorem dX6_woolSize_10 : decode cX6_woolSize 10 = .ok (.if_icmp .ne 7, 3) := by decide +kernel
theorem dX6_woolSize_13 : decode cX6_woolSize 13 = .ok (.iconst 1, 1) := by decide +kernel
theorem dX6_woolSize_14 : decode cX6_woolSize 14 = .ok (.goto 4, 3) := by decide +kernel
theorem dX6_woolSize_17 : decode cX6_woolSize 17 = .ok (.iconst 0, 1) := by decide +kernel
theorem dX6_woolSize_18 : decode cX6_woolSize 18 = .ok (.istore_n 2, 1) := by decide +kernel
theorem dX6_woolSize_19 : decode cX6_woolSize 19 = .ok (.iload_n 2, 1) := by decide +kernel
theorem dX6_woolSize_20 : decode cX6_woolSize 20 = .ok (.ifCond .eq 9, 3) := by decide +kernel
theorem dX6_woolSize_23 : decode cX6_woolSize 23 = .ok (.aload_n 0, 1) := by decide +kernel
theorem dX6_woolSize_24 : decode cX6_woolSize 24 = .ok (.bipush 14, 2) := by decide +kernel
theorem dX6_woolSize_26 : decode cX6_woolSize 26 = .ok (.invokevirtual 292, 3) := by decide +kernel
theorem dX6_woolSize_29 : decode cX6_woolSize 29 = .ok (.aload_n 0, 1) := by decide +kernel
theorem dX6_woolSize_30 : decode cX6_woolSize 30 = .ok (.bipush 13, 2) := by decide +kernel
theorem dX6_woolSize_32 : decode cX6_woolSize 32 = .ok (.invokevirtual 292, 3) := by decide +kernel
theorem dX6_woolSize_35 : decode cX6_woolSize 35 = .ok (.aload_n 0, 1) := by decide +kernel
theorem dX6_woolSize_36 : decode cX6_woolSize 36 = .ok (.iload_n 1, 1) := by decide +kernel
theorem dX6_woolSize_37 : decode cX6_woolSize 37 = .ok (.invokevirtual 295, 3) := by decide +kernel
theorem dX6_woolSize_40 : decode cX6_woolSize 40 = .ok (.bipush 100, 2) := by decide +kernel
theorem dX6_woolSize_42 : decode cX6_woolSize 42 = .ok (.isub, 1) := by decide +kernel
theorem dX6_woolSize_43 : decode cX6_woolSize 43 = .ok (.istore_n 3, 1) := by decide +kernel
theorem dX6_woolSize_44 : decode cX6_woolSize 44 = .ok (.iload_n 2, 1) := by decide +kernel
theorem dX6_woolSize_45 : decode cX6_woolSize 45 = .ok (.ifCond .eq 9, 3) := by decide +kernel
theorem dX6_woolSize_48 : decode cX6_woolSize 48 = .ok (.iconst 2, 1) := by decide +kernel
theorem dX6_woolSize_49 : decode cX6_woolSize 49 = .ok (.iload_n 3, 1) := by decide +kernel
theorem dX6_woolSize_50 : decode cX6_woolSize 50 = .ok (.imul, 1) := by decide +kernel
theorem dX6_woolSize_51 : decode cX6_woolSize 51 = .ok (.goto 4, 3) := by decide +kernel
theorem dX6_woolSize_54 : decode cX6_woolSize 54 = .ok (.iload_n 3, 1) := by decide +kernel
theorem dX6_woolSize_55 : decode cX6_woolSize 55 = .ok (.ireturn, 1) := by decide +kernel
set_option maxRecDepth 20000 in
theorem ggX6_markOf_X6_of : GoodIn wsX6_markOf wsX6_of := goodIn_r _ [5] rfl (by decide +kernel)
set_option maxRecDepth 20000 in
theorem gX6_markOf_X6_of : GoodIn wsX6_markOf (va_wsS RX6 155 yX6_of wsX6_of) := goodIn_app (goodIn_of _ (by decide +kernel)) ggX6_markOf_X6_of
set_option maxRecDepth 20000 in
theorem ggX6_markOf_X6_began : GoodIn wsX6_markOf wsX6_began := goodIn_r _ [9, 10, 11, 20, 21, 22, 23, 24, 25, 26, 27, 28, 29, 30, 31, 32, 33, 34, 35, 36, 37, 38, 39, 40, 41, 42, 43] rfl (by decide +kernel)
set_option maxRecDepth 20000 in
theorem gX6_markOf_X6_began : GoodIn wsX6_markOf (wsV RX6 292 RX6 yX6_began wsX6_began) := goodIn_app (goodIn_of _ (by decide +kernel)) ggX6_markOf_X6_began
set_option maxRecDepth 20000 in
theorem ggX6_markOf_X6_woolSize : GoodIn wsX6_markOf wsX6_woolSize := goodIn_r _ [15, 1, 2, 3, 4, 5, 6, 7, 8, 9, 10, 11, 16, 17, 18, 19, 20, 21, 22, 23, 24, 25, 26, 27, 28, 29, 30, 31, 32, 33, 34, 35, 36, 37, 38, 39, 40, 41, 42, 43] rfl (by decide +kernel)
set_option maxRecDepth 20000 in
theorem gX6_markOf_X6_woolSize : GoodIn wsX6_markOf (wsV RX6 298 RX6 yX6_woolSize wsX6_woolSize) := goodIn_app (goodIn_of _ (by decide +kernel)) ggX6_markOf_X6_woolSize
theorem dX6_markOf_0 : decode cX6_markOf 0 = .ok (.aload_n 0, 1) := by decide +kernel
theorem dX6_markOf_1 : decode cX6_markOf 1 = .ok (.getfield 19, 3) := by decide +kernel
theorem dX6_markOf_4 : decode cX6_markOf 4 = .ok (.iload_n 1, 1) := by decide +kernel
theorem dX6_markOf_5 : decode cX6_markOf 5 = .ok (.iconst 0, 1) := by decide +kernel
theorem dX6_markOf_6 : decode cX6_markOf 6 = .ok (.invokestatic 155, 3) := by decide +kernel
theorem dX6_markOf_9 : decode cX6_markOf 9 = .ok (.istore_n 2, 1) := by decide +kernel
theorem dX6_markOf_10 : decode cX6_markOf 10 = .ok (.iload_n 2, 1) := by decide +kernel
theorem dX6_markOf_11 : decode cX6_markOf 11 = .ok (.iconst 4, 1) := by decide +kernel
theorem dX6_markOf_12 : decode cX6_markOf 12 = .ok (.if_icmp .lt 23, 3) := by decide +kernel
theorem dX6_markOf_15 : decode cX6_markOf 15 = .ok (.aload_n 0, 1) := by decide +kernel
theorem dX6_markOf_16 : decode cX6_markOf 16 = .ok (.bipush 23, 2) := by decide +kernel
theorem dX6_markOf_18 : decode cX6_markOf 18 = .ok (.invokevirtual 292, 3) := by decide +kernel
theorem dX6_markOf_21 : decode cX6_markOf 21 = .ok (.aload_n 0, 1) := by decide +kernel
theorem dX6_markOf_22 : decode cX6_markOf 22 = .ok (.bipush 20, 2) := by decide +kernel
theorem dX6_markOf_24 : decode cX6_markOf 24 = .ok (.invokevirtual 292, 3) := by decide +kernel
theorem dX6_markOf_27 : decode cX6_markOf 27 = .ok (.iload_n 1, 1) := by decide +kernel
theorem dX6_markOf_28 : decode cX6_markOf 28 = .ok (.aload_n 0, 1) := by decide +kernel
theorem dX6_markOf_29 : decode cX6_markOf 29 = .ok (.iload_n 1, 1) := by decide +kernel
theorem dX6_markOf_30 : decode cX6_markOf 30 = .ok (.invokevirtual 298, 3) := by decide +kernel
theorem dX6_markOf_33 : decode cX6_markOf 33 = .ok (.isub, 1) := by decide +kernel
theorem dX6_markOf_34 : decode cX6_markOf 34 = .ok (.ireturn, 1) := by decide +kernel
theorem dX6_markOf_35 : decode cX6_markOf 35 = .ok (.iload_n 2, 1) := by decide +kernel
theorem dX6_markOf_36 : decode cX6_markOf 36 = .ok (.iconst 1, 1) := by decide +kernel
theorem dX6_markOf_37 : decode cX6_markOf 37 = .ok (.if_icmp .eq 19, 3) := by decide +kernel
theorem dX6_markOf_40 : decode cX6_markOf 40 = .ok (.aload_n 0, 1) := by decide +kernel
theorem dX6_markOf_41 : decode cX6_markOf 41 = .ok (.iload_n 2, 1) := by decide +kernel
theorem dX6_markOf_42 : decode cX6_markOf 42 = .ok (.iconst 3, 1) := by decide +kernel
theorem dX6_markOf_43 : decode cX6_markOf 43 = .ok (.if_icmp .ne 8, 3) := by decide +kernel
theorem dX6_markOf_46 : decode cX6_markOf 46 = .ok (.bipush 22, 2) := by decide +kernel
theorem dX6_markOf_48 : decode cX6_markOf 48 = .ok (.goto 5, 3) := by decide +kernel
theorem dX6_markOf_51 : decode cX6_markOf 51 = .ok (.bipush 24, 2) := by decide +kernel
theorem dX6_markOf_53 : decode cX6_markOf 53 = .ok (.invokevirtual 292, 3) := by decide +kernel
theorem dX6_markOf_56 : decode cX6_markOf 56 = .ok (.aload_n 0, 1) := by decide +kernel
theorem dX6_markOf_57 : decode cX6_markOf 57 = .ok (.bipush 21, 2) := by decide +kernel
theorem dX6_markOf_59 : decode cX6_markOf 59 = .ok (.invokevirtual 292, 3) := by decide +kernel
theorem dX6_markOf_62 : decode cX6_markOf 62 = .ok (.aload_n 0, 1) := by decide +kernel
theorem dX6_markOf_63 : decode cX6_markOf 63 = .ok (.bipush 20, 2) := by decide +kernel
theorem dX6_markOf_65 : decode cX6_markOf 65 = .ok (.invokevirtual 292, 3) := by decide +kernel
theorem dX6_markOf_68 : decode cX6_markOf 68 = .ok (.iload_n 1, 1) := by decide +kernel
theorem dX6_markOf_69 : decode cX6_markOf 69 = .ok (.aload_n 0, 1) := by decide +kernel
theorem dX6_markOf_70 : decode cX6_markOf 70 = .ok (.getfield 19, 3) := by decide +kernel
theorem dX6_markOf_73 : decode cX6_markOf 73 = .ok (.iload_n 1, 1) := by decide +kernel
theorem dX6_markOf_74 : decode cX6_markOf 74 = .ok (.iconst 4, 1) := by decide +kernel
theorem dX6_markOf_75 : decode cX6_markOf 75 = .ok (.invokestatic 155, 3) := by decide +kernel
theorem dX6_markOf_78 : decode cX6_markOf 78 = .ok (.iadd, 1) := by decide +kernel
theorem dX6_markOf_79 : decode cX6_markOf 79 = .ok (.istore_n 3, 1) := by decide +kernel
theorem dX6_markOf_80 : decode cX6_markOf 80 = .ok (.iload_n 2, 1) := by decide +kernel
theorem dX6_markOf_81 : decode cX6_markOf 81 = .ok (.iconst 1, 1) := by decide +kernel
theorem dX6_markOf_82 : decode cX6_markOf 82 = .ok (.if_icmp .ne 7, 3) := by decide +kernel
theorem dX6_markOf_85 : decode cX6_markOf 85 = .ok (.iload_n 3, 1) := by decide +kernel
theorem dX6_markOf_86 : decode cX6_markOf 86 = .ok (.goto 19, 3) := by decide +kernel
theorem dX6_markOf_89 : decode cX6_markOf 89 = .ok (.iload_n 2, 1) := by decide +kernel
theorem dX6_markOf_90 : decode cX6_markOf 90 = .ok (.iconst 3, 1) := by decide +kernel
theorem dX6_markOf_91 : decode cX6_markOf 91 = .ok (.if_icmp .ne 11, 3) := by decide +kernel
theorem dX6_markOf_94 : decode cX6_markOf 94 = .ok (.iload_n 3, 1) := by decide +kernel
theorem dX6_markOf_95 : decode cX6_markOf 95 = .ok (.sipush 1000, 3) := by decide +kernel
theorem dX6_markOf_98 : decode cX6_markOf 98 = .ok (.isub, 1) := by decide +kernel
theorem dX6_markOf_99 : decode cX6_markOf 99 = .ok (.goto 6, 3) := by decide +kernel
theorem dX6_markOf_102 : decode cX6_markOf 102 = .ok (.iconst 2, 1) := by decide +kernel
theorem dX6_markOf_103 : decode cX6_markOf 103 = .ok (.iload_n 3, 1) := by decide +kernel
theorem dX6_markOf_104 : decode cX6_markOf 104 = .ok (.imul, 1) := by decide +kernel
theorem dX6_markOf_105 : decode cX6_markOf 105 = .ok (.ireturn, 1) := by decide +kernel
set_option maxRecDepth 20000 in
theorem ggX6_sizeOf_X6_of : GoodIn wsX6_sizeOf wsX6_of := goodIn_r _ [5] rfl (by decide +kernel)
set_option maxRecDepth 20000 in
theorem gX6_sizeOf_X6_of : GoodIn wsX6_sizeOf (va_wsS RX6 155 yX6_of wsX6_of) := goodIn_app (goodIn_of _ (by decide +kernel)) ggX6_sizeOf_X6_of
set_option maxRecDepth 20000 in
theorem ggX6_sizeOf_X6_woolSize : GoodIn wsX6_sizeOf wsX6_woolSize := goodIn_r _ [9, 1, 2, 3, 4, 5, 10, 11, 12, 13, 14, 15, 16, 17, 18, 19, 24, 25, 26, 27, 28, 29, 30, 31, 32, 33, 34, 35, 36, 37, 38, 39, 40, 41, 42, 43, 44, 45, 46, 47] rfl (by decide +kernel)
set_option maxRecDepth 20000 in
theorem gX6_sizeOf_X6_woolSize : GoodIn wsX6_sizeOf (wsV RX6 298 RX6 yX6_woolSize wsX6_woolSize) := goodIn_app (goodIn_of _ (by decide +kernel)) ggX6_sizeOf_X6_woolSize
set_option maxRecDepth 20000 in
theorem ggX6_sizeOf_X6_began : GoodIn wsX6_sizeOf wsX6_began := goodIn_r _ [13, 14, 15, 24, 25, 26, 27, 28, 29, 30, 31, 32, 33, 34, 35, 36, 37, 38, 39, 40, 41, 42, 43, 44, 45, 46, 47] rfl (by decide +kernel)
set_option maxRecDepth 20000 in
theorem gX6_sizeOf_X6_began : GoodIn wsX6_sizeOf (wsV RX6 292 RX6 yX6_began wsX6_began) := goodIn_app (goodIn_of _ (by decide +kernel)) ggX6_sizeOf_X6_began
set_option maxRecDepth 20000 in
theorem ggX6_sizeOf_X6_plainSize : GoodIn wsX6_sizeOf wsX6_plainSize := goodIn_r _ [19, 1, 10, 11, 12, 4, 13, 14, 15, 2, 3, 5, 24, 25, 26, 27, 28, 29, 30, 31, 32, 33, 34, 35, 36, 37, 38, 39, 40, 41, 42, 43, 44, 45, 46, 47] rfl (by decide +kernel)
set_option maxRecDepth 20000 in
theorem gX6_sizeOf_X6_plainSize : GoodIn wsX6_sizeOf (wsV RX6 295 RX6 yX6_plainSize wsX6_plainSize) := goodIn_app (goodIn_of _ (by decide +kernel)) ggX6_sizeOf_X6_plainSize
set_option maxRecDepth 20000 in
theorem ggX6_sizeOf_X6_markOf : GoodIn wsX6_sizeOf wsX6_markOf := goodIn_r _ [23, 1, 2, 3, 4, 5, 10, 11, 12, 13, 14, 15, 6, 7, 8, 9, 16, 17, 18, 19, 24, 25, 26, 27, 28, 29, 30, 31, 32, 33, 34, 35, 36, 37, 38, 39, 40, 41, 42, 43, 44, 45, 46, 47] rfl (by decide +kernel)
set_option maxRecDepth 20000 in
theorem gX6_sizeOf_X6_markOf : GoodIn wsX6_sizeOf (wsV RX6 301 RX6 yX6_markOf wsX6_markOf) := goodIn_app (goodIn_of _ (by decide +kernel)) ggX6_sizeOf_X6_markOf
theorem dX6_sizeOf_0 : decode cX6_sizeOf 0 = .ok (.aload_n 0, 1) := by decide +kernel
theorem dX6_sizeOf_1 : decode cX6_sizeOf 1 = .ok (.getfield 19, 3) := by decide +kernel
theorem dX6_sizeOf_4 : decode cX6_sizeOf 4 = .ok (.iload_n 1, 1) := by decide +kernel
theorem dX6_sizeOf_5 : decode cX6_sizeOf 5 = .ok (.iconst 0, 1) := by decide +kernel
theorem dX6_sizeOf_6 : decode cX6_sizeOf 6 = .ok (.invokestatic 155, 3) := by decide +kernel
theorem dX6_sizeOf_9 : decode cX6_sizeOf 9 = .ok (.istore_n 2, 1) := by decide +kernel
theorem dX6_sizeOf_10 : decode cX6_sizeOf 10 = .ok (.iload_n 2, 1) := by decide +kernel
theorem dX6_sizeOf_11 : decode cX6_sizeOf 11 = .ok (.iconst 4, 1) := by decide +kernel
theorem dX6_sizeOf_12 : decode cX6_sizeOf 12 = .ok (.if_icmp .lt 9, 3) := by decide +kernel
theorem dX6_sizeOf_15 : decode cX6_sizeOf 15 = .ok (.aload_n 0, 1) := by decide +kernel
theorem dX6_sizeOf_16 : decode cX6_sizeOf 16 = .ok (.iload_n 1, 1) := by decide +kernel
theorem dX6_sizeOf_17 : decode cX6_sizeOf 17 = .ok (.invokevirtual 298, 3) := by decide +kernel
theorem dX6_sizeOf_20 : decode cX6_sizeOf 20 = .ok (.ireturn, 1) := by decide +kernel
theorem dX6_sizeOf_21 : decode cX6_sizeOf 21 = .ok (.iload_n 2, 1) := by decide +kernel
theorem dX6_sizeOf_22 : decode cX6_sizeOf 22 = .ok (.iconst 2, 1) := by decide +kernel
theorem dX6_sizeOf_23 : decode cX6_sizeOf 23 = .ok (.if_icmp .ne 9, 3) := by decide +kernel
theorem dX6_sizeOf_26 : decode cX6_sizeOf 26 = .ok (.aload_n 0, 1) := by decide +kernel
theorem dX6_sizeOf_27 : decode cX6_sizeOf 27 = .ok (.bipush 12, 2) := by decide +kernel
theorem dX6_sizeOf_29 : decode cX6_sizeOf 29 = .ok (.invokevirtual 292, 3) := by decide +kernel
theorem dX6_sizeOf_32 : decode cX6_sizeOf 32 = .ok (.aload_n 0, 1) := by decide +kernel
theorem dX6_sizeOf_33 : decode cX6_sizeOf 33 = .ok (.bipush 11, 2) := by decide +kernel
theorem dX6_sizeOf_35 : decode cX6_sizeOf 35 = .ok (.invokevirtual 292, 3) := by decide +kernel
theorem dX6_sizeOf_38 : decode cX6_sizeOf 38 = .ok (.aload_n 0, 1) := by decide +kernel
theorem dX6_sizeOf_39 : decode cX6_sizeOf 39 = .ok (.iload_n 1, 1) := by decide +kernel
theorem dX6_sizeOf_40 : decode cX6_sizeOf 40 = .ok (.invokevirtual 295, 3) := by decide +kernel
theorem dX6_sizeOf_43 : decode cX6_sizeOf 43 = .ok (.istore_n 3, 1) := by decide +kernel
theorem dX6_sizeOf_44 : decode cX6_sizeOf 44 = .ok (.iload_n 3, 1) := by decide +kernel
theorem dX6_sizeOf_45 : decode cX6_sizeOf 45 = .ok (.aload_n 0, 1) := by decide +kernel
theorem dX6_sizeOf_46 : decode cX6_sizeOf 46 = .ok (.iload_n 1, 1) := by decide +kernel
theorem dX6_sizeOf_47 : decode cX6_sizeOf 47 = .ok (.invokevirtual 301, 3) := by decide +kernel
theorem dX6_sizeOf_50 : decode cX6_sizeOf 50 = .ok (.iadd, 1) := by decide +kernel
theorem dX6_sizeOf_51 : decode cX6_sizeOf 51 = .ok (.istore_n 3, 1) := by decide +kernel
theorem dX6_sizeOf_52 : decode cX6_sizeOf 52 = .ok (.iload_n 2, 1) := by decide +kernel
theorem dX6_sizeOf_53 : decode cX6_sizeOf 53 = .ok (.iconst 2, 1) := by decide +kernel
theorem dX6_sizeOf_54 : decode cX6_sizeOf 54 = .ok (.if_icmp .ne 8, 3) := by decide +kernel
theorem dX6_sizeOf_57 : decode cX6_sizeOf 57 = .ok (.iload_n 3, 1) := by decide +kernel
theorem dX6_sizeOf_58 : decode cX6_sizeOf 58 = .ok (.ineg, 1) := by decide +kernel
theorem dX6_sizeOf_59 : decode cX6_sizeOf 59 = .ok (.goto 4, 3) := by decide +kernel
theorem dX6_sizeOf_62 : decode cX6_sizeOf 62 = .ok (.iload_n 3, 1) := by decide +kernel
theorem dX6_sizeOf_63 : decode cX6_sizeOf 63 = .ok (.ireturn, 1) := by decide +kernel
set_option maxRecDepth 20000 in
theorem ggX6_ask_X6_isTube : GoodIn wsX6_ask wsX6_isTube := goodIn_r _ [8, 9, 10, 11, 7, 12, 37, 38, 39, 40, 41, 42, 43, 44, 45, 46, 47, 48, 49, 50, 51, 52, 53, 54, 55, 56, 57, 58, 59, 60] rfl (by decide +kernel)
set_option maxRecDepth 20000 in
theorem gX6_ask_X6_isTube : GoodIn wsX6_ask (wsV RX6 198 RX6 yX6_isTube wsX6_isTube) := goodIn_app (goodIn_of _ (by decide +kernel)) ggX6_ask_X6_isTube
set_option maxRecDepth 20000 in
theorem ggX6_ask_X6_in : GoodIn wsX6_ask wsX6_in := goodIn_r _ [12] rfl (by decide +kernel)
set_option maxRecDepth 20000 in
theorem gX6_ask_X6_in : GoodIn wsX6_ask (va_wsS RX6 57 yX6_in wsX6_in) := goodIn_app (goodIn_of _ (by decide +kernel)) ggX6_ask_X6_in
set_option maxRecDepth 20000 in
theorem ggX6_ask_X6_sizeOf : GoodIn wsX6_ask wsX6_sizeOf := goodIn_r _ [16, 9, 17, 18, 7, 19, 20, 21, 22, 23, 24, 25, 26, 27, 3, 28, 29, 30, 31, 32, 33, 34, 35, 36, 37, 38, 39, 40, 41, 42, 43, 44, 45, 46, 47, 48, 49, 50, 51, 52, 53, 54, 55, 56, 57, 58, 59, 60] rfl (by decide +kernel)
set_option maxRecDepth 20000 in
theorem gX6_ask_X6_sizeOf : GoodIn wsX6_ask (wsV RX6 304 RX6 yX6_sizeOf wsX6_sizeOf) := goodIn_app (goodIn_of _ (by decide +kernel)) ggX6_ask_X6_sizeOf
set_option maxRecDepth 20000 in
theorem ggX6_ask_X6_markOf : GoodIn wsX6_ask wsX6_markOf := goodIn_r _ [36, 9, 17, 18, 7, 19, 24, 25, 26, 27, 3, 28, 20, 21, 22, 23, 29, 30, 31, 32, 37, 38, 39, 40, 41, 42, 43, 44, 45, 46, 47, 48, 49, 50, 51, 52, 53, 54, 55, 56, 57, 58, 59, 60] rfl (by decide +kernel)
set_option maxRecDepth 20000 in
theorem gX6_ask_X6_markOf : GoodIn wsX6_ask (wsV RX6 301 RX6 yX6_markOf wsX6_markOf) := goodIn_app (goodIn_of _ (by decide +kernel)) ggX6_ask_X6_markOf
theorem dX6_ask_0 : decode cX6_ask 0 = .ok (.aload_n 0, 1) := by decide +kernel
theorem dX6_ask_1 : decode cX6_ask 1 = .ok (.iconst 0, 1) := by decide +kernel
theorem dX6_ask_2 : decode cX6_ask 2 = .ok (.putfield 47, 3) := by decide +kernel
theorem dX6_ask_5 : decode cX6_ask 5 = .ok (.aload_n 0, 1) := by decide +kernel
theorem dX6_ask_6 : decode cX6_ask 6 = .ok (.iload_n 1, 1) := by decide +kernel
theorem dX6_ask_7 : decode cX6_ask 7 = .ok (.invokevirtual 198, 3) := by decide +kernel
theorem dX6_ask_10 : decode cX6_ask 10 = .ok (.ifCond .eq 13, 3) := by decide +kernel
theorem dX6_ask_13 : decode cX6_ask 13 = .ok (.iload_n 2, 1) := by decide +kernel
theorem dX6_ask_14 : decode cX6_ask 14 = .ok (.i2l, 1) := by decide +kernel
theorem dX6_ask_15 : decode cX6_ask 15 = .ok (.lconst 0, 1) := by decide +kernel
theorem dX6_ask_16 : decode cX6_ask 16 = .ok (.lconst 1, 1) := by decide +kernel
theorem dX6_ask_17 : decode cX6_ask 17 = .ok (.invokestatic 57, 3) := by decide +kernel
theorem dX6_ask_20 : decode cX6_ask 20 = .ok (.ifCond .ne 6, 3) := by decide +kernel
theorem dX6_ask_23 : decode cX6_ask 23 = .ok (.ldc 67, 2) := by decide +kernel
theorem dX6_ask_25 : decode cX6_ask 25 = .ok (.ireturn, 1) := by decide +kernel
theorem dX6_ask_26 : decode cX6_ask 26 = .ok (.aload_n 0, 1) := by decide +kernel
theorem dX6_ask_27 : decode cX6_ask 27 = .ok (.iconst 0, 1) := by decide +kernel
theorem dX6_ask_28 : decode cX6_ask 28 = .ok (.putfield 289, 3) := by decide +kernel
theorem dX6_ask_31 : decode cX6_ask 31 = .ok (.iload_n 2, 1) := by decide +kernel
theorem dX6_ask_32 : decode cX6_ask 32 = .ok (.ifCond .ne 11, 3) := by decide +kernel
theorem dX6_ask_35 : decode cX6_ask 35 = .ok (.aload_n 0, 1) := by decide +kernel
theorem dX6_ask_36 : decode cX6_ask 36 = .ok (.iload_n 1, 1) := by decide +kernel
theorem dX6_ask_37 : decode cX6_ask 37 = .ok (.invokevirtual 304, 3) := by decide +kernel
theorem dX6_ask_40 : decode cX6_ask 40 = .ok (.goto 8, 3) := by decide +kernel
theorem dX6_ask_43 : decode cX6_ask 43 = .ok (.aload_n 0, 1) := by decide +kernel
theorem dX6_ask_44 : decode cX6_ask 44 = .ok (.iload_n 1, 1) := by decide +kernel
theorem dX6_ask_45 : decode cX6_ask 45 = .ok (.invokevirtual 301, 3) := by decide +kernel
theorem dX6_ask_48 : decode cX6_ask 48 = .ok (.ireturn, 1) := by decide +kernel
set_option maxRecDepth 20000 in
theorem ggX6_trace_X6_in : GoodIn wsX6_trace wsX6_in := goodIn_r _ [8] rfl (by decide +kernel)
set_option maxRecDepth 20000 in
theorem gX6_trace_X6_in : GoodIn wsX6_trace (va_wsS RX6 57 yX6_in wsX6_in) := goodIn_app (goodIn_of _ (by decide +kernel)) ggX6_trace_X6_in
theorem dX6_trace_0 : decode cX6_trace 0 = .ok (.aload_n 0, 1) := by decide +kernel
theorem dX6_trace_1 : decode cX6_trace 1 = .ok (.iconst 0, 1) := by decide +kernel
theorem dX6_trace_2 : decode cX6_trace 2 = .ok (.putfield 47, 3) := by decide +kernel
theorem dX6_trace_5 : decode cX6_trace 5 = .ok (.iload_n 1, 1) := by decide +kernel
theorem dX6_trace_6 : decode cX6_trace 6 = .ok (.i2l, 1) := by decide +kernel
theorem dX6_trace_7 : decode cX6_trace 7 = .ok (.lconst 0, 1) := by decide +kernel
theorem dX6_trace_8 : decode cX6_trace 8 = .ok (.aload_n 0, 1) := by decide +kernel
theorem dX6_trace_9 : decode cX6_trace 9 = .ok (.getfield 289, 3) := by decide +kernel
theorem dX6_trace_12 : decode cX6_trace 12 = .ok (.iconst 1, 1) := by decide +kernel
theorem dX6_trace_13 : decode cX6_trace 13 = .ok (.isub, 1) := by decide +kernel
theorem dX6_trace_14 : decode cX6_trace 14 = .ok (.i2l, 1) := by decide +kernel
theorem dX6_trace_15 : decode cX6_trace 15 = .ok (.invokestatic 57, 3) := by decide +kernel
theorem dX6_trace_18 : decode cX6_trace 18 = .ok (.ifCond .eq 12, 3) := by decide +kernel
theorem dX6_trace_21 : decode cX6_trace 21 = .ok (.aload_n 0, 1) := by decide +kernel
theorem dX6_trace_22 : decode cX6_trace 22 = .ok (.getfield 44, 3) := by decide +kernel
theorem dX6_trace_25 : decode cX6_trace 25 = .ok (.iload_n 1, 1) := by decide +kernel
theorem dX6_trace_26 : decode cX6_trace 26 = .ok (.iaload, 1) := by decide +kernel
theorem dX6_trace_27 : decode cX6_trace 27 = .ok (.goto 5, 3) := by decide +kernel
theorem dX6_trace_30 : decode cX6_trace 30 = .ok (.ldc 90, 2) := by decide +kernel
theorem dX6_trace_32 : decode cX6_trace 32 = .ok (.ireturn, 1) := by decide +kernel
set_option maxRecDepth 20000 in
theorem ggX6_count_X6_colds : GoodIn wsX6_count wsX6_colds := goodIn_r _ [10, 11, 12, 9, 13, 14, 15, 16] rfl (by decide +kernel)
set_option maxRecDepth 20000 in
theorem gX6_count_X6_colds : GoodIn wsX6_count (va_wsS RX6 195 yX6_colds wsX6_colds) := goodIn_app (goodIn_of _ (by decide +kernel)) ggX6_count_X6_colds
set_option maxRecDepth 20000 in
theorem ggX6_count_X6_upOf : GoodIn wsX6_count wsX6_upOf := goodIn_r _ [19, 20, 21, 9, 22] rfl (by decide +kernel)
set_option maxRecDepth 20000 in
theorem gX6_count_X6_upOf : GoodIn wsX6_count (va_wsS RX6 185 yX6_upOf wsX6_upOf) := goodIn_app (goodIn_of _ (by decide +kernel)) ggX6_count_X6_upOf
theorem dX6_count_0 : decode cX6_count 0 = .ok (.aload_n 0, 1) := by decide +kernel
theorem dX6_count_1 : decode cX6_count 1 = .ok (.iconst 0, 1) := by decide +kernel
theorem dX6_count_2 : decode cX6_count 2 = .ok (.putfield 47, 3) := by decide +kernel
theorem dX6_count_5 : decode cX6_count 5 = .ok (.iconst 0, 1) := by decide +kernel
theorem dX6_count_6 : decode cX6_count 6 = .ok (.istore_n 2, 1) := by decide +kernel
theorem dX6_count_7 : decode cX6_count 7 = .ok (.iload_n 1, 1) := by decide +kernel
theorem dX6_count_8 : decode cX6_count 8 = .ok (.tableswitch 128 0 7 #[48, 81, 88, 95, 102, 110, 118, 123], 48) := by decide +kernel
theorem dX6_count_56 : decode cX6_count 56 = .ok (.iconst 0, 1) := by decide +kernel
theorem dX6_count_57 : decode cX6_count 57 = .ok (.istore_n 3, 1) := by decide +kernel
theorem dX6_count_58 : decode cX6_count 58 = .ok (.iload_n 3, 1) := by decide +kernel
theorem dX6_count_59 : decode cX6_count 59 = .ok (.bipush 8, 2) := by decide +kernel
theorem dX6_count_61 : decode cX6_count 61 = .ok (.if_icmp .ge 26, 3) := by decide +kernel
theorem dX6_count_64 : decode cX6_count 64 = .ok (.iload_n 2, 1) := by decide +kernel
theorem dX6_count_65 : decode cX6_count 65 = .ok (.aload_n 0, 1) := by decide +kernel
theorem dX6_count_66 : decode cX6_count 66 = .ok (.getfield 7, 3) := by decide +kernel
theorem dX6_count_69 : decode cX6_count 69 = .ok (.iload_n 3, 1) := by decide +kernel
theorem dX6_count_70 : decode cX6_count 70 = .ok (.iaload, 1) := by decide +kernel
theorem dX6_count_71 : decode cX6_count 71 = .ok (.ifCond .lt 7, 3) := by decide +kernel
theorem dX6_count_74 : decode cX6_count 74 = .ok (.iconst 1, 1) := by decide +kernel
theorem dX6_count_75 : decode cX6_count 75 = .ok (.goto 4, 3) := by decide +kernel
theorem dX6_count_78 : decode cX6_count 78 = .ok (.iconst 0, 1) := by decide +kernel
theorem dX6_count_79 : decode cX6_count 79 = .ok (.iadd, 1) := by decide +kernel
theorem dX6_count_80 : decode cX6_count 80 = .ok (.istore_n 2, 1) := by decide +kernel
theorem dX6_count_81 : decode cX6_count 81 = .ok (.iinc 3 1, 3) := by decide +kernel
theorem dX6_count_84 : decode cX6_count 84 = .ok (.goto (-26), 3) := by decide +kernel
theorem dX6_count_87 : decode cX6_count 87 = .ok (.iload_n 2, 1) := by decide +kernel
theorem dX6_count_88 : decode cX6_count 88 = .ok (.ireturn, 1) := by decide +kernel
theorem dX6_count_89 : decode cX6_count 89 = .ok (.aload_n 0, 1) := by decide +kernel
theorem dX6_count_90 : decode cX6_count 90 = .ok (.getfield 19, 3) := by decide +kernel
theorem dX6_count_93 : decode cX6_count 93 = .ok (.iconst 0, 1) := by decide +kernel
theorem dX6_count_94 : decode cX6_count 94 = .ok (.iaload, 1) := by decide +kernel
theorem dX6_count_95 : decode cX6_count 95 = .ok (.ireturn, 1) := by decide +kernel
theorem dX6_count_96 : decode cX6_count 96 = .ok (.aload_n 0, 1) := by decide +kernel
theorem dX6_count_97 : decode cX6_count 97 = .ok (.getfield 19, 3) := by decide +kernel
theorem dX6_count_100 : decode cX6_count 100 = .ok (.iconst 1, 1) := by decide +kernel
theorem dX6_count_101 : decode cX6_count 101 = .ok (.iaload, 1) := by decide +kernel
theorem dX6_count_102 : decode cX6_count 102 = .ok (.ireturn, 1) := by decide +kernel
theorem dX6_count_103 : decode cX6_count 103 = .ok (.aload_n 0, 1) := by decide +kernel
theorem dX6_count_104 : decode cX6_count 104 = .ok (.getfield 19, 3) := by decide +kernel
theorem dX6_count_107 : decode cX6_count 107 = .ok (.iconst 4, 1) := by decide +kernel
theorem dX6_count_108 : decode cX6_count 108 = .ok (.iaload, 1) := by decide +kernel
theorem dX6_count_109 : decode cX6_count 109 = .ok (.ireturn, 1) := by decide +kernel
theorem dX6_count_110 : decode cX6_count 110 = .ok (.aload_n 0, 1) := by decide +kernel
theorem dX6_count_111 : decode cX6_count 111 = .ok (.getfield 19, 3) := by decide +kernel
theorem dX6_count_114 : decode cX6_count 114 = .ok (.invokestatic 195, 3) := by decide +kernel
theorem dX6_count_117 : decode cX6_count 117 = .ok (.ireturn, 1) := by decide +kernel
theorem dX6_count_118 : decode cX6_count 118 = .ok (.aload_n 0, 1) := by decide +kernel
theorem dX6_count_119 : decode cX6_count 119 = .ok (.getfield 19, 3) := by decide +kernel
theorem dX6_count_122 : decode cX6_count 122 = .ok (.invokestatic 185, 3) := by decide +kernel
theorem dX6_count_125 : decode cX6_count 125 = .ok (.ireturn, 1) := by decide +kernel
theorem dX6_count_126 : decode cX6_count 126 = .ok (.aload_n 0, 1) := by decide +kernel
theorem dX6_count_127 : decode cX6_count 127 = .ok (.getfield 149, 3) := by decide +kernel
theorem dX6_count_130 : decode cX6_count 130 = .ok (.ireturn, 1) := by decide +kernel
theorem dX6_count_131 : decode cX6_count 131 = .ok (.aload_n 0, 1) := by decide +kernel
theorem dX6_count_132 : decode cX6_count 132 = .ok (.getfield 74, 3) := by decide +kernel
theorem dX6_count_135 : decode cX6_count 135 = .ok (.ireturn, 1) := by decide +kernel
theorem dX6_count_136 : decode cX6_count 136 = .ok (.ldc 67, 2) := by decide +kernel
theorem dX6_count_138 : decode cX6_count 138 = .ok (.ireturn, 1) := by decide +kernel
theorem dX6_status_0 : decode cX6_status 0 = .ok (.aload_n 0, 1) := by decide +kernel
theorem dX6_status_1 : decode cX6_status 1 = .ok (.iconst 0, 1) := by decide +kernel
theorem dX6_status_2 : decode cX6_status 2 = .ok (.putfield 47, 3) := by decide +kernel
theorem dX6_status_5 : decode cX6_status 5 = .ok (.aload_n 0, 1) := by decide +kernel
theorem dX6_status_6 : decode cX6_status 6 = .ok (.getfield 51, 3) := by decide +kernel
theorem dX6_status_9 : decode cX6_status 9 = .ok (.ireturn, 1) := by decide +kernel
theorem dJ6_numberOfTrailingZeros_0f7a4_0 : decode cJ6_numberOfTrailingZeros_0f7a4 0 = .ok (.iload_n 0, 1) := by decide +kernel
theorem dJ6_numberOfTrailingZeros_0f7a4_1 : decode cJ6_numberOfTrailingZeros_0f7a4 1 = .ok (.iconst (-1), 1) := by decide +kernel
theorem dJ6_numberOfTrailingZeros_0f7a4_2 : decode cJ6_numberOfTrailingZeros_0f7a4 2 = .ok (.ixor, 1) := by decide +kernel
theorem dJ6_numberOfTrailingZeros_0f7a4_3 : decode cJ6_numberOfTrailingZeros_0f7a4 3 = .ok (.iload_n 0, 1) := by decide +kernel
theorem dJ6_numberOfTrailingZeros_0f7a4_4 : decode cJ6_numberOfTrailingZeros_0f7a4 4 = .ok (.iconst 1, 1) := by decide +kernel
theorem dJ6_numberOfTrailingZeros_0f7a4_5 : decode cJ6_numberOfTrailingZeros_0f7a4 5 = .ok (.isub, 1) := by decide +kernel
theorem dJ6_numberOfTrailingZeros_0f7a4_6 : decode cJ6_numberOfTrailingZeros_0f7a4 6 = .ok (.iand, 1) := by decide +kernel
theorem dJ6_numberOfTrailingZeros_0f7a4_7 : decode cJ6_numberOfTrailingZeros_0f7a4 7 = .ok (.istore_n 0, 1) := by decide +kernel
theorem dJ6_numberOfTrailingZeros_0f7a4_8 : decode cJ6_numberOfTrailingZeros_0f7a4 8 = .ok (.iload_n 0, 1) := by decide +kernel
theorem dJ6_numberOfTrailingZeros_0f7a4_9 : decode cJ6_numberOfTrailingZeros_0f7a4 9 = .ok (.ifCond .gt 8, 3) := by decide +kernel
theorem dJ6_numberOfTrailingZeros_0f7a4_12 : decode cJ6_numberOfTrailingZeros_0f7a4 12 = .ok (.iload_n 0, 1) := by decide +kernel
theorem dJ6_numberOfTrailingZeros_0f7a4_13 : decode cJ6_numberOfTrailingZeros_0f7a4 13 = .ok (.bipush 32, 2) := by decide +kernel
theorem dJ6_numberOfTrailingZeros_0f7a4_15 : decode cJ6_numberOfTrailingZeros_0f7a4 15 = .ok (.iand, 1) := by decide +kernel
theorem dJ6_numberOfTrailingZeros_0f7a4_16 : decode cJ6_numberOfTrailingZeros_0f7a4 16 = .ok (.ireturn, 1) := by decide +kernel
theorem dJ6_numberOfTrailingZeros_0f7a4_17 : decode cJ6_numberOfTrailingZeros_0f7a4 17 = .ok (.iconst 1, 1) := by decide +kernel
theorem dJ6_numberOfTrailingZeros_0f7a4_18 : decode cJ6_numberOfTrailingZeros_0f7a4 18 = .ok (.istore_n 1, 1) := by decide +kernel
theorem dJ6_numberOfTrailingZeros_0f7a4_19 : decode cJ6_numberOfTrailingZeros_0f7a4 19 = .ok (.iload_n 0, 1) := by decide +kernel
theorem dJ6_numberOfTrailingZeros_0f7a4_20 : decode cJ6_numberOfTrailingZeros_0f7a4 20 = .ok (.ldc_w 264, 3) := by decide +kernel
theorem dJ6_numberOfTrailingZeros_0f7a4_23 : decode cJ6_numberOfTrailingZeros_0f7a4 23 = .ok (.if_icmp .le 11, 3) := by decide +kernel
theorem dJ6_numberOfTrailingZeros_0f7a4_26 : decode cJ6_numberOfTrailingZeros_0f7a4 26 = .ok (.iinc 1 16, 3) := by decide +kernel
theorem dJ6_numberOfTrailingZeros_0f7a4_29 : decode cJ6_numberOfTrailingZeros_0f7a4 29 = .ok (.iload_n 0, 1) := by decide +kernel
theorem dJ6_numberOfTrailingZeros_0f7a4_30 : decode cJ6_numberOfTrailingZeros_0f7a4 30 = .ok (.bipush 16, 2) := by decide +kernel
theorem dJ6_numberOfTrailingZeros_0f7a4_32 : decode cJ6_numberOfTrailingZeros_0f7a4 32 = .ok (.iushr, 1) := by decide +kernel
theorem dJ6_numberOfTrailingZeros_0f7a4_33 : decode cJ6_numberOfTrailingZeros_0f7a4 33 = .ok (.istore_n 0, 1) := by decide +kernel
theorem dJ6_numberOfTrailingZeros_0f7a4_34 : decode cJ6_numberOfTrailingZeros_0f7a4 34 = .ok (.iload_n 0, 1) := by decide +kernel
theorem dJ6_numberOfTrailingZeros_0f7a4_35 : decode cJ6_numberOfTrailingZeros_0f7a4 35 = .ok (.sipush 256, 3) := by decide +kernel
theorem dJ6_numberOfTrailingZeros_0f7a4_38 : decode cJ6_numberOfTrailingZeros_0f7a4 38 = .ok (.if_icmp .le 11, 3) := by decide +kernel
theorem dJ6_numberOfTrailingZeros_0f7a4_41 : decode cJ6_numberOfTrailingZeros_0f7a4 41 = .ok (.iinc 1 8, 3) := by decide +kernel
theorem dJ6_numberOfTrailingZeros_0f7a4_44 : decode cJ6_numberOfTrailingZeros_0f7a4 44 = .ok (.iload_n 0, 1) := by decide +kernel
theorem dJ6_numberOfTrailingZeros_0f7a4_45 : decode cJ6_numberOfTrailingZeros_0f7a4 45 = .ok (.bipush 8, 2) := by decide +kernel
theorem dJ6_numberOfTrailingZeros_0f7a4_47 : decode cJ6_numberOfTrailingZeros_0f7a4 47 = .ok (.iushr, 1) := by decide +kernel
theorem dJ6_numberOfTrailingZeros_0f7a4_48 : decode cJ6_numberOfTrailingZeros_0f7a4 48 = .ok (.istore_n 0, 1) := by decide +kernel
theorem dJ6_numberOfTrailingZeros_0f7a4_49 : decode cJ6_numberOfTrailingZeros_0f7a4 49 = .ok (.iload_n 0, 1) := by decide +kernel
theorem dJ6_numberOfTrailingZeros_0f7a4_50 : decode cJ6_numberOfTrailingZeros_0f7a4 50 = .ok (.bipush 16, 2) := by decide +kernel
theorem dJ6_numberOfTrailingZeros_0f7a4_52 : decode cJ6_numberOfTrailingZeros_0f7a4 52 = .ok (.if_icmp .le 10, 3) := by decide +kernel
theorem dJ6_numberOfTrailingZeros_0f7a4_55 : decode cJ6_numberOfTrailingZeros_0f7a4 55 = .ok (.iinc 1 4, 3) := by decide +kernel
theorem dJ6_numberOfTrailingZeros_0f7a4_58 : decode cJ6_numberOfTrailingZeros_0f7a4 58 = .ok (.iload_n 0, 1) := by decide +kernel
theorem dJ6_numberOfTrailingZeros_0f7a4_59 : decode cJ6_numberOfTrailingZeros_0f7a4 59 = .ok (.iconst 4, 1) := by decide +kernel
theorem dJ6_numberOfTrailingZeros_0f7a4_60 : decode cJ6_numberOfTrailingZeros_0f7a4 60 = .ok (.iushr, 1) := by decide +kernel
theorem dJ6_numberOfTrailingZeros_0f7a4_61 : decode cJ6_numberOfTrailingZeros_0f7a4 61 = .ok (.istore_n 0, 1) := by decide +kernel
theorem dJ6_numberOfTrailingZeros_0f7a4_62 : decode cJ6_numberOfTrailingZeros_0f7a4 62 = .ok (.iload_n 0, 1) := by decide +kernel
theorem dJ6_numberOfTrailingZeros_0f7a4_63 : decode cJ6_numberOfTrailingZeros_0f7a4 63 = .ok (.iconst 4, 1) := by decide +kernel
theorem dJ6_numberOfTrailingZeros_0f7a4_64 : decode cJ6_numberOfTrailingZeros_0f7a4 64 = .ok (.if_icmp .le 10, 3) := by decide +kernel
theorem dJ6_numberOfTrailingZeros_0f7a4_67 : decode cJ6_numberOfTrailingZeros_0f7a4 67 = .ok (.iinc 1 2, 3) := by decide +kernel
theorem dJ6_numberOfTrailingZeros_0f7a4_70 : decode cJ6_numberOfTrailingZeros_0f7a4 70 = .ok (.iload_n 0, 1) := by decide +kernel
theorem dJ6_numberOfTrailingZeros_0f7a4_71 : decode cJ6_numberOfTrailingZeros_0f7a4 71 = .ok (.iconst 2, 1) := by decide +kernel
theorem dJ6_numberOfTrailingZeros_0f7a4_72 : decode cJ6_numberOfTrailingZeros_0f7a4 72 = .ok (.iushr, 1) := by decide +kernel
theorem dJ6_numberOfTrailingZeros_0f7a4_73 : decode cJ6_numberOfTrailingZeros_0f7a4 73 = .ok (.istore_n 0, 1) := by decide +kernel
theorem dJ6_numberOfTrailingZeros_0f7a4_74 : decode cJ6_numberOfTrailingZeros_0f7a4 74 = .ok (.iload_n 1, 1) := by decide +kernel
theorem dJ6_numberOfTrailingZeros_0f7a4_75 : decode cJ6_numberOfTrailingZeros_0f7a4 75 = .ok (.iload_n 0, 1) := by decide +kernel
theorem dJ6_numberOfTrailingZeros_0f7a4_76 : decode cJ6_numberOfTrailingZeros_0f7a4 76 = .ok (.iconst 1, 1) := by decide +kernel
theorem dJ6_numberOfTrailingZeros_0f7a4_77 : decode cJ6_numberOfTrailingZeros_0f7a4 77 = .ok (.iushr, 1) := by decide +kernel
theorem dJ6_numberOfTrailingZeros_0f7a4_78 : decode cJ6_numberOfTrailingZeros_0f7a4 78 = .ok (.iadd, 1) := by decide +kernel
theorem dJ6_numberOfTrailingZeros_0f7a4_79 : decode cJ6_numberOfTrailingZeros_0f7a4 79 = .ok (.ireturn, 1) := by decide +kernel
theorem dJ6_bitCount_0f7a4_0 : decode cJ6_bitCount_0f7a4 0 = .ok (.iload_n 0, 1) := by decide +kernel
theorem dJ6_bitCount_0f7a4_1 : decode cJ6_bitCount_0f7a4 1 = .ok (.iload_n 0, 1) := by decide +kernel
theorem dJ6_bitCount_0f7a4_2 : decode cJ6_bitCount_0f7a4 2 = .ok (.iconst 1, 1) := by decide +kernel
theorem dJ6_bitCount_0f7a4_3 : decode cJ6_bitCount_0f7a4 3 = .ok (.iushr, 1) := by decide +kernel
theorem dJ6_bitCount_0f7a4_4 : decode cJ6_bitCount_0f7a4 4 = .ok (.ldc_w 265, 3) := by decide +kernel
theorem dJ6_bitCount_0f7a4_7 : decode cJ6_bitCount_0f7a4 7 = .ok (.iand, 1) := by decide +kernel
theorem dJ6_bitCount_0f7a4_8 : decode cJ6_bitCount_0f7a4 8 = .ok (.isub, 1) := by decide +kernel
theorem dJ6_bitCount_0f7a4_9 : decode cJ6_bitCount_0f7a4 9 = .ok (.istore_n 0, 1) := by decide +kernel
theorem dJ6_bitCount_0f7a4_10 : decode cJ6_bitCount_0f7a4 10 = .ok (.iload_n 0, 1) := by decide +kernel
theorem dJ6_bitCount_0f7a4_11 : decode cJ6_bitCount_0f7a4 11 = .ok (.ldc_w 266, 3) := by decide +kernel
theorem dJ6_bitCount_0f7a4_14 : decode cJ6_bitCount_0f7a4 14 = .ok (.iand, 1) := by decide +kernel
theorem dJ6_bitCount_0f7a4_15 : decode cJ6_bitCount_0f7a4 15 = .ok (.iload_n 0, 1) := by decide +kernel
theorem dJ6_bitCount_0f7a4_16 : decode cJ6_bitCount_0f7a4 16 = .ok (.iconst 2, 1) := by decide +kernel
theorem dJ6_bitCount_0f7a4_17 : decode cJ6_bitCount_0f7a4 17 = .ok (.iushr, 1) := by decide +kernel
theorem dJ6_bitCount_0f7a4_18 : decode cJ6_bitCount_0f7a4 18 = .ok (.ldc_w 266, 3) := by decide +kernel
theorem dJ6_bitCount_0f7a4_21 : decode cJ6_bitCount_0f7a4 21 = .ok (.iand, 1) := by decide +kernel
theorem dJ6_bitCount_0f7a4_22 : decode cJ6_bitCount_0f7a4 22 = .ok (.iadd, 1) := by decide +kernel
theorem dJ6_bitCount_0f7a4_23 : decode cJ6_bitCount_0f7a4 23 = .ok (.istore_n 0, 1) := by decide +kernel
theorem dJ6_bitCount_0f7a4_24 : decode cJ6_bitCount_0f7a4 24 = .ok (.iload_n 0, 1) := by decide +kernel
theorem dJ6_bitCount_0f7a4_25 : decode cJ6_bitCount_0f7a4 25 = .ok (.iload_n 0, 1) := by decide +kernel
theorem dJ6_bitCount_0f7a4_26 : decode cJ6_bitCount_0f7a4 26 = .ok (.iconst 4, 1) := by decide +kernel
theorem dJ6_bitCount_0f7a4_27 : decode cJ6_bitCount_0f7a4 27 = .ok (.iushr, 1) := by decide +kernel
theorem dJ6_bitCount_0f7a4_28 : decode cJ6_bitCount_0f7a4 28 = .ok (.iadd, 1) := by decide +kernel
theorem dJ6_bitCount_0f7a4_29 : decode cJ6_bitCount_0f7a4 29 = .ok (.ldc_w 267, 3) := by decide +kernel
theorem dJ6_bitCount_0f7a4_32 : decode cJ6_bitCount_0f7a4 32 = .ok (.iand, 1) := by decide +kernel
theorem dJ6_bitCount_0f7a4_33 : decode cJ6_bitCount_0f7a4 33 = .ok (.istore_n 0, 1) := by decide +kernel
theorem dJ6_bitCount_0f7a4_34 : decode cJ6_bitCount_0f7a4 34 = .ok (.iload_n 0, 1) := by decide +kernel
theorem dJ6_bitCount_0f7a4_35 : decode cJ6_bitCount_0f7a4 35 = .ok (.iload_n 0, 1) := by decide +kernel
theorem dJ6_bitCount_0f7a4_36 : decode cJ6_bitCount_0f7a4 36 = .ok (.bipush 8, 2) := by decide +kernel
theorem dJ6_bitCount_0f7a4_38 : decode cJ6_bitCount_0f7a4 38 = .ok (.iushr, 1) := by decide +kernel
theorem dJ6_bitCount_0f7a4_39 : decode cJ6_bitCount_0f7a4 39 = .ok (.iadd, 1) := by decide +kernel
theorem dJ6_bitCount_0f7a4_40 : decode cJ6_bitCount_0f7a4 40 = .ok (.istore_n 0, 1) := by decide +kernel
theorem dJ6_bitCount_0f7a4_41 : decode cJ6_bitCount_0f7a4 41 = .ok (.iload_n 0, 1) := by decide +kernel
theorem dJ6_bitCount_0f7a4_42 : decode cJ6_bitCount_0f7a4 42 = .ok (.iload_n 0, 1) := by decide +kernel
theorem dJ6_bitCount_0f7a4_43 : decode cJ6_bitCount_0f7a4 43 = .ok (.bipush 16, 2) := by decide +kernel
theorem dJ6_bitCount_0f7a4_45 : decode cJ6_bitCount_0f7a4 45 = .ok (.iushr, 1) := by decide +kernel
theorem dJ6_bitCount_0f7a4_46 : decode cJ6_bitCount_0f7a4 46 = .ok (.iadd, 1) := by decide +kernel
theorem dJ6_bitCount_0f7a4_47 : decode cJ6_bitCount_0f7a4 47 = .ok (.istore_n 0, 1) := by decide +kernel
theorem dJ6_bitCount_0f7a4_48 : decode cJ6_bitCount_0f7a4 48 = .ok (.iload_n 0, 1) := by decide +kernel
theorem dJ6_bitCount_0f7a4_49 : decode cJ6_bitCount_0f7a4 49 = .ok (.bipush 63, 2) := by decide +kernel
theorem dJ6_bitCount_0f7a4_51 : decode cJ6_bitCount_0f7a4 51 = .ok (.iand, 1) := by decide +kernel
theorem dJ6_bitCount_0f7a4_52 : decode cJ6_bitCount_0f7a4 52 = .ok (.ireturn, 1) := by decide +kernel
