set_option maxRecDepth 20000 in
theorem gX5_who_X2_reach : GoodIn wsX5_who (wsV RX5 82 RX2 yX2_reach wsX2_reach) := goodIn_app (goodIn_of _ (by decide +kernel)) ggX5_who_X2_reach
set_option maxRecDepth 20000 in
theorem ggX5_who_X5_found : GoodIn wsX5_who wsX5_found := goodIn_r _ [36, 37, 38, 105, 106, 107, 108, 109, 110, 111, 112, 113, 114] rfl (by decide +kernel)
set_option maxRecDepth 20000 in
theorem gX5_who_X5_found : GoodIn wsX5_who (wsV RX5 71 RX5 yX5_found wsX5_found) := goodIn_app (goodIn_of _ (by decide +kernel)) ggX5_who_X5_found
set_option maxRecDepth 20000 in
theorem ggX5_who_X0_become : GoodIn wsX5_who wsX0_become := goodIn_r _ [43, 44, 45, 46, 47, 48, 49, 50, 51, 52, 53, 54, 55, 56, 57, 58, 59, 115, 116, 117, 118, 119, 120, 121, 122, 123, 124, 125, 126] rfl (by decide +kernel)
set_option maxRecDepth 20000 in
theorem gX5_who_X0_become : GoodIn wsX5_who (wsV RX5 133 RX0 yX0_become wsX0_become) := goodIn_app (goodIn_of _ (by decide +kernel)) ggX5_who_X0_become
set_option maxRecDepth 20000 in
theorem ggX5_who_X0_suppose : GoodIn wsX5_who wsX0_suppose := goodIn_r _ [63, 55, 57, 56, 115, 116, 117, 118, 119, 120, 121, 122, 123, 124, 125, 126] rfl (by decide +kernel)
set_option maxRecDepth 20000 in
theorem gX5_who_X0_suppose : GoodIn wsX5_who (wsV RX5 260 RX0 yX0_suppose wsX0_suppose) := goodIn_app (goodIn_of _ (by decide +kernel)) ggX5_who_X0_suppose
set_option maxRecDepth 20000 in
theorem ggX5_who_X5_comesTrue : GoodIn wsX5_who wsX5_comesTrue := goodIn_r _ [67, 5, 68, 2, 69, 70, 71, 72, 42, 73, 47, 46, 49, 44, 74, 75, 76, 77, 54, 78, 79, 80, 48, 81, 82, 83, 84, 55, 59, 56, 85, 86, 87, 88, 58, 89, 90, 91, 92, 57, 93, 94, 95, 96, 45, 97, 98, 99, 25, 100, 105, 106, 107, 108, 109, 110, 111, 112, 113, 114, 115, 116, 117, 118, 119, 120, 121, 122, 123, 124, 125, 126, 127, 128, 129] rfl (by decide +kernel)
set_option maxRecDepth 20000 in
theorem gX5_who_X5_comesTrue : GoodIn wsX5_who (wsV RX5 263 RX5 yX5_comesTrue wsX5_comesTrue) := goodIn_app (goodIn_of _ (by decide +kernel)) ggX5_who_X5_comesTrue
set_option maxRecDepth 20000 in
theorem ggX5_who_X5_plain : GoodIn wsX5_who wsX5_plain := goodIn_r _ [104, 37, 105, 106, 107, 108, 109, 110, 111, 112, 113, 114] rfl (by decide +kernel)
set_option maxRecDepth 20000 in
theorem gX5_who_X5_plain : GoodIn wsX5_who (wsV RX5 79 RX5 yX5_plain wsX5_plain) := goodIn_app (goodIn_of _ (by decide +kernel)) ggX5_who_X5_plain
theorem dX5_who_0 : decode cX5_who 0 = .ok (.aload_n 0, 1) := by decide +kernel
theorem dX5_who_1 : decode cX5_who 1 = .ok (.iload_n 1, 1) := by decide +kernel
theorem dX5_who_2 : decode cX5_who 2 = .ok (.invokevirtual 166, 3) := by decide +kernel
theorem dX5_who_5 : decode cX5_who 5 = .ok (.ifCond .eq 39, 3) := by decide +kernel
theorem dX5_who_8 : decode cX5_who 8 = .ok (.iload_n 2, 1) := by decide +kernel
theorem dX5_who_9 : decode cX5_who 9 = .ok (.iconst 0, 1) := by decide +kernel
theorem dX5_who_10 : decode cX5_who 10 = .ok (.iconst 2, 1) := by decide +kernel
theorem dX5_who_11 : decode cX5_who 11 = .ok (.invokestatic 66, 3) := by decide +kernel
theorem dX5_who_14 : decode cX5_who 14 = .ok (.ifCond .eq 30, 3) := by decide +kernel
theorem dX5_who_17 : decode cX5_who 17 = .ok (.aload_n 0, 1) := by decide +kernel
theorem dX5_who_18 : decode cX5_who 18 = .ok (.iload_n 3, 1) := by decide +kernel
theorem dX5_who_19 : decode cX5_who 19 = .ok (.invokevirtual 187, 3) := by decide +kernel
theorem dX5_who_22 : decode cX5_who 22 = .ok (.ifCond .eq 22, 3) := by decide +kernel
theorem dX5_who_25 : decode cX5_who 25 = .ok (.iload 4, 2) := by decide +kernel
theorem dX5_who_27 : decode cX5_who 27 = .ok (.invokestatic 62, 3) := by decide +kernel
theorem dX5_who_30 : decode cX5_who 30 = .ok (.ifCond .eq 14, 3) := by decide +kernel
theorem dX5_who_33 : decode cX5_who 33 = .ok (.iload 6, 2) := by decide +kernel
theorem dX5_who_35 : decode cX5_who 35 = .ok (.iconst 1, 1) := by decide +kernel
theorem dX5_who_36 : decode cX5_who 36 = .ok (.bipush 12, 2) := by decide +kernel
theorem dX5_who_38 : decode cX5_who 38 = .ok (.invokestatic 66, 3) := by decide +kernel
theorem dX5_who_41 : decode cX5_who 41 = .ok (.ifCond .ne 6, 3) := by decide +kernel
theorem dX5_who_44 : decode cX5_who 44 = .ok (.ldc 70, 2) := by decide +kernel
theorem dX5_who_46 : decode cX5_who 46 = .ok (.ireturn, 1) := by decide +kernel
theorem dX5_who_47 : decode cX5_who 47 = .ok (.aload_n 0, 1) := by decide +kernel
theorem dX5_who_48 : decode cX5_who 48 = .ok (.getfield 10, 3) := by decide +kernel
theorem dX5_who_51 : decode cX5_who 51 = .ok (.iload 4, 2) := by decide +kernel
theorem dX5_who_53 : decode cX5_who 53 = .ok (.iload 5, 2) := by decide +kernel
theorem dX5_who_55 : decode cX5_who 55 = .ok (.iload 6, 2) := by decide +kernel
theorem dX5_who_57 : decode cX5_who 57 = .ok (.invokevirtual 82, 3) := by decide +kernel
theorem dX5_who_60 : decode cX5_who 60 = .ok (.istore 7, 2) := by decide +kernel
theorem dX5_who_62 : decode cX5_who 62 = .ok (.iload 7, 2) := by decide +kernel
theorem dX5_who_64 : decode cX5_who 64 = .ok (.ifCond .eq 10, 3) := by decide +kernel
theorem dX5_who_67 : decode cX5_who 67 = .ok (.aload_n 0, 1) := by decide +kernel
theorem dX5_who_68 : decode cX5_who 68 = .ok (.iload 7, 2) := by decide +kernel
theorem dX5_who_70 : decode cX5_who 70 = .ok (.invokevirtual 71, 3) := by decide +kernel
theorem dX5_who_73 : decode cX5_who 73 = .ok (.ireturn, 1) := by decide +kernel
theorem dX5_who_74 : decode cX5_who 74 = .ok (.iload_n 2, 1) := by decide +kernel
theorem dX5_who_75 : decode cX5_who 75 = .ok (.iconst 2, 1) := by decide +kernel
theorem dX5_who_76 : decode cX5_who 76 = .ok (.if_icmp .ne 7, 3) := by decide +kernel
theorem dX5_who_79 : decode cX5_who 79 = .ok (.iconst 0, 1) := by decide +kernel
theorem dX5_who_80 : decode cX5_who 80 = .ok (.goto 4, 3) := by decide +kernel
theorem dX5_who_83 : decode cX5_who 83 = .ok (.iconst 1, 1) := by decide +kernel
theorem dX5_who_84 : decode cX5_who 84 = .ok (.istore 8, 2) := by decide +kernel
theorem dX5_who_86 : decode cX5_who 86 = .ok (.iload_n 2, 1) := by decide +kernel
theorem dX5_who_87 : decode cX5_who 87 = .ok (.ifCond .ne 7, 3) := by decide +kernel
theorem dX5_who_90 : decode cX5_who 90 = .ok (.iconst 5, 1) := by decide +kernel
theorem dX5_who_91 : decode cX5_who 91 = .ok (.goto 20, 3) := by decide +kernel
theorem dX5_who_94 : decode cX5_who 94 = .ok (.iload_n 2, 1) := by decide +kernel
theorem dX5_who_95 : decode cX5_who 95 = .ok (.iconst 1, 1) := by decide +kernel
theorem dX5_who_96 : decode cX5_who 96 = .ok (.if_icmp .ne 8, 3) := by decide +kernel
theorem dX5_who_99 : decode cX5_who 99 = .ok (.bipush 9, 2) := by decide +kernel
theorem dX5_who_101 : decode cX5_who 101 = .ok (.goto 10, 3) := by decide +kernel
theorem dX5_who_104 : decode cX5_who 104 = .ok (.aload_n 0, 1) := by decide +kernel
theorem dX5_who_105 : decode cX5_who 105 = .ok (.getfield 26, 3) := by decide +kernel
theorem dX5_who_108 : decode cX5_who 108 = .ok (.getfield 239, 3) := by decide +kernel
theorem dX5_who_111 : decode cX5_who 111 = .ok (.istore 9, 2) := by decide +kernel
theorem dX5_who_113 : decode cX5_who 113 = .ok (.iconst 0, 1) := by decide +kernel
theorem dX5_who_114 : decode cX5_who 114 = .ok (.istore 10, 2) := by decide +kernel
theorem dX5_who_116 : decode cX5_who 116 = .ok (.iload 8, 2) := by decide +kernel
theorem dX5_who_118 : decode cX5_who 118 = .ok (.istore 11, 2) := by decide +kernel
theorem dX5_who_120 : decode cX5_who 120 = .ok (.iload 11, 2) := by decide +kernel
theorem dX5_who_122 : decode cX5_who 122 = .ok (.iload 9, 2) := by decide +kernel
theorem dX5_who_124 : decode cX5_who 124 = .ok (.if_icmp .gt 54, 3) := by decide +kernel
theorem dX5_who_127 : decode cX5_who 127 = .ok (.aload_n 0, 1) := by decide +kernel
theorem dX5_who_128 : decode cX5_who 128 = .ok (.getfield 30, 3) := by decide +kernel
theorem dX5_who_131 : decode cX5_who 131 = .ok (.aload_n 0, 1) := by decide +kernel
theorem dX5_who_132 : decode cX5_who 132 = .ok (.getfield 26, 3) := by decide +kernel
theorem dX5_who_135 : decode cX5_who 135 = .ok (.invokevirtual 133, 3) := by decide +kernel
theorem dX5_who_138 : decode cX5_who 138 = .ok (.aload_n 0, 1) := by decide +kernel
theorem dX5_who_139 : decode cX5_who 139 = .ok (.getfield 30, 3) := by decide +kernel
theorem dX5_who_142 : decode cX5_who 142 = .ok (.iload_n 1, 1) := by decide +kernel
theorem dX5_who_143 : decode cX5_who 143 = .ok (.iload_n 2, 1) := by decide +kernel
theorem dX5_who_144 : decode cX5_who 144 = .ok (.iload 11, 2) := by decide +kernel
theorem dX5_who_146 : decode cX5_who 146 = .ok (.invokevirtual 260, 3) := by decide +kernel
theorem dX5_who_149 : decode cX5_who 149 = .ok (.aload_n 0, 1) := by decide +kernel
theorem dX5_who_150 : decode cX5_who 150 = .ok (.iload_n 3, 1) := by decide +kernel
theorem dX5_who_151 : decode cX5_who 151 = .ok (.iload 4, 2) := by decide +kernel
theorem dX5_who_153 : decode cX5_who 153 = .ok (.iload 5, 2) := by decide +kernel
theorem dX5_who_155 : decode cX5_who 155 = .ok (.iload 6, 2) := by decide +kernel
theorem dX5_who_157 : decode cX5_who 157 = .ok (.invokevirtual 263, 3) := by decide +kernel
theorem dX5_who_160 : decode cX5_who 160 = .ok (.ifCond .eq 12, 3) := by decide +kernel
theorem dX5_who_163 : decode cX5_who 163 = .ok (.iload 10, 2) := by decide +kernel
theorem dX5_who_165 : decode cX5_who 165 = .ok (.iconst 1, 1) := by decide +kernel
theorem dX5_who_166 : decode cX5_who 166 = .ok (.iload 11, 2) := by decide +kernel
theorem dX5_who_168 : decode cX5_who 168 = .ok (.ishl, 1) := by decide +kernel
theorem dX5_who_169 : decode cX5_who 169 = .ok (.ior, 1) := by decide +kernel
theorem dX5_who_170 : decode cX5_who 170 = .ok (.istore 10, 2) := by decide +kernel
theorem dX5_who_172 : decode cX5_who 172 = .ok (.iinc 11 1, 3) := by decide +kernel
theorem dX5_who_175 : decode cX5_who 175 = .ok (.goto (-55), 3) := by decide +kernel
theorem dX5_who_178 : decode cX5_who 178 = .ok (.aload_n 0, 1) := by decide +kernel
theorem dX5_who_179 : decode cX5_who 179 = .ok (.iload 10, 2) := by decide +kernel
theorem dX5_who_181 : decode cX5_who 181 = .ok (.invokevirtual 79, 3) := by decide +kernel
theorem dX5_who_184 : decode cX5_who 184 = .ok (.ireturn, 1) := by decide +kernel
set_option maxRecDepth 20000 in
theorem ggX5_frosts_X5_isRoom : GoodIn wsX5_frosts wsX5_isRoom := goodIn_r _ [7, 8, 9, 10, 11, 6, 12, 110, 111, 112, 113, 114, 115, 116, 117, 118, 119, 120, 121, 122, 123, 124, 125, 126, 127, 128, 129, 130, 131] rfl (by decide +kernel)
set_option maxRecDepth 20000 in
theorem gX5_frosts_X5_isRoom : GoodIn wsX5_frosts (wsV RX5 187 RX5 yX5_isRoom wsX5_isRoom) := goodIn_app (goodIn_of _ (by decide +kernel)) ggX5_frosts_X5_isRoom
set_option maxRecDepth 20000 in
theorem ggX5_frosts_X5_within : GoodIn wsX5_frosts wsX5_within := goodIn_r _ [12] rfl (by decide +kernel)
set_option maxRecDepth 20000 in
theorem gX5_frosts_X5_within : GoodIn wsX5_frosts (va_wsS RX5 66 yX5_within wsX5_within) := goodIn_app (goodIn_of _ (by decide +kernel)) ggX5_frosts_X5_within
set_option maxRecDepth 20000 in
theorem ggX5_frosts_X5_isRow : GoodIn wsX5_frosts wsX5_isRow := goodIn_r _ [15, 10, 11, 6, 12] rfl (by decide +kernel)
set_option maxRecDepth 20000 in
theorem gX5_frosts_X5_isRow : GoodIn wsX5_frosts (va_wsS RX5 62 yX5_isRow wsX5_isRow) := goodIn_app (goodIn_of _ (by decide +kernel)) ggX5_frosts_X5_isRow
set_option maxRecDepth 20000 in
theorem ggX5_frosts_X2_reach : GoodIn wsX5_frosts wsX2_reach := goodIn_r _ [20, 21, 22, 23, 24, 19, 25, 26, 132, 133, 134] rfl (by decide +kernel)
set_option maxRecDepth 20000 in
theorem gX5_frosts_X2_reach : GoodIn wsX5_frosts (wsV RX5 82 RX2 yX2_reach wsX2_reach) := goodIn_app (goodIn_of _ (by decide +kernel)) ggX5_frosts_X2_reach
set_option maxRecDepth 20000 in
theorem ggX5_frosts_X5_found : GoodIn wsX5_frosts wsX5_found := goodIn_r _ [30, 31, 32, 110, 111, 112, 113, 114, 115, 116, 117, 118, 119] rfl (by decide +kernel)
set_option maxRecDepth 20000 in
theorem gX5_frosts_X5_found : GoodIn wsX5_frosts (wsV RX5 71 RX5 yX5_found wsX5_found) := goodIn_app (goodIn_of _ (by decide +kernel)) ggX5_frosts_X5_found
set_option maxRecDepth 20000 in
theorem ggX5_frosts_X5_fittingFrosts : GoodIn wsX5_frosts wsX5_fittingFrosts := goodIn_r _ [36, 37, 8, 38, 39, 40, 41, 42, 43, 44, 45, 46, 47, 48, 49, 50, 51, 52, 53, 54, 55, 56, 57, 58, 59, 60, 61, 62, 6, 63, 64, 2, 65, 66, 67, 68, 69, 70, 71, 72, 73, 74, 75, 76, 77, 78, 79, 80, 81, 82, 83, 84, 85, 86, 87, 88, 89, 90, 91, 92, 93, 94, 95, 19, 96, 110, 111, 112, 113, 114, 115, 116, 117, 118, 119, 120, 121, 122, 123, 124, 125, 126, 127, 128, 129, 130, 131, 132, 133, 134] rfl (by decide +kernel)
set_option maxRecDepth 20000 in
theorem gX5_frosts_X5_fittingFrosts : GoodIn wsX5_frosts (wsV RX5 267 RX5 yX5_fittingFrosts wsX5_fittingFrosts) := goodIn_app (goodIn_of _ (by decide +kernel)) ggX5_frosts_X5_fittingFrosts
set_option maxRecDepth 20000 in
theorem ggX5_frosts_X5_fittingShaken : GoodIn wsX5_frosts wsX5_fittingShaken := goodIn_r _ [100, 37, 8, 101, 39, 40, 41, 42, 43, 44, 45, 46, 47, 48, 49, 50, 51, 52, 53, 54, 55, 56, 57, 58, 59, 60, 61, 62, 6, 63, 64, 2, 65, 66, 67, 68, 69, 70, 71, 72, 73, 74, 75, 76, 77, 78, 79, 80, 81, 82, 83, 84, 85, 86, 87, 88, 89, 90, 91, 92, 93, 94, 95, 19, 96, 102, 103, 104, 105, 110, 111, 112, 113, 114, 115, 116, 117, 118, 119, 120, 121, 122, 123, 124, 125, 126, 127, 128, 129, 130, 131, 132, 133, 134] rfl (by decide +kernel)
set_option maxRecDepth 20000 in
theorem gX5_frosts_X5_fittingShaken : GoodIn wsX5_frosts (wsV RX5 271 RX5 yX5_fittingShaken wsX5_fittingShaken) := goodIn_app (goodIn_of _ (by decide +kernel)) ggX5_frosts_X5_fittingShaken
set_option maxRecDepth 20000 in
theorem ggX5_frosts_X5_plain : GoodIn wsX5_frosts wsX5_plain := goodIn_r _ [109, 31, 110, 111, 112, 113, 114, 115, 116, 117, 118, 119] rfl (by decide +kernel)
set_option maxRecDepth 20000 in
theorem gX5_frosts_X5_plain : GoodIn wsX5_frosts (wsV RX5 79 RX5 yX5_plain wsX5_plain) := goodIn_app (goodIn_of _ (by decide +kernel)) ggX5_frosts_X5_plain
theorem dX5_frosts_0 : decode cX5_frosts 0 = .ok (.aload_n 0, 1) := by decide +kernel
theorem dX5_frosts_1 : decode cX5_frosts 1 = .ok (.iload_n 1, 1) := by decide +kernel
theorem dX5_frosts_2 : decode cX5_frosts 2 = .ok (.invokevirtual 187, 3) := by decide +kernel
theorem dX5_frosts_5 : decode cX5_frosts 5 = .ok (.ifCond .eq 30, 3) := by decide +kernel
theorem dX5_frosts_8 : decode cX5_frosts 8 = .ok (.iload_n 2, 1) := by decide +kernel
theorem dX5_frosts_9 : decode cX5_frosts 9 = .ok (.iconst 0, 1) := by decide +kernel
theorem dX5_frosts_10 : decode cX5_frosts 10 = .ok (.iconst 1, 1) := by decide +kernel
theorem dX5_frosts_11 : decode cX5_frosts 11 = .ok (.invokestatic 66, 3) := by decide +kernel
theorem dX5_frosts_14 : decode cX5_frosts 14 = .ok (.ifCond .eq 21, 3) := by decide +kernel
theorem dX5_frosts_17 : decode cX5_frosts 17 = .ok (.iload_n 3, 1) := by decide +kernel
theorem dX5_frosts_18 : decode cX5_frosts 18 = .ok (.invokestatic 62, 3) := by decide +kernel
theorem dX5_frosts_21 : decode cX5_frosts 21 = .ok (.ifCond .eq 14, 3) := by decide +kernel
theorem dX5_frosts_24 : decode cX5_frosts 24 = .ok (.iload 5, 2) := by decide +kernel
theorem dX5_frosts_26 : decode cX5_frosts 26 = .ok (.iconst 1, 1) := by decide +kernel
theorem dX5_frosts_27 : decode cX5_frosts 27 = .ok (.bipush 12, 2) := by decide +kernel
theorem dX5_frosts_29 : decode cX5_frosts 29 = .ok (.invokestatic 66, 3) := by decide +kernel
theorem dX5_frosts_32 : decode cX5_frosts 32 = .ok (.ifCond .ne 6, 3) := by decide +kernel
theorem dX5_frosts_35 : decode cX5_frosts 35 = .ok (.ldc 70, 2) := by decide +kernel
theorem dX5_frosts_37 : decode cX5_frosts 37 = .ok (.ireturn, 1) := by decide +kernel
theorem dX5_frosts_38 : decode cX5_frosts 38 = .ok (.aload_n 0, 1) := by decide +kernel
theorem dX5_frosts_39 : decode cX5_frosts 39 = .ok (.getfield 10, 3) := by decide +kernel
theorem dX5_frosts_42 : decode cX5_frosts 42 = .ok (.iload_n 3, 1) := by decide +kernel
theorem dX5_frosts_43 : decode cX5_frosts 43 = .ok (.iload 4, 2) := by decide +kernel
theorem dX5_frosts_45 : decode cX5_frosts 45 = .ok (.iload 5, 2) := by decide +kernel
theorem dX5_frosts_47 : decode cX5_frosts 47 = .ok (.invokevirtual 82, 3) := by decide +kernel
theorem dX5_frosts_50 : decode cX5_frosts 50 = .ok (.istore 6, 2) := by decide +kernel
theorem dX5_frosts_52 : decode cX5_frosts 52 = .ok (.iload 6, 2) := by decide +kernel
theorem dX5_frosts_54 : decode cX5_frosts 54 = .ok (.ifCond .eq 10, 3) := by decide +kernel
theorem dX5_frosts_57 : decode cX5_frosts 57 = .ok (.aload_n 0, 1) := by decide +kernel
theorem dX5_frosts_58 : decode cX5_frosts 58 = .ok (.iload 6, 2) := by decide +kernel
theorem dX5_frosts_60 : decode cX5_frosts 60 = .ok (.invokevirtual 71, 3) := by decide +kernel
theorem dX5_frosts_63 : decode cX5_frosts 63 = .ok (.ireturn, 1) := by decide +kernel
theorem dX5_frosts_64 : decode cX5_frosts 64 = .ok (.aload_n 0, 1) := by decide +kernel
theorem dX5_frosts_65 : decode cX5_frosts 65 = .ok (.iload_n 2, 1) := by decide +kernel
theorem dX5_frosts_66 : decode cX5_frosts 66 = .ok (.ifCond .ne 16, 3) := by decide +kernel
theorem dX5_frosts_69 : decode cX5_frosts 69 = .ok (.aload_n 0, 1) := by decide +kernel
theorem dX5_frosts_70 : decode cX5_frosts 70 = .ok (.iload_n 1, 1) := by decide +kernel
theorem dX5_frosts_71 : decode cX5_frosts 71 = .ok (.iload_n 3, 1) := by decide +kernel
theorem dX5_frosts_72 : decode cX5_frosts 72 = .ok (.iload 4, 2) := by decide +kernel
theorem dX5_frosts_74 : decode cX5_frosts 74 = .ok (.iload 5, 2) := by decide +kernel
theorem dX5_frosts_76 : decode cX5_frosts 76 = .ok (.invokevirtual 267, 3) := by decide +kernel
theorem dX5_frosts_79 : decode cX5_frosts 79 = .ok (.goto 13, 3) := by decide +kernel
theorem dX5_frosts_82 : decode cX5_frosts 82 = .ok (.aload_n 0, 1) := by decide +kernel
theorem dX5_frosts_83 : decode cX5_frosts 83 = .ok (.iload_n 1, 1) := by decide +kernel
theorem dX5_frosts_84 : decode cX5_frosts 84 = .ok (.iload_n 3, 1) := by decide +kernel
theorem dX5_frosts_85 : decode cX5_frosts 85 = .ok (.iload 4, 2) := by decide +kernel
theorem dX5_frosts_87 : decode cX5_frosts 87 = .ok (.iload 5, 2) := by decide +kernel
theorem dX5_frosts_89 : decode cX5_frosts 89 = .ok (.invokevirtual 271, 3) := by decide +kernel
theorem dX5_frosts_92 : decode cX5_frosts 92 = .ok (.invokevirtual 79, 3) := by decide +kernel
theorem dX5_frosts_95 : decode cX5_frosts 95 = .ok (.ireturn, 1) := by decide +kernel
set_option maxRecDepth 20000 in
theorem ggX5_forgotten_X5_isRoom : GoodIn wsX5_forgotten wsX5_isRoom := goodIn_r _ [11, 2, 12, 13, 14, 10, 15, 97, 98, 99, 100, 101, 102, 103, 104, 105, 106, 107, 108, 109, 110, 111, 112, 113, 114, 115, 116, 117, 118] rfl (by decide +kernel)
set_option maxRecDepth 20000 in
theorem gX5_forgotten_X5_isRoom : GoodIn wsX5_forgotten (wsV RX5 187 RX5 yX5_isRoom wsX5_isRoom) := goodIn_app (goodIn_of _ (by decide +kernel)) ggX5_forgotten_X5_isRoom
set_option maxRecDepth 20000 in
theorem ggX5_forgotten_X5_within : GoodIn wsX5_forgotten wsX5_within := goodIn_r _ [15] rfl (by decide +kernel)
set_option maxRecDepth 20000 in
theorem gX5_forgotten_X5_within : GoodIn wsX5_forgotten (va_wsS RX5 66 yX5_within wsX5_within) := goodIn_app (goodIn_of _ (by decide +kernel)) ggX5_forgotten_X5_within
set_option maxRecDepth 20000 in
theorem ggX5_forgotten_X0_tubesAt : GoodIn wsX5_forgotten wsX0_tubesAt := goodIn_r _ [20, 21, 22, 107, 108, 109, 110, 111, 112, 113, 114, 115, 116, 117, 118] rfl (by decide +kernel)
set_option maxRecDepth 20000 in
theorem gX5_forgotten_X0_tubesAt : GoodIn wsX5_forgotten (wsV RX5 202 RX0 yX0_tubesAt wsX0_tubesAt) := goodIn_app (goodIn_of _ (by decide +kernel)) ggX5_forgotten_X0_tubesAt
set_option maxRecDepth 20000 in
theorem ggX5_forgotten_J6_bitCount_0f7a4 : GoodIn wsX5_forgotten wsJ6_bitCount_0f7a4 := goodIn_r _ [26, 27, 28, 29] rfl (by decide +kernel)
set_option maxRecDepth 20000 in
theorem gX5_forgotten_J6_bitCount_0f7a4 : GoodIn wsX5_forgotten (va_wsS RX5 276 yJ6_bitCount_0f7a4 wsJ6_bitCount_0f7a4) := goodIn_app (goodIn_of _ (by decide +kernel)) ggX5_forgotten_J6_bitCount_0f7a4
set_option maxRecDepth 20000 in
theorem ggX5_forgotten_X5_power : GoodIn wsX5_forgotten wsX5_power := goodIn_r _ [32] rfl (by decide +kernel)
set_option maxRecDepth 20000 in
theorem gX5_forgotten_X5_power : GoodIn wsX5_forgotten (va_wsS RX5 279 yX5_power wsX5_power) := goodIn_app (goodIn_of _ (by decide +kernel)) ggX5_forgotten_X5_power
set_option maxRecDepth 20000 in
theorem ggX5_forgotten_X5_isPart : GoodIn wsX5_forgotten wsX5_isPart := goodIn_r _ [35] rfl (by decide +kernel)
set_option maxRecDepth 20000 in
theorem gX5_forgotten_X5_isPart : GoodIn wsX5_forgotten (va_wsS RX5 223 yX5_isPart wsX5_isPart) := goodIn_app (goodIn_of _ (by decide +kernel)) ggX5_forgotten_X5_isPart
set_option maxRecDepth 20000 in
theorem ggX5_forgotten_X5_isWarmWithout : GoodIn wsX5_forgotten wsX5_isWarmWithout := goodIn_r _ [39, 40, 2, 41, 42, 43, 19, 44, 45, 46, 47, 21, 48, 49, 50, 51, 52, 53, 54, 55, 22, 56, 57, 58, 59, 60, 61, 62, 63, 64, 65, 66, 67, 68, 69, 70, 71, 72, 5, 73, 74, 75, 76, 77, 78, 79, 80, 81, 82, 83, 84, 85, 86, 87, 88, 89, 90, 91, 92, 93, 97, 98, 99, 100, 101, 102, 103, 104, 105, 106, 107, 108, 109, 110, 111, 112, 113, 114, 115, 116, 117, 118] rfl (by decide +kernel)
set_option maxRecDepth 20000 in
theorem gX5_forgotten_X5_isWarmWithout : GoodIn wsX5_forgotten (wsV RX5 283 RX5 yX5_isWarmWithout wsX5_isWarmWithout) := goodIn_app (goodIn_of _ (by decide +kernel)) ggX5_forgotten_X5_isWarmWithout
set_option maxRecDepth 20000 in
theorem ggX5_forgotten_X5_commonPart : GoodIn wsX5_forgotten wsX5_commonPart := goodIn_r _ [96] rfl (by decide +kernel)
set_option maxRecDepth 20000 in
theorem gX5_forgotten_X5_commonPart : GoodIn wsX5_forgotten (va_wsS RX5 286 yX5_commonPart wsX5_commonPart) := goodIn_app (goodIn_of _ (by decide +kernel)) ggX5_forgotten_X5_commonPart
theorem dX5_forgotten_0 : decode cX5_forgotten 0 = .ok (.aload_n 0, 1) := by decide +kernel
theorem dX5_forgotten_1 : decode cX5_forgotten 1 = .ok (.iload_n 1, 1) := by decide +kernel
theorem dX5_forgotten_2 : decode cX5_forgotten 2 = .ok (.invokevirtual 187, 3) := by decide +kernel
theorem dX5_forgotten_5 : decode cX5_forgotten 5 = .ok (.ifCond .eq 33, 3) := by decide +kernel
theorem dX5_forgotten_8 : decode cX5_forgotten 8 = .ok (.iload_n 2, 1) := by decide +kernel
theorem dX5_forgotten_9 : decode cX5_forgotten 9 = .ok (.iconst 0, 1) := by decide +kernel
theorem dX5_forgotten_10 : decode cX5_forgotten 10 = .ok (.bipush 30, 2) := by decide +kernel
theorem dX5_forgotten_12 : decode cX5_forgotten 12 = .ok (.invokestatic 66, 3) := by decide +kernel
theorem dX5_forgotten_15 : decode cX5_forgotten 15 = .ok (.ifCond .eq 23, 3) := by decide +kernel
theorem dX5_forgotten_18 : decode cX5_forgotten 18 = .ok (.iload_n 3, 1) := by decide +kernel
theorem dX5_forgotten_19 : decode cX5_forgotten 19 = .ok (.iconst 0, 1) := by decide +kernel
theorem dX5_forgotten_20 : decode cX5_forgotten 20 = .ok (.bipush 10, 2) := by decide +kernel
theorem dX5_forgotten_22 : decode cX5_forgotten 22 = .ok (.invokestatic 66, 3) := by decide +kernel
theorem dX5_forgotten_25 : decode cX5_forgotten 25 = .ok (.ifCond .eq 13, 3) := by decide +kernel
theorem dX5_forgotten_28 : decode cX5_forgotten 28 = .ok (.iload 4, 2) := by decide +kernel
theorem dX5_forgotten_30 : decode cX5_forgotten 30 = .ok (.iconst 0, 1) := by decide +kernel
theorem dX5_forgotten_31 : decode cX5_forgotten 31 = .ok (.iconst 1, 1) := by decide +kernel
theorem dX5_forgotten_32 : decode cX5_forgotten 32 = .ok (.invokestatic 66, 3) := by decide +kernel
theorem dX5_forgotten_35 : decode cX5_forgotten 35 = .ok (.ifCond .ne 7, 3) := by decide +kernel
theorem dX5_forgotten_38 : decode cX5_forgotten 38 = .ok (.ldc2_w 274, 3) := by decide +kernel
theorem dX5_forgotten_41 : decode cX5_forgotten 41 = .ok (.lreturn, 1) := by decide +kernel
theorem dX5_forgotten_42 : decode cX5_forgotten 42 = .ok (.aload_n 0, 1) := by decide +kernel
theorem dX5_forgotten_43 : decode cX5_forgotten 43 = .ok (.getfield 26, 3) := by decide +kernel
theorem dX5_forgotten_46 : decode cX5_forgotten 46 = .ok (.iload_n 1, 1) := by decide +kernel
theorem dX5_forgotten_47 : decode cX5_forgotten 47 = .ok (.invokevirtual 202, 3) := by decide +kernel
theorem dX5_forgotten_50 : decode cX5_forgotten 50 = .ok (.istore 5, 2) := by decide +kernel
theorem dX5_forgotten_52 : decode cX5_forgotten 52 = .ok (.lconst 0, 1) := by decide +kernel
theorem dX5_forgotten_53 : decode cX5_forgotten 53 = .ok (.lstore 6, 2) := by decide +kernel
theorem dX5_forgotten_55 : decode cX5_forgotten 55 = .ok (.iconst 0, 1) := by decide +kernel
theorem dX5_forgotten_56 : decode cX5_forgotten 56 = .ok (.istore 8, 2) := by decide +kernel
theorem dX5_forgotten_58 : decode cX5_forgotten 58 = .ok (.iload 8, 2) := by decide +kernel
theorem dX5_forgotten_60 : decode cX5_forgotten 60 = .ok (.iload 5, 2) := by decide +kernel
theorem dX5_forgotten_62 : decode cX5_forgotten 62 = .ok (.if_icmp .gt 73, 3) := by decide +kernel
theorem dX5_forgotten_65 : decode cX5_forgotten 65 = .ok (.bipush 10, 2) := by decide +kernel
theorem dX5_forgotten_67 : decode cX5_forgotten 67 = .ok (.iload_n 3, 1) := by decide +kernel
theorem dX5_forgotten_68 : decode cX5_forgotten 68 = .ok (.isub, 1) := by decide +kernel
theorem dX5_forgotten_69 : decode cX5_forgotten 69 = .ok (.iload 8, 2) := by decide +kernel
theorem dX5_forgotten_71 : decode cX5_forgotten 71 = .ok (.invokestatic 276, 3) := by decide +kernel
theorem dX5_forgotten_74 : decode cX5_forgotten 74 = .ok (.invokestatic 279, 3) := by decide +kernel
theorem dX5_forgotten_77 : decode cX5_forgotten 77 = .ok (.iload_n 3, 1) := by decide +kernel
theorem dX5_forgotten_78 : decode cX5_forgotten 78 = .ok (.iload 5, 2) := by decide +kernel
theorem dX5_forgotten_80 : decode cX5_forgotten 80 = .ok (.iload 8, 2) := by decide +kernel
theorem dX5_forgotten_82 : decode cX5_forgotten 82 = .ok (.iconst (-1), 1) := by decide +kernel
theorem dX5_forgotten_83 : decode cX5_forgotten 83 = .ok (.ixor, 1) := by decide +kernel
theorem dX5_forgotten_84 : decode cX5_forgotten 84 = .ok (.iand, 1) := by decide +kernel
theorem dX5_forgotten_85 : decode cX5_forgotten 85 = .ok (.invokestatic 276, 3) := by decide +kernel
theorem dX5_forgotten_88 : decode cX5_forgotten 88 = .ok (.invokestatic 279, 3) := by decide +kernel
theorem dX5_forgotten_91 : decode cX5_forgotten 91 = .ok (.lmul, 1) := by decide +kernel
theorem dX5_forgotten_92 : decode cX5_forgotten 92 = .ok (.lstore 9, 2) := by decide +kernel
theorem dX5_forgotten_94 : decode cX5_forgotten 94 = .ok (.iload 8, 2) := by decide +kernel
theorem dX5_forgotten_96 : decode cX5_forgotten 96 = .ok (.iload 5, 2) := by decide +kernel
theorem dX5_forgotten_98 : decode cX5_forgotten 98 = .ok (.invokestatic 223, 3) := by decide +kernel
theorem dX5_forgotten_101 : decode cX5_forgotten 101 = .ok (.ifCond .eq 28, 3) := by decide +kernel
theorem dX5_forgotten_104 : decode cX5_forgotten 104 = .ok (.lload 9, 2) := by decide +kernel
theorem dX5_forgotten_106 : decode cX5_forgotten 106 = .ok (.lconst 0, 1) := by decide +kernel
theorem dX5_forgotten_107 : decode cX5_forgotten 107 = .ok (.lcmp, 1) := by decide +kernel
theorem dX5_forgotten_108 : decode cX5_forgotten 108 = .ok (.ifCond .le 21, 3) := by decide +kernel
theorem dX5_forgotten_111 : decode cX5_forgotten 111 = .ok (.aload_n 0, 1) := by decide +kernel
theorem dX5_forgotten_112 : decode cX5_forgotten 112 = .ok (.iload_n 1, 1) := by decide +kernel
theorem dX5_forgotten_113 : decode cX5_forgotten 113 = .ok (.iload_n 2, 1) := by decide +kernel
theorem dX5_forgotten_114 : decode cX5_forgotten 114 = .ok (.iload 8, 2) := by decide +kernel
theorem dX5_forgotten_116 : decode cX5_forgotten 116 = .ok (.invokevirtual 283, 3) := by decide +kernel
theorem dX5_forgotten_119 : decode cX5_forgotten 119 = .ok (.ifCond .eq 10, 3) := by decide +kernel
theorem dX5_forgotten_122 : decode cX5_forgotten 122 = .ok (.lload 6, 2) := by decide +kernel
theorem dX5_forgotten_124 : decode cX5_forgotten 124 = .ok (.lload 9, 2) := by decide +kernel
theorem dX5_forgotten_126 : decode cX5_forgotten 126 = .ok (.ladd, 1) := by decide +kernel
theorem dX5_forgotten_127 : decode cX5_forgotten 127 = .ok (.lstore 6, 2) := by decide +kernel
theorem dX5_forgotten_129 : decode cX5_forgotten 129 = .ok (.iinc 8 1, 3) := by decide +kernel
theorem dX5_forgotten_132 : decode cX5_forgotten 132 = .ok (.goto (-74), 3) := by decide +kernel
theorem dX5_forgotten_135 : decode cX5_forgotten 135 = .ok (.bipush 10, 2) := by decide +kernel
theorem dX5_forgotten_137 : decode cX5_forgotten 137 = .ok (.iload 5, 2) := by decide +kernel
theorem dX5_forgotten_139 : decode cX5_forgotten 139 = .ok (.invokestatic 276, 3) := by decide +kernel
theorem dX5_forgotten_142 : decode cX5_forgotten 142 = .ok (.invokestatic 279, 3) := by decide +kernel
theorem dX5_forgotten_145 : decode cX5_forgotten 145 = .ok (.lstore 8, 2) := by decide +kernel
theorem dX5_forgotten_147 : decode cX5_forgotten 147 = .ok (.lconst 1, 1) := by decide +kernel
theorem dX5_forgotten_148 : decode cX5_forgotten 148 = .ok (.lload 6, 2) := by decide +kernel
theorem dX5_forgotten_150 : decode cX5_forgotten 150 = .ok (.lload 8, 2) := by decide +kernel
theorem dX5_forgotten_152 : decode cX5_forgotten 152 = .ok (.invokestatic 286, 3) := by decide +kernel
theorem dX5_forgotten_155 : decode cX5_forgotten 155 = .ok (.invokestatic 290, 3) := by decide +kernel
theorem dX5_forgotten_158 : decode cX5_forgotten 158 = .ok (.lstore 10, 2) := by decide +kernel
theorem dX5_forgotten_160 : decode cX5_forgotten 160 = .ok (.iload 4, 2) := by decide +kernel
theorem dX5_forgotten_162 : decode cX5_forgotten 162 = .ok (.ifCond .ne 11, 3) := by decide +kernel
theorem dX5_forgotten_165 : decode cX5_forgotten 165 = .ok (.lload 6, 2) := by decide +kernel
theorem dX5_forgotten_167 : decode cX5_forgotten 167 = .ok (.lload 10, 2) := by decide +kernel
theorem dX5_forgotten_169 : decode cX5_forgotten 169 = .ok (.ldiv, 1) := by decide +kernel
theorem dX5_forgotten_170 : decode cX5_forgotten 170 = .ok (.goto 8, 3) := by decide +kernel
theorem dX5_forgotten_173 : decode cX5_forgotten 173 = .ok (.lload 8, 2) := by decide +kernel
theorem dX5_forgotten_175 : decode cX5_forgotten 175 = .ok (.lload 10, 2) := by decide +kernel
theorem dX5_forgotten_177 : decode cX5_forgotten 177 = .ok (.ldiv, 1) := by decide +kernel
theorem dX5_forgotten_178 : decode cX5_forgotten 178 = .ok (.lreturn, 1) := by decide +kernel
set_option maxRecDepth 20000 in
theorem ggX5_drawn_X0_stands : GoodIn wsX5_drawn wsX0_stands := goodIn_r _ [12, 13, 103, 104, 105, 106, 107, 108, 109, 110, 111, 112, 113, 114] rfl (by decide +kernel)
set_option maxRecDepth 20000 in
theorem gX5_drawn_X0_stands : GoodIn wsX5_drawn (wsV RX5 149 RX0 yX0_stands wsX0_stands) := goodIn_app (goodIn_of _ (by decide +kernel)) ggX5_drawn_X0_stands
set_option maxRecDepth 20000 in
theorem ggX5_drawn_X5_within : GoodIn wsX5_drawn wsX5_within := goodIn_r _ [17] rfl (by decide +kernel)
set_option maxRecDepth 20000 in
theorem gX5_drawn_X5_within : GoodIn wsX5_drawn (va_wsS RX5 66 yX5_within wsX5_within) := goodIn_app (goodIn_of _ (by decide +kernel)) ggX5_drawn_X5_within
set_option maxRecDepth 20000 in
theorem ggX5_drawn_X0_become : GoodIn wsX5_drawn wsX0_become := goodIn_r _ [21, 22, 23, 13, 24, 25, 26, 27, 28, 29, 30, 31, 32, 33, 34, 35, 36, 103, 104, 105, 106, 107, 108, 109, 110, 111, 112, 113, 114] rfl (by decide +kernel)
set_option maxRecDepth 20000 in
theorem gX5_drawn_X0_become : GoodIn wsX5_drawn (wsV RX5 133 RX0 yX0_become wsX0_become) := goodIn_app (goodIn_of _ (by decide +kernel)) ggX5_drawn_X0_become
set_option maxRecDepth 20000 in
theorem ggX5_drawn_X0_obeyDraw : GoodIn wsX5_drawn wsX0_obeyDraw := goodIn_r _ [40, 24, 13, 41, 42, 33, 43, 44, 45, 11, 46, 26, 36, 47, 48, 49, 50, 103, 104, 105, 106, 107, 108, 109, 110, 111, 112, 113, 114] rfl (by decide +kernel)
set_option maxRecDepth 20000 in
theorem gX5_drawn_X0_obeyDraw : GoodIn wsX5_drawn (wsV RX5 297 RX0 yX0_obeyDraw wsX0_obeyDraw) := goodIn_app (goodIn_of _ (by decide +kernel)) ggX5_drawn_X0_obeyDraw
set_option maxRecDepth 20000 in
theorem ggX5_drawn_X0_passMinute : GoodIn wsX5_drawn wsX0_passMinute := goodIn_r _ [54, 24, 13, 26, 22, 55, 56, 49, 57, 31, 47, 48, 50, 25, 58, 59, 60, 11, 61, 32, 36, 33, 62, 63, 64, 65, 35, 66, 67, 68, 69, 34, 70, 71, 72, 73, 23, 103, 104, 105, 106, 107, 108, 109, 110, 111, 112, 113, 114] rfl (by decide +kernel)
set_option maxRecDepth 20000 in
theorem gX5_drawn_X0_passMinute : GoodIn wsX5_drawn (wsV RX5 159 RX0 yX0_passMinute wsX0_passMinute) := goodIn_app (goodIn_of _ (by decide +kernel)) ggX5_drawn_X0_passMinute
set_option maxRecDepth 20000 in
theorem ggX5_drawn_X0_coldRooms : GoodIn wsX5_drawn wsX0_coldRooms := goodIn_r _ [77, 13, 26, 23, 103, 104, 105, 106, 107, 108, 109, 110, 111, 112, 113, 114] rfl (by decide +kernel)
set_option maxRecDepth 20000 in
theorem gX5_drawn_X0_coldRooms : GoodIn wsX5_drawn (wsV RX5 162 RX0 yX0_coldRooms wsX0_coldRooms) := goodIn_app (goodIn_of _ (by decide +kernel)) ggX5_drawn_X0_coldRooms
set_option maxRecDepth 20000 in
theorem ggX5_drawn_J6_bitCount_0f7a4 : GoodIn wsX5_drawn wsJ6_bitCount_0f7a4 := goodIn_r _ [81, 82, 83, 84] rfl (by decide +kernel)
set_option maxRecDepth 20000 in
theorem gX5_drawn_J6_bitCount_0f7a4 : GoodIn wsX5_drawn (va_wsS RX5 276 yJ6_bitCount_0f7a4 wsJ6_bitCount_0f7a4) := goodIn_app (goodIn_of _ (by decide +kernel)) ggX5_drawn_J6_bitCount_0f7a4
set_option maxRecDepth 20000 in
theorem ggX5_drawn_X0_all : GoodIn wsX5_drawn wsX0_all := goodIn_r _ [88, 13, 26, 89, 90, 91, 11, 92, 24, 36, 103, 104, 105, 106, 107, 108, 109, 110, 111, 112, 113, 114] rfl (by decide +kernel)
set_option maxRecDepth 20000 in
theorem gX5_drawn_X0_all : GoodIn wsX5_drawn (wsV RX5 254 RX0 yX0_all wsX0_all) := goodIn_app (goodIn_of _ (by decide +kernel)) ggX5_drawn_X0_all
theorem dX5_drawn_0 : decode cX5_drawn 0 = .ok (.aload_n 0, 1) := by decide +kernel
theorem dX5_drawn_1 : decode cX5_drawn 1 = .ok (.getfield 26, 3) := by decide +kernel
theorem dX5_drawn_4 : decode cX5_drawn 4 = .ok (.invokevirtual 149, 3) := by decide +kernel
theorem dX5_drawn_7 : decode cX5_drawn 7 = .ok (.ifCond .ne 6, 3) := by decide +kernel
theorem dX5_drawn_10 : decode cX5_drawn 10 = .ok (.ldc 145, 2) := by decide +kernel
theorem dX5_drawn_12 : decode cX5_drawn 12 = .ok (.ireturn, 1) := by decide +kernel
theorem dX5_drawn_13 : decode cX5_drawn 13 = .ok (.iload_n 1, 1) := by decide +kernel
theorem dX5_drawn_14 : decode cX5_drawn 14 = .ok (.iconst 0, 1) := by decide +kernel
theorem dX5_drawn_15 : decode cX5_drawn 15 = .ok (.bipush 60, 2) := by decide +kernel
theorem dX5_drawn_17 : decode cX5_drawn 17 = .ok (.invokestatic 66, 3) := by decide +kernel
theorem dX5_drawn_20 : decode cX5_drawn 20 = .ok (.ifCond .eq 23, 3) := by decide +kernel
theorem dX5_drawn_23 : decode cX5_drawn 23 = .ok (.iload_n 2, 1) := by decide +kernel
theorem dX5_drawn_24 : decode cX5_drawn 24 = .ok (.iconst 1, 1) := by decide +kernel
theorem dX5_drawn_25 : decode cX5_drawn 25 = .ok (.ldc_w 292, 3) := by decide +kernel
theorem dX5_drawn_28 : decode cX5_drawn 28 = .ok (.invokestatic 66, 3) := by decide +kernel
theorem dX5_drawn_31 : decode cX5_drawn 31 = .ok (.ifCond .eq 12, 3) := by decide +kernel
theorem dX5_drawn_34 : decode cX5_drawn 34 = .ok (.iload_n 3, 1) := by decide +kernel
theorem dX5_drawn_35 : decode cX5_drawn 35 = .ok (.iconst 0, 1) := by decide +kernel
theorem dX5_drawn_36 : decode cX5_drawn 36 = .ok (.iconst 1, 1) := by decide +kernel
theorem dX5_drawn_37 : decode cX5_drawn 37 = .ok (.invokestatic 66, 3) := by decide +kernel
theorem dX5_drawn_40 : decode cX5_drawn 40 = .ok (.ifCond .ne 6, 3) := by decide +kernel
theorem dX5_drawn_43 : decode cX5_drawn 43 = .ok (.ldc 70, 2) := by decide +kernel
theorem dX5_drawn_45 : decode cX5_drawn 45 = .ok (.ireturn, 1) := by decide +kernel
theorem dX5_drawn_46 : decode cX5_drawn 46 = .ok (.iload_n 2, 1) := by decide +kernel
theorem dX5_drawn_47 : decode cX5_drawn 47 = .ok (.i2l, 1) := by decide +kernel
theorem dX5_drawn_48 : decode cX5_drawn 48 = .ok (.lstore 4, 2) := by decide +kernel
theorem dX5_drawn_50 : decode cX5_drawn 50 = .ok (.aload_n 0, 1) := by decide +kernel
theorem dX5_drawn_51 : decode cX5_drawn 51 = .ok (.getfield 30, 3) := by decide +kernel
theorem dX5_drawn_54 : decode cX5_drawn 54 = .ok (.aload_n 0, 1) := by decide +kernel
theorem dX5_drawn_55 : decode cX5_drawn 55 = .ok (.getfield 26, 3) := by decide +kernel
theorem dX5_drawn_58 : decode cX5_drawn 58 = .ok (.invokevirtual 133, 3) := by decide +kernel
theorem dX5_drawn_61 : decode cX5_drawn 61 = .ok (.iconst 0, 1) := by decide +kernel
theorem dX5_drawn_62 : decode cX5_drawn 62 = .ok (.istore 6, 2) := by decide +kernel
theorem dX5_drawn_64 : decode cX5_drawn 64 = .ok (.iload 6, 2) := by decide +kernel
theorem dX5_drawn_66 : decode cX5_drawn 66 = .ok (.iload_n 1, 1) := by decide +kernel
theorem dX5_drawn_67 : decode cX5_drawn 67 = .ok (.if_icmp .ge 37, 3) := by decide +kernel
theorem dX5_drawn_70 : decode cX5_drawn 70 = .ok (.lload 4, 2) := by decide +kernel
theorem dX5_drawn_72 : decode cX5_drawn 72 = .ok (.ldc2_w 293, 3) := by decide +kernel
theorem dX5_drawn_75 : decode cX5_drawn 75 = .ok (.lmul, 1) := by decide +kernel
theorem dX5_drawn_76 : decode cX5_drawn 76 = .ok (.ldc2_w 295, 3) := by decide +kernel
theorem dX5_drawn_79 : decode cX5_drawn 79 = .ok (.lrem, 1) := by decide +kernel
theorem dX5_drawn_80 : decode cX5_drawn 80 = .ok (.lstore 4, 2) := by decide +kernel
theorem dX5_drawn_82 : decode cX5_drawn 82 = .ok (.aload_n 0, 1) := by decide +kernel
theorem dX5_drawn_83 : decode cX5_drawn 83 = .ok (.getfield 30, 3) := by decide +kernel
theorem dX5_drawn_86 : decode cX5_drawn 86 = .ok (.lload 4, 2) := by decide +kernel
theorem dX5_drawn_88 : decode cX5_drawn 88 = .ok (.invokevirtual 297, 3) := by decide +kernel
theorem dX5_drawn_91 : decode cX5_drawn 91 = .ok (.aload_n 0, 1) := by decide +kernel
theorem dX5_drawn_92 : decode cX5_drawn 92 = .ok (.getfield 30, 3) := by decide +kernel
theorem dX5_drawn_95 : decode cX5_drawn 95 = .ok (.invokevirtual 159, 3) := by decide +kernel
theorem dX5_drawn_98 : decode cX5_drawn 98 = .ok (.iinc 6 1, 3) := by decide +kernel
theorem dX5_drawn_101 : decode cX5_drawn 101 = .ok (.goto (-37), 3) := by decide +kernel
theorem dX5_drawn_104 : decode cX5_drawn 104 = .ok (.iload_n 3, 1) := by decide +kernel
theorem dX5_drawn_105 : decode cX5_drawn 105 = .ok (.ifCond .ne 16, 3) := by decide +kernel
theorem dX5_drawn_108 : decode cX5_drawn 108 = .ok (.aload_n 0, 1) := by decide +kernel
theorem dX5_drawn_109 : decode cX5_drawn 109 = .ok (.getfield 30, 3) := by decide +kernel
theorem dX5_drawn_112 : decode cX5_drawn 112 = .ok (.invokevirtual 162, 3) := by decide +kernel
theorem dX5_drawn_115 : decode cX5_drawn 115 = .ok (.invokestatic 276, 3) := by decide +kernel
theorem dX5_drawn_118 : decode cX5_drawn 118 = .ok (.goto 10, 3) := by decide +kernel
theorem dX5_drawn_121 : decode cX5_drawn 121 = .ok (.aload_n 0, 1) := by decide +kernel
theorem dX5_drawn_122 : decode cX5_drawn 122 = .ok (.getfield 30, 3) := by decide +kernel
theorem dX5_drawn_125 : decode cX5_drawn 125 = .ok (.invokevirtual 254, 3) := by decide +kernel
theorem dX5_drawn_128 : decode cX5_drawn 128 = .ok (.ireturn, 1) := by decide +kernel
set_option maxRecDepth 20000 in
theorem ggX5_image_X5_within : GoodIn wsX5_image wsX5_within := goodIn_r _ [8] rfl (by decide +kernel)
set_option maxRecDepth 20000 in
theorem gX5_image_X5_within : GoodIn wsX5_image (va_wsS RX5 66 yX5_within wsX5_within) := goodIn_app (goodIn_of _ (by decide +kernel)) ggX5_image_X5_within
set_option maxRecDepth 20000 in
theorem ggX5_image_X0_stands : GoodIn wsX5_image wsX0_stands := goodIn_r _ [13, 14, 44, 45, 46, 47, 48, 49, 50, 51, 52, 53, 54, 55] rfl (by decide +kernel)
set_option maxRecDepth 20000 in
theorem gX5_image_X0_stands : GoodIn wsX5_image (wsV RX5 149 RX0 yX0_stands wsX0_stands) := goodIn_app (goodIn_of _ (by decide +kernel)) ggX5_image_X0_stands
set_option maxRecDepth 20000 in
theorem ggX5_image_X0_become : GoodIn wsX5_image wsX0_become := goodIn_r _ [18, 19, 20, 14, 21, 22, 23, 24, 25, 26, 27, 28, 29, 30, 31, 32, 33, 44, 45, 46, 47, 48, 49, 50, 51, 52, 53, 54, 55] rfl (by decide +kernel)
set_option maxRecDepth 20000 in
theorem gX5_image_X0_become : GoodIn wsX5_image (wsV RX5 133 RX0 yX0_become wsX0_become) := goodIn_app (goodIn_of _ (by decide +kernel)) ggX5_image_X0_become
theorem dX5_image_0 : decode cX5_image 0 = .ok (.iload_n 1, 1) := by decide +kernel
theorem dX5_image_1 : decode cX5_image 1 = .ok (.iconst 0, 1) := by decide +kernel
theorem dX5_image_2 : decode cX5_image 2 = .ok (.iconst 1, 1) := by decide +kernel
theorem dX5_image_3 : decode cX5_image 3 = .ok (.invokestatic 66, 3) := by decide +kernel
theorem dX5_image_6 : decode cX5_image 6 = .ok (.ifCond .ne 6, 3) := by decide +kernel
theorem dX5_image_9 : decode cX5_image 9 = .ok (.ldc 70, 2) := by decide +kernel
theorem dX5_image_11 : decode cX5_image 11 = .ok (.ireturn, 1) := by decide +kernel
theorem dX5_image_12 : decode cX5_image 12 = .ok (.aload_n 0, 1) := by decide +kernel
theorem dX5_image_13 : decode cX5_image 13 = .ok (.getfield 26, 3) := by decide +kernel
theorem dX5_image_16 : decode cX5_image 16 = .ok (.invokevirtual 149, 3) := by decide +kernel
theorem dX5_image_19 : decode cX5_image 19 = .ok (.ifCond .ne 6, 3) := by decide +kernel
theorem dX5_image_22 : decode cX5_image 22 = .ok (.ldc 145, 2) := by decide +kernel
theorem dX5_image_24 : decode cX5_image 24 = .ok (.ireturn, 1) := by decide +kernel
theorem dX5_image_25 : decode cX5_image 25 = .ok (.aload_n 0, 1) := by decide +kernel
theorem dX5_image_26 : decode cX5_image 26 = .ok (.getfield 33, 3) := by decide +kernel
theorem dX5_image_29 : decode cX5_image 29 = .ok (.iload_n 1, 1) := by decide +kernel
theorem dX5_image_30 : decode cX5_image 30 = .ok (.aaload, 1) := by decide +kernel
theorem dX5_image_31 : decode cX5_image 31 = .ok (.aload_n 0, 1) := by decide +kernel
theorem dX5_image_32 : decode cX5_image 32 = .ok (.getfield 26, 3) := by decide +kernel
theorem dX5_image_35 : decode cX5_image 35 = .ok (.invokevirtual 133, 3) := by decide +kernel
theorem dX5_image_38 : decode cX5_image 38 = .ok (.iconst 1, 1) := by decide +kernel
theorem dX5_image_39 : decode cX5_image 39 = .ok (.ireturn, 1) := by decide +kernel
set_option maxRecDepth 20000 in
theorem ggX5_restore_X5_within : GoodIn wsX5_restore wsX5_within := goodIn_r _ [9] rfl (by decide +kernel)
set_option maxRecDepth 20000 in
theorem gX5_restore_X5_within : GoodIn wsX5_restore (va_wsS RX5 66 yX5_within wsX5_within) := goodIn_app (goodIn_of _ (by decide +kernel)) ggX5_restore_X5_within
set_option maxRecDepth 20000 in
theorem ggX5_restore_X0_stands : GoodIn wsX5_restore wsX0_stands := goodIn_r _ [14, 15, 51, 52, 53, 54, 55, 56, 57, 58, 59, 60, 61, 62] rfl (by decide +kernel)
set_option maxRecDepth 20000 in
theorem gX5_restore_X0_stands : GoodIn wsX5_restore (wsV RX5 149 RX0 yX0_stands wsX0_stands) := goodIn_app (goodIn_of _ (by decide +kernel)) ggX5_restore_X0_stands
set_option maxRecDepth 20000 in
theorem ggX5_restore_X0_become : GoodIn wsX5_restore wsX0_become := goodIn_r _ [19, 20, 21, 15, 22, 23, 24, 25, 26, 27, 28, 29, 30, 31, 32, 33, 34, 51, 52, 53, 54, 55, 56, 57, 58, 59, 60, 61, 62] rfl (by decide +kernel)
set_option maxRecDepth 20000 in
theorem gX5_restore_X0_become : GoodIn wsX5_restore (wsV RX5 133 RX0 yX0_become wsX0_become) := goodIn_app (goodIn_of _ (by decide +kernel)) ggX5_restore_X0_become
set_option maxRecDepth 20000 in
theorem ggX5_restore_X1_forget : GoodIn wsX5_restore wsX1_forget := goodIn_r _ [39, 40, 63, 64, 65] rfl (by decide +kernel)
set_option maxRecDepth 20000 in
theorem gX5_restore_X1_forget : GoodIn wsX5_restore (wsV RX5 137 RX1 yX1_forget wsX1_forget) := goodIn_app (goodIn_of _ (by decide +kernel)) ggX5_restore_X1_forget
theorem dX5_restore_0 : decode cX5_restore 0 = .ok (.iload_n 1, 1) := by decide +kernel
theorem dX5_restore_1 : decode cX5_restore 1 = .ok (.iconst 0, 1) := by decide +kernel
theorem dX5_restore_2 : decode cX5_restore 2 = .ok (.iconst 1, 1) := by decide +kernel
theorem dX5_restore_3 : decode cX5_restore 3 = .ok (.invokestatic 66, 3) := by decide +kernel
theorem dX5_restore_6 : decode cX5_restore 6 = .ok (.ifCond .ne 6, 3) := by decide +kernel
theorem dX5_restore_9 : decode cX5_restore 9 = .ok (.ldc 70, 2) := by decide +kernel
theorem dX5_restore_11 : decode cX5_restore 11 = .ok (.ireturn, 1) := by decide +kernel
theorem dX5_restore_12 : decode cX5_restore 12 = .ok (.aload_n 0, 1) := by decide +kernel
theorem dX5_restore_13 : decode cX5_restore 13 = .ok (.getfield 33, 3) := by decide +kernel
theorem dX5_restore_16 : decode cX5_restore 16 = .ok (.iload_n 1, 1) := by decide +kernel
theorem dX5_restore_17 : decode cX5_restore 17 = .ok (.aaload, 1) := by decide +kernel
theorem dX5_restore_18 : decode cX5_restore 18 = .ok (.invokevirtual 149, 3) := by decide +kernel
theorem dX5_restore_21 : decode cX5_restore 21 = .ok (.ifCond .ne 6, 3) := by decide +kernel
theorem dX5_restore_24 : decode cX5_restore 24 = .ok (.ldc 145, 2) := by decide +kernel
theorem dX5_restore_26 : decode cX5_restore 26 = .ok (.ireturn, 1) := by decide +kernel
theorem dX5_restore_27 : decode cX5_restore 27 = .ok (.aload_n 0, 1) := by decide +kernel
theorem dX5_restore_28 : decode cX5_restore 28 = .ok (.getfield 26, 3) := by decide +kernel
theorem dX5_restore_31 : decode cX5_restore 31 = .ok (.aload_n 0, 1) := by decide +kernel
theorem dX5_restore_32 : decode cX5_restore 32 = .ok (.getfield 33, 3) := by decide +kernel
theorem dX5_restore_35 : decode cX5_restore 35 = .ok (.iload_n 1, 1) := by decide +kernel
theorem dX5_restore_36 : decode cX5_restore 36 = .ok (.aaload, 1) := by decide +kernel
theorem dX5_restore_37 : decode cX5_restore 37 = .ok (.invokevirtual 133, 3) := by decide +kernel
theorem dX5_restore_40 : decode cX5_restore 40 = .ok (.aload_n 0, 1) := by decide +kernel
theorem dX5_restore_41 : decode cX5_restore 41 = .ok (.getfield 40, 3) := by decide +kernel
theorem dX5_restore_44 : decode cX5_restore 44 = .ok (.invokevirtual 137, 3) := by decide +kernel
theorem dX5_restore_47 : decode cX5_restore 47 = .ok (.iconst 1, 1) := by decide +kernel
theorem dX5_restore_48 : decode cX5_restore 48 = .ok (.ireturn, 1) := by decide +kernel
set_option maxRecDepth 20000 in
theorem ggX5_kind_X5_isTube : GoodIn wsX5_kind wsX5_isTube := goodIn_r _ [8, 1, 9, 10, 11, 7, 12, 13, 14, 15, 16, 17, 18, 19, 20, 21, 22, 23, 24, 25, 26, 27, 28, 29, 30, 31, 32, 33, 34] rfl (by decide +kernel)
set_option maxRecDepth 20000 in
theorem gX5_kind_X5_isTube : GoodIn wsX5_kind (wsV RX5 166 RX5 yX5_isTube wsX5_isTube) := goodIn_app (goodIn_of _ (by decide +kernel)) ggX5_kind_X5_isTube
theorem dX5_kind_0 : decode cX5_kind 0 = .ok (.aload_n 0, 1) := by decide +kernel
theorem dX5_kind_1 : decode cX5_kind 1 = .ok (.iload_n 1, 1) := by decide +kernel
theorem dX5_kind_2 : decode cX5_kind 2 = .ok (.invokevirtual 166, 3) := by decide +kernel
theorem dX5_kind_5 : decode cX5_kind 5 = .ok (.ifCond .eq 15, 3) := by decide +kernel
theorem dX5_kind_8 : decode cX5_kind 8 = .ok (.aload_n 0, 1) := by decide +kernel
theorem dX5_kind_9 : decode cX5_kind 9 = .ok (.getfield 26, 3) := by decide +kernel
theorem dX5_kind_12 : decode cX5_kind 12 = .ok (.getfield 301, 3) := by decide +kernel
theorem dX5_kind_15 : decode cX5_kind 15 = .ok (.iload_n 1, 1) := by decide +kernel
theorem dX5_kind_16 : decode cX5_kind 16 = .ok (.iaload, 1) := by decide +kernel
theorem dX5_kind_17 : decode cX5_kind 17 = .ok (.goto 5, 3) := by decide +kernel
theorem dX5_kind_20 : decode cX5_kind 20 = .ok (.ldc 70, 2) := by decide +kernel
theorem dX5_kind_22 : decode cX5_kind 22 = .ok (.ireturn, 1) := by decide +kernel
set_option maxRecDepth 20000 in
theorem ggX5_as_X5_isTube : GoodIn wsX5_as wsX5_isTube := goodIn_r _ [9, 2, 10, 11, 12, 8, 13, 24, 25, 26, 27, 28, 29, 30, 31, 32, 33, 34, 35, 36, 37, 38, 39, 40, 41, 42, 43, 44, 45] rfl (by decide +kernel)
set_option maxRecDepth 20000 in
theorem gX5_as_X5_isTube : GoodIn wsX5_as (wsV RX5 166 RX5 yX5_isTube wsX5_isTube) := goodIn_app (goodIn_of _ (by decide +kernel)) ggX5_as_X5_isTube
set_option maxRecDepth 20000 in
theorem ggX5_as_X5_within : GoodIn wsX5_as wsX5_within := goodIn_r _ [13] rfl (by decide +kernel)
set_option maxRecDepth 20000 in
theorem gX5_as_X5_within : GoodIn wsX5_as (va_wsS RX5 66 yX5_within wsX5_within) := goodIn_app (goodIn_of _ (by decide +kernel)) ggX5_as_X5_within
set_option maxRecDepth 20000 in
theorem ggX5_as_X5_plain : GoodIn wsX5_as wsX5_plain := goodIn_r _ [17, 18, 24, 25, 26, 27, 28, 29, 30, 31, 32, 33] rfl (by decide +kernel)
set_option maxRecDepth 20000 in
theorem gX5_as_X5_plain : GoodIn wsX5_as (wsV RX5 79 RX5 yX5_plain wsX5_plain) := goodIn_app (goodIn_of _ (by decide +kernel)) ggX5_as_X5_plain
set_option maxRecDepth 20000 in
theorem ggX5_as_X5_found : GoodIn wsX5_as wsX5_found := goodIn_r _ [22, 18, 23, 24, 25, 26, 27, 28, 29, 30, 31, 32, 33] rfl (by decide +kernel)
set_option maxRecDepth 20000 in
theorem gX5_as_X5_found : GoodIn wsX5_as (wsV RX5 71 RX5 yX5_found wsX5_found) := goodIn_app (goodIn_of _ (by decide +kernel)) ggX5_as_X5_found
theorem dX5_as_0 : decode cX5_as 0 = .ok (.aload_n 0, 1) := by decide +kernel
theorem dX5_as_1 : decode cX5_as 1 = .ok (.iload_n 1, 1) := by decide +kernel
theorem dX5_as_2 : decode cX5_as 2 = .ok (.invokevirtual 166, 3) := by decide +kernel
theorem dX5_as_5 : decode cX5_as 5 = .ok (.ifCond .eq 12, 3) := by decide +kernel
theorem dX5_as_8 : decode cX5_as 8 = .ok (.iload_n 2, 1) := by decide +kernel
theorem dX5_as_9 : decode cX5_as 9 = .ok (.iconst 0, 1) := by decide +kernel
theorem dX5_as_10 : decode cX5_as 10 = .ok (.iconst 5, 1) := by decide +kernel
theorem dX5_as_11 : decode cX5_as 11 = .ok (.invokestatic 66, 3) := by decide +kernel
theorem dX5_as_14 : decode cX5_as 14 = .ok (.ifCond .ne 6, 3) := by decide +kernel
theorem dX5_as_17 : decode cX5_as 17 = .ok (.ldc 70, 2) := by decide +kernel
theorem dX5_as_19 : decode cX5_as 19 = .ok (.ireturn, 1) := by decide +kernel
theorem dX5_as_20 : decode cX5_as 20 = .ok (.aload_n 0, 1) := by decide +kernel
theorem dX5_as_21 : decode cX5_as 21 = .ok (.getfield 26, 3) := by decide +kernel
theorem dX5_as_24 : decode cX5_as 24 = .ok (.getfield 301, 3) := by decide +kernel
theorem dX5_as_27 : decode cX5_as 27 = .ok (.iload_n 1, 1) := by decide +kernel
theorem dX5_as_28 : decode cX5_as 28 = .ok (.iaload, 1) := by decide +kernel
theorem dX5_as_29 : decode cX5_as 29 = .ok (.istore_n 3, 1) := by decide +kernel
theorem dX5_as_30 : decode cX5_as 30 = .ok (.iconst 0, 1) := by decide +kernel
theorem dX5_as_31 : decode cX5_as 31 = .ok (.istore 4, 2) := by decide +kernel
theorem dX5_as_33 : decode cX5_as 33 = .ok (.iload 4, 2) := by decide +kernel
theorem dX5_as_35 : decode cX5_as 35 = .ok (.bipush 6, 2) := by decide +kernel
theorem dX5_as_37 : decode cX5_as 37 = .ok (.if_icmp .ge 35, 3) := by decide +kernel
theorem dX5_as_40 : decode cX5_as 40 = .ok (.iload_n 3, 1) := by decide +kernel
theorem dX5_as_41 : decode cX5_as 41 = .ok (.iconst 0, 1) := by decide +kernel
theorem dX5_as_42 : decode cX5_as 42 = .ok (.iconst 5, 1) := by decide +kernel
theorem dX5_as_43 : decode cX5_as 43 = .ok (.invokestatic 66, 3) := by decide +kernel
theorem dX5_as_46 : decode cX5_as 46 = .ok (.ifCond .eq 26, 3) := by decide +kernel
theorem dX5_as_49 : decode cX5_as 49 = .ok (.iload_n 3, 1) := by decide +kernel
theorem dX5_as_50 : decode cX5_as 50 = .ok (.iload_n 2, 1) := by decide +kernel
theorem dX5_as_51 : decode cX5_as 51 = .ok (.if_icmp .ne 9, 3) := by decide +kernel
theorem dX5_as_54 : decode cX5_as 54 = .ok (.aload_n 0, 1) := by decide +kernel
theorem dX5_as_55 : decode cX5_as 55 = .ok (.iload_n 1, 1) := by decide +kernel
theorem dX5_as_56 : decode cX5_as 56 = .ok (.invokevirtual 79, 3) := by decide +kernel
theorem dX5_as_59 : decode cX5_as 59 = .ok (.ireturn, 1) := by decide +kernel
theorem dX5_as_60 : decode cX5_as 60 = .ok (.getstatic 304, 3) := by decide +kernel
theorem dX5_as_63 : decode cX5_as 63 = .ok (.iload_n 3, 1) := by decide +kernel
theorem dX5_as_64 : decode cX5_as 64 = .ok (.iaload, 1) := by decide +kernel
theorem dX5_as_65 : decode cX5_as 65 = .ok (.istore_n 3, 1) := by decide +kernel
theorem dX5_as_66 : decode cX5_as 66 = .ok (.iinc 4 1, 3) := by decide +kernel
theorem dX5_as_69 : decode cX5_as 69 = .ok (.goto (-36), 3) := by decide +kernel
theorem dX5_as_72 : decode cX5_as 72 = .ok (.aload_n 0, 1) := by decide +kernel
theorem dX5_as_73 : decode cX5_as 73 = .ok (.iconst 3, 1) := by decide +kernel
theorem dX5_as_74 : decode cX5_as 74 = .ok (.invokevirtual 71, 3) := by decide +kernel
theorem dX5_as_77 : decode cX5_as 77 = .ok (.ireturn, 1) := by decide +kernel
set_option maxRecDepth 20000 in
theorem ggX5_ask_X5_isTube : GoodIn wsX5_ask wsX5_isTube := goodIn_r _ [9, 4, 10, 11, 12, 8, 13, 35, 36, 37, 38, 39, 40, 41, 42, 43, 44, 47, 48, 49, 50, 51, 52, 53, 54, 55, 56, 57, 58] rfl (by decide +kernel)
set_option maxRecDepth 20000 in
theorem gX5_ask_X5_isTube : GoodIn wsX5_ask (wsV RX5 166 RX5 yX5_isTube wsX5_isTube) := goodIn_app (goodIn_of _ (by decide +kernel)) ggX5_ask_X5_isTube
set_option maxRecDepth 20000 in
theorem ggX5_ask_X5_within : GoodIn wsX5_ask wsX5_within := goodIn_r _ [13] rfl (by decide +kernel)
set_option maxRecDepth 20000 in
theorem gX5_ask_X5_within : GoodIn wsX5_ask (va_wsS RX5 66 yX5_within wsX5_within) := goodIn_app (goodIn_of _ (by decide +kernel)) ggX5_ask_X5_within
set_option maxRecDepth 20000 in
theorem ggX5_ask_X5_sizeBody : GoodIn wsX5_ask wsX5_sizeBody := goodIn_r _ [16, 17, 18, 11, 12, 8, 13, 47, 48, 49, 50, 51, 52, 53, 54, 55, 56, 57, 58] rfl (by decide +kernel)
set_option maxRecDepth 20000 in
theorem gX5_ask_X5_sizeBody : GoodIn wsX5_ask (va_wsS RX5 308 yX5_sizeBody wsX5_sizeBody) := goodIn_app (goodIn_of _ (by decide +kernel)) ggX5_ask_X5_sizeBody
set_option maxRecDepth 20000 in
theorem ggX5_ask_X5_markBody : GoodIn wsX5_ask wsX5_markBody := goodIn_r _ [21, 17, 22, 11, 12, 8, 13, 47, 48, 49, 50, 51, 52, 53, 54, 55, 56, 57, 58] rfl (by decide +kernel)
set_option maxRecDepth 20000 in
theorem gX5_ask_X5_markBody : GoodIn wsX5_ask (va_wsS RX5 312 yX5_markBody wsX5_markBody) := goodIn_app (goodIn_of _ (by decide +kernel)) ggX5_ask_X5_markBody
set_option maxRecDepth 20000 in
theorem ggX5_ask_X5_begin : GoodIn wsX5_ask wsX5_begin := goodIn_r _ [25, 26, 27, 28, 29, 30, 31, 32, 33, 34, 23, 24, 8, 19, 20, 21, 17, 22, 11, 12, 13, 14, 15, 16, 18, 47, 48, 49, 50, 51, 52, 53, 54, 55, 56, 57, 58, 45, 46] rfl (by decide +kernel)
set_option maxRecDepth 20000 in
theorem gX5_ask_X5_begin : GoodIn wsX5_ask (va_wsS RX5 315 yX5_begin wsX5_begin) := goodIn_app (goodIn_of _ (by decide +kernel)) ggX5_ask_X5_begin
theorem dX5_ask_0 : decode cX5_ask 0 = .ok (.aload_n 0, 1) := by decide +kernel
theorem dX5_ask_1 : decode cX5_ask 1 = .ok (.iload_n 1, 1) := by decide +kernel
theorem dX5_ask_2 : decode cX5_ask 2 = .ok (.invokevirtual 166, 3) := by decide +kernel
theorem dX5_ask_5 : decode cX5_ask 5 = .ok (.ifCond .eq 12, 3) := by decide +kernel
theorem dX5_ask_8 : decode cX5_ask 8 = .ok (.iload_n 2, 1) := by decide +kernel
theorem dX5_ask_9 : decode cX5_ask 9 = .ok (.iconst 0, 1) := by decide +kernel
theorem dX5_ask_10 : decode cX5_ask 10 = .ok (.iconst 1, 1) := by decide +kernel
theorem dX5_ask_11 : decode cX5_ask 11 = .ok (.invokestatic 66, 3) := by decide +kernel
theorem dX5_ask_14 : decode cX5_ask 14 = .ok (.ifCond .ne 6, 3) := by decide +kernel
theorem dX5_ask_17 : decode cX5_ask 17 = .ok (.ldc 70, 2) := by decide +kernel
theorem dX5_ask_19 : decode cX5_ask 19 = .ok (.ireturn, 1) := by decide +kernel
theorem dX5_ask_20 : decode cX5_ask 20 = .ok (.aload_n 0, 1) := by decide +kernel
theorem dX5_ask_21 : decode cX5_ask 21 = .ok (.getfield 51, 3) := by decide +kernel
theorem dX5_ask_24 : decode cX5_ask 24 = .ok (.iconst 0, 1) := by decide +kernel
theorem dX5_ask_25 : decode cX5_ask 25 = .ok (.putfield 307, 3) := by decide +kernel
theorem dX5_ask_28 : decode cX5_ask 28 = .ok (.aload_n 0, 1) := by decide +kernel
theorem dX5_ask_29 : decode cX5_ask 29 = .ok (.getfield 26, 3) := by decide +kernel
theorem dX5_ask_32 : decode cX5_ask 32 = .ok (.aload_n 0, 1) := by decide +kernel
theorem dX5_ask_33 : decode cX5_ask 33 = .ok (.getfield 51, 3) := by decide +kernel
theorem dX5_ask_36 : decode cX5_ask 36 = .ok (.iload_n 2, 1) := by decide +kernel
theorem dX5_ask_37 : decode cX5_ask 37 = .ok (.ifCond .ne 14, 3) := by decide +kernel
theorem dX5_ask_40 : decode cX5_ask 40 = .ok (.aload_n 0, 1) := by decide +kernel
theorem dX5_ask_41 : decode cX5_ask 41 = .ok (.getfield 26, 3) := by decide +kernel
theorem dX5_ask_44 : decode cX5_ask 44 = .ok (.iload_n 1, 1) := by decide +kernel
theorem dX5_ask_45 : decode cX5_ask 45 = .ok (.invokestatic 308, 3) := by decide +kernel
theorem dX5_ask_48 : decode cX5_ask 48 = .ok (.goto 11, 3) := by decide +kernel
theorem dX5_ask_51 : decode cX5_ask 51 = .ok (.aload_n 0, 1) := by decide +kernel
theorem dX5_ask_52 : decode cX5_ask 52 = .ok (.getfield 26, 3) := by decide +kernel
theorem dX5_ask_55 : decode cX5_ask 55 = .ok (.iload_n 1, 1) := by decide +kernel
theorem dX5_ask_56 : decode cX5_ask 56 = .ok (.invokestatic 312, 3) := by decide +kernel
theorem dX5_ask_59 : decode cX5_ask 59 = .ok (.iload_n 1, 1) := by decide +kernel
theorem dX5_ask_60 : decode cX5_ask 60 = .ok (.iconst 0, 1) := by decide +kernel
theorem dX5_ask_61 : decode cX5_ask 61 = .ok (.invokestatic 315, 3) := by decide +kernel
theorem dX5_ask_64 : decode cX5_ask 64 = .ok (.ireturn, 1) := by decide +kernel
set_option maxRecDepth 20000 in
theorem ggX5_trace_X5_within : GoodIn wsX5_trace wsX5_within := goodIn_r _ [8] rfl (by decide +kernel)
set_option maxRecDepth 20000 in
theorem gX5_trace_X5_within : GoodIn wsX5_trace (va_wsS RX5 66 yX5_within wsX5_within) := goodIn_app (goodIn_of _ (by decide +kernel)) ggX5_trace_X5_within
theorem dX5_trace_0 : decode cX5_trace 0 = .ok (.iload_n 1, 1) := by decide +kernel
theorem dX5_trace_1 : decode cX5_trace 1 = .ok (.iconst 0, 1) := by decide +kernel
theorem dX5_trace_2 : decode cX5_trace 2 = .ok (.aload_n 0, 1) := by decide +kernel
theorem dX5_trace_3 : decode cX5_trace 3 = .ok (.getfield 51, 3) := by decide +kernel
theorem dX5_trace_6 : decode cX5_trace 6 = .ok (.getfield 307, 3) := by decide +kernel
theorem dX5_trace_9 : decode cX5_trace 9 = .ok (.iconst 1, 1) := by decide +kernel
theorem dX5_trace_10 : decode cX5_trace 10 = .ok (.isub, 1) := by decide +kernel
theorem dX5_trace_11 : decode cX5_trace 11 = .ok (.invokestatic 66, 3) := by decide +kernel
theorem dX5_trace_14 : decode cX5_trace 14 = .ok (.ifCond .eq 15, 3) := by decide +kernel
theorem dX5_trace_17 : decode cX5_trace 17 = .ok (.aload_n 0, 1) := by decide +kernel
theorem dX5_trace_18 : decode cX5_trace 18 = .ok (.getfield 51, 3) := by decide +kernel
theorem dX5_trace_21 : decode cX5_trace 21 = .ok (.getfield 319, 3) := by decide +kernel
theorem dX5_trace_24 : decode cX5_trace 24 = .ok (.iload_n 1, 1) := by decide +kernel
theorem dX5_trace_25 : decode cX5_trace 25 = .ok (.iaload, 1) := by decide +kernel
theorem dX5_trace_26 : decode cX5_trace 26 = .ok (.goto 5, 3) := by decide +kernel
theorem dX5_trace_29 : decode cX5_trace 29 = .ok (.ldc 217, 2) := by decide +kernel
theorem dX5_trace_31 : decode cX5_trace 31 = .ok (.ireturn, 1) := by decide +kernel
set_option maxRecDepth 20000 in
theorem ggX5_count_X2_present : GoodIn wsX5_count wsX2_present := goodIn_r _ [15, 16, 17, 18, 14, 19, 20, 65, 66, 67] rfl (by decide +kernel)
set_option maxRecDepth 20000 in
theorem gX5_count_X2_present : GoodIn wsX5_count (wsV RX5 322 RX2 yX2_present wsX2_present) := goodIn_app (goodIn_of _ (by decide +kernel)) ggX5_count_X2_present
set_option maxRecDepth 20000 in
theorem ggX5_count_X0_coldRooms : GoodIn wsX5_count wsX0_coldRooms := goodIn_r _ [25, 26, 27, 28, 45, 46, 47, 48, 49, 50, 51, 52, 53, 54, 55, 56] rfl (by decide +kernel)
set_option maxRecDepth 20000 in
theorem gX5_count_X0_coldRooms : GoodIn wsX5_count (wsV RX5 162 RX0 yX0_coldRooms wsX0_coldRooms) := goodIn_app (goodIn_of _ (by decide +kernel)) ggX5_count_X0_coldRooms
set_option maxRecDepth 20000 in
theorem ggX5_count_X0_upIn : GoodIn wsX5_count wsX0_upIn := goodIn_r _ [32, 33, 34, 45, 46, 47, 48, 49, 50, 51, 52, 53, 54, 55, 56] rfl (by decide +kernel)
set_option maxRecDepth 20000 in
theorem gX5_count_X0_upIn : GoodIn wsX5_count (wsV RX5 246 RX0 yX0_upIn wsX0_upIn) := goodIn_app (goodIn_of _ (by decide +kernel)) ggX5_count_X0_upIn
theorem dX5_count_0 : decode cX5_count 0 = .ok (.iload_n 1, 1) := by decide +kernel
theorem dX5_count_1 : decode cX5_count 1 = .ok (.tableswitch 112 0 7 #[47, 55, 63, 71, 79, 87, 96, 104], 47) := by decide +kernel
theorem dX5_count_48 : decode cX5_count 48 = .ok (.aload_n 0, 1) := by decide +kernel
theorem dX5_count_49 : decode cX5_count 49 = .ok (.getfield 10, 3) := by decide +kernel
theorem dX5_count_52 : decode cX5_count 52 = .ok (.invokevirtual 322, 3) := by decide +kernel
theorem dX5_count_55 : decode cX5_count 55 = .ok (.ireturn, 1) := by decide +kernel
theorem dX5_count_56 : decode cX5_count 56 = .ok (.aload_n 0, 1) := by decide +kernel
theorem dX5_count_57 : decode cX5_count 57 = .ok (.getfield 26, 3) := by decide +kernel
theorem dX5_count_60 : decode cX5_count 60 = .ok (.getfield 239, 3) := by decide +kernel
theorem dX5_count_63 : decode cX5_count 63 = .ok (.ireturn, 1) := by decide +kernel
theorem dX5_count_64 : decode cX5_count 64 = .ok (.aload_n 0, 1) := by decide +kernel
theorem dX5_count_65 : decode cX5_count 65 = .ok (.getfield 26, 3) := by decide +kernel
theorem dX5_count_68 : decode cX5_count 68 = .ok (.getfield 140, 3) := by decide +kernel
theorem dX5_count_71 : decode cX5_count 71 = .ok (.ireturn, 1) := by decide +kernel
theorem dX5_count_72 : decode cX5_count 72 = .ok (.aload_n 0, 1) := by decide +kernel
theorem dX5_count_73 : decode cX5_count 73 = .ok (.getfield 26, 3) := by decide +kernel
theorem dX5_count_76 : decode cX5_count 76 = .ok (.getfield 153, 3) := by decide +kernel
theorem dX5_count_79 : decode cX5_count 79 = .ok (.ireturn, 1) := by decide +kernel
theorem dX5_count_80 : decode cX5_count 80 = .ok (.aload_n 0, 1) := by decide +kernel
theorem dX5_count_81 : decode cX5_count 81 = .ok (.getfield 26, 3) := by decide +kernel
theorem dX5_count_84 : decode cX5_count 84 = .ok (.invokevirtual 162, 3) := by decide +kernel
theorem dX5_count_87 : decode cX5_count 87 = .ok (.ireturn, 1) := by decide +kernel
theorem dX5_count_88 : decode cX5_count 88 = .ok (.aload_n 0, 1) := by decide +kernel
theorem dX5_count_89 : decode cX5_count 89 = .ok (.getfield 26, 3) := by decide +kernel
theorem dX5_count_92 : decode cX5_count 92 = .ok (.iconst (-1), 1) := by decide +kernel
theorem dX5_count_93 : decode cX5_count 93 = .ok (.invokevirtual 246, 3) := by decide +kernel
theorem dX5_count_96 : decode cX5_count 96 = .ok (.ireturn, 1) := by decide +kernel
theorem dX5_count_97 : decode cX5_count 97 = .ok (.aload_n 0, 1) := by decide +kernel
theorem dX5_count_98 : decode cX5_count 98 = .ok (.getfield 40, 3) := by decide +kernel
theorem dX5_count_101 : decode cX5_count 101 = .ok (.getfield 143, 3) := by decide +kernel
theorem dX5_count_104 : decode cX5_count 104 = .ok (.ireturn, 1) := by decide +kernel
theorem dX5_count_105 : decode cX5_count 105 = .ok (.aload_n 0, 1) := by decide +kernel
theorem dX5_count_106 : decode cX5_count 106 = .ok (.getfield 19, 3) := by decide +kernel
theorem dX5_count_109 : decode cX5_count 109 = .ok (.getfield 115, 3) := by decide +kernel
theorem dX5_count_112 : decode cX5_count 112 = .ok (.ireturn, 1) := by decide +kernel
theorem dX5_count_113 : decode cX5_count 113 = .ok (.ldc 70, 2) := by decide +kernel
theorem dX5_count_115 : decode cX5_count 115 = .ok (.ireturn, 1) := by decide +kernel
theorem dX5_status_0 : decode cX5_status 0 = .ok (.aload_n 0, 1) := by decide +kernel
theorem dX5_status_1 : decode cX5_status 1 = .ok (.getfield 59, 3) := by decide +kernel
theorem dX5_status_4 : decode cX5_status 4 = .ok (.ireturn, 1) := by decide +kernel
theorem dX5_within_0 : decode cX5_within 0 = .ok (.iload_n 0, 1) := by decide +kernel
theorem dX5_within_1 : decode cX5_within 1 = .ok (.iload_n 1, 1) := by decide +kernel
theorem dX5_within_2 : decode cX5_within 2 = .ok (.if_icmp .lt 12, 3) := by decide +kernel
theorem dX5_within_5 : decode cX5_within 5 = .ok (.iload_n 0, 1) := by decide +kernel
theorem dX5_within_6 : decode cX5_within 6 = .ok (.iload_n 2, 1) := by decide +kernel
theorem dX5_within_7 : decode cX5_within 7 = .ok (.if_icmp .gt 7, 3) := by decide +kernel
theorem dX5_within_10 : decode cX5_within 10 = .ok (.iconst 1, 1) := by decide +kernel
theorem dX5_within_11 : decode cX5_within 11 = .ok (.goto 4, 3) := by decide +kernel
theorem dX5_within_14 : decode cX5_within 14 = .ok (.iconst 0, 1) := by decide +kernel
theorem dX5_within_15 : decode cX5_within 15 = .ok (.ireturn, 1) := by decide +kernel
set_option maxRecDepth 20000 in
theorem ggX5_isRow_X5_within : GoodIn wsX5_isRow wsX5_within := goodIn_r _ [4] rfl (by decide +kernel)
set_option maxRecDepth 20000 in
theorem gX5_isRow_X5_within : GoodIn wsX5_isRow (va_wsS RX5 66 yX5_within wsX5_within) := goodIn_app (goodIn_of _ (by decide +kernel)) ggX5_isRow_X5_within
theorem dX5_isRow_0 : decode cX5_isRow 0 = .ok (.iload_n 0, 1) := by decide +kernel
theorem dX5_isRow_1 : decode cX5_isRow 1 = .ok (.iconst 0, 1) := by decide +kernel
theorem dX5_isRow_2 : decode cX5_isRow 2 = .ok (.bipush 7, 2) := by decide +kernel
theorem dX5_isRow_4 : decode cX5_isRow 4 = .ok (.invokestatic 66, 3) := by decide +kernel
theorem dX5_isRow_7 : decode cX5_isRow 7 = .ok (.ireturn, 1) := by decide +kernel
set_option maxRecDepth 20000 in
theorem ggX5_isTube_X5_within : GoodIn wsX5_isTube wsX5_within := goodIn_r _ [6] rfl (by decide +kernel)
set_option maxRecDepth 20000 in
theorem gX5_isTube_X5_within : GoodIn wsX5_isTube (va_wsS RX5 66 yX5_within wsX5_within) := goodIn_app (goodIn_of _ (by decide +kernel)) ggX5_isTube_X5_within
theorem dX5_isTube_0 : decode cX5_isTube 0 = .ok (.iload_n 1, 1) := by decide +kernel
theorem dX5_isTube_1 : decode cX5_isTube 1 = .ok (.iconst 0, 1) := by decide +kernel
theorem dX5_isTube_2 : decode cX5_isTube 2 = .ok (.aload_n 0, 1) := by decide +kernel
theorem dX5_isTube_3 : decode cX5_isTube 3 = .ok (.getfield 26, 3) := by decide +kernel
theorem dX5_isTube_6 : decode cX5_isTube 6 = .ok (.getfield 140, 3) := by decide +kernel
theorem dX5_isTube_9 : decode cX5_isTube 9 = .ok (.iconst 1, 1) := by decide +kernel
theorem dX5_isTube_10 : decode cX5_isTube 10 = .ok (.isub, 1) := by decide +kernel
theorem dX5_isTube_11 : decode cX5_isTube 11 = .ok (.invokestatic 66, 3) := by decide +kernel
theorem dX5_isTube_14 : decode cX5_isTube 14 = .ok (.ireturn, 1) := by decide +kernel
set_option maxRecDepth 20000 in
theorem ggX5_isRoom_X5_within : GoodIn wsX5_isRoom wsX5_within := goodIn_r _ [6] rfl (by decide +kernel)
set_option maxRecDepth 20000 in
theorem gX5_isRoom_X5_within : GoodIn wsX5_isRoom (va_wsS RX5 66 yX5_within wsX5_within) := goodIn_app (goodIn_of _ (by decide +kernel)) ggX5_isRoom_X5_within
theorem dX5_isRoom_0 : decode cX5_isRoom 0 = .ok (.iload_n 1, 1) := by decide +kernel
theorem dX5_isRoom_1 : decode cX5_isRoom 1 = .ok (.iconst 0, 1) := by decide +kernel
theorem dX5_isRoom_2 : decode cX5_isRoom 2 = .ok (.aload_n 0, 1) := by decide +kernel
theorem dX5_isRoom_3 : decode cX5_isRoom 3 = .ok (.getfield 26, 3) := by decide +kernel
theorem dX5_isRoom_6 : decode cX5_isRoom 6 = .ok (.getfield 239, 3) := by decide +kernel
theorem dX5_isRoom_9 : decode cX5_isRoom 9 = .ok (.iconst 1, 1) := by decide +kernel
theorem dX5_isRoom_10 : decode cX5_isRoom 10 = .ok (.isub, 1) := by decide +kernel
theorem dX5_isRoom_11 : decode cX5_isRoom 11 = .ok (.invokestatic 66, 3) := by decide +kernel
theorem dX5_isRoom_14 : decode cX5_isRoom 14 = .ok (.ireturn, 1) := by decide +kernel
set_option maxRecDepth 20000 in
theorem ggX5_isPlace_X0_stands : GoodIn wsX5_isPlace wsX0_stands := goodIn_r _ [7, 8, 23, 24, 25, 26, 27, 28, 29, 30, 31, 32, 33, 34] rfl (by decide +kernel)
set_option maxRecDepth 20000 in
theorem gX5_isPlace_X0_stands : GoodIn wsX5_isPlace (wsV RX5 149 RX0 yX0_stands wsX0_stands) := goodIn_app (goodIn_of _ (by decide +kernel)) ggX5_isPlace_X0_stands
set_option maxRecDepth 20000 in
theorem ggX5_isPlace_X5_within : GoodIn wsX5_isPlace wsX5_within := goodIn_r _ [12] rfl (by decide +kernel)
set_option maxRecDepth 20000 in
theorem gX5_isPlace_X5_within : GoodIn wsX5_isPlace (va_wsS RX5 66 yX5_within wsX5_within) := goodIn_app (goodIn_of _ (by decide +kernel)) ggX5_isPlace_X5_within
theorem dX5_isPlace_0 : decode cX5_isPlace 0 = .ok (.aload_n 0, 1) := by decide +kernel
theorem dX5_isPlace_1 : decode cX5_isPlace 1 = .ok (.getfield 26, 3) := by decide +kernel
theorem dX5_isPlace_4 : decode cX5_isPlace 4 = .ok (.invokevirtual 149, 3) := by decide +kernel
theorem dX5_isPlace_7 : decode cX5_isPlace 7 = .ok (.ifCond .eq 22, 3) := by decide +kernel
theorem dX5_isPlace_10 : decode cX5_isPlace 10 = .ok (.iload_n 1, 1) := by decide +kernel
theorem dX5_isPlace_11 : decode cX5_isPlace 11 = .ok (.iconst 0, 1) := by decide +kernel
theorem dX5_isPlace_12 : decode cX5_isPlace 12 = .ok (.aload_n 0, 1) := by decide +kernel
theorem dX5_isPlace_13 : decode cX5_isPlace 13 = .ok (.getfield 26, 3) := by decide +kernel
theorem dX5_isPlace_16 : decode cX5_isPlace 16 = .ok (.getfield 239, 3) := by decide +kernel
theorem dX5_isPlace_19 : decode cX5_isPlace 19 = .ok (.invokestatic 66, 3) := by decide +kernel
theorem dX5_isPlace_22 : decode cX5_isPlace 22 = .ok (.ifCond .eq 7, 3) := by decide +kernel
theorem dX5_isPlace_25 : decode cX5_isPlace 25 = .ok (.iconst 1, 1) := by decide +kernel
theorem dX5_isPlace_26 : decode cX5_isPlace 26 = .ok (.goto 4, 3) := by decide +kernel
theorem dX5_isPlace_29 : decode cX5_isPlace 29 = .ok (.iconst 0, 1) := by decide +kernel
theorem dX5_isPlace_30 : decode cX5_isPlace 30 = .ok (.ireturn, 1) := by decide +kernel
theorem dX5_found_0 : decode cX5_found 0 = .ok (.aload_n 0, 1) := by decide +kernel
theorem dX5_found_1 : decode cX5_found 1 = .ok (.iload_n 1, 1) := by decide +kernel
theorem dX5_found_2 : decode cX5_found 2 = .ok (.putfield 59, 3) := by decide +kernel
theorem dX5_found_5 : decode cX5_found 5 = .ok (.ldc_w 325, 3) := by decide +kernel
theorem dX5_found_8 : decode cX5_found 8 = .ok (.iload_n 1, 1) := by decide +kernel
theorem dX5_found_9 : decode cX5_found 9 = .ok (.isub, 1) := by decide +kernel
theorem dX5_found_10 : decode cX5_found 10 = .ok (.ireturn, 1) := by decide +kernel
theorem dX5_plain_0 : decode cX5_plain 0 = .ok (.aload_n 0, 1) := by decide +kernel
theorem dX5_plain_1 : decode cX5_plain 1 = .ok (.iconst 0, 1) := by decide +kernel
theorem dX5_plain_2 : decode cX5_plain 2 = .ok (.putfield 59, 3) := by decide +kernel
theorem dX5_plain_5 : decode cX5_plain 5 = .ok (.iload_n 1, 1) := by decide +kernel
theorem dX5_plain_6 : decode cX5_plain 6 = .ok (.ireturn, 1) := by decide +kernel
theorem dX5_isPart_0 : decode cX5_isPart 0 = .ok (.iload_n 0, 1) := by decide +kernel
theorem dX5_isPart_1 : decode cX5_isPart 1 = .ok (.iload_n 1, 1) := by decide +kernel
theorem dX5_isPart_2 : decode cX5_isPart 2 = .ok (.iconst (-1), 1) := by decide +kernel
theorem dX5_isPart_3 : decode cX5_isPart 3 = .ok (.ixor, 1) := by decide +kernel
theorem dX5_isPart_4 : decode cX5_isPart 4 = .ok (.iand, 1) := by decide +kernel
theorem dX5_isPart_5 : decode cX5_isPart 5 = .ok (.ifCond .ne 7, 3) := by decide +kernel
theorem dX5_isPart_8 : decode cX5_isPart 8 = .ok (.iconst 1, 1) := by decide +kernel
theorem dX5_isPart_9 : decode cX5_isPart 9 = .ok (.goto 4, 3) := by decide +kernel
theorem dX5_isPart_12 : decode cX5_isPart 12 = .ok (.iconst 0, 1) := by decide +kernel
theorem dX5_isPart_13 : decode cX5_isPart 13 = .ok (.ireturn, 1) := by decide +kernel
set_option maxRecDepth 20000 in
theorem ggX5_isFewer_J6_bitCount_0f7a4 : GoodIn wsX5_isFewer wsJ6_bitCount_0f7a4 := goodIn_r _ [5, 6, 7, 8] rfl (by decide +kernel)
set_option maxRecDepth 20000 in
theorem gX5_isFewer_J6_bitCount_0f7a4 : GoodIn wsX5_isFewer (va_wsS RX5 276 yJ6_bitCount_0f7a4 wsJ6_bitCount_0f7a4) := goodIn_app (goodIn_of _ (by decide +kernel)) ggX5_isFewer_J6_bitCount_0f7a4
theorem dX5_isFewer_0 : decode cX5_isFewer 0 = .ok (.iload_n 1, 1) := by decide +kernel
theorem dX5_isFewer_1 : decode cX5_isFewer 1 = .ok (.ldc 217, 2) := by decide +kernel
theorem dX5_isFewer_3 : decode cX5_isFewer 3 = .ok (.if_icmp .eq 14, 3) := by decide +kernel
theorem dX5_isFewer_6 : decode cX5_isFewer 6 = .ok (.iload_n 0, 1) := by decide +kernel
theorem dX5_isFewer_7 : decode cX5_isFewer 7 = .ok (.invokestatic 276, 3) := by decide +kernel
theorem dX5_isFewer_10 : decode cX5_isFewer 10 = .ok (.iload_n 1, 1) := by decide +kernel
theorem dX5_isFewer_11 : decode cX5_isFewer 11 = .ok (.invokestatic 276, 3) := by decide +kernel
theorem dX5_isFewer_14 : decode cX5_isFewer 14 = .ok (.if_icmp .ge 7, 3) := by decide +kernel
theorem dX5_isFewer_17 : decode cX5_isFewer 17 = .ok (.iconst 1, 1) := by decide +kernel
theorem dX5_isFewer_18 : decode cX5_isFewer 18 = .ok (.goto 4, 3) := by decide +kernel
theorem dX5_isFewer_21 : decode cX5_isFewer 21 = .ok (.iconst 0, 1) := by decide +kernel
theorem dX5_isFewer_22 : decode cX5_isFewer 22 = .ok (.ireturn, 1) := by decide +kernel
set_option maxRecDepth 20000 in
theorem ggX5_toldSet_J6_bitCount_0f7a4 : GoodIn wsX5_toldSet wsJ6_bitCount_0f7a4 := goodIn_r _ [5, 6, 7, 8] rfl (by decide +kernel)
set_option maxRecDepth 20000 in
theorem gX5_toldSet_J6_bitCount_0f7a4 : GoodIn wsX5_toldSet (va_wsS RX5 276 yJ6_bitCount_0f7a4 wsJ6_bitCount_0f7a4) := goodIn_app (goodIn_of _ (by decide +kernel)) ggX5_toldSet_J6_bitCount_0f7a4
theorem dX5_toldSet_0 : decode cX5_toldSet 0 = .ok (.iload_n 0, 1) := by decide +kernel
theorem dX5_toldSet_1 : decode cX5_toldSet 1 = .ok (.ldc 217, 2) := by decide +kernel
theorem dX5_toldSet_3 : decode cX5_toldSet 3 = .ok (.if_icmp .ne 6, 3) := by decide +kernel
theorem dX5_toldSet_6 : decode cX5_toldSet 6 = .ok (.ldc 217, 2) := by decide +kernel
theorem dX5_toldSet_8 : decode cX5_toldSet 8 = .ok (.ireturn, 1) := by decide +kernel
theorem dX5_toldSet_9 : decode cX5_toldSet 9 = .ok (.iload_n 1, 1) := by decide +kernel
theorem dX5_toldSet_10 : decode cX5_toldSet 10 = .ok (.ifCond .ne 10, 3) := by decide +kernel
theorem dX5_toldSet_13 : decode cX5_toldSet 13 = .ok (.iload_n 0, 1) := by decide +kernel
theorem dX5_toldSet_14 : decode cX5_toldSet 14 = .ok (.invokestatic 276, 3) := by decide +kernel
theorem dX5_toldSet_17 : decode cX5_toldSet 17 = .ok (.goto 4, 3) := by decide +kernel
theorem dX5_toldSet_20 : decode cX5_toldSet 20 = .ok (.iload_n 0, 1) := by decide +kernel
theorem dX5_toldSet_21 : decode cX5_toldSet 21 = .ok (.ireturn, 1) := by decide +kernel
set_option maxRecDepth 20000 in
theorem ggX5_untilCold_X0_become : GoodIn wsX5_untilCold wsX0_become := goodIn_r _ [8, 9, 10, 11, 12, 13, 14, 15, 16, 17, 18, 19, 20, 21, 22, 23, 24, 66, 67, 68, 69, 70, 71, 72, 73, 74, 75, 76, 77] rfl (by decide +kernel)
set_option maxRecDepth 20000 in
theorem gX5_untilCold_X0_become : GoodIn wsX5_untilCold (wsV RX5 133 RX0 yX0_become wsX0_become) := goodIn_app (goodIn_of _ (by decide +kernel)) ggX5_untilCold_X0_become
set_option maxRecDepth 20000 in
theorem ggX5_untilCold_X0_coldRooms : GoodIn wsX5_untilCold wsX0_coldRooms := goodIn_r _ [28, 11, 14, 10, 66, 67, 68, 69, 70, 71, 72, 73, 74, 75, 76, 77] rfl (by decide +kernel)
set_option maxRecDepth 20000 in
theorem gX5_untilCold_X0_coldRooms : GoodIn wsX5_untilCold (wsV RX5 162 RX0 yX0_coldRooms wsX0_coldRooms) := goodIn_app (goodIn_of _ (by decide +kernel)) ggX5_untilCold_X0_coldRooms
set_option maxRecDepth 20000 in
theorem ggX5_untilCold_X0_passMinute : GoodIn wsX5_untilCold wsX0_passMinute := goodIn_r _ [32, 12, 11, 14, 9, 33, 34, 35, 36, 19, 37, 38, 39, 13, 40, 41, 42, 7, 43, 20, 24, 21, 44, 45, 46, 47, 23, 48, 49, 50, 51, 22, 52, 53, 54, 55, 10, 66, 67, 68, 69, 70, 71, 72, 73, 74, 75, 76, 77] rfl (by decide +kernel)
set_option maxRecDepth 20000 in
theorem gX5_untilCold_X0_passMinute : GoodIn wsX5_untilCold (wsV RX5 159 RX0 yX0_passMinute wsX0_passMinute) := goodIn_app (goodIn_of _ (by decide +kernel)) ggX5_untilCold_X0_passMinute
theorem dX5_untilCold_0 : decode cX5_untilCold 0 = .ok (.aload_n 0, 1) := by decide +kernel
theorem dX5_untilCold_1 : decode cX5_untilCold 1 = .ok (.getfield 30, 3) := by decide +kernel
theorem dX5_untilCold_4 : decode cX5_untilCold 4 = .ok (.aload_n 0, 1) := by decide +kernel
theorem dX5_untilCold_5 : decode cX5_untilCold 5 = .ok (.getfield 26, 3) := by decide +kernel
theorem dX5_untilCold_8 : decode cX5_untilCold 8 = .ok (.invokevirtual 133, 3) := by decide +kernel
theorem dX5_untilCold_11 : decode cX5_untilCold 11 = .ok (.iconst 0, 1) := by decide +kernel
theorem dX5_untilCold_12 : decode cX5_untilCold 12 = .ok (.istore_n 2, 1) := by decide +kernel
theorem dX5_untilCold_13 : decode cX5_untilCold 13 = .ok (.iload_n 2, 1) := by decide +kernel
theorem dX5_untilCold_14 : decode cX5_untilCold 14 = .ok (.bipush 60, 2) := by decide +kernel
theorem dX5_untilCold_16 : decode cX5_untilCold 16 = .ok (.if_icmp .gt 30, 3) := by decide +kernel
theorem dX5_untilCold_19 : decode cX5_untilCold 19 = .ok (.aload_n 0, 1) := by decide +kernel
theorem dX5_untilCold_20 : decode cX5_untilCold 20 = .ok (.getfield 30, 3) := by decide +kernel
theorem dX5_untilCold_23 : decode cX5_untilCold 23 = .ok (.invokevirtual 162, 3) := by decide +kernel
theorem dX5_untilCold_26 : decode cX5_untilCold 26 = .ok (.iload_n 1, 1) := by decide +kernel
theorem dX5_untilCold_27 : decode cX5_untilCold 27 = .ok (.iand, 1) := by decide +kernel
theorem dX5_untilCold_28 : decode cX5_untilCold 28 = .ok (.ifCond .eq 5, 3) := by decide +kernel
theorem dX5_untilCold_31 : decode cX5_untilCold 31 = .ok (.iload_n 2, 1) := by decide +kernel
theorem dX5_untilCold_32 : decode cX5_untilCold 32 = .ok (.ireturn, 1) := by decide +kernel
theorem dX5_untilCold_33 : decode cX5_untilCold 33 = .ok (.aload_n 0, 1) := by decide +kernel
theorem dX5_untilCold_34 : decode cX5_untilCold 34 = .ok (.getfield 30, 3) := by decide +kernel
theorem dX5_untilCold_37 : decode cX5_untilCold 37 = .ok (.invokevirtual 159, 3) := by decide +kernel
theorem dX5_untilCold_40 : decode cX5_untilCold 40 = .ok (.iinc 2 1, 3) := by decide +kernel
theorem dX5_untilCold_43 : decode cX5_untilCold 43 = .ok (.goto (-30), 3) := by decide +kernel
theorem dX5_untilCold_46 : decode cX5_untilCold 46 = .ok (.ldc 217, 2) := by decide +kernel
theorem dX5_untilCold_48 : decode cX5_untilCold 48 = .ok (.ireturn, 1) := by decide +kernel
set_option maxRecDepth 20000 in
theorem ggX5_staysWarm_X0_become : GoodIn wsX5_staysWarm wsX0_become := goodIn_r _ [7, 8, 9, 10, 11, 12, 13, 14, 15, 16, 17, 18, 19, 20, 21, 22, 23, 66, 67, 68, 69, 70, 71, 72, 73, 74, 75, 76, 77] rfl (by decide +kernel)
set_option maxRecDepth 20000 in
theorem gX5_staysWarm_X0_become : GoodIn wsX5_staysWarm (wsV RX5 133 RX0 yX0_become wsX0_become) := goodIn_app (goodIn_of _ (by decide +kernel)) ggX5_staysWarm_X0_become
set_option maxRecDepth 20000 in
theorem ggX5_staysWarm_X0_carryOut : GoodIn wsX5_staysWarm wsX0_carryOut := goodIn_r _ [27, 11, 20, 10, 66, 67, 68, 69, 70, 71, 72, 73, 74, 75, 76, 77] rfl (by decide +kernel)
set_option maxRecDepth 20000 in
theorem gX5_staysWarm_X0_carryOut : GoodIn wsX5_staysWarm (wsV RX5 326 RX0 yX0_carryOut wsX0_carryOut) := goodIn_app (goodIn_of _ (by decide +kernel)) ggX5_staysWarm_X0_carryOut
set_option maxRecDepth 20000 in
theorem ggX5_staysWarm_X0_passMinute : GoodIn wsX5_staysWarm wsX0_passMinute := goodIn_r _ [31, 11, 10, 13, 8, 32, 33, 34, 35, 18, 36, 37, 38, 12, 39, 40, 41, 6, 42, 19, 23, 20, 43, 44, 45, 46, 22, 47, 48, 49, 50, 21, 51, 52, 53, 54, 9, 66, 67, 68, 69, 70, 71, 72, 73, 74, 75, 76, 77] rfl (by decide +kernel)
set_option maxRecDepth 20000 in
theorem gX5_staysWarm_X0_passMinute : GoodIn wsX5_staysWarm (wsV RX5 159 RX0 yX0_passMinute wsX0_passMinute) := goodIn_app (goodIn_of _ (by decide +kernel)) ggX5_staysWarm_X0_passMinute
set_option maxRecDepth 20000 in
theorem ggX5_staysWarm_X0_isCold : GoodIn wsX5_staysWarm wsX0_isCold := goodIn_r _ [54, 10, 13, 9, 66, 67, 68, 69, 70, 71, 72, 73, 74, 75, 76, 77] rfl (by decide +kernel)
set_option maxRecDepth 20000 in
theorem gX5_staysWarm_X0_isCold : GoodIn wsX5_staysWarm (wsV RX5 208 RX0 yX0_isCold wsX0_isCold) := goodIn_app (goodIn_of _ (by decide +kernel)) ggX5_staysWarm_X0_isCold
theorem dX5_staysWarm_0 : decode cX5_staysWarm 0 = .ok (.aload_n 0, 1) := by decide +kernel
theorem dX5_staysWarm_1 : decode cX5_staysWarm 1 = .ok (.getfield 30, 3) := by decide +kernel
theorem dX5_staysWarm_4 : decode cX5_staysWarm 4 = .ok (.aload_n 0, 1) := by decide +kernel
theorem dX5_staysWarm_5 : decode cX5_staysWarm 5 = .ok (.getfield 26, 3) := by decide +kernel
theorem dX5_staysWarm_8 : decode cX5_staysWarm 8 = .ok (.invokevirtual 133, 3) := by decide +kernel
theorem dX5_staysWarm_11 : decode cX5_staysWarm 11 = .ok (.aload_n 0, 1) := by decide +kernel
theorem dX5_staysWarm_12 : decode cX5_staysWarm 12 = .ok (.getfield 30, 3) := by decide +kernel
theorem dX5_staysWarm_15 : decode cX5_staysWarm 15 = .ok (.iload_n 3, 1) := by decide +kernel
theorem dX5_staysWarm_16 : decode cX5_staysWarm 16 = .ok (.invokevirtual 326, 3) := by decide +kernel
theorem dX5_staysWarm_19 : decode cX5_staysWarm 19 = .ok (.iconst 0, 1) := by decide +kernel
theorem dX5_staysWarm_20 : decode cX5_staysWarm 20 = .ok (.istore 4, 2) := by decide +kernel
theorem dX5_staysWarm_22 : decode cX5_staysWarm 22 = .ok (.iload 4, 2) := by decide +kernel
theorem dX5_staysWarm_24 : decode cX5_staysWarm 24 = .ok (.iload_n 2, 1) := by decide +kernel
theorem dX5_staysWarm_25 : decode cX5_staysWarm 25 = .ok (.if_icmp .ge 29, 3) := by decide +kernel
theorem dX5_staysWarm_28 : decode cX5_staysWarm 28 = .ok (.aload_n 0, 1) := by decide +kernel
theorem dX5_staysWarm_29 : decode cX5_staysWarm 29 = .ok (.getfield 30, 3) := by decide +kernel
theorem dX5_staysWarm_32 : decode cX5_staysWarm 32 = .ok (.invokevirtual 159, 3) := by decide +kernel
theorem dX5_staysWarm_35 : decode cX5_staysWarm 35 = .ok (.aload_n 0, 1) := by decide +kernel
theorem dX5_staysWarm_36 : decode cX5_staysWarm 36 = .ok (.getfield 30, 3) := by decide +kernel
theorem dX5_staysWarm_39 : decode cX5_staysWarm 39 = .ok (.iload_n 1, 1) := by decide +kernel
theorem dX5_staysWarm_40 : decode cX5_staysWarm 40 = .ok (.invokevirtual 208, 3) := by decide +kernel
theorem dX5_staysWarm_43 : decode cX5_staysWarm 43 = .ok (.ifCond .eq 5, 3) := by decide +kernel
theorem dX5_staysWarm_46 : decode cX5_staysWarm 46 = .ok (.iconst 0, 1) := by decide +kernel
theorem dX5_staysWarm_47 : decode cX5_staysWarm 47 = .ok (.ireturn, 1) := by decide +kernel
theorem dX5_staysWarm_48 : decode cX5_staysWarm 48 = .ok (.iinc 4 1, 3) := by decide +kernel
theorem dX5_staysWarm_51 : decode cX5_staysWarm 51 = .ok (.goto (-29), 3) := by decide +kernel
theorem dX5_staysWarm_54 : decode cX5_staysWarm 54 = .ok (.iconst 1, 1) := by decide +kernel
theorem dX5_staysWarm_55 : decode cX5_staysWarm 55 = .ok (.ireturn, 1) := by decide +kernel
set_option maxRecDepth 20000 in
theorem ggX5_isWarmWithout_X0_become : GoodIn wsX5_isWarmWithout wsX0_become := goodIn_r _ [7, 8, 9, 10, 11, 12, 13, 14, 15, 16, 17, 18, 19, 20, 21, 22, 23, 70, 71, 72, 73, 74, 75, 76, 77, 78, 79, 80, 81] rfl (by decide +kernel)
set_option maxRecDepth 20000 in
theorem gX5_isWarmWithout_X0_become : GoodIn wsX5_isWarmWithout (wsV RX5 133 RX0 yX0_become wsX0_become) := goodIn_app (goodIn_of _ (by decide +kernel)) ggX5_isWarmWithout_X0_become
set_option maxRecDepth 20000 in
theorem ggX5_isWarmWithout_X0_carryOut : GoodIn wsX5_isWarmWithout wsX0_carryOut := goodIn_r _ [27, 11, 20, 10, 70, 71, 72, 73, 74, 75, 76, 77, 78, 79, 80, 81] rfl (by decide +kernel)
set_option maxRecDepth 20000 in
theorem gX5_isWarmWithout_X0_carryOut : GoodIn wsX5_isWarmWithout (wsV RX5 326 RX0 yX0_carryOut wsX0_carryOut) := goodIn_app (goodIn_of _ (by decide +kernel)) ggX5_isWarmWithout_X0_carryOut
set_option maxRecDepth 20000 in
theorem ggX5_isWarmWithout_X0_passMinutes : GoodIn wsX5_isWarmWithout wsX0_passMinutes := goodIn_r _ [31, 32, 33, 34, 6, 35, 11, 10, 13, 8, 36, 37, 38, 39, 18, 40, 41, 42, 12, 43, 44, 45, 46, 19, 23, 20, 47, 48, 49, 50, 22, 51, 52, 53, 54, 21, 55, 56, 57, 58, 9, 70, 71, 72, 73, 74, 75, 76, 77, 78, 79, 80, 81] rfl (by decide +kernel)
set_option maxRecDepth 20000 in
theorem gX5_isWarmWithout_X0_passMinutes : GoodIn wsX5_isWarmWithout (wsV RX5 211 RX0 yX0_passMinutes wsX0_passMinutes) := goodIn_app (goodIn_of _ (by decide +kernel)) ggX5_isWarmWithout_X0_passMinutes
set_option maxRecDepth 20000 in
theorem ggX5_isWarmWithout_X0_isCold : GoodIn wsX5_isWarmWithout wsX0_isCold := goodIn_r _ [58, 10, 13, 9, 70, 71, 72, 73, 74, 75, 76, 77, 78, 79, 80, 81] rfl (by decide +kernel)
set_option maxRecDepth 20000 in
theorem gX5_isWarmWithout_X0_isCold : GoodIn wsX5_isWarmWithout (wsV RX5 208 RX0 yX0_isCold wsX0_isCold) := goodIn_app (goodIn_of _ (by decide +kernel)) ggX5_isWarmWithout_X0_isCold
theorem dX5_isWarmWithout_0 : decode cX5_isWarmWithout 0 = .ok (.aload_n 0, 1) := by decide +kernel
theorem dX5_isWarmWithout_1 : decode cX5_isWarmWithout 1 = .ok (.getfield 30, 3) := by decide +kernel
theorem dX5_isWarmWithout_4 : decode cX5_isWarmWithout 4 = .ok (.aload_n 0, 1) := by decide +kernel
theorem dX5_isWarmWithout_5 : decode cX5_isWarmWithout 5 = .ok (.getfield 26, 3) := by decide +kernel
theorem dX5_isWarmWithout_8 : decode cX5_isWarmWithout 8 = .ok (.invokevirtual 133, 3) := by decide +kernel
theorem dX5_isWarmWithout_11 : decode cX5_isWarmWithout 11 = .ok (.aload_n 0, 1) := by decide +kernel
theorem dX5_isWarmWithout_12 : decode cX5_isWarmWithout 12 = .ok (.getfield 30, 3) := by decide +kernel
theorem dX5_isWarmWithout_15 : decode cX5_isWarmWithout 15 = .ok (.iload_n 3, 1) := by decide +kernel
theorem dX5_isWarmWithout_16 : decode cX5_isWarmWithout 16 = .ok (.invokevirtual 326, 3) := by decide +kernel
theorem dX5_isWarmWithout_19 : decode cX5_isWarmWithout 19 = .ok (.aload_n 0, 1) := by decide +kernel
theorem dX5_isWarmWithout_20 : decode cX5_isWarmWithout 20 = .ok (.getfield 30, 3) := by decide +kernel
theorem dX5_isWarmWithout_23 : decode cX5_isWarmWithout 23 = .ok (.iload_n 2, 1) := by decide +kernel
theorem dX5_isWarmWithout_24 : decode cX5_isWarmWithout 24 = .ok (.invokevirtual 211, 3) := by decide +kernel
theorem dX5_isWarmWithout_27 : decode cX5_isWarmWithout 27 = .ok (.aload_n 0, 1) := by decide +kernel
theorem dX5_isWarmWithout_28 : decode cX5_isWarmWithout 28 = .ok (.getfield 30, 3) := by decide +kernel
theorem dX5_isWarmWithout_31 : decode cX5_isWarmWithout 31 = .ok (.iload_n 1, 1) := by decide +kernel
theorem dX5_isWarmWithout_32 : decode cX5_isWarmWithout 32 = .ok (.invokevirtual 208, 3) := by decide +kernel
theorem dX5_isWarmWithout_35 : decode cX5_isWarmWithout 35 = .ok (.ifCond .ne 7, 3) := by decide +kernel
theorem dX5_isWarmWithout_38 : decode cX5_isWarmWithout 38 = .ok (.iconst 1, 1) := by decide +kernel
theorem dX5_isWarmWithout_39 : decode cX5_isWarmWithout 39 = .ok (.goto 4, 3) := by decide +kernel
theorem dX5_isWarmWithout_42 : decode cX5_isWarmWithout 42 = .ok (.iconst 0, 1) := by decide +kernel
theorem dX5_isWarmWithout_43 : decode cX5_isWarmWithout 43 = .ok (.ireturn, 1) := by decide +kernel
set_option maxRecDepth 20000 in
theorem ggX5_isWarmShaken_X0_become : GoodIn wsX5_isWarmShaken wsX0_become := goodIn_r _ [7, 8, 9, 10, 11, 12, 13, 14, 15, 16, 17, 18, 19, 20, 21, 22, 23, 74, 75, 76, 77, 78, 79, 80, 81, 82, 83, 84, 85] rfl (by decide +kernel)
set_option maxRecDepth 20000 in
theorem gX5_isWarmShaken_X0_become : GoodIn wsX5_isWarmShaken (wsV RX5 133 RX0 yX0_become wsX0_become) := goodIn_app (goodIn_of _ (by decide +kernel)) ggX5_isWarmShaken_X0_become
set_option maxRecDepth 20000 in
theorem ggX5_isWarmShaken_X0_letDownAll : GoodIn wsX5_isWarmShaken wsX0_letDownAll := goodIn_r _ [27, 11, 28, 29, 30, 6, 31, 20, 10, 13, 23, 32, 33, 34, 35, 74, 75, 76, 77, 78, 79, 80, 81, 82, 83, 84, 85] rfl (by decide +kernel)
set_option maxRecDepth 20000 in
theorem gX5_isWarmShaken_X0_letDownAll : GoodIn wsX5_isWarmShaken (wsV RX5 329 RX0 yX0_letDownAll wsX0_letDownAll) := goodIn_app (goodIn_of _ (by decide +kernel)) ggX5_isWarmShaken_X0_letDownAll
set_option maxRecDepth 20000 in
theorem ggX5_isWarmShaken_X0_passMinutes : GoodIn wsX5_isWarmShaken wsX0_passMinutes := goodIn_r _ [39, 40, 41, 42, 6, 43, 11, 10, 13, 8, 44, 45, 34, 46, 18, 32, 33, 35, 12, 47, 48, 49, 50, 19, 23, 20, 51, 52, 53, 54, 22, 55, 56, 57, 58, 21, 59, 60, 61, 62, 9, 74, 75, 76, 77, 78, 79, 80, 81, 82, 83, 84, 85] rfl (by decide +kernel)
set_option maxRecDepth 20000 in
theorem gX5_isWarmShaken_X0_passMinutes : GoodIn wsX5_isWarmShaken (wsV RX5 211 RX0 yX0_passMinutes wsX0_passMinutes) := goodIn_app (goodIn_of _ (by decide +kernel)) ggX5_isWarmShaken_X0_passMinutes
set_option maxRecDepth 20000 in
theorem ggX5_isWarmShaken_X0_isCold : GoodIn wsX5_isWarmShaken wsX0_isCold := goodIn_r _ [62, 10, 13, 9, 74, 75, 76, 77, 78, 79, 80, 81, 82, 83, 84, 85] rfl (by decide +kernel)
set_option maxRecDepth 20000 in
theorem gX5_isWarmShaken_X0_isCold : GoodIn wsX5_isWarmShaken (wsV RX5 208 RX0 yX0_isCold wsX0_isCold) := goodIn_app (goodIn_of _ (by decide +kernel)) ggX5_isWarmShaken_X0_isCold
theorem dX5_isWarmShaken_0 : decode cX5_isWarmShaken 0 = .ok (.aload_n 0, 1) := by decide +kernel
theorem dX5_isWarmShaken_1 : decode cX5_isWarmShaken 1 = .ok (.getfield 30, 3) := by decide +kernel
theorem dX5_isWarmShaken_4 : decode cX5_isWarmShaken 4 = .ok (.aload_n 0, 1) := by decide +kernel
theorem dX5_isWarmShaken_5 : decode cX5_isWarmShaken 5 = .ok (.getfield 26, 3) := by decide +kernel
theorem dX5_isWarmShaken_8 : decode cX5_isWarmShaken 8 = .ok (.invokevirtual 133, 3) := by decide +kernel
theorem dX5_isWarmShaken_11 : decode cX5_isWarmShaken 11 = .ok (.aload_n 0, 1) := by decide +kernel
theorem dX5_isWarmShaken_12 : decode cX5_isWarmShaken 12 = .ok (.getfield 30, 3) := by decide +kernel
theorem dX5_isWarmShaken_15 : decode cX5_isWarmShaken 15 = .ok (.iload_n 3, 1) := by decide +kernel
theorem dX5_isWarmShaken_16 : decode cX5_isWarmShaken 16 = .ok (.invokevirtual 329, 3) := by decide +kernel
theorem dX5_isWarmShaken_19 : decode cX5_isWarmShaken 19 = .ok (.aload_n 0, 1) := by decide +kernel
theorem dX5_isWarmShaken_20 : decode cX5_isWarmShaken 20 = .ok (.getfield 30, 3) := by decide +kernel
theorem dX5_isWarmShaken_23 : decode cX5_isWarmShaken 23 = .ok (.iload_n 2, 1) := by decide +kernel
theorem dX5_isWarmShaken_24 : decode cX5_isWarmShaken 24 = .ok (.invokevirtual 211, 3) := by decide +kernel
theorem dX5_isWarmShaken_27 : decode cX5_isWarmShaken 27 = .ok (.aload_n 0, 1) := by decide +kernel
theorem dX5_isWarmShaken_28 : decode cX5_isWarmShaken 28 = .ok (.getfield 30, 3) := by decide +kernel
theorem dX5_isWarmShaken_31 : decode cX5_isWarmShaken 31 = .ok (.iload_n 1, 1) := by decide +kernel
theorem dX5_isWarmShaken_32 : decode cX5_isWarmShaken 32 = .ok (.invokevirtual 208, 3) := by decide +kernel
theorem dX5_isWarmShaken_35 : decode cX5_isWarmShaken 35 = .ok (.ifCond .ne 7, 3) := by decide +kernel
theorem dX5_isWarmShaken_38 : decode cX5_isWarmShaken 38 = .ok (.iconst 1, 1) := by decide +kernel
theorem dX5_isWarmShaken_39 : decode cX5_isWarmShaken 39 = .ok (.goto 4, 3) := by decide +kernel
theorem dX5_isWarmShaken_42 : decode cX5_isWarmShaken 42 = .ok (.iconst 0, 1) := by decide +kernel
theorem dX5_isWarmShaken_43 : decode cX5_isWarmShaken 43 = .ok (.ireturn, 1) := by decide +kernel
set_option maxRecDepth 20000 in
theorem ggX5_canPour_X0_tubesAt : GoodIn wsX5_canPour wsX0_tubesAt := goodIn_r _ [8, 9, 10, 31, 32, 33, 34, 35, 36, 37, 38, 39, 40, 41, 42] rfl (by decide +kernel)
set_option maxRecDepth 20000 in
theorem gX5_canPour_X0_tubesAt : GoodIn wsX5_canPour (wsV RX5 202 RX0 yX0_tubesAt wsX0_tubesAt) := goodIn_app (goodIn_of _ (by decide +kernel)) ggX5_canPour_X0_tubesAt
set_option maxRecDepth 20000 in
theorem ggX5_canPour_X5_isPart : GoodIn wsX5_canPour wsX5_isPart := goodIn_r _ [14] rfl (by decide +kernel)
set_option maxRecDepth 20000 in
theorem gX5_canPour_X5_isPart : GoodIn wsX5_canPour (va_wsS RX5 223 yX5_isPart wsX5_isPart) := goodIn_app (goodIn_of _ (by decide +kernel)) ggX5_canPour_X5_isPart
set_option maxRecDepth 20000 in
theorem ggX5_canPour_X0_pourable : GoodIn wsX5_canPour wsX0_pourable := goodIn_r _ [18, 10, 19, 20, 21, 22, 23, 24, 31, 32, 33, 34, 35, 36, 37, 38, 39, 40, 41, 42] rfl (by decide +kernel)
set_option maxRecDepth 20000 in
theorem gX5_canPour_X0_pourable : GoodIn wsX5_canPour (wsV RX5 181 RX0 yX0_pourable wsX0_pourable) := goodIn_app (goodIn_of _ (by decide +kernel)) ggX5_canPour_X0_pourable
set_option maxRecDepth 20000 in
theorem ggX5_canPour_X0_shift : GoodIn wsX5_canPour wsX0_shift := goodIn_r _ [28, 19, 31, 32, 33, 34, 35, 36, 37, 38, 39, 40, 41, 42] rfl (by decide +kernel)
set_option maxRecDepth 20000 in
theorem gX5_canPour_X0_shift : GoodIn wsX5_canPour (wsV RX5 184 RX0 yX0_shift wsX0_shift) := goodIn_app (goodIn_of _ (by decide +kernel)) ggX5_canPour_X0_shift
set_option maxRecDepth 20000 in
theorem ggX5_canPour_X5_canPour : GoodIn wsX5_canPour wsX5_canPour := goodIn_r _ [0, 1, 2, 3, 4, 5, 6, 7, 8, 9, 10, 11, 12, 13, 14, 15, 16, 17, 18, 19, 20, 21, 22, 23, 24, 25, 26, 27, 28, 29, 30, 31, 32, 33, 34, 35, 36, 37, 38, 39, 40, 41, 42] rfl (by decide +kernel)
set_option maxRecDepth 20000 in
theorem gX5_canPour_X5_canPour : GoodIn wsX5_canPour (va_wsS RX5 242 yX5_canPour wsX5_canPour) := goodIn_app (goodIn_of _ (by decide +kernel)) ggX5_canPour_X5_canPour
theorem dX5_canPour_0 : decode cX5_canPour 0 = .ok (.iload 4, 2) := by decide +kernel
theorem dX5_canPour_2 : decode cX5_canPour 2 = .ok (.iload 5, 2) := by decide +kernel
theorem dX5_canPour_4 : decode cX5_canPour 4 = .ok (.if_icmp .ge 10, 3) := by decide +kernel
theorem dX5_canPour_7 : decode cX5_canPour 7 = .ok (.iload 4, 2) := by decide +kernel
theorem dX5_canPour_9 : decode cX5_canPour 9 = .ok (.aload_n 1, 1) := by decide +kernel
theorem dX5_canPour_10 : decode cX5_canPour 10 = .ok (.arraylength, 1) := by decide +kernel
theorem dX5_canPour_11 : decode cX5_canPour 11 = .ok (.if_icmp .lt 19, 3) := by decide +kernel
theorem dX5_canPour_14 : decode cX5_canPour 14 = .ok (.aload_n 0, 1) := by decide +kernel
theorem dX5_canPour_15 : decode cX5_canPour 15 = .ok (.getfield 175, 3) := by decide +kernel
theorem dX5_canPour_18 : decode cX5_canPour 18 = .ok (.iload_n 2, 1) := by decide +kernel
theorem dX5_canPour_19 : decode cX5_canPour 19 = .ok (.iaload, 1) := by decide +kernel
theorem dX5_canPour_20 : decode cX5_canPour 20 = .ok (.iload_n 3, 1) := by decide +kernel
theorem dX5_canPour_21 : decode cX5_canPour 21 = .ok (.if_icmp .ne 7, 3) := by decide +kernel
theorem dX5_canPour_24 : decode cX5_canPour 24 = .ok (.iconst 1, 1) := by decide +kernel
theorem dX5_canPour_25 : decode cX5_canPour 25 = .ok (.goto 4, 3) := by decide +kernel
theorem dX5_canPour_28 : decode cX5_canPour 28 = .ok (.iconst 0, 1) := by decide +kernel
theorem dX5_canPour_29 : decode cX5_canPour 29 = .ok (.ireturn, 1) := by decide +kernel
theorem dX5_canPour_30 : decode cX5_canPour 30 = .ok (.iload 4, 2) := by decide +kernel
theorem dX5_canPour_32 : decode cX5_canPour 32 = .ok (.iload 5, 2) := by decide +kernel
theorem dX5_canPour_34 : decode cX5_canPour 34 = .ok (.iconst 1, 1) := by decide +kernel
theorem dX5_canPour_35 : decode cX5_canPour 35 = .ok (.isub, 1) := by decide +kernel
theorem dX5_canPour_36 : decode cX5_canPour 36 = .ok (.if_icmp .ne 7, 3) := by decide +kernel
theorem dX5_canPour_39 : decode cX5_canPour 39 = .ok (.iconst 1, 1) := by decide +kernel
theorem dX5_canPour_40 : decode cX5_canPour 40 = .ok (.goto 4, 3) := by decide +kernel
theorem dX5_canPour_43 : decode cX5_canPour 43 = .ok (.iconst 0, 1) := by decide +kernel
theorem dX5_canPour_44 : decode cX5_canPour 44 = .ok (.istore 6, 2) := by decide +kernel
theorem dX5_canPour_46 : decode cX5_canPour 46 = .ok (.aload_n 0, 1) := by decide +kernel
theorem dX5_canPour_47 : decode cX5_canPour 47 = .ok (.aload_n 0, 1) := by decide +kernel
theorem dX5_canPour_48 : decode cX5_canPour 48 = .ok (.getfield 172, 3) := by decide +kernel
theorem dX5_canPour_51 : decode cX5_canPour 51 = .ok (.iload_n 2, 1) := by decide +kernel
theorem dX5_canPour_52 : decode cX5_canPour 52 = .ok (.iaload, 1) := by decide +kernel
theorem dX5_canPour_53 : decode cX5_canPour 53 = .ok (.invokevirtual 202, 3) := by decide +kernel
theorem dX5_canPour_56 : decode cX5_canPour 56 = .ok (.istore 7, 2) := by decide +kernel
theorem dX5_canPour_58 : decode cX5_canPour 58 = .ok (.iconst 0, 1) := by decide +kernel
theorem dX5_canPour_59 : decode cX5_canPour 59 = .ok (.istore 8, 2) := by decide +kernel
theorem dX5_canPour_61 : decode cX5_canPour 61 = .ok (.iload 8, 2) := by decide +kernel
theorem dX5_canPour_63 : decode cX5_canPour 63 = .ok (.aload_n 0, 1) := by decide +kernel
theorem dX5_canPour_64 : decode cX5_canPour 64 = .ok (.getfield 140, 3) := by decide +kernel
theorem dX5_canPour_67 : decode cX5_canPour 67 = .ok (.if_icmp .ge 142, 3) := by decide +kernel
theorem dX5_canPour_70 : decode cX5_canPour 70 = .ok (.iconst 0, 1) := by decide +kernel
theorem dX5_canPour_71 : decode cX5_canPour 71 = .ok (.istore 9, 2) := by decide +kernel
theorem dX5_canPour_73 : decode cX5_canPour 73 = .ok (.iload 9, 2) := by decide +kernel
theorem dX5_canPour_75 : decode cX5_canPour 75 = .ok (.aload_n 0, 1) := by decide +kernel
theorem dX5_canPour_76 : decode cX5_canPour 76 = .ok (.getfield 140, 3) := by decide +kernel
theorem dX5_canPour_79 : decode cX5_canPour 79 = .ok (.if_icmp .ge 124, 3) := by decide +kernel
theorem dX5_canPour_82 : decode cX5_canPour 82 = .ok (.iconst 1, 1) := by decide +kernel
theorem dX5_canPour_83 : decode cX5_canPour 83 = .ok (.iload 8, 2) := by decide +kernel
theorem dX5_canPour_85 : decode cX5_canPour 85 = .ok (.ishl, 1) := by decide +kernel
theorem dX5_canPour_86 : decode cX5_canPour 86 = .ok (.iconst 1, 1) := by decide +kernel
theorem dX5_canPour_87 : decode cX5_canPour 87 = .ok (.iload 9, 2) := by decide +kernel
theorem dX5_canPour_89 : decode cX5_canPour 89 = .ok (.ishl, 1) := by decide +kernel
theorem dX5_canPour_90 : decode cX5_canPour 90 = .ok (.ior, 1) := by decide +kernel
theorem dX5_canPour_91 : decode cX5_canPour 91 = .ok (.iload 7, 2) := by decide +kernel
theorem dX5_canPour_93 : decode cX5_canPour 93 = .ok (.invokestatic 223, 3) := by decide +kernel
theorem dX5_canPour_96 : decode cX5_canPour 96 = .ok (.ifCond .eq 24, 3) := by decide +kernel
theorem dX5_canPour_99 : decode cX5_canPour 99 = .ok (.iload 6, 2) := by decide +kernel
theorem dX5_canPour_101 : decode cX5_canPour 101 = .ok (.ifCond .eq 15, 3) := by decide +kernel
theorem dX5_canPour_104 : decode cX5_canPour 104 = .ok (.iload 8, 2) := by decide +kernel
theorem dX5_canPour_106 : decode cX5_canPour 106 = .ok (.iload_n 2, 1) := by decide +kernel
theorem dX5_canPour_107 : decode cX5_canPour 107 = .ok (.if_icmp .eq 9, 3) := by decide +kernel
theorem dX5_canPour_110 : decode cX5_canPour 110 = .ok (.iload 9, 2) := by decide +kernel
theorem dX5_canPour_112 : decode cX5_canPour 112 = .ok (.iload_n 2, 1) := by decide +kernel
theorem dX5_canPour_113 : decode cX5_canPour 113 = .ok (.if_icmp .ne 7, 3) := by decide +kernel
theorem dX5_canPour_116 : decode cX5_canPour 116 = .ok (.iconst 1, 1) := by decide +kernel
theorem dX5_canPour_117 : decode cX5_canPour 117 = .ok (.goto 4, 3) := by decide +kernel
theorem dX5_canPour_120 : decode cX5_canPour 120 = .ok (.iconst 0, 1) := by decide +kernel
theorem dX5_canPour_121 : decode cX5_canPour 121 = .ok (.istore 10, 2) := by decide +kernel
theorem dX5_canPour_123 : decode cX5_canPour 123 = .ok (.iload 10, 2) := by decide +kernel
theorem dX5_canPour_125 : decode cX5_canPour 125 = .ok (.ifCond .eq 14, 3) := by decide +kernel
theorem dX5_canPour_128 : decode cX5_canPour 128 = .ok (.aload_n 0, 1) := by decide +kernel
theorem dX5_canPour_129 : decode cX5_canPour 129 = .ok (.iload 8, 2) := by decide +kernel
theorem dX5_canPour_131 : decode cX5_canPour 131 = .ok (.iload 9, 2) := by decide +kernel
theorem dX5_canPour_133 : decode cX5_canPour 133 = .ok (.invokevirtual 181, 3) := by decide +kernel
theorem dX5_canPour_136 : decode cX5_canPour 136 = .ok (.goto 4, 3) := by decide +kernel
theorem dX5_canPour_139 : decode cX5_canPour 139 = .ok (.iconst 0, 1) := by decide +kernel
theorem dX5_canPour_140 : decode cX5_canPour 140 = .ok (.istore 11, 2) := by decide +kernel
theorem dX5_canPour_142 : decode cX5_canPour 142 = .ok (.iload 11, 2) := by decide +kernel
theorem dX5_canPour_144 : decode cX5_canPour 144 = .ok (.ifCond .le 53, 3) := by decide +kernel
theorem dX5_canPour_147 : decode cX5_canPour 147 = .ok (.aload_n 1, 1) := by decide +kernel
theorem dX5_canPour_148 : decode cX5_canPour 148 = .ok (.iload 4, 2) := by decide +kernel
theorem dX5_canPour_150 : decode cX5_canPour 150 = .ok (.bipush 10, 2) := by decide +kernel
theorem dX5_canPour_152 : decode cX5_canPour 152 = .ok (.iload 8, 2) := by decide +kernel
theorem dX5_canPour_154 : decode cX5_canPour 154 = .ok (.imul, 1) := by decide +kernel
theorem dX5_canPour_155 : decode cX5_canPour 155 = .ok (.iload 9, 2) := by decide +kernel
theorem dX5_canPour_157 : decode cX5_canPour 157 = .ok (.iadd, 1) := by decide +kernel
theorem dX5_canPour_158 : decode cX5_canPour 158 = .ok (.iastore, 1) := by decide +kernel
theorem dX5_canPour_159 : decode cX5_canPour 159 = .ok (.aload_n 0, 1) := by decide +kernel
theorem dX5_canPour_160 : decode cX5_canPour 160 = .ok (.iload 8, 2) := by decide +kernel
theorem dX5_canPour_162 : decode cX5_canPour 162 = .ok (.iload 9, 2) := by decide +kernel
theorem dX5_canPour_164 : decode cX5_canPour 164 = .ok (.iload 11, 2) := by decide +kernel
theorem dX5_canPour_166 : decode cX5_canPour 166 = .ok (.invokevirtual 184, 3) := by decide +kernel
theorem dX5_canPour_169 : decode cX5_canPour 169 = .ok (.aload_n 0, 1) := by decide +kernel
theorem dX5_canPour_170 : decode cX5_canPour 170 = .ok (.aload_n 1, 1) := by decide +kernel
theorem dX5_canPour_171 : decode cX5_canPour 171 = .ok (.iload_n 2, 1) := by decide +kernel
theorem dX5_canPour_172 : decode cX5_canPour 172 = .ok (.iload_n 3, 1) := by decide +kernel
theorem dX5_canPour_173 : decode cX5_canPour 173 = .ok (.iload 4, 2) := by decide +kernel
theorem dX5_canPour_175 : decode cX5_canPour 175 = .ok (.iconst 1, 1) := by decide +kernel
theorem dX5_canPour_176 : decode cX5_canPour 176 = .ok (.iadd, 1) := by decide +kernel
theorem dX5_canPour_177 : decode cX5_canPour 177 = .ok (.iload 5, 2) := by decide +kernel
theorem dX5_canPour_179 : decode cX5_canPour 179 = .ok (.invokestatic 242, 3) := by decide +kernel
theorem dX5_canPour_182 : decode cX5_canPour 182 = .ok (.ifCond .eq 5, 3) := by decide +kernel
theorem dX5_canPour_185 : decode cX5_canPour 185 = .ok (.iconst 1, 1) := by decide +kernel
theorem dX5_canPour_186 : decode cX5_canPour 186 = .ok (.ireturn, 1) := by decide +kernel
theorem dX5_canPour_187 : decode cX5_canPour 187 = .ok (.aload_n 0, 1) := by decide +kernel
theorem dX5_canPour_188 : decode cX5_canPour 188 = .ok (.iload 9, 2) := by decide +kernel
theorem dX5_canPour_190 : decode cX5_canPour 190 = .ok (.iload 8, 2) := by decide +kernel
theorem dX5_canPour_192 : decode cX5_canPour 192 = .ok (.iload 11, 2) := by decide +kernel
theorem dX5_canPour_194 : decode cX5_canPour 194 = .ok (.invokevirtual 184, 3) := by decide +kernel
theorem dX5_canPour_197 : decode cX5_canPour 197 = .ok (.iinc 9 1, 3) := by decide +kernel
theorem dX5_canPour_200 : decode cX5_canPour 200 = .ok (.goto (-127), 3) := by decide +kernel
theorem dX5_canPour_203 : decode cX5_canPour 203 = .ok (.iinc 8 1, 3) := by decide +kernel
theorem dX5_canPour_206 : decode cX5_canPour 206 = .ok (.goto (-145), 3) := by decide +kernel
theorem dX5_canPour_209 : decode cX5_canPour 209 = .ok (.iconst 0, 1) := by decide +kernel
theorem dX5_canPour_210 : decode cX5_canPour 210 = .ok (.ireturn, 1) := by decide +kernel
set_option maxRecDepth 20000 in
theorem ggX5_comesTrue_X0_passMinute : GoodIn wsX5_comesTrue wsX0_passMinute := goodIn_r _ [9, 10, 11, 12, 13, 14, 15, 16, 17, 18, 19, 20, 21, 22, 23, 24, 25, 8, 26, 27, 28, 29, 30, 31, 32, 33, 34, 35, 36, 37, 38, 39, 40, 41, 42, 43, 44, 60, 61, 62, 63, 64, 65, 66, 67, 68, 69, 70, 71] rfl (by decide +kernel)
set_option maxRecDepth 20000 in
theorem gX5_comesTrue_X0_passMinute : GoodIn wsX5_comesTrue (wsV RX5 159 RX0 yX0_passMinute wsX0_passMinute) := goodIn_app (goodIn_of _ (by decide +kernel)) ggX5_comesTrue_X0_passMinute
set_option maxRecDepth 20000 in
theorem ggX5_comesTrue_X2_at : GoodIn wsX5_comesTrue wsX2_at := goodIn_r _ [49] rfl (by decide +kernel)
set_option maxRecDepth 20000 in
theorem gX5_comesTrue_X2_at : GoodIn wsX5_comesTrue (wsV RX5 98 RX2 yX2_at wsX2_at) := goodIn_app (goodIn_of _ (by decide +kernel)) ggX5_comesTrue_X2_at
theorem dX5_comesTrue_0 : decode cX5_comesTrue 0 = .ok (.iconst 0, 1) := by decide +kernel
theorem dX5_comesTrue_1 : decode cX5_comesTrue 1 = .ok (.istore 5, 2) := by decide +kernel
theorem dX5_comesTrue_3 : decode cX5_comesTrue 3 = .ok (.iload 5, 2) := by decide +kernel
theorem dX5_comesTrue_5 : decode cX5_comesTrue 5 = .ok (.iload 4, 2) := by decide +kernel
theorem dX5_comesTrue_7 : decode cX5_comesTrue 7 = .ok (.if_icmp .ge 50, 3) := by decide +kernel
theorem dX5_comesTrue_10 : decode cX5_comesTrue 10 = .ok (.aload_n 0, 1) := by decide +kernel
theorem dX5_comesTrue_11 : decode cX5_comesTrue 11 = .ok (.getfield 30, 3) := by decide +kernel
theorem dX5_comesTrue_14 : decode cX5_comesTrue 14 = .ok (.invokevirtual 159, 3) := by decide +kernel
theorem dX5_comesTrue_17 : decode cX5_comesTrue 17 = .ok (.aload_n 0, 1) := by decide +kernel
theorem dX5_comesTrue_18 : decode cX5_comesTrue 18 = .ok (.getfield 30, 3) := by decide +kernel
theorem dX5_comesTrue_21 : decode cX5_comesTrue 21 = .ok (.getfield 205, 3) := by decide +kernel
theorem dX5_comesTrue_24 : decode cX5_comesTrue 24 = .ok (.iload_n 1, 1) := by decide +kernel
theorem dX5_comesTrue_25 : decode cX5_comesTrue 25 = .ok (.iaload, 1) := by decide +kernel
theorem dX5_comesTrue_26 : decode cX5_comesTrue 26 = .ok (.aload_n 0, 1) := by decide +kernel
theorem dX5_comesTrue_27 : decode cX5_comesTrue 27 = .ok (.getfield 10, 3) := by decide +kernel
theorem dX5_comesTrue_30 : decode cX5_comesTrue 30 = .ok (.getfield 95, 3) := by decide +kernel
theorem dX5_comesTrue_33 : decode cX5_comesTrue 33 = .ok (.aload_n 0, 1) := by decide +kernel
theorem dX5_comesTrue_34 : decode cX5_comesTrue 34 = .ok (.getfield 10, 3) := by decide +kernel
theorem dX5_comesTrue_37 : decode cX5_comesTrue 37 = .ok (.iload_n 2, 1) := by decide +kernel
theorem dX5_comesTrue_38 : decode cX5_comesTrue 38 = .ok (.iload_n 3, 1) := by decide +kernel
theorem dX5_comesTrue_39 : decode cX5_comesTrue 39 = .ok (.iload 5, 2) := by decide +kernel
theorem dX5_comesTrue_41 : decode cX5_comesTrue 41 = .ok (.iadd, 1) := by decide +kernel
theorem dX5_comesTrue_42 : decode cX5_comesTrue 42 = .ok (.invokevirtual 98, 3) := by decide +kernel
theorem dX5_comesTrue_45 : decode cX5_comesTrue 45 = .ok (.iaload, 1) := by decide +kernel
theorem dX5_comesTrue_46 : decode cX5_comesTrue 46 = .ok (.if_icmp .eq 5, 3) := by decide +kernel
theorem dX5_comesTrue_49 : decode cX5_comesTrue 49 = .ok (.iconst 0, 1) := by decide +kernel
theorem dX5_comesTrue_50 : decode cX5_comesTrue 50 = .ok (.ireturn, 1) := by decide +kernel
theorem dX5_comesTrue_51 : decode cX5_comesTrue 51 = .ok (.iinc 5 1, 3) := by decide +kernel
theorem dX5_comesTrue_54 : decode cX5_comesTrue 54 = .ok (.goto (-51), 3) := by decide +kernel
theorem dX5_comesTrue_57 : decode cX5_comesTrue 57 = .ok (.iconst 1, 1) := by decide +kernel
theorem dX5_comesTrue_58 : decode cX5_comesTrue 58 = .ok (.ireturn, 1) := by decide +kernel
set_option maxRecDepth 20000 in
theorem ggX5_fittingFrosts_X0_become : GoodIn wsX5_fittingFrosts wsX0_become := goodIn_r _ [8, 9, 10, 11, 12, 13, 14, 15, 16, 17, 18, 19, 20, 21, 22, 23, 24, 75, 76, 77, 78, 79, 80, 81, 82, 83, 84, 85, 86] rfl (by decide +kernel)
set_option maxRecDepth 20000 in
theorem gX5_fittingFrosts_X0_become : GoodIn wsX5_fittingFrosts (wsV RX5 133 RX0 yX0_become wsX0_become) := goodIn_app (goodIn_of _ (by decide +kernel)) ggX5_fittingFrosts_X0_become
set_option maxRecDepth 20000 in
theorem ggX5_fittingFrosts_X5_comesTrue : GoodIn wsX5_fittingFrosts wsX5_comesTrue := goodIn_r _ [29, 1, 30, 31, 32, 33, 34, 35, 7, 36, 12, 11, 14, 9, 37, 38, 39, 40, 19, 41, 42, 43, 13, 44, 45, 46, 47, 20, 24, 21, 48, 49, 50, 51, 23, 52, 53, 54, 55, 22, 56, 57, 58, 59, 10, 60, 61, 62, 63, 64, 65, 66, 67, 68, 69, 70, 71, 72, 73, 74, 75, 76, 77, 78, 79, 80, 81, 82, 83, 84, 85, 86, 87, 88, 89] rfl (by decide +kernel)
set_option maxRecDepth 20000 in
theorem gX5_fittingFrosts_X5_comesTrue : GoodIn wsX5_fittingFrosts (wsV RX5 263 RX5 yX5_comesTrue wsX5_comesTrue) := goodIn_app (goodIn_of _ (by decide +kernel)) ggX5_fittingFrosts_X5_comesTrue
theorem dX5_fittingFrosts_0 : decode cX5_fittingFrosts 0 = .ok (.iconst 0, 1) := by decide +kernel
theorem dX5_fittingFrosts_1 : decode cX5_fittingFrosts 1 = .ok (.istore 5, 2) := by decide +kernel
theorem dX5_fittingFrosts_3 : decode cX5_fittingFrosts 3 = .ok (.iconst 0, 1) := by decide +kernel
theorem dX5_fittingFrosts_4 : decode cX5_fittingFrosts 4 = .ok (.istore 6, 2) := by decide +kernel
theorem dX5_fittingFrosts_6 : decode cX5_fittingFrosts 6 = .ok (.iload 6, 2) := by decide +kernel
theorem dX5_fittingFrosts_8 : decode cX5_fittingFrosts 8 = .ok (.bipush 9, 2) := by decide +kernel
theorem dX5_fittingFrosts_10 : decode cX5_fittingFrosts 10 = .ok (.if_icmp .gt 50, 3) := by decide +kernel
theorem dX5_fittingFrosts_13 : decode cX5_fittingFrosts 13 = .ok (.aload_n 0, 1) := by decide +kernel
theorem dX5_fittingFrosts_14 : decode cX5_fittingFrosts 14 = .ok (.getfield 30, 3) := by decide +kernel
theorem dX5_fittingFrosts_17 : decode cX5_fittingFrosts 17 = .ok (.aload_n 0, 1) := by decide +kernel
theorem dX5_fittingFrosts_18 : decode cX5_fittingFrosts 18 = .ok (.getfield 26, 3) := by decide +kernel
theorem dX5_fittingFrosts_21 : decode cX5_fittingFrosts 21 = .ok (.invokevirtual 133, 3) := by decide +kernel
theorem dX5_fittingFrosts_24 : decode cX5_fittingFrosts 24 = .ok (.aload_n 0, 1) := by decide +kernel
theorem dX5_fittingFrosts_25 : decode cX5_fittingFrosts 25 = .ok (.getfield 30, 3) := by decide +kernel
theorem dX5_fittingFrosts_28 : decode cX5_fittingFrosts 28 = .ok (.iload 6, 2) := by decide +kernel
theorem dX5_fittingFrosts_30 : decode cX5_fittingFrosts 30 = .ok (.putfield 332, 3) := by decide +kernel
theorem dX5_fittingFrosts_33 : decode cX5_fittingFrosts 33 = .ok (.aload_n 0, 1) := by decide +kernel
theorem dX5_fittingFrosts_34 : decode cX5_fittingFrosts 34 = .ok (.iload_n 1, 1) := by decide +kernel
theorem dX5_fittingFrosts_35 : decode cX5_fittingFrosts 35 = .ok (.iload_n 2, 1) := by decide +kernel
theorem dX5_fittingFrosts_36 : decode cX5_fittingFrosts 36 = .ok (.iload_n 3, 1) := by decide +kernel
theorem dX5_fittingFrosts_37 : decode cX5_fittingFrosts 37 = .ok (.iload 4, 2) := by decide +kernel
theorem dX5_fittingFrosts_39 : decode cX5_fittingFrosts 39 = .ok (.invokevirtual 263, 3) := by decide +kernel
theorem dX5_fittingFrosts_42 : decode cX5_fittingFrosts 42 = .ok (.ifCond .eq 12, 3) := by decide +kernel
theorem dX5_fittingFrosts_45 : decode cX5_fittingFrosts 45 = .ok (.iload 5, 2) := by decide +kernel
theorem dX5_fittingFrosts_47 : decode cX5_fittingFrosts 47 = .ok (.iconst 1, 1) := by decide +kernel
theorem dX5_fittingFrosts_48 : decode cX5_fittingFrosts 48 = .ok (.iload 6, 2) := by decide +kernel
theorem dX5_fittingFrosts_50 : decode cX5_fittingFrosts 50 = .ok (.ishl, 1) := by decide +kernel
theorem dX5_fittingFrosts_51 : decode cX5_fittingFrosts 51 = .ok (.ior, 1) := by decide +kernel
theorem dX5_fittingFrosts_52 : decode cX5_fittingFrosts 52 = .ok (.istore 5, 2) := by decide +kernel
theorem dX5_fittingFrosts_54 : decode cX5_fittingFrosts 54 = .ok (.iinc 6 1, 3) := by decide +kernel
theorem dX5_fittingFrosts_57 : decode cX5_fittingFrosts 57 = .ok (.goto (-51), 3) := by decide +kernel
theorem dX5_fittingFrosts_60 : decode cX5_fittingFrosts 60 = .ok (.iload 5, 2) := by decide +kernel
theorem dX5_fittingFrosts_62 : decode cX5_fittingFrosts 62 = .ok (.ireturn, 1) := by decide +kernel
set_option maxRecDepth 20000 in
theorem ggX5_fittingShaken_X0_become : GoodIn wsX5_fittingShaken wsX0_become := goodIn_r _ [8, 9, 10, 11, 12, 13, 14, 15, 16, 17, 18, 19, 20, 21, 22, 23, 24, 79, 80, 81, 82, 83, 84, 85, 86, 87, 88, 89, 90] rfl (by decide +kernel)
set_option maxRecDepth 20000 in
theorem gX5_fittingShaken_X0_become : GoodIn wsX5_fittingShaken (wsV RX5 133 RX0 yX0_become wsX0_become) := goodIn_app (goodIn_of _ (by decide +kernel)) ggX5_fittingShaken_X0_become
set_option maxRecDepth 20000 in
theorem ggX5_fittingShaken_X5_comesTrue : GoodIn wsX5_fittingShaken wsX5_comesTrue := goodIn_r _ [29, 1, 30, 31, 32, 33, 34, 35, 7, 36, 12, 11, 14, 9, 37, 38, 39, 40, 19, 41, 42, 43, 13, 44, 45, 46, 47, 20, 24, 21, 48, 49, 50, 51, 23, 52, 53, 54, 55, 22, 56, 57, 58, 59, 10, 60, 61, 62, 63, 64, 69, 70, 71, 72, 73, 74, 75, 76, 77, 78, 79, 80, 81, 82, 83, 84, 85, 86, 87, 88, 89, 90, 91, 92, 93] rfl (by decide +kernel)
set_option maxRecDepth 20000 in
theorem gX5_fittingShaken_X5_comesTrue : GoodIn wsX5_fittingShaken (wsV RX5 263 RX5 yX5_comesTrue wsX5_comesTrue) := goodIn_app (goodIn_of _ (by decide +kernel)) ggX5_fittingShaken_X5_comesTrue
set_option maxRecDepth 20000 in
theorem ggX5_fittingShaken_X0_letDown : GoodIn wsX5_fittingShaken wsX0_letDown := goodIn_r _ [68, 21, 11, 14, 24, 41, 42, 39, 43, 79, 80, 81, 82, 83, 84, 85, 86, 87, 88, 89, 90] rfl (by decide +kernel)
set_option maxRecDepth 20000 in
theorem gX5_fittingShaken_X0_letDown : GoodIn wsX5_fittingShaken (wsV RX5 178 RX0 yX0_letDown wsX0_letDown) := goodIn_app (goodIn_of _ (by decide +kernel)) ggX5_fittingShaken_X0_letDown
theorem dX5_fittingShaken_0 : decode cX5_fittingShaken 0 = .ok (.aload_n 0, 1) := by decide +kernel
theorem dX5_fittingShaken_1 : decode cX5_fittingShaken 1 = .ok (.getfield 30, 3) := by decide +kernel
theorem dX5_fittingShaken_4 : decode cX5_fittingShaken 4 = .ok (.aload_n 0, 1) := by decide +kernel
theorem dX5_fittingShaken_5 : decode cX5_fittingShaken 5 = .ok (.getfield 26, 3) := by decide +kernel
theorem dX5_fittingShaken_8 : decode cX5_fittingShaken 8 = .ok (.invokevirtual 133, 3) := by decide +kernel
theorem dX5_fittingShaken_11 : decode cX5_fittingShaken 11 = .ok (.aload_n 0, 1) := by decide +kernel
theorem dX5_fittingShaken_12 : decode cX5_fittingShaken 12 = .ok (.iload_n 1, 1) := by decide +kernel
theorem dX5_fittingShaken_13 : decode cX5_fittingShaken 13 = .ok (.iload_n 2, 1) := by decide +kernel
theorem dX5_fittingShaken_14 : decode cX5_fittingShaken 14 = .ok (.iload_n 3, 1) := by decide +kernel
theorem dX5_fittingShaken_15 : decode cX5_fittingShaken 15 = .ok (.iload 4, 2) := by decide +kernel
theorem dX5_fittingShaken_17 : decode cX5_fittingShaken 17 = .ok (.invokevirtual 263, 3) := by decide +kernel
theorem dX5_fittingShaken_20 : decode cX5_fittingShaken 20 = .ok (.ifCond .eq 8, 3) := by decide +kernel
theorem dX5_fittingShaken_23 : decode cX5_fittingShaken 23 = .ok (.bipush 64, 2) := by decide +kernel
theorem dX5_fittingShaken_25 : decode cX5_fittingShaken 25 = .ok (.goto 4, 3) := by decide +kernel
theorem dX5_fittingShaken_28 : decode cX5_fittingShaken 28 = .ok (.iconst 0, 1) := by decide +kernel
theorem dX5_fittingShaken_29 : decode cX5_fittingShaken 29 = .ok (.istore 5, 2) := by decide +kernel
theorem dX5_fittingShaken_31 : decode cX5_fittingShaken 31 = .ok (.iconst 0, 1) := by decide +kernel
theorem dX5_fittingShaken_32 : decode cX5_fittingShaken 32 = .ok (.istore 6, 2) := by decide +kernel
theorem dX5_fittingShaken_34 : decode cX5_fittingShaken 34 = .ok (.iload 6, 2) := by decide +kernel
theorem dX5_fittingShaken_36 : decode cX5_fittingShaken 36 = .ok (.aload_n 0, 1) := by decide +kernel
theorem dX5_fittingShaken_37 : decode cX5_fittingShaken 37 = .ok (.getfield 26, 3) := by decide +kernel
theorem dX5_fittingShaken_40 : decode cX5_fittingShaken 40 = .ok (.getfield 140, 3) := by decide +kernel
theorem dX5_fittingShaken_43 : decode cX5_fittingShaken 43 = .ok (.if_icmp .ge 50, 3) := by decide +kernel
theorem dX5_fittingShaken_46 : decode cX5_fittingShaken 46 = .ok (.aload_n 0, 1) := by decide +kernel
theorem dX5_fittingShaken_47 : decode cX5_fittingShaken 47 = .ok (.getfield 30, 3) := by decide +kernel
theorem dX5_fittingShaken_50 : decode cX5_fittingShaken 50 = .ok (.aload_n 0, 1) := by decide +kernel
theorem dX5_fittingShaken_51 : decode cX5_fittingShaken 51 = .ok (.getfield 26, 3) := by decide +kernel
theorem dX5_fittingShaken_54 : decode cX5_fittingShaken 54 = .ok (.invokevirtual 133, 3) := by decide +kernel
theorem dX5_fittingShaken_57 : decode cX5_fittingShaken 57 = .ok (.aload_n 0, 1) := by decide +kernel
theorem dX5_fittingShaken_58 : decode cX5_fittingShaken 58 = .ok (.getfield 30, 3) := by decide +kernel
theorem dX5_fittingShaken_61 : decode cX5_fittingShaken 61 = .ok (.iload 6, 2) := by decide +kernel
theorem dX5_fittingShaken_63 : decode cX5_fittingShaken 63 = .ok (.invokevirtual 178, 3) := by decide +kernel
theorem dX5_fittingShaken_66 : decode cX5_fittingShaken 66 = .ok (.aload_n 0, 1) := by decide +kernel
theorem dX5_fittingShaken_67 : decode cX5_fittingShaken 67 = .ok (.iload_n 1, 1) := by decide +kernel
theorem dX5_fittingShaken_68 : decode cX5_fittingShaken 68 = .ok (.iload_n 2, 1) := by decide +kernel
theorem dX5_fittingShaken_69 : decode cX5_fittingShaken 69 = .ok (.iload_n 3, 1) := by decide +kernel
theorem dX5_fittingShaken_70 : decode cX5_fittingShaken 70 = .ok (.iload 4, 2) := by decide +kernel
theorem dX5_fittingShaken_72 : decode cX5_fittingShaken 72 = .ok (.invokevirtual 263, 3) := by decide +kernel
theorem dX5_fittingShaken_75 : decode cX5_fittingShaken 75 = .ok (.ifCond .eq 12, 3) := by decide +kernel
theorem dX5_fittingShaken_78 : decode cX5_fittingShaken 78 = .ok (.iload 5, 2) := by decide +kernel
theorem dX5_fittingShaken_80 : decode cX5_fittingShaken 80 = .ok (.iconst 1, 1) := by decide +kernel
theorem dX5_fittingShaken_81 : decode cX5_fittingShaken 81 = .ok (.iload 6, 2) := by decide +kernel
theorem dX5_fittingShaken_83 : decode cX5_fittingShaken 83 = .ok (.ishl, 1) := by decide +kernel
theorem dX5_fittingShaken_84 : decode cX5_fittingShaken 84 = .ok (.ior, 1) := by decide +kernel
theorem dX5_fittingShaken_85 : decode cX5_fittingShaken 85 = .ok (.istore 5, 2) := by decide +kernel
theorem dX5_fittingShaken_87 : decode cX5_fittingShaken 87 = .ok (.iinc 6 1, 3) := by decide +kernel
theorem dX5_fittingShaken_90 : decode cX5_fittingShaken 90 = .ok (.goto (-56), 3) := by decide +kernel
theorem dX5_fittingShaken_93 : decode cX5_fittingShaken 93 = .ok (.iload 5, 2) := by decide +kernel
theorem dX5_fittingShaken_95 : decode cX5_fittingShaken 95 = .ok (.ireturn, 1) := by decide +kernel
theorem dX5_power_0 : decode cX5_power 0 = .ok (.lconst 1, 1) := by decide +kernel
theorem dX5_power_1 : decode cX5_power 1 = .ok (.lstore_n 2, 1) := by decide +kernel
theorem dX5_power_2 : decode cX5_power 2 = .ok (.iconst 0, 1) := by decide +kernel
theorem dX5_power_3 : decode cX5_power 3 = .ok (.istore 4, 2) := by decide +kernel
theorem dX5_power_5 : decode cX5_power 5 = .ok (.iload 4, 2) := by decide +kernel
theorem dX5_power_7 : decode cX5_power 7 = .ok (.iload_n 1, 1) := by decide +kernel
theorem dX5_power_8 : decode cX5_power 8 = .ok (.if_icmp .ge 14, 3) := by decide +kernel
theorem dX5_power_11 : decode cX5_power 11 = .ok (.lload_n 2, 1) := by decide +kernel
theorem dX5_power_12 : decode cX5_power 12 = .ok (.iload_n 0, 1) := by decide +kernel
theorem dX5_power_13 : decode cX5_power 13 = .ok (.i2l, 1) := by decide +kernel
theorem dX5_power_14 : decode cX5_power 14 = .ok (.lmul, 1) := by decide +kernel
theorem dX5_power_15 : decode cX5_power 15 = .ok (.lstore_n 2, 1) := by decide +kernel
theorem dX5_power_16 : decode cX5_power 16 = .ok (.iinc 4 1, 3) := by decide +kernel
theorem dX5_power_19 : decode cX5_power 19 = .ok (.goto (-14), 3) := by decide +kernel
theorem dX5_power_22 : decode cX5_power 22 = .ok (.lload_n 2, 1) := by decide +kernel
theorem dX5_power_23 : decode cX5_power 23 = .ok (.lreturn, 1) := by decide +kernel
theorem dX5_commonPart_0 : decode cX5_commonPart 0 = .ok (.lload_n 0, 1) := by decide +kernel
theorem dX5_commonPart_1 : decode cX5_commonPart 1 = .ok (.lstore 4, 2) := by decide +kernel
theorem dX5_commonPart_3 : decode cX5_commonPart 3 = .ok (.lload_n 2, 1) := by decide +kernel
theorem dX5_commonPart_4 : decode cX5_commonPart 4 = .ok (.lstore 6, 2) := by decide +kernel
theorem dX5_commonPart_6 : decode cX5_commonPart 6 = .ok (.iconst 0, 1) := by decide +kernel
theorem dX5_commonPart_7 : decode cX5_commonPart 7 = .ok (.istore 8, 2) := by decide +kernel
theorem dX5_commonPart_9 : decode cX5_commonPart 9 = .ok (.iload 8, 2) := by decide +kernel
theorem dX5_commonPart_11 : decode cX5_commonPart 11 = .ok (.bipush 100, 2) := by decide +kernel
theorem dX5_commonPart_13 : decode cX5_commonPart 13 = .ok (.if_icmp .ge 31, 3) := by decide +kernel
theorem dX5_commonPart_16 : decode cX5_commonPart 16 = .ok (.lload 6, 2) := by decide +kernel
theorem dX5_commonPart_18 : decode cX5_commonPart 18 = .ok (.lconst 0, 1) := by decide +kernel
theorem dX5_commonPart_19 : decode cX5_commonPart 19 = .ok (.lcmp, 1) := by decide +kernel
theorem dX5_commonPart_20 : decode cX5_commonPart 20 = .ok (.ifCond .eq 24, 3) := by decide +kernel
theorem dX5_commonPart_23 : decode cX5_commonPart 23 = .ok (.lload 4, 2) := by decide +kernel
theorem dX5_commonPart_25 : decode cX5_commonPart 25 = .ok (.lload 6, 2) := by decide +kernel
theorem dX5_commonPart_27 : decode cX5_commonPart 27 = .ok (.lrem, 1) := by decide +kernel
theorem dX5_commonPart_28 : decode cX5_commonPart 28 = .ok (.lstore 9, 2) := by decide +kernel
theorem dX5_commonPart_30 : decode cX5_commonPart 30 = .ok (.lload 6, 2) := by decide +kernel
theorem dX5_commonPart_32 : decode cX5_commonPart 32 = .ok (.lstore 4, 2) := by decide +kernel
theorem dX5_commonPart_34 : decode cX5_commonPart 34 = .ok (.lload 9, 2) := by decide +kernel
theorem dX5_commonPart_36 : decode cX5_commonPart 36 = .ok (.lstore 6, 2) := by decide +kernel
theorem dX5_commonPart_38 : decode cX5_commonPart 38 = .ok (.iinc 8 1, 3) := by decide +kernel
theorem dX5_commonPart_41 : decode cX5_commonPart 41 = .ok (.goto (-32), 3) := by decide +kernel
theorem dX5_commonPart_44 : decode cX5_commonPart 44 = .ok (.lload 4, 2) := by decide +kernel
theorem dX5_commonPart_46 : decode cX5_commonPart 46 = .ok (.lreturn, 1) := by decide +kernel
set_option maxRecDepth 20000 in
theorem ggX5_sizeBody_X5_within : GoodIn wsX5_sizeBody wsX5_within := goodIn_r _ [6] rfl (by decide +kernel)
set_option maxRecDepth 20000 in
theorem gX5_sizeBody_X5_within : GoodIn wsX5_sizeBody (va_wsS RX5 66 yX5_within wsX5_within) := goodIn_app (goodIn_of _ (by decide +kernel)) ggX5_sizeBody_X5_within
theorem dX5_sizeBody_0 : decode cX5_sizeBody 0 = .ok (.aload_n 0, 1) := by decide +kernel
theorem dX5_sizeBody_1 : decode cX5_sizeBody 1 = .ok (.getfield 301, 3) := by decide +kernel
theorem dX5_sizeBody_4 : decode cX5_sizeBody 4 = .ok (.iload_n 1, 1) := by decide +kernel
theorem dX5_sizeBody_5 : decode cX5_sizeBody 5 = .ok (.iaload, 1) := by decide +kernel
theorem dX5_sizeBody_6 : decode cX5_sizeBody 6 = .ok (.istore_n 2, 1) := by decide +kernel
theorem dX5_sizeBody_7 : decode cX5_sizeBody 7 = .ok (.iload_n 2, 1) := by decide +kernel
theorem dX5_sizeBody_8 : decode cX5_sizeBody 8 = .ok (.iconst 0, 1) := by decide +kernel
theorem dX5_sizeBody_9 : decode cX5_sizeBody 9 = .ok (.iconst 5, 1) := by decide +kernel
theorem dX5_sizeBody_10 : decode cX5_sizeBody 10 = .ok (.invokestatic 66, 3) := by decide +kernel
theorem dX5_sizeBody_13 : decode cX5_sizeBody 13 = .ok (.ifCond .eq 11, 3) := by decide +kernel
theorem dX5_sizeBody_16 : decode cX5_sizeBody 16 = .ok (.getstatic 335, 3) := by decide +kernel
theorem dX5_sizeBody_19 : decode cX5_sizeBody 19 = .ok (.iload_n 2, 1) := by decide +kernel
theorem dX5_sizeBody_20 : decode cX5_sizeBody 20 = .ok (.iaload, 1) := by decide +kernel
theorem dX5_sizeBody_21 : decode cX5_sizeBody 21 = .ok (.goto 8, 3) := by decide +kernel
theorem dX5_sizeBody_24 : decode cX5_sizeBody 24 = .ok (.getstatic 335, 3) := by decide +kernel
theorem dX5_sizeBody_27 : decode cX5_sizeBody 27 = .ok (.iconst 0, 1) := by decide +kernel
theorem dX5_sizeBody_28 : decode cX5_sizeBody 28 = .ok (.iaload, 1) := by decide +kernel
theorem dX5_sizeBody_29 : decode cX5_sizeBody 29 = .ok (.ireturn, 1) := by decide +kernel
set_option maxRecDepth 20000 in
theorem ggX5_markBody_X5_within : GoodIn wsX5_markBody wsX5_within := goodIn_r _ [6] rfl (by decide +kernel)
set_option maxRecDepth 20000 in
theorem gX5_markBody_X5_within : GoodIn wsX5_markBody (va_wsS RX5 66 yX5_within wsX5_within) := goodIn_app (goodIn_of _ (by decide +kernel)) ggX5_markBody_X5_within
theorem dX5_markBody_0 : decode cX5_markBody 0 = .ok (.aload_n 0, 1) := by decide +kernel
theorem dX5_markBody_1 : decode cX5_markBody 1 = .ok (.getfield 301, 3) := by decide +kernel
theorem dX5_markBody_4 : decode cX5_markBody 4 = .ok (.iload_n 1, 1) := by decide +kernel
theorem dX5_markBody_5 : decode cX5_markBody 5 = .ok (.iaload, 1) := by decide +kernel
theorem dX5_markBody_6 : decode cX5_markBody 6 = .ok (.istore_n 2, 1) := by decide +kernel
theorem dX5_markBody_7 : decode cX5_markBody 7 = .ok (.iload_n 2, 1) := by decide +kernel
theorem dX5_markBody_8 : decode cX5_markBody 8 = .ok (.iconst 0, 1) := by decide +kernel
theorem dX5_markBody_9 : decode cX5_markBody 9 = .ok (.iconst 5, 1) := by decide +kernel
theorem dX5_markBody_10 : decode cX5_markBody 10 = .ok (.invokestatic 66, 3) := by decide +kernel
theorem dX5_markBody_13 : decode cX5_markBody 13 = .ok (.ifCond .eq 11, 3) := by decide +kernel
theorem dX5_markBody_16 : decode cX5_markBody 16 = .ok (.getstatic 338, 3) := by decide +kernel
theorem dX5_markBody_19 : decode cX5_markBody 19 = .ok (.iload_n 2, 1) := by decide +kernel
theorem dX5_markBody_20 : decode cX5_markBody 20 = .ok (.iaload, 1) := by decide +kernel
theorem dX5_markBody_21 : decode cX5_markBody 21 = .ok (.goto 8, 3) := by decide +kernel
theorem dX5_markBody_24 : decode cX5_markBody 24 = .ok (.getstatic 338, 3) := by decide +kernel
theorem dX5_markBody_27 : decode cX5_markBody 27 = .ok (.iconst 0, 1) := by decide +kernel
theorem dX5_markBody_28 : decode cX5_markBody 28 = .ok (.iaload, 1) := by decide +kernel
theorem dX5_markBody_29 : decode cX5_markBody 29 = .ok (.ireturn, 1) := by decide +kernel
set_option maxRecDepth 20000 in
theorem ggX5_begin_X4_leave : GoodIn wsX5_begin wsX4_leave := goodIn_r _ [7, 8, 9, 37, 38] rfl (by decide +kernel)
set_option maxRecDepth 20000 in
theorem gX5_begin_X4_leave : GoodIn wsX5_begin (wsV RX5 341 RX4 yX4_leave wsX4_leave) := goodIn_app (goodIn_of _ (by decide +kernel)) ggX5_begin_X4_leave
set_option maxRecDepth 20000 in
theorem ggX5_begin_X5_begin : GoodIn wsX5_begin wsX5_begin := goodIn_r _ [0, 1, 2, 3, 4, 5, 6, 7, 8, 9, 10, 11, 12, 13, 14, 15, 16, 17, 18, 19, 20, 21, 22, 23, 24, 25, 26, 27, 28, 29, 30, 31, 32, 33, 34, 35, 36, 37, 38] rfl (by decide +kernel)
set_option maxRecDepth 20000 in
theorem gX5_begin_X5_begin : GoodIn wsX5_begin (va_wsS RX5 315 yX5_begin wsX5_begin) := goodIn_app (goodIn_of _ (by decide +kernel)) ggX5_begin_X5_begin
set_option maxRecDepth 20000 in
theorem ggX5_begin_X5_markBody : GoodIn wsX5_begin wsX5_markBody := goodIn_r _ [15, 16, 17, 18, 19, 12, 20, 25, 26, 27, 28, 29, 30, 31, 32, 33, 34, 35, 36] rfl (by decide +kernel)
set_option maxRecDepth 20000 in
theorem gX5_begin_X5_markBody : GoodIn wsX5_begin (va_wsS RX5 312 yX5_markBody wsX5_markBody) := goodIn_app (goodIn_of _ (by decide +kernel)) ggX5_begin_X5_markBody
set_option maxRecDepth 20000 in
theorem ggX5_begin_X5_sizeBody : GoodIn wsX5_begin wsX5_sizeBody := goodIn_r _ [23, 16, 24, 18, 19, 12, 20, 25, 26, 27, 28, 29, 30, 31, 32, 33, 34, 35, 36] rfl (by decide +kernel)
set_option maxRecDepth 20000 in
theorem gX5_begin_X5_sizeBody : GoodIn wsX5_begin (va_wsS RX5 308 yX5_sizeBody wsX5_sizeBody) := goodIn_app (goodIn_of _ (by decide +kernel)) ggX5_begin_X5_sizeBody
theorem dX5_begin_0 : decode cX5_begin 0 = .ok (.iload 4, 2) := by decide +kernel
theorem dX5_begin_2 : decode cX5_begin 2 = .ok (.bipush 16, 2) := by decide +kernel
theorem dX5_begin_4 : decode cX5_begin 4 = .ok (.if_icmp .lt 5, 3) := by decide +kernel
theorem dX5_begin_7 : decode cX5_begin 7 = .ok (.iconst 0, 1) := by decide +kernel
theorem dX5_begin_8 : decode cX5_begin 8 = .ok (.ireturn, 1) := by decide +kernel
theorem dX5_begin_9 : decode cX5_begin 9 = .ok (.aload_n 1, 1) := by decide +kernel
theorem dX5_begin_10 : decode cX5_begin 10 = .ok (.iload_n 2, 1) := by decide +kernel
theorem dX5_begin_11 : decode cX5_begin 11 = .ok (.invokevirtual 341, 3) := by decide +kernel
theorem dX5_begin_14 : decode cX5_begin 14 = .ok (.iload 4, 2) := by decide +kernel
theorem dX5_begin_16 : decode cX5_begin 16 = .ok (.iconst 1, 1) := by decide +kernel
theorem dX5_begin_17 : decode cX5_begin 17 = .ok (.iadd, 1) := by decide +kernel
theorem dX5_begin_18 : decode cX5_begin 18 = .ok (.istore 5, 2) := by decide +kernel
theorem dX5_begin_20 : decode cX5_begin 20 = .ok (.iload_n 2, 1) := by decide +kernel
theorem dX5_begin_21 : decode cX5_begin 21 = .ok (.tableswitch 219 10 24 #[75, 82, 107, 119, 133, 219, 219, 219, 219, 219, 146, 148, 166, 181, 206], 75) := by decide +kernel
theorem dX5_begin_96 : decode cX5_begin 96 = .ok (.aload_n 0, 1) := by decide +kernel
theorem dX5_begin_97 : decode cX5_begin 97 = .ok (.getfield 196, 3) := by decide +kernel
theorem dX5_begin_100 : decode cX5_begin 100 = .ok (.iload_n 3, 1) := by decide +kernel
theorem dX5_begin_101 : decode cX5_begin 101 = .ok (.iaload, 1) := by decide +kernel
theorem dX5_begin_102 : decode cX5_begin 102 = .ok (.ireturn, 1) := by decide +kernel
theorem dX5_begin_103 : decode cX5_begin 103 = .ok (.aload_n 0, 1) := by decide +kernel
theorem dX5_begin_104 : decode cX5_begin 104 = .ok (.aload_n 1, 1) := by decide +kernel
theorem dX5_begin_105 : decode cX5_begin 105 = .ok (.bipush 10, 2) := by decide +kernel
theorem dX5_begin_107 : decode cX5_begin 107 = .ok (.iload_n 3, 1) := by decide +kernel
theorem dX5_begin_108 : decode cX5_begin 108 = .ok (.iload 5, 2) := by decide +kernel
theorem dX5_begin_110 : decode cX5_begin 110 = .ok (.invokestatic 315, 3) := by decide +kernel
theorem dX5_begin_113 : decode cX5_begin 113 = .ok (.aload_n 0, 1) := by decide +kernel
theorem dX5_begin_114 : decode cX5_begin 114 = .ok (.aload_n 1, 1) := by decide +kernel
theorem dX5_begin_115 : decode cX5_begin 115 = .ok (.aload_n 0, 1) := by decide +kernel
theorem dX5_begin_116 : decode cX5_begin 116 = .ok (.iload_n 3, 1) := by decide +kernel
theorem dX5_begin_117 : decode cX5_begin 117 = .ok (.invokestatic 312, 3) := by decide +kernel
theorem dX5_begin_120 : decode cX5_begin 120 = .ok (.iload_n 3, 1) := by decide +kernel
theorem dX5_begin_121 : decode cX5_begin 121 = .ok (.iload 5, 2) := by decide +kernel
theorem dX5_begin_123 : decode cX5_begin 123 = .ok (.invokestatic 315, 3) := by decide +kernel
theorem dX5_begin_126 : decode cX5_begin 126 = .ok (.iadd, 1) := by decide +kernel
theorem dX5_begin_127 : decode cX5_begin 127 = .ok (.ireturn, 1) := by decide +kernel
theorem dX5_begin_128 : decode cX5_begin 128 = .ok (.aload_n 0, 1) := by decide +kernel
theorem dX5_begin_129 : decode cX5_begin 129 = .ok (.aload_n 1, 1) := by decide +kernel
theorem dX5_begin_130 : decode cX5_begin 130 = .ok (.bipush 11, 2) := by decide +kernel
theorem dX5_begin_132 : decode cX5_begin 132 = .ok (.iload_n 3, 1) := by decide +kernel
theorem dX5_begin_133 : decode cX5_begin 133 = .ok (.iload 5, 2) := by decide +kernel
theorem dX5_begin_135 : decode cX5_begin 135 = .ok (.invokestatic 315, 3) := by decide +kernel
theorem dX5_begin_138 : decode cX5_begin 138 = .ok (.ineg, 1) := by decide +kernel
theorem dX5_begin_139 : decode cX5_begin 139 = .ok (.ireturn, 1) := by decide +kernel
theorem dX5_begin_140 : decode cX5_begin 140 = .ok (.aload_n 0, 1) := by decide +kernel
theorem dX5_begin_141 : decode cX5_begin 141 = .ok (.aload_n 1, 1) := by decide +kernel
theorem dX5_begin_142 : decode cX5_begin 142 = .ok (.bipush 10, 2) := by decide +kernel
theorem dX5_begin_144 : decode cX5_begin 144 = .ok (.iload_n 3, 1) := by decide +kernel
theorem dX5_begin_145 : decode cX5_begin 145 = .ok (.iload 5, 2) := by decide +kernel
theorem dX5_begin_147 : decode cX5_begin 147 = .ok (.invokestatic 315, 3) := by decide +kernel
theorem dX5_begin_150 : decode cX5_begin 150 = .ok (.bipush 100, 2) := by decide +kernel
theorem dX5_begin_152 : decode cX5_begin 152 = .ok (.isub, 1) := by decide +kernel
theorem dX5_begin_153 : decode cX5_begin 153 = .ok (.ireturn, 1) := by decide +kernel
theorem dX5_begin_154 : decode cX5_begin 154 = .ok (.aload_n 0, 1) := by decide +kernel
theorem dX5_begin_155 : decode cX5_begin 155 = .ok (.aload_n 1, 1) := by decide +kernel
theorem dX5_begin_156 : decode cX5_begin 156 = .ok (.bipush 13, 2) := by decide +kernel
theorem dX5_begin_158 : decode cX5_begin 158 = .ok (.iload_n 3, 1) := by decide +kernel
theorem dX5_begin_159 : decode cX5_begin 159 = .ok (.iload 5, 2) := by decide +kernel
theorem dX5_begin_161 : decode cX5_begin 161 = .ok (.invokestatic 315, 3) := by decide +kernel
theorem dX5_begin_164 : decode cX5_begin 164 = .ok (.iconst 2, 1) := by decide +kernel
theorem dX5_begin_165 : decode cX5_begin 165 = .ok (.imul, 1) := by decide +kernel
theorem dX5_begin_166 : decode cX5_begin 166 = .ok (.ireturn, 1) := by decide +kernel
theorem dX5_begin_167 : decode cX5_begin 167 = .ok (.iload_n 3, 1) := by decide +kernel
theorem dX5_begin_168 : decode cX5_begin 168 = .ok (.ireturn, 1) := by decide +kernel
theorem dX5_begin_169 : decode cX5_begin 169 = .ok (.aload_n 0, 1) := by decide +kernel
theorem dX5_begin_170 : decode cX5_begin 170 = .ok (.aload_n 1, 1) := by decide +kernel
theorem dX5_begin_171 : decode cX5_begin 171 = .ok (.bipush 20, 2) := by decide +kernel
theorem dX5_begin_173 : decode cX5_begin 173 = .ok (.iload_n 3, 1) := by decide +kernel
theorem dX5_begin_174 : decode cX5_begin 174 = .ok (.iload 5, 2) := by decide +kernel
theorem dX5_begin_176 : decode cX5_begin 176 = .ok (.invokestatic 315, 3) := by decide +kernel
theorem dX5_begin_179 : decode cX5_begin 179 = .ok (.aload_n 0, 1) := by decide +kernel
theorem dX5_begin_180 : decode cX5_begin 180 = .ok (.getfield 175, 3) := by decide +kernel
theorem dX5_begin_183 : decode cX5_begin 183 = .ok (.iload_n 3, 1) := by decide +kernel
theorem dX5_begin_184 : decode cX5_begin 184 = .ok (.iaload, 1) := by decide +kernel
theorem dX5_begin_185 : decode cX5_begin 185 = .ok (.iadd, 1) := by decide +kernel
theorem dX5_begin_186 : decode cX5_begin 186 = .ok (.ireturn, 1) := by decide +kernel
theorem dX5_begin_187 : decode cX5_begin 187 = .ok (.aload_n 0, 1) := by decide +kernel
theorem dX5_begin_188 : decode cX5_begin 188 = .ok (.aload_n 1, 1) := by decide +kernel
theorem dX5_begin_189 : decode cX5_begin 189 = .ok (.bipush 21, 2) := by decide +kernel
theorem dX5_begin_191 : decode cX5_begin 191 = .ok (.iload_n 3, 1) := by decide +kernel
theorem dX5_begin_192 : decode cX5_begin 192 = .ok (.iload 5, 2) := by decide +kernel
theorem dX5_begin_194 : decode cX5_begin 194 = .ok (.invokestatic 315, 3) := by decide +kernel
theorem dX5_begin_197 : decode cX5_begin 197 = .ok (.sipush 1000, 3) := by decide +kernel
theorem dX5_begin_200 : decode cX5_begin 200 = .ok (.isub, 1) := by decide +kernel
theorem dX5_begin_201 : decode cX5_begin 201 = .ok (.ireturn, 1) := by decide +kernel
theorem dX5_begin_202 : decode cX5_begin 202 = .ok (.aload_n 0, 1) := by decide +kernel
theorem dX5_begin_203 : decode cX5_begin 203 = .ok (.aload_n 1, 1) := by decide +kernel
theorem dX5_begin_204 : decode cX5_begin 204 = .ok (.bipush 20, 2) := by decide +kernel
theorem dX5_begin_206 : decode cX5_begin 206 = .ok (.iload_n 3, 1) := by decide +kernel
theorem dX5_begin_207 : decode cX5_begin 207 = .ok (.iload 5, 2) := by decide +kernel
theorem dX5_begin_209 : decode cX5_begin 209 = .ok (.invokestatic 315, 3) := by decide +kernel
theorem dX5_begin_212 : decode cX5_begin 212 = .ok (.aload_n 0, 1) := by decide +kernel
theorem dX5_begin_213 : decode cX5_begin 213 = .ok (.aload_n 1, 1) := by decide +kernel
theorem dX5_begin_214 : decode cX5_begin 214 = .ok (.aload_n 0, 1) := by decide +kernel
theorem dX5_begin_215 : decode cX5_begin 215 = .ok (.iload_n 3, 1) := by decide +kernel
theorem dX5_begin_216 : decode cX5_begin 216 = .ok (.invokestatic 308, 3) := by decide +kernel
theorem dX5_begin_219 : decode cX5_begin 219 = .ok (.iload_n 3, 1) := by decide +kernel
theorem dX5_begin_220 : decode cX5_begin 220 = .ok (.iload 5, 2) := by decide +kernel
theorem dX5_begin_222 : decode cX5_begin 222 = .ok (.invokestatic 315, 3) := by decide +kernel
theorem dX5_begin_225 : decode cX5_begin 225 = .ok (.isub, 1) := by decide +kernel
theorem dX5_begin_226 : decode cX5_begin 226 = .ok (.ireturn, 1) := by decide +kernel
theorem dX5_begin_227 : decode cX5_begin 227 = .ok (.aload_n 0, 1) := by decide +kernel
theorem dX5_begin_228 : decode cX5_begin 228 = .ok (.aload_n 1, 1) := by decide +kernel
theorem dX5_begin_229 : decode cX5_begin 229 = .ok (.bipush 21, 2) := by decide +kernel
theorem dX5_begin_231 : decode cX5_begin 231 = .ok (.iload_n 3, 1) := by decide +kernel
theorem dX5_begin_232 : decode cX5_begin 232 = .ok (.iload 5, 2) := by decide +kernel
theorem dX5_begin_234 : decode cX5_begin 234 = .ok (.invokestatic 315, 3) := by decide +kernel
theorem dX5_begin_237 : decode cX5_begin 237 = .ok (.iconst 2, 1) := by decide +kernel
theorem dX5_begin_238 : decode cX5_begin 238 = .ok (.imul, 1) := by decide +kernel
theorem dX5_begin_239 : decode cX5_begin 239 = .ok (.ireturn, 1) := by decide +kernel
theorem dX5_begin_240 : decode cX5_begin 240 = .ok (.iconst 0, 1) := by decide +kernel
theorem dX5_begin_241 : decode cX5_begin 241 = .ok (.ireturn, 1) := by decide +kernel
theorem dX6_init_0 : decode cX6_init 0 = .ok (.aload_n 0, 1) := by decide +kernel
theorem dX6_init_1 : decode cX6_init 1 = .ok (.invokespecial 1, 3) := by decide +kernel
theorem dX6_init_4 : decode cX6_init 4 = .ok (.aload_n 0, 1) := by decide +kernel
theorem dX6_init_5 : decode cX6_init 5 = .ok (.bipush 8, 2) := by decide +kernel
theorem dX6_init_7 : decode cX6_init 7 = .ok (.newarray .int, 2) := by decide +kernel
theorem dX6_init_9 : decode cX6_init 9 = .ok (.dup, 1) := by decide +kernel
theorem dX6_init_10 : decode cX6_init 10 = .ok (.iconst 0, 1) := by decide +kernel
theorem dX6_init_11 : decode cX6_init 11 = .ok (.iconst (-1), 1) := by decide +kernel
theorem dX6_init_12 : decode cX6_init 12 = .ok (.iastore, 1) := by decide +kernel
theorem dX6_init_13 : decode cX6_init 13 = .ok (.dup, 1) := by decide +kernel
theorem dX6_init_14 : decode cX6_init 14 = .ok (.iconst 1, 1) := by decide +kernel
theorem dX6_init_15 : decode cX6_init 15 = .ok (.iconst (-1), 1) := by decide +kernel
theorem dX6_init_16 : decode cX6_init 16 = .ok (.iastore, 1) := by decide +kernel
theorem dX6_init_17 : decode cX6_init 17 = .ok (.dup, 1) := by decide +kernel
theorem dX6_init_18 : decode cX6_init 18 = .ok (.iconst 2, 1) := by decide +kernel
theorem dX6_init_19 : decode cX6_init 19 = .ok (.iconst (-1), 1) := by decide +kernel
theorem dX6_init_20 : decode cX6_init 20 = .ok (.iastore, 1) := by decide +kernel
theorem dX6_init_21 : decode cX6_init 21 = .ok (.dup, 1) := by decide +kernel
theorem dX6_init_22 : decode cX6_init 22 = .ok (.iconst 3, 1) := by decide +kernel
theorem dX6_init_23 : decode cX6_init 23 = .ok (.iconst (-1), 1) := by decide +kernel
theorem dX6_init_24 : decode cX6_init 24 = .ok (.iastore, 1) := by decide +kernel
theorem dX6_init_25 : decode cX6_init 25 = .ok (.dup, 1) := by decide +kernel
theorem dX6_init_26 : decode cX6_init 26 = .ok (.iconst 4, 1) := by decide +kernel
theorem dX6_init_27 : decode cX6_init 27 = .ok (.iconst (-1), 1) := by decide +kernel
theorem dX6_init_28 : decode cX6_init 28 = .ok (.iastore, 1) := by decide +kernel
theorem dX6_init_29 : decode cX6_init 29 = .ok (.dup, 1) := by decide +kernel
theorem dX6_init_30 : decode cX6_init 30 = .ok (.iconst 5, 1) := by decide +kernel
theorem dX6_init_31 : decode cX6_init 31 = .ok (.iconst (-1), 1) := by decide +kernel
theorem dX6_init_32 : decode cX6_init 32 = .ok (.iastore, 1) := by decide +kernel
theorem dX6_init_33 : decode cX6_init 33 = .ok (.dup, 1) := by decide +kernel
theorem dX6_init_34 : decode cX6_init 34 = .ok (.bipush 6, 2) := by decide +kernel
theorem dX6_init_36 : decode cX6_init 36 = .ok (.iconst (-1), 1) := by decide +kernel
theorem dX6_init_37 : decode cX6_init 37 = .ok (.iastore, 1) := by decide +kernel
theorem dX6_init_38 : decode cX6_init 38 = .ok (.dup, 1) := by decide +kernel
theorem dX6_init_39 : decode cX6_init 39 = .ok (.bipush 7, 2) := by decide +kernel
theorem dX6_init_41 : decode cX6_init 41 = .ok (.iconst (-1), 1) := by decide +kernel
theorem dX6_init_42 : decode cX6_init 42 = .ok (.iastore, 1) := by decide +kernel
theorem dX6_init_43 : decode cX6_init 43 = .ok (.putfield 7, 3) := by decide +kernel
theorem dX6_init_46 : decode cX6_init 46 = .ok (.aload_n 0, 1) := by decide +kernel
theorem dX6_init_47 : decode cX6_init 47 = .ok (.bipush 8, 2) := by decide +kernel
theorem dX6_init_49 : decode cX6_init 49 = .ok (.newarray .int, 2) := by decide +kernel
theorem dX6_init_51 : decode cX6_init 51 = .ok (.putfield 13, 3) := by decide +kernel
theorem dX6_init_54 : decode cX6_init 54 = .ok (.aload_n 0, 1) := by decide +kernel
theorem dX6_init_55 : decode cX6_init 55 = .ok (.sipush 320, 3) := by decide +kernel
theorem dX6_init_58 : decode cX6_init 58 = .ok (.newarray .int, 2) := by decide +kernel
theorem dX6_init_60 : decode cX6_init 60 = .ok (.putfield 16, 3) := by decide +kernel
theorem dX6_init_63 : decode cX6_init 63 = .ok (.aload_n 0, 1) := by decide +kernel
theorem dX6_init_64 : decode cX6_init 64 = .ok (.bipush 45, 2) := by decide +kernel
theorem dX6_init_66 : decode cX6_init 66 = .ok (.newarray .int, 2) := by decide +kernel
theorem dX6_init_68 : decode cX6_init 68 = .ok (.putfield 19, 3) := by decide +kernel
theorem dX6_init_71 : decode cX6_init 71 = .ok (.aload_n 0, 1) := by decide +kernel
theorem dX6_init_72 : decode cX6_init 72 = .ok (.bipush 45, 2) := by decide +kernel
theorem dX6_init_74 : decode cX6_init 74 = .ok (.newarray .int, 2) := by decide +kernel
theorem dX6_init_76 : decode cX6_init 76 = .ok (.putfield 22, 3) := by decide +kernel
theorem dX6_init_79 : decode cX6_init 79 = .ok (.aload_n 0, 1) := by decide +kernel
theorem dX6_init_80 : decode cX6_init 80 = .ok (.bipush 45, 2) := by decide +kernel
theorem dX6_init_82 : decode cX6_init 82 = .ok (.newarray .int, 2) := by decide +kernel
theorem dX6_init_84 : decode cX6_init 84 = .ok (.putfield 25, 3) := by decide +kernel
theorem dX6_init_87 : decode cX6_init 87 = .ok (.aload_n 0, 1) := by decide +kernel
theorem dX6_init_88 : decode cX6_init 88 = .ok (.sipush 1080, 3) := by decide +kernel
theorem dX6_init_91 : decode cX6_init 91 = .ok (.newarray .int, 2) := by decide +kernel
theorem dX6_init_93 : decode cX6_init 93 = .ok (.putfield 28, 3) := by decide +kernel
theorem dX6_init_96 : decode cX6_init 96 = .ok (.aload_n 0, 1) := by decide +kernel
theorem dX6_init_97 : decode cX6_init 97 = .ok (.bipush 120, 2) := by decide +kernel
theorem dX6_init_99 : decode cX6_init 99 = .ok (.newarray .int, 2) := by decide +kernel
theorem dX6_init_101 : decode cX6_init 101 = .ok (.putfield 31, 3) := by decide +kernel
theorem dX6_init_104 : decode cX6_init 104 = .ok (.aload_n 0, 1) := by decide +kernel
theorem dX6_init_105 : decode cX6_init 105 = .ok (.iconst 3, 1) := by decide +kernel
theorem dX6_init_106 : decode cX6_init 106 = .ok (.newarray .int, 2) := by decide +kernel
theorem dX6_init_108 : decode cX6_init 108 = .ok (.putfield 34, 3) := by decide +kernel
theorem dX6_init_111 : decode cX6_init 111 = .ok (.aload_n 0, 1) := by decide +kernel
theorem dX6_init_112 : decode cX6_init 112 = .ok (.iconst 2, 1) := by decide +kernel
theorem dX6_init_113 : decode cX6_init 113 = .ok (.newarray .boolean, 2) := by decide +kernel
theorem dX6_init_115 : decode cX6_init 115 = .ok (.putfield 37, 3) := by decide +kernel
theorem dX6_init_118 : decode cX6_init 118 = .ok (.aload_n 0, 1) := by decide +kernel
theorem dX6_init_119 : decode cX6_init 119 = .ok (.bipush 90, 2) := by decide +kernel
theorem dX6_init_121 : decode cX6_init 121 = .ok (.newarray .int, 2) := by decide +kernel
theorem dX6_init_123 : decode cX6_init 123 = .ok (.putfield 41, 3) := by decide +kernel
theorem dX6_init_126 : decode cX6_init 126 = .ok (.aload_n 0, 1) := by decide +kernel
theorem dX6_init_127 : decode cX6_init 127 = .ok (.bipush 16, 2) := by decide +kernel
theorem dX6_init_129 : decode cX6_init 129 = .ok (.newarray .int, 2) := by decide +kernel
theorem dX6_init_131 : decode cX6_init 131 = .ok (.putfield 44, 3) := by decide +kernel
theorem dX6_init_134 : decode cX6_init 134 = .ok (.return_, 1) := by decide +kernel
theorem dX6_in_0 : decode cX6_in 0 = .ok (.lload_n 0, 1) := by decide +kernel
theorem dX6_in_1 : decode cX6_in 1 = .ok (.lload_n 2, 1) := by decide +kernel
theorem dX6_in_2 : decode cX6_in 2 = .ok (.lcmp, 1) := by decide +kernel
theorem dX6_in_3 : decode cX6_in 3 = .ok (.ifCond .lt 14, 3) := by decide +kernel
theorem dX6_in_6 : decode cX6_in 6 = .ok (.lload_n 0, 1) := by decide +kernel
theorem dX6_in_7 : decode cX6_in 7 = .ok (.lload 4, 2) := by decide +kernel
theorem dX6_in_9 : decode cX6_in 9 = .ok (.lcmp, 1) := by decide +kernel
theorem dX6_in_10 : decode cX6_in 10 = .ok (.ifCond .gt 7, 3) := by decide +kernel
theorem dX6_in_13 : decode cX6_in 13 = .ok (.iconst 1, 1) := by decide +kernel
theorem dX6_in_14 : decode cX6_in 14 = .ok (.goto 4, 3) := by decide +kernel
theorem dX6_in_17 : decode cX6_in 17 = .ok (.iconst 0, 1) := by decide +kernel
theorem dX6_in_18 : decode cX6_in 18 = .ok (.ireturn, 1) := by decide +kernel
theorem dX6_finding_0 : decode cX6_finding 0 = .ok (.aload_n 0, 1) := by decide +kernel
theorem dX6_finding_1 : decode cX6_finding 1 = .ok (.iload_n 1, 1) := by decide +kernel
theorem dX6_finding_2 : decode cX6_finding 2 = .ok (.putfield 51, 3) := by decide +kernel
theorem dX6_finding_5 : decode cX6_finding 5 = .ok (.ldc 54, 2) := by decide +kernel
theorem dX6_finding_7 : decode cX6_finding 7 = .ok (.iload_n 1, 1) := by decide +kernel
theorem dX6_finding_8 : decode cX6_finding 8 = .ok (.isub, 1) := by decide +kernel
theorem dX6_finding_9 : decode cX6_finding 9 = .ok (.ireturn, 1) := by decide +kernel
set_option maxRecDepth 20000 in
theorem ggX6_isRow_X6_in : GoodIn wsX6_isRow wsX6_in := goodIn_r _ [5] rfl (by decide +kernel)
set_option maxRecDepth 20000 in
theorem gX6_isRow_X6_in : GoodIn wsX6_isRow (va_wsS RX6 57 yX6_in wsX6_in) := goodIn_app (goodIn_of _ (by decide +kernel)) ggX6_isRow_X6_in
theorem dX6_isRow_0 : decode cX6_isRow 0 = .ok (.iload_n 0, 1) := by decide +kernel
theorem dX6_isRow_1 : decode cX6_isRow 1 = .ok (.i2l, 1) := by decide +kernel
theorem dX6_isRow_2 : decode cX6_isRow 2 = .ok (.lconst 0, 1) := by decide +kernel
theorem dX6_isRow_3 : decode cX6_isRow 3 = .ok (.ldc2_w 55, 3) := by decide +kernel
theorem dX6_isRow_6 : decode cX6_isRow 6 = .ok (.invokestatic 57, 3) := by decide +kernel
theorem dX6_isRow_9 : decode cX6_isRow 9 = .ok (.ireturn, 1) := by decide +kernel
set_option maxRecDepth 20000 in
theorem ggX6_row_X6_isRow : GoodIn wsX6_row wsX6_isRow := goodIn_r _ [11, 12, 13, 14, 10, 15] rfl (by decide +kernel)
set_option maxRecDepth 20000 in
theorem gX6_row_X6_isRow : GoodIn wsX6_row (va_wsS RX6 61 yX6_isRow wsX6_isRow) := goodIn_app (goodIn_of _ (by decide +kernel)) ggX6_row_X6_isRow
set_option maxRecDepth 20000 in
theorem ggX6_row_X6_in : GoodIn wsX6_row wsX6_in := goodIn_r _ [15] rfl (by decide +kernel)
set_option maxRecDepth 20000 in
theorem gX6_row_X6_in : GoodIn wsX6_row (va_wsS RX6 57 yX6_in wsX6_in) := goodIn_app (goodIn_of _ (by decide +kernel)) ggX6_row_X6_in
set_option maxRecDepth 20000 in
theorem ggX6_row_X6_finding : GoodIn wsX6_row wsX6_finding := goodIn_r _ [19, 4, 20, 21, 22, 23, 24, 25, 26, 27, 28, 29, 30, 31, 32, 33, 34, 35, 36, 37, 38, 39, 40, 41, 42, 43, 44] rfl (by decide +kernel)
