theorem dX0_init_0 : decode cX0_init 0 = .ok (.aload_n 0, 1) := by decide +kernel
theorem dX0_init_1 : decode cX0_init 1 = .ok (.invokespecial 3, 3) := by decide +kernel
theorem dX0_init_4 : decode cX0_init 4 = .ok (.aload_n 0, 1) := by decide +kernel
theorem dX0_init_5 : decode cX0_init 5 = .ok (.iconst 0, 1) := by decide +kernel
theorem dX0_init_6 : decode cX0_init 6 = .ok (.putfield 9, 3) := by decide +kernel
theorem dX0_init_9 : decode cX0_init 9 = .ok (.aload_n 0, 1) := by decide +kernel
theorem dX0_init_10 : decode cX0_init 10 = .ok (.iconst 0, 1) := by decide +kernel
theorem dX0_init_11 : decode cX0_init 11 = .ok (.putfield 15, 3) := by decide +kernel
theorem dX0_init_14 : decode cX0_init 14 = .ok (.aload_n 0, 1) := by decide +kernel
theorem dX0_init_15 : decode cX0_init 15 = .ok (.iconst 0, 1) := by decide +kernel
theorem dX0_init_16 : decode cX0_init 16 = .ok (.putfield 18, 3) := by decide +kernel
theorem dX0_init_19 : decode cX0_init 19 = .ok (.aload_n 0, 1) := by decide +kernel
theorem dX0_init_20 : decode cX0_init 20 = .ok (.iconst 0, 1) := by decide +kernel
theorem dX0_init_21 : decode cX0_init 21 = .ok (.putfield 21, 3) := by decide +kernel
theorem dX0_init_24 : decode cX0_init 24 = .ok (.aload_n 0, 1) := by decide +kernel
theorem dX0_init_25 : decode cX0_init 25 = .ok (.iconst 0, 1) := by decide +kernel
theorem dX0_init_26 : decode cX0_init 26 = .ok (.putfield 24, 3) := by decide +kernel
theorem dX0_init_29 : decode cX0_init 29 = .ok (.aload_n 0, 1) := by decide +kernel
theorem dX0_init_30 : decode cX0_init 30 = .ok (.iconst 5, 1) := by decide +kernel
theorem dX0_init_31 : decode cX0_init 31 = .ok (.newarray .int, 2) := by decide +kernel
theorem dX0_init_33 : decode cX0_init 33 = .ok (.putfield 27, 3) := by decide +kernel
theorem dX0_init_36 : decode cX0_init 36 = .ok (.aload_n 0, 1) := by decide +kernel
theorem dX0_init_37 : decode cX0_init 37 = .ok (.iconst 5, 1) := by decide +kernel
theorem dX0_init_38 : decode cX0_init 38 = .ok (.newarray .int, 2) := by decide +kernel
theorem dX0_init_40 : decode cX0_init 40 = .ok (.putfield 31, 3) := by decide +kernel
theorem dX0_init_43 : decode cX0_init 43 = .ok (.aload_n 0, 1) := by decide +kernel
theorem dX0_init_44 : decode cX0_init 44 = .ok (.bipush 6, 2) := by decide +kernel
theorem dX0_init_46 : decode cX0_init 46 = .ok (.newarray .int, 2) := by decide +kernel
theorem dX0_init_48 : decode cX0_init 48 = .ok (.putfield 34, 3) := by decide +kernel
theorem dX0_init_51 : decode cX0_init 51 = .ok (.aload_n 0, 1) := by decide +kernel
theorem dX0_init_52 : decode cX0_init 52 = .ok (.bipush 6, 2) := by decide +kernel
theorem dX0_init_54 : decode cX0_init 54 = .ok (.newarray .int, 2) := by decide +kernel
theorem dX0_init_56 : decode cX0_init 56 = .ok (.putfield 37, 3) := by decide +kernel
theorem dX0_init_59 : decode cX0_init 59 = .ok (.aload_n 0, 1) := by decide +kernel
theorem dX0_init_60 : decode cX0_init 60 = .ok (.bipush 6, 2) := by decide +kernel
theorem dX0_init_62 : decode cX0_init 62 = .ok (.newarray .int, 2) := by decide +kernel
theorem dX0_init_64 : decode cX0_init 64 = .ok (.putfield 40, 3) := by decide +kernel
theorem dX0_init_67 : decode cX0_init 67 = .ok (.aload_n 0, 1) := by decide +kernel
theorem dX0_init_68 : decode cX0_init 68 = .ok (.bipush 6, 2) := by decide +kernel
theorem dX0_init_70 : decode cX0_init 70 = .ok (.newarray .int, 2) := by decide +kernel
theorem dX0_init_72 : decode cX0_init 72 = .ok (.putfield 43, 3) := by decide +kernel
theorem dX0_init_75 : decode cX0_init 75 = .ok (.aload_n 0, 1) := by decide +kernel
theorem dX0_init_76 : decode cX0_init 76 = .ok (.bipush 6, 2) := by decide +kernel
theorem dX0_init_78 : decode cX0_init 78 = .ok (.newarray .int, 2) := by decide +kernel
theorem dX0_init_80 : decode cX0_init 80 = .ok (.putfield 46, 3) := by decide +kernel
theorem dX0_init_83 : decode cX0_init 83 = .ok (.return_, 1) := by decide +kernel
theorem dX0_stands_0 : decode cX0_stands 0 = .ok (.aload_n 0, 1) := by decide +kernel
theorem dX0_stands_1 : decode cX0_stands 1 = .ok (.getfield 18, 3) := by decide +kernel
theorem dX0_stands_4 : decode cX0_stands 4 = .ok (.ifCond .le 7, 3) := by decide +kernel
theorem dX0_stands_7 : decode cX0_stands 7 = .ok (.iconst 1, 1) := by decide +kernel
theorem dX0_stands_8 : decode cX0_stands 8 = .ok (.goto 4, 3) := by decide +kernel
theorem dX0_stands_11 : decode cX0_stands 11 = .ok (.iconst 0, 1) := by decide +kernel
theorem dX0_stands_12 : decode cX0_stands 12 = .ok (.ireturn, 1) := by decide +kernel
theorem dX0_coldRooms_0 : decode cX0_coldRooms 0 = .ok (.iconst 0, 1) := by decide +kernel
theorem dX0_coldRooms_1 : decode cX0_coldRooms 1 = .ok (.istore_n 1, 1) := by decide +kernel
theorem dX0_coldRooms_2 : decode cX0_coldRooms 2 = .ok (.iconst 0, 1) := by decide +kernel
theorem dX0_coldRooms_3 : decode cX0_coldRooms 3 = .ok (.istore_n 2, 1) := by decide +kernel
theorem dX0_coldRooms_4 : decode cX0_coldRooms 4 = .ok (.iload_n 2, 1) := by decide +kernel
theorem dX0_coldRooms_5 : decode cX0_coldRooms 5 = .ok (.aload_n 0, 1) := by decide +kernel
theorem dX0_coldRooms_6 : decode cX0_coldRooms 6 = .ok (.getfield 18, 3) := by decide +kernel
theorem dX0_coldRooms_9 : decode cX0_coldRooms 9 = .ok (.if_icmp .ge 28, 3) := by decide +kernel
theorem dX0_coldRooms_12 : decode cX0_coldRooms 12 = .ok (.aload_n 0, 1) := by decide +kernel
theorem dX0_coldRooms_13 : decode cX0_coldRooms 13 = .ok (.getfield 27, 3) := by decide +kernel
theorem dX0_coldRooms_16 : decode cX0_coldRooms 16 = .ok (.iload_n 2, 1) := by decide +kernel
theorem dX0_coldRooms_17 : decode cX0_coldRooms 17 = .ok (.iaload, 1) := by decide +kernel
theorem dX0_coldRooms_18 : decode cX0_coldRooms 18 = .ok (.aload_n 0, 1) := by decide +kernel
theorem dX0_coldRooms_19 : decode cX0_coldRooms 19 = .ok (.getfield 15, 3) := by decide +kernel
theorem dX0_coldRooms_22 : decode cX0_coldRooms 22 = .ok (.if_icmp .gt 9, 3) := by decide +kernel
theorem dX0_coldRooms_25 : decode cX0_coldRooms 25 = .ok (.iload_n 1, 1) := by decide +kernel
theorem dX0_coldRooms_26 : decode cX0_coldRooms 26 = .ok (.iconst 1, 1) := by decide +kernel
theorem dX0_coldRooms_27 : decode cX0_coldRooms 27 = .ok (.iload_n 2, 1) := by decide +kernel
theorem dX0_coldRooms_28 : decode cX0_coldRooms 28 = .ok (.ishl, 1) := by decide +kernel
theorem dX0_coldRooms_29 : decode cX0_coldRooms 29 = .ok (.ior, 1) := by decide +kernel
theorem dX0_coldRooms_30 : decode cX0_coldRooms 30 = .ok (.istore_n 1, 1) := by decide +kernel
theorem dX0_coldRooms_31 : decode cX0_coldRooms 31 = .ok (.iinc 2 1, 3) := by decide +kernel
theorem dX0_coldRooms_34 : decode cX0_coldRooms 34 = .ok (.goto (-30), 3) := by decide +kernel
theorem dX0_coldRooms_37 : decode cX0_coldRooms 37 = .ok (.iload_n 1, 1) := by decide +kernel
theorem dX0_coldRooms_38 : decode cX0_coldRooms 38 = .ok (.ireturn, 1) := by decide +kernel
theorem dX0_upIn_0 : decode cX0_upIn 0 = .ok (.iconst 0, 1) := by decide +kernel
theorem dX0_upIn_1 : decode cX0_upIn 1 = .ok (.istore_n 2, 1) := by decide +kernel
theorem dX0_upIn_2 : decode cX0_upIn 2 = .ok (.iconst 0, 1) := by decide +kernel
theorem dX0_upIn_3 : decode cX0_upIn 3 = .ok (.istore_n 3, 1) := by decide +kernel
theorem dX0_upIn_4 : decode cX0_upIn 4 = .ok (.iload_n 3, 1) := by decide +kernel
theorem dX0_upIn_5 : decode cX0_upIn 5 = .ok (.aload_n 0, 1) := by decide +kernel
theorem dX0_upIn_6 : decode cX0_upIn 6 = .ok (.getfield 21, 3) := by decide +kernel
theorem dX0_upIn_9 : decode cX0_upIn 9 = .ok (.if_icmp .ge 26, 3) := by decide +kernel
theorem dX0_upIn_12 : decode cX0_upIn 12 = .ok (.iload_n 1, 1) := by decide +kernel
theorem dX0_upIn_13 : decode cX0_upIn 13 = .ok (.iload_n 3, 1) := by decide +kernel
theorem dX0_upIn_14 : decode cX0_upIn 14 = .ok (.ishr, 1) := by decide +kernel
theorem dX0_upIn_15 : decode cX0_upIn 15 = .ok (.iconst 1, 1) := by decide +kernel
theorem dX0_upIn_16 : decode cX0_upIn 16 = .ok (.iand, 1) := by decide +kernel
theorem dX0_upIn_17 : decode cX0_upIn 17 = .ok (.ifCond .eq 12, 3) := by decide +kernel
theorem dX0_upIn_20 : decode cX0_upIn 20 = .ok (.iload_n 2, 1) := by decide +kernel
theorem dX0_upIn_21 : decode cX0_upIn 21 = .ok (.aload_n 0, 1) := by decide +kernel
theorem dX0_upIn_22 : decode cX0_upIn 22 = .ok (.getfield 46, 3) := by decide +kernel
theorem dX0_upIn_25 : decode cX0_upIn 25 = .ok (.iload_n 3, 1) := by decide +kernel
theorem dX0_upIn_26 : decode cX0_upIn 26 = .ok (.iaload, 1) := by decide +kernel
theorem dX0_upIn_27 : decode cX0_upIn 27 = .ok (.iadd, 1) := by decide +kernel
theorem dX0_upIn_28 : decode cX0_upIn 28 = .ok (.istore_n 2, 1) := by decide +kernel
theorem dX0_upIn_29 : decode cX0_upIn 29 = .ok (.iinc 3 1, 3) := by decide +kernel
theorem dX0_upIn_32 : decode cX0_upIn 32 = .ok (.goto (-28), 3) := by decide +kernel
theorem dX0_upIn_35 : decode cX0_upIn 35 = .ok (.iload_n 2, 1) := by decide +kernel
theorem dX0_upIn_36 : decode cX0_upIn 36 = .ok (.ireturn, 1) := by decide +kernel
theorem dX1_init_0 : decode cX1_init 0 = .ok (.aload_n 0, 1) := by decide +kernel
theorem dX1_init_1 : decode cX1_init 1 = .ok (.invokespecial 1, 3) := by decide +kernel
theorem dX1_init_4 : decode cX1_init 4 = .ok (.aload_n 0, 1) := by decide +kernel
theorem dX1_init_5 : decode cX1_init 5 = .ok (.sipush 552, 3) := by decide +kernel
theorem dX1_init_8 : decode cX1_init 8 = .ok (.newarray .int, 2) := by decide +kernel
theorem dX1_init_10 : decode cX1_init 10 = .ok (.putfield 11, 3) := by decide +kernel
theorem dX1_init_13 : decode cX1_init 13 = .ok (.aload_n 0, 1) := by decide +kernel
theorem dX1_init_14 : decode cX1_init 14 = .ok (.iconst 0, 1) := by decide +kernel
theorem dX1_init_15 : decode cX1_init 15 = .ok (.putfield 15, 3) := by decide +kernel
theorem dX1_init_18 : decode cX1_init 18 = .ok (.aload_n 0, 1) := by decide +kernel
theorem dX1_init_19 : decode cX1_init 19 = .ok (.iconst 0, 1) := by decide +kernel
theorem dX1_init_20 : decode cX1_init 20 = .ok (.putfield 19, 3) := by decide +kernel
theorem dX1_init_23 : decode cX1_init 23 = .ok (.return_, 1) := by decide +kernel
theorem dX2_init_0 : decode cX2_init 0 = .ok (.aload_n 0, 1) := by decide +kernel
theorem dX2_init_1 : decode cX2_init 1 = .ok (.invokespecial 3, 3) := by decide +kernel
theorem dX2_init_4 : decode cX2_init 4 = .ok (.aload_n 0, 1) := by decide +kernel
theorem dX2_init_5 : decode cX2_init 5 = .ok (.bipush 8, 2) := by decide +kernel
theorem dX2_init_7 : decode cX2_init 7 = .ok (.newarray .int, 2) := by decide +kernel
theorem dX2_init_9 : decode cX2_init 9 = .ok (.dup, 1) := by decide +kernel
theorem dX2_init_10 : decode cX2_init 10 = .ok (.iconst 0, 1) := by decide +kernel
theorem dX2_init_11 : decode cX2_init 11 = .ok (.iconst (-1), 1) := by decide +kernel
theorem dX2_init_12 : decode cX2_init 12 = .ok (.iastore, 1) := by decide +kernel
theorem dX2_init_13 : decode cX2_init 13 = .ok (.dup, 1) := by decide +kernel
theorem dX2_init_14 : decode cX2_init 14 = .ok (.iconst 1, 1) := by decide +kernel
theorem dX2_init_15 : decode cX2_init 15 = .ok (.iconst (-1), 1) := by decide +kernel
theorem dX2_init_16 : decode cX2_init 16 = .ok (.iastore, 1) := by decide +kernel
theorem dX2_init_17 : decode cX2_init 17 = .ok (.dup, 1) := by decide +kernel
theorem dX2_init_18 : decode cX2_init 18 = .ok (.iconst 2, 1) := by decide +kernel
theorem dX2_init_19 : decode cX2_init 19 = .ok (.iconst (-1), 1) := by decide +kernel
theorem dX2_init_20 : decode cX2_init 20 = .ok (.iastore, 1) := by decide +kernel
theorem dX2_init_21 : decode cX2_init 21 = .ok (.dup, 1) := by decide +kernel
theorem dX2_init_22 : decode cX2_init 22 = .ok (.iconst 3, 1) := by decide +kernel
theorem dX2_init_23 : decode cX2_init 23 = .ok (.iconst (-1), 1) := by decide +kernel
theorem dX2_init_24 : decode cX2_init 24 = .ok (.iastore, 1) := by decide +kernel
theorem dX2_init_25 : decode cX2_init 25 = .ok (.dup, 1) := by decide +kernel
theorem dX2_init_26 : decode cX2_init 26 = .ok (.iconst 4, 1) := by decide +kernel
theorem dX2_init_27 : decode cX2_init 27 = .ok (.iconst (-1), 1) := by decide +kernel
theorem dX2_init_28 : decode cX2_init 28 = .ok (.iastore, 1) := by decide +kernel
theorem dX2_init_29 : decode cX2_init 29 = .ok (.dup, 1) := by decide +kernel
theorem dX2_init_30 : decode cX2_init 30 = .ok (.iconst 5, 1) := by decide +kernel
theorem dX2_init_31 : decode cX2_init 31 = .ok (.iconst (-1), 1) := by decide +kernel
theorem dX2_init_32 : decode cX2_init 32 = .ok (.iastore, 1) := by decide +kernel
theorem dX2_init_33 : decode cX2_init 33 = .ok (.dup, 1) := by decide +kernel
theorem dX2_init_34 : decode cX2_init 34 = .ok (.bipush 6, 2) := by decide +kernel
theorem dX2_init_36 : decode cX2_init 36 = .ok (.iconst (-1), 1) := by decide +kernel
theorem dX2_init_37 : decode cX2_init 37 = .ok (.iastore, 1) := by decide +kernel
theorem dX2_init_38 : decode cX2_init 38 = .ok (.dup, 1) := by decide +kernel
theorem dX2_init_39 : decode cX2_init 39 = .ok (.bipush 7, 2) := by decide +kernel
theorem dX2_init_41 : decode cX2_init 41 = .ok (.iconst (-1), 1) := by decide +kernel
theorem dX2_init_42 : decode cX2_init 42 = .ok (.iastore, 1) := by decide +kernel
theorem dX2_init_43 : decode cX2_init 43 = .ok (.putfield 11, 3) := by decide +kernel
theorem dX2_init_46 : decode cX2_init 46 = .ok (.aload_n 0, 1) := by decide +kernel
theorem dX2_init_47 : decode cX2_init 47 = .ok (.bipush 8, 2) := by decide +kernel
theorem dX2_init_49 : decode cX2_init 49 = .ok (.newarray .int, 2) := by decide +kernel
theorem dX2_init_51 : decode cX2_init 51 = .ok (.putfield 15, 3) := by decide +kernel
theorem dX2_init_54 : decode cX2_init 54 = .ok (.aload_n 0, 1) := by decide +kernel
theorem dX2_init_55 : decode cX2_init 55 = .ok (.sipush 320, 3) := by decide +kernel
theorem dX2_init_58 : decode cX2_init 58 = .ok (.newarray .int, 2) := by decide +kernel
theorem dX2_init_60 : decode cX2_init 60 = .ok (.putfield 18, 3) := by decide +kernel
theorem dX2_init_63 : decode cX2_init 63 = .ok (.return_, 1) := by decide +kernel
theorem dX2_isMissing_0 : decode cX2_isMissing 0 = .ok (.aload_n 0, 1) := by decide +kernel
theorem dX2_isMissing_1 : decode cX2_isMissing 1 = .ok (.getfield 11, 3) := by decide +kernel
theorem dX2_isMissing_4 : decode cX2_isMissing 4 = .ok (.iload_n 1, 1) := by decide +kernel
theorem dX2_isMissing_5 : decode cX2_isMissing 5 = .ok (.iaload, 1) := by decide +kernel
theorem dX2_isMissing_6 : decode cX2_isMissing 6 = .ok (.iconst (-1), 1) := by decide +kernel
theorem dX2_isMissing_7 : decode cX2_isMissing 7 = .ok (.if_icmp .ne 7, 3) := by decide +kernel
theorem dX2_isMissing_10 : decode cX2_isMissing 10 = .ok (.iconst 1, 1) := by decide +kernel
theorem dX2_isMissing_11 : decode cX2_isMissing 11 = .ok (.goto 4, 3) := by decide +kernel
theorem dX2_isMissing_14 : decode cX2_isMissing 14 = .ok (.iconst 0, 1) := by decide +kernel
theorem dX2_isMissing_15 : decode cX2_isMissing 15 = .ok (.ireturn, 1) := by decide +kernel
theorem dX2_at_0 : decode cX2_at 0 = .ok (.iload_n 1, 1) := by decide +kernel
theorem dX2_at_1 : decode cX2_at 1 = .ok (.bipush 40, 2) := by decide +kernel
theorem dX2_at_3 : decode cX2_at 3 = .ok (.imul, 1) := by decide +kernel
theorem dX2_at_4 : decode cX2_at 4 = .ok (.iload_n 2, 1) := by decide +kernel
theorem dX2_at_5 : decode cX2_at 5 = .ok (.iadd, 1) := by decide +kernel
theorem dX2_at_6 : decode cX2_at 6 = .ok (.ireturn, 1) := by decide +kernel
set_option maxRecDepth 20000 in
theorem ggX2_lay_X2_at : GoodIn wsX2_lay wsX2_at := goodIn_r _ [8] (by decide +kernel) (by decide +kernel)
set_option maxRecDepth 20000 in
theorem gX2_lay_X2_at : GoodIn wsX2_lay (wsV RX2 21 RX2 yX2_at wsX2_at) := goodIn_app (goodIn_of _ (by decide +kernel)) ggX2_lay_X2_at
theorem dX2_lay_0 : decode cX2_lay 0 = .ok (.aload_n 0, 1) := by decide +kernel
theorem dX2_lay_1 : decode cX2_lay 1 = .ok (.getfield 11, 3) := by decide +kernel
theorem dX2_lay_4 : decode cX2_lay 4 = .ok (.iload_n 1, 1) := by decide +kernel
theorem dX2_lay_5 : decode cX2_lay 5 = .ok (.iload_n 2, 1) := by decide +kernel
theorem dX2_lay_6 : decode cX2_lay 6 = .ok (.iastore, 1) := by decide +kernel
theorem dX2_lay_7 : decode cX2_lay 7 = .ok (.aload_n 0, 1) := by decide +kernel
theorem dX2_lay_8 : decode cX2_lay 8 = .ok (.getfield 15, 3) := by decide +kernel
theorem dX2_lay_11 : decode cX2_lay 11 = .ok (.iload_n 1, 1) := by decide +kernel
theorem dX2_lay_12 : decode cX2_lay 12 = .ok (.iload_n 3, 1) := by decide +kernel
theorem dX2_lay_13 : decode cX2_lay 13 = .ok (.iastore, 1) := by decide +kernel
theorem dX2_lay_14 : decode cX2_lay 14 = .ok (.iconst 0, 1) := by decide +kernel
theorem dX2_lay_15 : decode cX2_lay 15 = .ok (.istore 4, 2) := by decide +kernel
theorem dX2_lay_17 : decode cX2_lay 17 = .ok (.iload 4, 2) := by decide +kernel
theorem dX2_lay_19 : decode cX2_lay 19 = .ok (.bipush 40, 2) := by decide +kernel
theorem dX2_lay_21 : decode cX2_lay 21 = .ok (.if_icmp .ge 22, 3) := by decide +kernel
theorem dX2_lay_24 : decode cX2_lay 24 = .ok (.aload_n 0, 1) := by decide +kernel
theorem dX2_lay_25 : decode cX2_lay 25 = .ok (.getfield 18, 3) := by decide +kernel
theorem dX2_lay_28 : decode cX2_lay 28 = .ok (.aload_n 0, 1) := by decide +kernel
theorem dX2_lay_29 : decode cX2_lay 29 = .ok (.iload_n 1, 1) := by decide +kernel
theorem dX2_lay_30 : decode cX2_lay 30 = .ok (.iload 4, 2) := by decide +kernel
theorem dX2_lay_32 : decode cX2_lay 32 = .ok (.invokevirtual 21, 3) := by decide +kernel
theorem dX2_lay_35 : decode cX2_lay 35 = .ok (.iconst 0, 1) := by decide +kernel
theorem dX2_lay_36 : decode cX2_lay 36 = .ok (.iastore, 1) := by decide +kernel
theorem dX2_lay_37 : decode cX2_lay 37 = .ok (.iinc 4 1, 3) := by decide +kernel
theorem dX2_lay_40 : decode cX2_lay 40 = .ok (.goto (-23), 3) := by decide +kernel
theorem dX2_lay_43 : decode cX2_lay 43 = .ok (.return_, 1) := by decide +kernel
set_option maxRecDepth 20000 in
theorem ggX2_present_X2_isMissing : GoodIn wsX2_present wsX2_isMissing := goodIn_r _ [5, 6, 7, 8, 9] (by decide +kernel) (by decide +kernel)
set_option maxRecDepth 20000 in
theorem gX2_present_X2_isMissing : GoodIn wsX2_present (wsV RX2 25 RX2 yX2_isMissing wsX2_isMissing) := goodIn_app (goodIn_of _ (by decide +kernel)) ggX2_present_X2_isMissing
theorem dX2_present_0 : decode cX2_present 0 = .ok (.iconst 0, 1) := by decide +kernel
theorem dX2_present_1 : decode cX2_present 1 = .ok (.istore_n 1, 1) := by decide +kernel
theorem dX2_present_2 : decode cX2_present 2 = .ok (.iconst 0, 1) := by decide +kernel
theorem dX2_present_3 : decode cX2_present 3 = .ok (.istore_n 2, 1) := by decide +kernel
theorem dX2_present_4 : decode cX2_present 4 = .ok (.iload_n 2, 1) := by decide +kernel
theorem dX2_present_5 : decode cX2_present 5 = .ok (.bipush 8, 2) := by decide +kernel
theorem dX2_present_7 : decode cX2_present 7 = .ok (.if_icmp .ge 20, 3) := by decide +kernel
theorem dX2_present_10 : decode cX2_present 10 = .ok (.aload_n 0, 1) := by decide +kernel
theorem dX2_present_11 : decode cX2_present 11 = .ok (.iload_n 2, 1) := by decide +kernel
theorem dX2_present_12 : decode cX2_present 12 = .ok (.invokevirtual 25, 3) := by decide +kernel
theorem dX2_present_15 : decode cX2_present 15 = .ok (.ifCond .ne 6, 3) := by decide +kernel
theorem dX2_present_18 : decode cX2_present 18 = .ok (.iinc 1 1, 3) := by decide +kernel
theorem dX2_present_21 : decode cX2_present 21 = .ok (.iinc 2 1, 3) := by decide +kernel
theorem dX2_present_24 : decode cX2_present 24 = .ok (.goto (-20), 3) := by decide +kernel
theorem dX2_present_27 : decode cX2_present 27 = .ok (.iload_n 1, 1) := by decide +kernel
theorem dX2_present_28 : decode cX2_present 28 = .ok (.ireturn, 1) := by decide +kernel
set_option maxRecDepth 20000 in
theorem ggX2_reach_X2_isMissing : GoodIn wsX2_reach wsX2_isMissing := goodIn_r _ [6, 7, 8, 9, 10] (by decide +kernel) (by decide +kernel)
set_option maxRecDepth 20000 in
theorem gX2_reach_X2_isMissing : GoodIn wsX2_reach (wsV RX2 25 RX2 yX2_isMissing wsX2_isMissing) := goodIn_app (goodIn_of _ (by decide +kernel)) ggX2_reach_X2_isMissing
theorem dX2_reach_0 : decode cX2_reach 0 = .ok (.aload_n 0, 1) := by decide +kernel
theorem dX2_reach_1 : decode cX2_reach 1 = .ok (.iload_n 1, 1) := by decide +kernel
theorem dX2_reach_2 : decode cX2_reach 2 = .ok (.invokevirtual 25, 3) := by decide +kernel
theorem dX2_reach_5 : decode cX2_reach 5 = .ok (.ifCond .eq 5, 3) := by decide +kernel
theorem dX2_reach_8 : decode cX2_reach 8 = .ok (.iconst 1, 1) := by decide +kernel
theorem dX2_reach_9 : decode cX2_reach 9 = .ok (.ireturn, 1) := by decide +kernel
theorem dX2_reach_10 : decode cX2_reach 10 = .ok (.iload_n 2, 1) := by decide +kernel
theorem dX2_reach_11 : decode cX2_reach 11 = .ok (.ifCond .lt 29, 3) := by decide +kernel
theorem dX2_reach_14 : decode cX2_reach 14 = .ok (.iload_n 3, 1) := by decide +kernel
theorem dX2_reach_15 : decode cX2_reach 15 = .ok (.ifCond .lt 25, 3) := by decide +kernel
theorem dX2_reach_18 : decode cX2_reach 18 = .ok (.iload_n 3, 1) := by decide +kernel
theorem dX2_reach_19 : decode cX2_reach 19 = .ok (.aload_n 0, 1) := by decide +kernel
theorem dX2_reach_20 : decode cX2_reach 20 = .ok (.getfield 15, 3) := by decide +kernel
theorem dX2_reach_23 : decode cX2_reach 23 = .ok (.iload_n 1, 1) := by decide +kernel
theorem dX2_reach_24 : decode cX2_reach 24 = .ok (.iaload, 1) := by decide +kernel
theorem dX2_reach_25 : decode cX2_reach 25 = .ok (.if_icmp .gt 15, 3) := by decide +kernel
theorem dX2_reach_28 : decode cX2_reach 28 = .ok (.iload_n 2, 1) := by decide +kernel
theorem dX2_reach_29 : decode cX2_reach 29 = .ok (.aload_n 0, 1) := by decide +kernel
theorem dX2_reach_30 : decode cX2_reach 30 = .ok (.getfield 15, 3) := by decide +kernel
theorem dX2_reach_33 : decode cX2_reach 33 = .ok (.iload_n 1, 1) := by decide +kernel
theorem dX2_reach_34 : decode cX2_reach 34 = .ok (.iaload, 1) := by decide +kernel
theorem dX2_reach_35 : decode cX2_reach 35 = .ok (.iload_n 3, 1) := by decide +kernel
theorem dX2_reach_36 : decode cX2_reach 36 = .ok (.isub, 1) := by decide +kernel
theorem dX2_reach_37 : decode cX2_reach 37 = .ok (.if_icmp .le 7, 3) := by decide +kernel
theorem dX2_reach_40 : decode cX2_reach 40 = .ok (.iconst 2, 1) := by decide +kernel
theorem dX2_reach_41 : decode cX2_reach 41 = .ok (.goto 4, 3) := by decide +kernel
theorem dX2_reach_44 : decode cX2_reach 44 = .ok (.iconst 0, 1) := by decide +kernel
theorem dX2_reach_45 : decode cX2_reach 45 = .ok (.ireturn, 1) := by decide +kernel
theorem dX3_init_0 : decode cX3_init 0 = .ok (.aload_n 0, 1) := by decide +kernel
theorem dX3_init_1 : decode cX3_init 1 = .ok (.invokespecial 3, 3) := by decide +kernel
theorem dX3_init_4 : decode cX3_init 4 = .ok (.aload_n 0, 1) := by decide +kernel
theorem dX3_init_5 : decode cX3_init 5 = .ok (.bipush 120, 2) := by decide +kernel
theorem dX3_init_7 : decode cX3_init 7 = .ok (.newarray .int, 2) := by decide +kernel
theorem dX3_init_9 : decode cX3_init 9 = .ok (.putfield 11, 3) := by decide +kernel
theorem dX3_init_12 : decode cX3_init 12 = .ok (.aload_n 0, 1) := by decide +kernel
theorem dX3_init_13 : decode cX3_init 13 = .ok (.iconst 0, 1) := by decide +kernel
theorem dX3_init_14 : decode cX3_init 14 = .ok (.putfield 15, 3) := by decide +kernel
theorem dX3_init_17 : decode cX3_init 17 = .ok (.aload_n 0, 1) := by decide +kernel
theorem dX3_init_18 : decode cX3_init 18 = .ok (.iconst 0, 1) := by decide +kernel
theorem dX3_init_19 : decode cX3_init 19 = .ok (.putfield 19, 3) := by decide +kernel
theorem dX3_init_22 : decode cX3_init 22 = .ok (.aload_n 0, 1) := by decide +kernel
theorem dX3_init_23 : decode cX3_init 23 = .ok (.iconst 0, 1) := by decide +kernel
theorem dX3_init_24 : decode cX3_init 24 = .ok (.putfield 22, 3) := by decide +kernel
theorem dX3_init_27 : decode cX3_init 27 = .ok (.aload_n 0, 1) := by decide +kernel
theorem dX3_init_28 : decode cX3_init 28 = .ok (.iconst 0, 1) := by decide +kernel
theorem dX3_init_29 : decode cX3_init 29 = .ok (.putfield 25, 3) := by decide +kernel
theorem dX3_init_32 : decode cX3_init 32 = .ok (.return_, 1) := by decide +kernel
set_option maxRecDepth 20000 in
theorem ggX3_tell_X3_tellLaw : GoodIn wsX3_tell wsX3_tellLaw := goodIn_r _ [9, 10, 11, 12, 13, 14, 8, 15, 1, 16, 17, 18, 19, 20, 21, 22, 23, 24, 25, 26, 27, 28, 29, 30, 31, 32, 33, 34, 66, 67, 68, 69, 70, 71, 72, 73, 74, 75, 76, 77, 61, 62, 63, 64, 65] (by decide +kernel) (by decide +kernel)
set_option maxRecDepth 20000 in
theorem gX3_tell_X3_tellLaw : GoodIn wsX3_tell (wsV RX3 39 RX3 yX3_tellLaw wsX3_tellLaw) := goodIn_app (goodIn_of _ (by decide +kernel)) ggX3_tell_X3_tellLaw
theorem dX3_tell_0 : decode cX3_tell 0 = .ok (.aload_n 0, 1) := by decide +kernel
theorem dX3_tell_1 : decode cX3_tell 1 = .ok (.iconst 0, 1) := by decide +kernel
theorem dX3_tell_2 : decode cX3_tell 2 = .ok (.putfield 25, 3) := by decide +kernel
theorem dX3_tell_5 : decode cX3_tell 5 = .ok (.aload_n 1, 1) := by decide +kernel
theorem dX3_tell_6 : decode cX3_tell 6 = .ok (.iconst 0, 1) := by decide +kernel
theorem dX3_tell_7 : decode cX3_tell 7 = .ok (.putfield 28, 3) := by decide +kernel
theorem dX3_tell_10 : decode cX3_tell 10 = .ok (.aload_n 1, 1) := by decide +kernel
theorem dX3_tell_11 : decode cX3_tell 11 = .ok (.iconst 0, 1) := by decide +kernel
theorem dX3_tell_12 : decode cX3_tell 12 = .ok (.putfield 33, 3) := by decide +kernel
theorem dX3_tell_15 : decode cX3_tell 15 = .ok (.aload_n 1, 1) := by decide +kernel
theorem dX3_tell_16 : decode cX3_tell 16 = .ok (.iconst 0, 1) := by decide +kernel
theorem dX3_tell_17 : decode cX3_tell 17 = .ok (.putfield 36, 3) := by decide +kernel
theorem dX3_tell_20 : decode cX3_tell 20 = .ok (.aload_n 0, 1) := by decide +kernel
theorem dX3_tell_21 : decode cX3_tell 21 = .ok (.aload_n 1, 1) := by decide +kernel
theorem dX3_tell_22 : decode cX3_tell 22 = .ok (.invokevirtual 39, 3) := by decide +kernel
theorem dX3_tell_25 : decode cX3_tell 25 = .ok (.ifCond .eq 23, 3) := by decide +kernel
theorem dX3_tell_28 : decode cX3_tell 28 = .ok (.aload_n 0, 1) := by decide +kernel
theorem dX3_tell_29 : decode cX3_tell 29 = .ok (.aload_n 1, 1) := by decide +kernel
theorem dX3_tell_30 : decode cX3_tell 30 = .ok (.invokevirtual 43, 3) := by decide +kernel
theorem dX3_tell_33 : decode cX3_tell 33 = .ok (.ifCond .eq 15, 3) := by decide +kernel
theorem dX3_tell_36 : decode cX3_tell 36 = .ok (.aload_n 0, 1) := by decide +kernel
theorem dX3_tell_37 : decode cX3_tell 37 = .ok (.aload_n 1, 1) := by decide +kernel
theorem dX3_tell_38 : decode cX3_tell 38 = .ok (.invokevirtual 46, 3) := by decide +kernel
theorem dX3_tell_41 : decode cX3_tell 41 = .ok (.ifCond .eq 7, 3) := by decide +kernel
theorem dX3_tell_44 : decode cX3_tell 44 = .ok (.iconst 1, 1) := by decide +kernel
theorem dX3_tell_45 : decode cX3_tell 45 = .ok (.goto 4, 3) := by decide +kernel
theorem dX3_tell_48 : decode cX3_tell 48 = .ok (.iconst 0, 1) := by decide +kernel
theorem dX3_tell_49 : decode cX3_tell 49 = .ok (.ireturn, 1) := by decide +kernel
set_option maxRecDepth 20000 in
theorem ggX3_tellLaw_X3_pass : GoodIn wsX3_tellLaw wsX3_pass := goodIn_r _ [7, 8, 9, 10, 11, 6, 12, 13, 14, 15, 16, 17, 18, 19, 20, 40, 41, 42, 43, 44] (by decide +kernel) (by decide +kernel)
set_option maxRecDepth 20000 in
theorem gX3_tellLaw_X3_pass : GoodIn wsX3_tellLaw (wsV RX3 49 RX3 yX3_pass wsX3_pass) := goodIn_app (goodIn_of _ (by decide +kernel)) ggX3_tellLaw_X3_pass
theorem dX3_tellLaw_0 : decode cX3_tellLaw 0 = .ok (.aload_n 0, 1) := by decide +kernel
theorem dX3_tellLaw_1 : decode cX3_tellLaw 1 = .ok (.bipush 104, 2) := by decide +kernel
theorem dX3_tellLaw_3 : decode cX3_tellLaw 3 = .ok (.invokevirtual 49, 3) := by decide +kernel
theorem dX3_tellLaw_6 : decode cX3_tellLaw 6 = .ok (.ifCond .ne 5, 3) := by decide +kernel
theorem dX3_tellLaw_9 : decode cX3_tellLaw 9 = .ok (.iconst 0, 1) := by decide +kernel
theorem dX3_tellLaw_10 : decode cX3_tellLaw 10 = .ok (.ireturn, 1) := by decide +kernel
theorem dX3_tellLaw_11 : decode cX3_tellLaw 11 = .ok (.aload_n 1, 1) := by decide +kernel
theorem dX3_tellLaw_12 : decode cX3_tellLaw 12 = .ok (.aload_n 0, 1) := by decide +kernel
theorem dX3_tellLaw_13 : decode cX3_tellLaw 13 = .ok (.iconst 0, 1) := by decide +kernel
theorem dX3_tellLaw_14 : decode cX3_tellLaw 14 = .ok (.bipush 9, 2) := by decide +kernel
theorem dX3_tellLaw_16 : decode cX3_tellLaw 16 = .ok (.invokevirtual 53, 3) := by decide +kernel
theorem dX3_tellLaw_19 : decode cX3_tellLaw 19 = .ok (.putfield 57, 3) := by decide +kernel
theorem dX3_tellLaw_22 : decode cX3_tellLaw 22 = .ok (.aload_n 1, 1) := by decide +kernel
theorem dX3_tellLaw_23 : decode cX3_tellLaw 23 = .ok (.getfield 57, 3) := by decide +kernel
theorem dX3_tellLaw_26 : decode cX3_tellLaw 26 = .ok (.ifCond .lt 12, 3) := by decide +kernel
theorem dX3_tellLaw_29 : decode cX3_tellLaw 29 = .ok (.aload_n 0, 1) := by decide +kernel
theorem dX3_tellLaw_30 : decode cX3_tellLaw 30 = .ok (.bipush 44, 2) := by decide +kernel
theorem dX3_tellLaw_32 : decode cX3_tellLaw 32 = .ok (.invokevirtual 49, 3) := by decide +kernel
theorem dX3_tellLaw_35 : decode cX3_tellLaw 35 = .ok (.ifCond .ne 5, 3) := by decide +kernel
theorem dX3_tellLaw_38 : decode cX3_tellLaw 38 = .ok (.iconst 0, 1) := by decide +kernel
theorem dX3_tellLaw_39 : decode cX3_tellLaw 39 = .ok (.ireturn, 1) := by decide +kernel
theorem dX3_tellLaw_40 : decode cX3_tellLaw 40 = .ok (.aload_n 1, 1) := by decide +kernel
theorem dX3_tellLaw_41 : decode cX3_tellLaw 41 = .ok (.aload_n 0, 1) := by decide +kernel
theorem dX3_tellLaw_42 : decode cX3_tellLaw 42 = .ok (.iconst 0, 1) := by decide +kernel
theorem dX3_tellLaw_43 : decode cX3_tellLaw 43 = .ok (.bipush 60, 2) := by decide +kernel
theorem dX3_tellLaw_45 : decode cX3_tellLaw 45 = .ok (.invokevirtual 53, 3) := by decide +kernel
theorem dX3_tellLaw_48 : decode cX3_tellLaw 48 = .ok (.putfield 60, 3) := by decide +kernel
theorem dX3_tellLaw_51 : decode cX3_tellLaw 51 = .ok (.aload_n 1, 1) := by decide +kernel
theorem dX3_tellLaw_52 : decode cX3_tellLaw 52 = .ok (.getfield 60, 3) := by decide +kernel
theorem dX3_tellLaw_55 : decode cX3_tellLaw 55 = .ok (.ifCond .lt 16, 3) := by decide +kernel
theorem dX3_tellLaw_58 : decode cX3_tellLaw 58 = .ok (.aload_n 0, 1) := by decide +kernel
theorem dX3_tellLaw_59 : decode cX3_tellLaw 59 = .ok (.bipush 59, 2) := by decide +kernel
theorem dX3_tellLaw_61 : decode cX3_tellLaw 61 = .ok (.invokevirtual 49, 3) := by decide +kernel
theorem dX3_tellLaw_64 : decode cX3_tellLaw 64 = .ok (.ifCond .eq 7, 3) := by decide +kernel
theorem dX3_tellLaw_67 : decode cX3_tellLaw 67 = .ok (.iconst 1, 1) := by decide +kernel
theorem dX3_tellLaw_68 : decode cX3_tellLaw 68 = .ok (.goto 4, 3) := by decide +kernel
theorem dX3_tellLaw_71 : decode cX3_tellLaw 71 = .ok (.iconst 0, 1) := by decide +kernel
theorem dX3_tellLaw_72 : decode cX3_tellLaw 72 = .ok (.ireturn, 1) := by decide +kernel
theorem dX3_fail_0 : decode cX3_fail 0 = .ok (.aload_n 0, 1) := by decide +kernel
theorem dX3_fail_1 : decode cX3_fail 1 = .ok (.iload_n 1, 1) := by decide +kernel
theorem dX3_fail_2 : decode cX3_fail 2 = .ok (.putfield 19, 3) := by decide +kernel
theorem dX3_fail_5 : decode cX3_fail 5 = .ok (.aload_n 0, 1) := by decide +kernel
theorem dX3_fail_6 : decode cX3_fail 6 = .ok (.aload_n 0, 1) := by decide +kernel
theorem dX3_fail_7 : decode cX3_fail 7 = .ok (.getfield 25, 3) := by decide +kernel
theorem dX3_fail_10 : decode cX3_fail 10 = .ok (.putfield 22, 3) := by decide +kernel
theorem dX3_fail_13 : decode cX3_fail 13 = .ok (.iconst 0, 1) := by decide +kernel
theorem dX3_fail_14 : decode cX3_fail 14 = .ok (.ireturn, 1) := by decide +kernel
theorem dX3_peek_0 : decode cX3_peek 0 = .ok (.aload_n 0, 1) := by decide +kernel
theorem dX3_peek_1 : decode cX3_peek 1 = .ok (.getfield 25, 3) := by decide +kernel
theorem dX3_peek_4 : decode cX3_peek 4 = .ok (.aload_n 0, 1) := by decide +kernel
theorem dX3_peek_5 : decode cX3_peek 5 = .ok (.getfield 15, 3) := by decide +kernel
theorem dX3_peek_8 : decode cX3_peek 8 = .ok (.if_icmp .ge 24, 3) := by decide +kernel
theorem dX3_peek_11 : decode cX3_peek 11 = .ok (.aload_n 0, 1) := by decide +kernel
theorem dX3_peek_12 : decode cX3_peek 12 = .ok (.getfield 25, 3) := by decide +kernel
theorem dX3_peek_15 : decode cX3_peek 15 = .ok (.bipush 120, 2) := by decide +kernel
theorem dX3_peek_17 : decode cX3_peek 17 = .ok (.if_icmp .ge 15, 3) := by decide +kernel
theorem dX3_peek_20 : decode cX3_peek 20 = .ok (.aload_n 0, 1) := by decide +kernel
theorem dX3_peek_21 : decode cX3_peek 21 = .ok (.getfield 11, 3) := by decide +kernel
theorem dX3_peek_24 : decode cX3_peek 24 = .ok (.aload_n 0, 1) := by decide +kernel
theorem dX3_peek_25 : decode cX3_peek 25 = .ok (.getfield 25, 3) := by decide +kernel
theorem dX3_peek_28 : decode cX3_peek 28 = .ok (.iaload, 1) := by decide +kernel
theorem dX3_peek_29 : decode cX3_peek 29 = .ok (.goto 4, 3) := by decide +kernel
theorem dX3_peek_32 : decode cX3_peek 32 = .ok (.iconst (-1), 1) := by decide +kernel
theorem dX3_peek_33 : decode cX3_peek 33 = .ok (.ireturn, 1) := by decide +kernel
set_option maxRecDepth 20000 in
theorem ggX3_pass_X3_peek : GoodIn wsX3_pass wsX3_peek := goodIn_r _ [6, 1, 7, 8, 15, 16, 17, 18, 19] (by decide +kernel) (by decide +kernel)
set_option maxRecDepth 20000 in
theorem gX3_pass_X3_peek : GoodIn wsX3_pass (wsV RX3 63 RX3 yX3_peek wsX3_peek) := goodIn_app (goodIn_of _ (by decide +kernel)) ggX3_pass_X3_peek
set_option maxRecDepth 20000 in
theorem ggX3_pass_X3_fail : GoodIn wsX3_pass wsX3_fail := goodIn_r _ [12, 13, 1, 14, 15, 16, 17, 18, 19] (by decide +kernel) (by decide +kernel)
set_option maxRecDepth 20000 in
theorem gX3_pass_X3_fail : GoodIn wsX3_pass (wsV RX3 67 RX3 yX3_fail wsX3_fail) := goodIn_app (goodIn_of _ (by decide +kernel)) ggX3_pass_X3_fail
theorem dX3_pass_0 : decode cX3_pass 0 = .ok (.aload_n 0, 1) := by decide +kernel
theorem dX3_pass_1 : decode cX3_pass 1 = .ok (.invokevirtual 63, 3) := by decide +kernel
theorem dX3_pass_4 : decode cX3_pass 4 = .ok (.iload_n 1, 1) := by decide +kernel
theorem dX3_pass_5 : decode cX3_pass 5 = .ok (.if_icmp .eq 9, 3) := by decide +kernel
theorem dX3_pass_8 : decode cX3_pass 8 = .ok (.aload_n 0, 1) := by decide +kernel
theorem dX3_pass_9 : decode cX3_pass 9 = .ok (.iconst 1, 1) := by decide +kernel
theorem dX3_pass_10 : decode cX3_pass 10 = .ok (.invokevirtual 67, 3) := by decide +kernel
theorem dX3_pass_13 : decode cX3_pass 13 = .ok (.ireturn, 1) := by decide +kernel
theorem dX3_pass_14 : decode cX3_pass 14 = .ok (.aload_n 0, 1) := by decide +kernel
theorem dX3_pass_15 : decode cX3_pass 15 = .ok (.dup, 1) := by decide +kernel
theorem dX3_pass_16 : decode cX3_pass 16 = .ok (.getfield 25, 3) := by decide +kernel
theorem dX3_pass_19 : decode cX3_pass 19 = .ok (.iconst 1, 1) := by decide +kernel
theorem dX3_pass_20 : decode cX3_pass 20 = .ok (.iadd, 1) := by decide +kernel
theorem dX3_pass_21 : decode cX3_pass 21 = .ok (.putfield 25, 3) := by decide +kernel
theorem dX3_pass_24 : decode cX3_pass 24 = .ok (.iconst 1, 1) := by decide +kernel
theorem dX3_pass_25 : decode cX3_pass 25 = .ok (.ireturn, 1) := by decide +kernel
theorem dX4_init_0 : decode cX4_init 0 = .ok (.aload_n 0, 1) := by decide +kernel
theorem dX4_init_1 : decode cX4_init 1 = .ok (.invokespecial 1, 3) := by decide +kernel
theorem dX4_init_4 : decode cX4_init 4 = .ok (.aload_n 0, 1) := by decide +kernel
theorem dX4_init_5 : decode cX4_init 5 = .ok (.bipush 16, 2) := by decide +kernel
theorem dX4_init_7 : decode cX4_init 7 = .ok (.newarray .int, 2) := by decide +kernel
theorem dX4_init_9 : decode cX4_init 9 = .ok (.putfield 9, 3) := by decide +kernel
theorem dX4_init_12 : decode cX4_init 12 = .ok (.aload_n 0, 1) := by decide +kernel
theorem dX4_init_13 : decode cX4_init 13 = .ok (.iconst 0, 1) := by decide +kernel
theorem dX4_init_14 : decode cX4_init 14 = .ok (.putfield 13, 3) := by decide +kernel
theorem dX4_init_17 : decode cX4_init 17 = .ok (.return_, 1) := by decide +kernel
set_option maxRecDepth 20000 in
theorem ggX5_init_X2_init : GoodIn wsX5_init wsX2_init := goodIn_r _ [31, 32, 2, 3, 22, 33, 34, 35, 70, 71, 72] (by decide +kernel) (by decide +kernel)
set_option maxRecDepth 20000 in
theorem gX5_init_X2_init_n9 : GoodIn wsX5_init (wsX2_init) := ggX5_init_X2_init
set_option maxRecDepth 20000 in
theorem ggX5_init_X3_init : GoodIn wsX5_init wsX3_init := goodIn_r _ [37, 38, 2, 3, 22, 39, 40, 41, 42, 43, 83, 84, 85, 86, 87] (by decide +kernel) (by decide +kernel)
set_option maxRecDepth 20000 in
theorem gX5_init_X3_init_n18 : GoodIn wsX5_init (wsX3_init) := ggX5_init_X3_init
set_option maxRecDepth 20000 in
theorem ggX5_init_X0_init : GoodIn wsX5_init wsX0_init := goodIn_r _ [45, 46, 2, 3, 47, 48, 49, 50, 51, 22, 52, 53, 54, 55, 56, 57, 58, 88, 89, 90, 91, 92, 93, 94, 95, 96, 97, 98, 99] (by decide +kernel) (by decide +kernel)
set_option maxRecDepth 20000 in
theorem gX5_init_X0_init_n25 : GoodIn wsX5_init (wsX0_init) := ggX5_init_X0_init
set_option maxRecDepth 20000 in
theorem ggX5_init_X1_init : GoodIn wsX5_init wsX1_init := goodIn_r _ [60, 61, 2, 3, 22, 62, 63, 64, 100, 101, 102] (by decide +kernel) (by decide +kernel)
set_option maxRecDepth 20000 in
theorem gX5_init_X1_init_n39 : GoodIn wsX5_init (wsX1_init) := ggX5_init_X1_init
set_option maxRecDepth 20000 in
theorem ggX5_init_X4_init : GoodIn wsX5_init wsX4_init := goodIn_r _ [66, 67, 2, 3, 22, 68, 69, 103, 104] (by decide +kernel) (by decide +kernel)
set_option maxRecDepth 20000 in
theorem gX5_init_X4_init_n50 : GoodIn wsX5_init (wsX4_init) := ggX5_init_X4_init
theorem dX5_init_0 : decode cX5_init 0 = .ok (.aload_n 0, 1) := by decide +kernel
theorem dX5_init_1 : decode cX5_init 1 = .ok (.invokespecial 1, 3) := by decide +kernel
theorem dX5_init_4 : decode cX5_init 4 = .ok (.aload_n 0, 1) := by decide +kernel
theorem dX5_init_5 : decode cX5_init 5 = .ok (.new 7, 3) := by decide +kernel
theorem dX5_init_8 : decode cX5_init 8 = .ok (.dup, 1) := by decide +kernel
theorem dX5_init_9 : decode cX5_init 9 = .ok (.invokespecial 9, 3) := by decide +kernel
theorem dX5_init_12 : decode cX5_init 12 = .ok (.putfield 10, 3) := by decide +kernel
theorem dX5_init_15 : decode cX5_init 15 = .ok (.aload_n 0, 1) := by decide +kernel
theorem dX5_init_16 : decode cX5_init 16 = .ok (.new 16, 3) := by decide +kernel
theorem dX5_init_19 : decode cX5_init 19 = .ok (.dup, 1) := by decide +kernel
theorem dX5_init_20 : decode cX5_init 20 = .ok (.invokespecial 18, 3) := by decide +kernel
theorem dX5_init_23 : decode cX5_init 23 = .ok (.putfield 19, 3) := by decide +kernel
theorem dX5_init_26 : decode cX5_init 26 = .ok (.aload_n 0, 1) := by decide +kernel
theorem dX5_init_27 : decode cX5_init 27 = .ok (.new 23, 3) := by decide +kernel
theorem dX5_init_30 : decode cX5_init 30 = .ok (.dup, 1) := by decide +kernel
theorem dX5_init_31 : decode cX5_init 31 = .ok (.invokespecial 25, 3) := by decide +kernel
theorem dX5_init_34 : decode cX5_init 34 = .ok (.putfield 26, 3) := by decide +kernel
theorem dX5_init_37 : decode cX5_init 37 = .ok (.aload_n 0, 1) := by decide +kernel
theorem dX5_init_38 : decode cX5_init 38 = .ok (.new 23, 3) := by decide +kernel
theorem dX5_init_41 : decode cX5_init 41 = .ok (.dup, 1) := by decide +kernel
theorem dX5_init_42 : decode cX5_init 42 = .ok (.invokespecial 25, 3) := by decide +kernel
theorem dX5_init_45 : decode cX5_init 45 = .ok (.putfield 30, 3) := by decide +kernel
theorem dX5_init_48 : decode cX5_init 48 = .ok (.aload_n 0, 1) := by decide +kernel
theorem dX5_init_49 : decode cX5_init 49 = .ok (.iconst 2, 1) := by decide +kernel
theorem dX5_init_50 : decode cX5_init 50 = .ok (.anewarray 23, 3) := by decide +kernel
theorem dX5_init_53 : decode cX5_init 53 = .ok (.dup, 1) := by decide +kernel
theorem dX5_init_54 : decode cX5_init 54 = .ok (.iconst 0, 1) := by decide +kernel
theorem dX5_init_55 : decode cX5_init 55 = .ok (.new 23, 3) := by decide +kernel
theorem dX5_init_58 : decode cX5_init 58 = .ok (.dup, 1) := by decide +kernel
theorem dX5_init_59 : decode cX5_init 59 = .ok (.invokespecial 25, 3) := by decide +kernel
theorem dX5_init_62 : decode cX5_init 62 = .ok (.aastore, 1) := by decide +kernel
theorem dX5_init_63 : decode cX5_init 63 = .ok (.dup, 1) := by decide +kernel
theorem dX5_init_64 : decode cX5_init 64 = .ok (.iconst 1, 1) := by decide +kernel
theorem dX5_init_65 : decode cX5_init 65 = .ok (.new 23, 3) := by decide +kernel
theorem dX5_init_68 : decode cX5_init 68 = .ok (.dup, 1) := by decide +kernel
theorem dX5_init_69 : decode cX5_init 69 = .ok (.invokespecial 25, 3) := by decide +kernel
theorem dX5_init_72 : decode cX5_init 72 = .ok (.aastore, 1) := by decide +kernel
theorem dX5_init_73 : decode cX5_init 73 = .ok (.putfield 33, 3) := by decide +kernel
theorem dX5_init_76 : decode cX5_init 76 = .ok (.aload_n 0, 1) := by decide +kernel
theorem dX5_init_77 : decode cX5_init 77 = .ok (.new 37, 3) := by decide +kernel
theorem dX5_init_80 : decode cX5_init 80 = .ok (.dup, 1) := by decide +kernel
theorem dX5_init_81 : decode cX5_init 81 = .ok (.invokespecial 39, 3) := by decide +kernel
theorem dX5_init_84 : decode cX5_init 84 = .ok (.putfield 40, 3) := by decide +kernel
theorem dX5_init_87 : decode cX5_init 87 = .ok (.aload_n 0, 1) := by decide +kernel
theorem dX5_init_88 : decode cX5_init 88 = .ok (.iconst 3, 1) := by decide +kernel
theorem dX5_init_89 : decode cX5_init 89 = .ok (.newarray .int, 2) := by decide +kernel
theorem dX5_init_91 : decode cX5_init 91 = .ok (.putfield 44, 3) := by decide +kernel
theorem dX5_init_94 : decode cX5_init 94 = .ok (.aload_n 0, 1) := by decide +kernel
theorem dX5_init_95 : decode cX5_init 95 = .ok (.new 48, 3) := by decide +kernel
theorem dX5_init_98 : decode cX5_init 98 = .ok (.dup, 1) := by decide +kernel
theorem dX5_init_99 : decode cX5_init 99 = .ok (.invokespecial 50, 3) := by decide +kernel
theorem dX5_init_102 : decode cX5_init 102 = .ok (.putfield 51, 3) := by decide +kernel
theorem dX5_init_105 : decode cX5_init 105 = .ok (.aload_n 0, 1) := by decide +kernel
theorem dX5_init_106 : decode cX5_init 106 = .ok (.iconst 0, 1) := by decide +kernel
theorem dX5_init_107 : decode cX5_init 107 = .ok (.putfield 55, 3) := by decide +kernel
theorem dX5_init_110 : decode cX5_init 110 = .ok (.aload_n 0, 1) := by decide +kernel
theorem dX5_init_111 : decode cX5_init 111 = .ok (.iconst 0, 1) := by decide +kernel
theorem dX5_init_112 : decode cX5_init 112 = .ok (.putfield 59, 3) := by decide +kernel
theorem dX5_init_115 : decode cX5_init 115 = .ok (.return_, 1) := by decide +kernel
set_option maxRecDepth 20000 in
theorem ggX5_row_X5_isRow : GoodIn wsX5_row wsX5_isRow := goodIn_r _ [6, 7, 8, 5, 9] (by decide +kernel) (by decide +kernel)
set_option maxRecDepth 20000 in
theorem gX5_row_X5_isRow : GoodIn wsX5_row (va_wsS RX5 62 yX5_isRow wsX5_isRow) := goodIn_app (goodIn_of _ (by decide +kernel)) ggX5_row_X5_isRow
set_option maxRecDepth 20000 in
theorem ggX5_row_X5_within : GoodIn wsX5_row wsX5_within := goodIn_r _ [9] (by decide +kernel) (by decide +kernel)
set_option maxRecDepth 20000 in
theorem gX5_row_X5_within : GoodIn wsX5_row (va_wsS RX5 66 yX5_within wsX5_within) := goodIn_app (goodIn_of _ (by decide +kernel)) ggX5_row_X5_within
set_option maxRecDepth 20000 in
theorem ggX5_row_X5_found : GoodIn wsX5_row wsX5_found := goodIn_r _ [13, 14, 15, 32, 33, 34, 35, 36, 37, 38, 39, 40, 41] (by decide +kernel) (by decide +kernel)
set_option maxRecDepth 20000 in
theorem gX5_row_X5_found : GoodIn wsX5_row (wsV RX5 71 RX5 yX5_found wsX5_found) := goodIn_app (goodIn_of _ (by decide +kernel)) ggX5_row_X5_found
set_option maxRecDepth 20000 in
theorem ggX5_row_X2_lay : GoodIn wsX5_row wsX2_lay := goodIn_r _ [20, 21, 22, 23, 24, 25, 26, 19, 27, 42, 43, 44] (by decide +kernel) (by decide +kernel)
set_option maxRecDepth 20000 in
theorem gX5_row_X2_lay : GoodIn wsX5_row (wsV RX5 75 RX2 yX2_lay wsX2_lay) := goodIn_app (goodIn_of _ (by decide +kernel)) ggX5_row_X2_lay
set_option maxRecDepth 20000 in
theorem ggX5_row_X5_plain : GoodIn wsX5_row wsX5_plain := goodIn_r _ [31, 14, 32, 33, 34, 35, 36, 37, 38, 39, 40, 41] (by decide +kernel) (by decide +kernel)
set_option maxRecDepth 20000 in
theorem gX5_row_X5_plain : GoodIn wsX5_row (wsV RX5 79 RX5 yX5_plain wsX5_plain) := goodIn_app (goodIn_of _ (by decide +kernel)) ggX5_row_X5_plain
theorem dX5_row_0 : decode cX5_row 0 = .ok (.iload_n 1, 1) := by decide +kernel
theorem dX5_row_1 : decode cX5_row 1 = .ok (.invokestatic 62, 3) := by decide +kernel
theorem dX5_row_4 : decode cX5_row 4 = .ok (.ifCond .eq 18, 3) := by decide +kernel
theorem dX5_row_7 : decode cX5_row 7 = .ok (.iload_n 2, 1) := by decide +kernel
theorem dX5_row_8 : decode cX5_row 8 = .ok (.iconst 0, 1) := by decide +kernel
theorem dX5_row_9 : decode cX5_row 9 = .ok (.iconst 2, 1) := by decide +kernel
theorem dX5_row_10 : decode cX5_row 10 = .ok (.invokestatic 66, 3) := by decide +kernel
theorem dX5_row_13 : decode cX5_row 13 = .ok (.ifCond .eq 9, 3) := by decide +kernel
theorem dX5_row_16 : decode cX5_row 16 = .ok (.iload_n 3, 1) := by decide +kernel
theorem dX5_row_17 : decode cX5_row 17 = .ok (.bipush 40, 2) := by decide +kernel
theorem dX5_row_19 : decode cX5_row 19 = .ok (.if_icmp .le 6, 3) := by decide +kernel
theorem dX5_row_22 : decode cX5_row 22 = .ok (.ldc 70, 2) := by decide +kernel
theorem dX5_row_24 : decode cX5_row 24 = .ok (.ireturn, 1) := by decide +kernel
theorem dX5_row_25 : decode cX5_row 25 = .ok (.iload_n 3, 1) := by decide +kernel
theorem dX5_row_26 : decode cX5_row 26 = .ok (.ifCond .ge 9, 3) := by decide +kernel
theorem dX5_row_29 : decode cX5_row 29 = .ok (.aload_n 0, 1) := by decide +kernel
theorem dX5_row_30 : decode cX5_row 30 = .ok (.iconst 4, 1) := by decide +kernel
theorem dX5_row_31 : decode cX5_row 31 = .ok (.invokevirtual 71, 3) := by decide +kernel
theorem dX5_row_34 : decode cX5_row 34 = .ok (.ireturn, 1) := by decide +kernel
theorem dX5_row_35 : decode cX5_row 35 = .ok (.aload_n 0, 1) := by decide +kernel
theorem dX5_row_36 : decode cX5_row 36 = .ok (.getfield 10, 3) := by decide +kernel
theorem dX5_row_39 : decode cX5_row 39 = .ok (.iload_n 1, 1) := by decide +kernel
theorem dX5_row_40 : decode cX5_row 40 = .ok (.iload_n 2, 1) := by decide +kernel
theorem dX5_row_41 : decode cX5_row 41 = .ok (.iload_n 3, 1) := by decide +kernel
theorem dX5_row_42 : decode cX5_row 42 = .ok (.invokevirtual 75, 3) := by decide +kernel
theorem dX5_row_45 : decode cX5_row 45 = .ok (.aload_n 0, 1) := by decide +kernel
theorem dX5_row_46 : decode cX5_row 46 = .ok (.iload_n 3, 1) := by decide +kernel
theorem dX5_row_47 : decode cX5_row 47 = .ok (.invokevirtual 79, 3) := by decide +kernel
theorem dX5_row_50 : decode cX5_row 50 = .ok (.ireturn, 1) := by decide +kernel
set_option maxRecDepth 20000 in
theorem ggX5_set_X5_isRow : GoodIn wsX5_set wsX5_isRow := goodIn_r _ [6, 7, 8, 5, 9] (by decide +kernel) (by decide +kernel)
set_option maxRecDepth 20000 in
theorem gX5_set_X5_isRow : GoodIn wsX5_set (va_wsS RX5 62 yX5_isRow wsX5_isRow) := goodIn_app (goodIn_of _ (by decide +kernel)) ggX5_set_X5_isRow
set_option maxRecDepth 20000 in
theorem ggX5_set_X2_reach : GoodIn wsX5_set wsX2_reach := goodIn_r _ [14, 15, 16, 17, 18, 13, 19, 20, 50, 51, 52] (by decide +kernel) (by decide +kernel)
set_option maxRecDepth 20000 in
theorem gX5_set_X2_reach : GoodIn wsX5_set (wsV RX5 82 RX2 yX2_reach wsX2_reach) := goodIn_app (goodIn_of _ (by decide +kernel)) ggX5_set_X2_reach
set_option maxRecDepth 20000 in
theorem ggX5_set_X5_found : GoodIn wsX5_set wsX5_found := goodIn_r _ [24, 25, 26, 40, 41, 42, 43, 44, 45, 46, 47, 48, 49] (by decide +kernel) (by decide +kernel)
set_option maxRecDepth 20000 in
theorem gX5_set_X5_found : GoodIn wsX5_set (wsV RX5 71 RX5 yX5_found wsX5_found) := goodIn_app (goodIn_of _ (by decide +kernel)) ggX5_set_X5_found
set_option maxRecDepth 20000 in
theorem ggX5_set_X5_plain : GoodIn wsX5_set wsX5_plain := goodIn_r _ [39, 25, 40, 41, 42, 43, 44, 45, 46, 47, 48, 49] (by decide +kernel) (by decide +kernel)
set_option maxRecDepth 20000 in
theorem gX5_set_X5_plain : GoodIn wsX5_set (wsV RX5 79 RX5 yX5_plain wsX5_plain) := goodIn_app (goodIn_of _ (by decide +kernel)) ggX5_set_X5_plain
theorem dX5_set_0 : decode cX5_set 0 = .ok (.iload_n 1, 1) := by decide +kernel
theorem dX5_set_1 : decode cX5_set 1 = .ok (.invokestatic 62, 3) := by decide +kernel
theorem dX5_set_4 : decode cX5_set 4 = .ok (.ifCond .ne 6, 3) := by decide +kernel
theorem dX5_set_7 : decode cX5_set 7 = .ok (.ldc 70, 2) := by decide +kernel
theorem dX5_set_9 : decode cX5_set 9 = .ok (.ireturn, 1) := by decide +kernel
theorem dX5_set_10 : decode cX5_set 10 = .ok (.aload_n 0, 1) := by decide +kernel
theorem dX5_set_11 : decode cX5_set 11 = .ok (.getfield 10, 3) := by decide +kernel
theorem dX5_set_14 : decode cX5_set 14 = .ok (.iload_n 1, 1) := by decide +kernel
theorem dX5_set_15 : decode cX5_set 15 = .ok (.iload_n 2, 1) := by decide +kernel
theorem dX5_set_16 : decode cX5_set 16 = .ok (.iconst 1, 1) := by decide +kernel
theorem dX5_set_17 : decode cX5_set 17 = .ok (.invokevirtual 82, 3) := by decide +kernel
theorem dX5_set_20 : decode cX5_set 20 = .ok (.istore 4, 2) := by decide +kernel
theorem dX5_set_22 : decode cX5_set 22 = .ok (.iload 4, 2) := by decide +kernel
theorem dX5_set_24 : decode cX5_set 24 = .ok (.ifCond .eq 10, 3) := by decide +kernel
theorem dX5_set_27 : decode cX5_set 27 = .ok (.aload_n 0, 1) := by decide +kernel
theorem dX5_set_28 : decode cX5_set 28 = .ok (.iload 4, 2) := by decide +kernel
theorem dX5_set_30 : decode cX5_set 30 = .ok (.invokevirtual 71, 3) := by decide +kernel
theorem dX5_set_33 : decode cX5_set 33 = .ok (.ireturn, 1) := by decide +kernel
theorem dX5_set_34 : decode cX5_set 34 = .ok (.aload_n 0, 1) := by decide +kernel
theorem dX5_set_35 : decode cX5_set 35 = .ok (.aload_n 0, 1) := by decide +kernel
theorem dX5_set_36 : decode cX5_set 36 = .ok (.getfield 10, 3) := by decide +kernel
theorem dX5_set_39 : decode cX5_set 39 = .ok (.iload_n 1, 1) := by decide +kernel
theorem dX5_set_40 : decode cX5_set 40 = .ok (.iload_n 2, 1) := by decide +kernel
theorem dX5_set_41 : decode cX5_set 41 = .ok (.iload_n 3, 1) := by decide +kernel
theorem dX5_set_42 : decode cX5_set 42 = .ok (.invokevirtual 86, 3) := by decide +kernel
theorem dX5_set_45 : decode cX5_set 45 = .ok (.invokevirtual 79, 3) := by decide +kernel
theorem dX5_set_48 : decode cX5_set 48 = .ok (.ireturn, 1) := by decide +kernel
set_option maxRecDepth 20000 in
theorem ggX5_copy_X5_isRow : GoodIn wsX5_copy wsX5_isRow := goodIn_r _ [12, 13, 14, 11, 15] (by decide +kernel) (by decide +kernel)
set_option maxRecDepth 20000 in
theorem gX5_copy_X5_isRow : GoodIn wsX5_copy (va_wsS RX5 62 yX5_isRow wsX5_isRow) := goodIn_app (goodIn_of _ (by decide +kernel)) ggX5_copy_X5_isRow
set_option maxRecDepth 20000 in
theorem ggX5_copy_X2_isMissing : GoodIn wsX5_copy wsX2_isMissing := goodIn_r _ [20, 21, 52, 53, 54] (by decide +kernel) (by decide +kernel)
set_option maxRecDepth 20000 in
theorem gX5_copy_X2_isMissing : GoodIn wsX5_copy (wsV RX5 89 RX2 yX2_isMissing wsX2_isMissing) := goodIn_app (goodIn_of _ (by decide +kernel)) ggX5_copy_X2_isMissing
set_option maxRecDepth 20000 in
theorem ggX5_copy_X5_found : GoodIn wsX5_copy wsX5_found := goodIn_r _ [25, 26, 27, 42, 43, 44, 45, 46, 47, 48, 49, 50, 51] (by decide +kernel) (by decide +kernel)
set_option maxRecDepth 20000 in
theorem gX5_copy_X5_found : GoodIn wsX5_copy (wsV RX5 71 RX5 yX5_found wsX5_found) := goodIn_app (goodIn_of _ (by decide +kernel)) ggX5_copy_X5_found
set_option maxRecDepth 20000 in
theorem ggX5_copy_X2_reach : GoodIn wsX5_copy wsX2_reach := goodIn_r _ [31, 32, 33, 17, 18, 19, 20, 21, 52, 53, 54] (by decide +kernel) (by decide +kernel)
set_option maxRecDepth 20000 in
theorem gX5_copy_X2_reach : GoodIn wsX5_copy (wsV RX5 82 RX2 yX2_reach wsX2_reach) := goodIn_app (goodIn_of _ (by decide +kernel)) ggX5_copy_X2_reach
set_option maxRecDepth 20000 in
theorem ggX5_copy_X2_at : GoodIn wsX5_copy wsX2_at := goodIn_r _ [37] (by decide +kernel) (by decide +kernel)
set_option maxRecDepth 20000 in
theorem gX5_copy_X2_at : GoodIn wsX5_copy (wsV RX5 98 RX2 yX2_at wsX2_at) := goodIn_app (goodIn_of _ (by decide +kernel)) ggX5_copy_X2_at
set_option maxRecDepth 20000 in
theorem ggX5_copy_X5_plain : GoodIn wsX5_copy wsX5_plain := goodIn_r _ [41, 26, 42, 43, 44, 45, 46, 47, 48, 49, 50, 51] (by decide +kernel) (by decide +kernel)
set_option maxRecDepth 20000 in
theorem gX5_copy_X5_plain : GoodIn wsX5_copy (wsV RX5 79 RX5 yX5_plain wsX5_plain) := goodIn_app (goodIn_of _ (by decide +kernel)) ggX5_copy_X5_plain
theorem dX5_copy_0 : decode cX5_copy 0 = .ok (.iload_n 1, 1) := by decide +kernel
theorem dX5_copy_1 : decode cX5_copy 1 = .ok (.invokestatic 62, 3) := by decide +kernel
theorem dX5_copy_4 : decode cX5_copy 4 = .ok (.ifCond .eq 10, 3) := by decide +kernel
theorem dX5_copy_7 : decode cX5_copy 7 = .ok (.iload_n 3, 1) := by decide +kernel
theorem dX5_copy_8 : decode cX5_copy 8 = .ok (.invokestatic 62, 3) := by decide +kernel
theorem dX5_copy_11 : decode cX5_copy 11 = .ok (.ifCond .ne 6, 3) := by decide +kernel
theorem dX5_copy_14 : decode cX5_copy 14 = .ok (.ldc 70, 2) := by decide +kernel
theorem dX5_copy_16 : decode cX5_copy 16 = .ok (.ireturn, 1) := by decide +kernel
theorem dX5_copy_17 : decode cX5_copy 17 = .ok (.aload_n 0, 1) := by decide +kernel
theorem dX5_copy_18 : decode cX5_copy 18 = .ok (.getfield 10, 3) := by decide +kernel
theorem dX5_copy_21 : decode cX5_copy 21 = .ok (.iload_n 1, 1) := by decide +kernel
theorem dX5_copy_22 : decode cX5_copy 22 = .ok (.invokevirtual 89, 3) := by decide +kernel
theorem dX5_copy_25 : decode cX5_copy 25 = .ok (.ifCond .ne 14, 3) := by decide +kernel
theorem dX5_copy_28 : decode cX5_copy 28 = .ok (.aload_n 0, 1) := by decide +kernel
theorem dX5_copy_29 : decode cX5_copy 29 = .ok (.getfield 10, 3) := by decide +kernel
theorem dX5_copy_32 : decode cX5_copy 32 = .ok (.iload_n 3, 1) := by decide +kernel
theorem dX5_copy_33 : decode cX5_copy 33 = .ok (.invokevirtual 89, 3) := by decide +kernel
theorem dX5_copy_36 : decode cX5_copy 36 = .ok (.ifCond .eq 9, 3) := by decide +kernel
theorem dX5_copy_39 : decode cX5_copy 39 = .ok (.aload_n 0, 1) := by decide +kernel
theorem dX5_copy_40 : decode cX5_copy 40 = .ok (.iconst 1, 1) := by decide +kernel
theorem dX5_copy_41 : decode cX5_copy 41 = .ok (.invokevirtual 71, 3) := by decide +kernel
theorem dX5_copy_44 : decode cX5_copy 44 = .ok (.ireturn, 1) := by decide +kernel
theorem dX5_copy_45 : decode cX5_copy 45 = .ok (.aload_n 0, 1) := by decide +kernel
theorem dX5_copy_46 : decode cX5_copy 46 = .ok (.getfield 10, 3) := by decide +kernel
theorem dX5_copy_49 : decode cX5_copy 49 = .ok (.getfield 92, 3) := by decide +kernel
theorem dX5_copy_52 : decode cX5_copy 52 = .ok (.iload_n 1, 1) := by decide +kernel
theorem dX5_copy_53 : decode cX5_copy 53 = .ok (.iaload, 1) := by decide +kernel
theorem dX5_copy_54 : decode cX5_copy 54 = .ok (.aload_n 0, 1) := by decide +kernel
theorem dX5_copy_55 : decode cX5_copy 55 = .ok (.getfield 10, 3) := by decide +kernel
theorem dX5_copy_58 : decode cX5_copy 58 = .ok (.getfield 92, 3) := by decide +kernel
theorem dX5_copy_61 : decode cX5_copy 61 = .ok (.iload_n 3, 1) := by decide +kernel
theorem dX5_copy_62 : decode cX5_copy 62 = .ok (.iaload, 1) := by decide +kernel
theorem dX5_copy_63 : decode cX5_copy 63 = .ok (.if_icmp .eq 9, 3) := by decide +kernel
theorem dX5_copy_66 : decode cX5_copy 66 = .ok (.aload_n 0, 1) := by decide +kernel
theorem dX5_copy_67 : decode cX5_copy 67 = .ok (.iconst 5, 1) := by decide +kernel
theorem dX5_copy_68 : decode cX5_copy 68 = .ok (.invokevirtual 71, 3) := by decide +kernel
theorem dX5_copy_71 : decode cX5_copy 71 = .ok (.ireturn, 1) := by decide +kernel
theorem dX5_copy_72 : decode cX5_copy 72 = .ok (.aload_n 0, 1) := by decide +kernel
theorem dX5_copy_73 : decode cX5_copy 73 = .ok (.getfield 10, 3) := by decide +kernel
theorem dX5_copy_76 : decode cX5_copy 76 = .ok (.iload_n 1, 1) := by decide +kernel
theorem dX5_copy_77 : decode cX5_copy 77 = .ok (.iload_n 2, 1) := by decide +kernel
theorem dX5_copy_78 : decode cX5_copy 78 = .ok (.iload 5, 2) := by decide +kernel
theorem dX5_copy_80 : decode cX5_copy 80 = .ok (.invokevirtual 82, 3) := by decide +kernel
theorem dX5_copy_83 : decode cX5_copy 83 = .ok (.ifCond .ne 18, 3) := by decide +kernel
theorem dX5_copy_86 : decode cX5_copy 86 = .ok (.aload_n 0, 1) := by decide +kernel
theorem dX5_copy_87 : decode cX5_copy 87 = .ok (.getfield 10, 3) := by decide +kernel
theorem dX5_copy_90 : decode cX5_copy 90 = .ok (.iload_n 3, 1) := by decide +kernel
theorem dX5_copy_91 : decode cX5_copy 91 = .ok (.iload 4, 2) := by decide +kernel
theorem dX5_copy_93 : decode cX5_copy 93 = .ok (.iload 5, 2) := by decide +kernel
theorem dX5_copy_95 : decode cX5_copy 95 = .ok (.invokevirtual 82, 3) := by decide +kernel
theorem dX5_copy_98 : decode cX5_copy 98 = .ok (.ifCond .eq 9, 3) := by decide +kernel
theorem dX5_copy_101 : decode cX5_copy 101 = .ok (.aload_n 0, 1) := by decide +kernel
theorem dX5_copy_102 : decode cX5_copy 102 = .ok (.iconst 2, 1) := by decide +kernel
theorem dX5_copy_103 : decode cX5_copy 103 = .ok (.invokevirtual 71, 3) := by decide +kernel
theorem dX5_copy_106 : decode cX5_copy 106 = .ok (.ireturn, 1) := by decide +kernel
theorem dX5_copy_107 : decode cX5_copy 107 = .ok (.aload_n 0, 1) := by decide +kernel
theorem dX5_copy_108 : decode cX5_copy 108 = .ok (.getfield 10, 3) := by decide +kernel
theorem dX5_copy_111 : decode cX5_copy 111 = .ok (.getfield 95, 3) := by decide +kernel
theorem dX5_copy_114 : decode cX5_copy 114 = .ok (.aload_n 0, 1) := by decide +kernel
theorem dX5_copy_115 : decode cX5_copy 115 = .ok (.getfield 10, 3) := by decide +kernel
theorem dX5_copy_118 : decode cX5_copy 118 = .ok (.iload_n 1, 1) := by decide +kernel
theorem dX5_copy_119 : decode cX5_copy 119 = .ok (.iload_n 2, 1) := by decide +kernel
theorem dX5_copy_120 : decode cX5_copy 120 = .ok (.invokevirtual 98, 3) := by decide +kernel
theorem dX5_copy_123 : decode cX5_copy 123 = .ok (.aload_n 0, 1) := by decide +kernel
theorem dX5_copy_124 : decode cX5_copy 124 = .ok (.getfield 10, 3) := by decide +kernel
theorem dX5_copy_127 : decode cX5_copy 127 = .ok (.getfield 95, 3) := by decide +kernel
theorem dX5_copy_130 : decode cX5_copy 130 = .ok (.aload_n 0, 1) := by decide +kernel
theorem dX5_copy_131 : decode cX5_copy 131 = .ok (.getfield 10, 3) := by decide +kernel
theorem dX5_copy_134 : decode cX5_copy 134 = .ok (.iload_n 3, 1) := by decide +kernel
theorem dX5_copy_135 : decode cX5_copy 135 = .ok (.iload 4, 2) := by decide +kernel
theorem dX5_copy_137 : decode cX5_copy 137 = .ok (.invokevirtual 98, 3) := by decide +kernel
theorem dX5_copy_140 : decode cX5_copy 140 = .ok (.iload 5, 2) := by decide +kernel
theorem dX5_copy_142 : decode cX5_copy 142 = .ok (.invokestatic 102, 3) := by decide +kernel
theorem dX5_copy_145 : decode cX5_copy 145 = .ok (.aload_n 0, 1) := by decide +kernel
theorem dX5_copy_146 : decode cX5_copy 146 = .ok (.iload 5, 2) := by decide +kernel
theorem dX5_copy_148 : decode cX5_copy 148 = .ok (.invokevirtual 79, 3) := by decide +kernel
theorem dX5_copy_151 : decode cX5_copy 151 = .ok (.ireturn, 1) := by decide +kernel
set_option maxRecDepth 20000 in
theorem ggX5_drop_X5_isRow : GoodIn wsX5_drop wsX5_isRow := goodIn_r _ [7, 8, 9, 6, 10] (by decide +kernel) (by decide +kernel)
set_option maxRecDepth 20000 in
theorem gX5_drop_X5_isRow : GoodIn wsX5_drop (va_wsS RX5 62 yX5_isRow wsX5_isRow) := goodIn_app (goodIn_of _ (by decide +kernel)) ggX5_drop_X5_isRow
set_option maxRecDepth 20000 in
theorem ggX5_drop_X2_isMissing : GoodIn wsX5_drop wsX2_isMissing := goodIn_r _ [15, 16, 42, 43, 44] (by decide +kernel) (by decide +kernel)
set_option maxRecDepth 20000 in
theorem gX5_drop_X2_isMissing : GoodIn wsX5_drop (wsV RX5 89 RX2 yX2_isMissing wsX2_isMissing) := goodIn_app (goodIn_of _ (by decide +kernel)) ggX5_drop_X2_isMissing
set_option maxRecDepth 20000 in
theorem ggX5_drop_X5_found : GoodIn wsX5_drop wsX5_found := goodIn_r _ [20, 21, 22, 32, 33, 34, 35, 36, 37, 38, 39, 40, 41] (by decide +kernel) (by decide +kernel)
set_option maxRecDepth 20000 in
theorem gX5_drop_X5_found : GoodIn wsX5_drop (wsV RX5 71 RX5 yX5_found wsX5_found) := goodIn_app (goodIn_of _ (by decide +kernel)) ggX5_drop_X5_found
set_option maxRecDepth 20000 in
theorem ggX5_drop_X5_plain : GoodIn wsX5_drop wsX5_plain := goodIn_r _ [31, 21, 32, 33, 34, 35, 36, 37, 38, 39, 40, 41] (by decide +kernel) (by decide +kernel)
set_option maxRecDepth 20000 in
theorem gX5_drop_X5_plain : GoodIn wsX5_drop (wsV RX5 79 RX5 yX5_plain wsX5_plain) := goodIn_app (goodIn_of _ (by decide +kernel)) ggX5_drop_X5_plain
theorem dX5_drop_0 : decode cX5_drop 0 = .ok (.iload_n 1, 1) := by decide +kernel
theorem dX5_drop_1 : decode cX5_drop 1 = .ok (.invokestatic 62, 3) := by decide +kernel
theorem dX5_drop_4 : decode cX5_drop 4 = .ok (.ifCond .ne 6, 3) := by decide +kernel
theorem dX5_drop_7 : decode cX5_drop 7 = .ok (.ldc 70, 2) := by decide +kernel
theorem dX5_drop_9 : decode cX5_drop 9 = .ok (.ireturn, 1) := by decide +kernel
theorem dX5_drop_10 : decode cX5_drop 10 = .ok (.aload_n 0, 1) := by decide +kernel
theorem dX5_drop_11 : decode cX5_drop 11 = .ok (.getfield 10, 3) := by decide +kernel
theorem dX5_drop_14 : decode cX5_drop 14 = .ok (.iload_n 1, 1) := by decide +kernel
theorem dX5_drop_15 : decode cX5_drop 15 = .ok (.invokevirtual 89, 3) := by decide +kernel
theorem dX5_drop_18 : decode cX5_drop 18 = .ok (.ifCond .eq 9, 3) := by decide +kernel
theorem dX5_drop_21 : decode cX5_drop 21 = .ok (.aload_n 0, 1) := by decide +kernel
theorem dX5_drop_22 : decode cX5_drop 22 = .ok (.iconst 1, 1) := by decide +kernel
theorem dX5_drop_23 : decode cX5_drop 23 = .ok (.invokevirtual 71, 3) := by decide +kernel
theorem dX5_drop_26 : decode cX5_drop 26 = .ok (.ireturn, 1) := by decide +kernel
theorem dX5_drop_27 : decode cX5_drop 27 = .ok (.aload_n 0, 1) := by decide +kernel
theorem dX5_drop_28 : decode cX5_drop 28 = .ok (.getfield 10, 3) := by decide +kernel
theorem dX5_drop_31 : decode cX5_drop 31 = .ok (.getfield 108, 3) := by decide +kernel
theorem dX5_drop_34 : decode cX5_drop 34 = .ok (.iload_n 1, 1) := by decide +kernel
theorem dX5_drop_35 : decode cX5_drop 35 = .ok (.iaload, 1) := by decide +kernel
theorem dX5_drop_36 : decode cX5_drop 36 = .ok (.istore_n 2, 1) := by decide +kernel
theorem dX5_drop_37 : decode cX5_drop 37 = .ok (.aload_n 0, 1) := by decide +kernel
theorem dX5_drop_38 : decode cX5_drop 38 = .ok (.getfield 10, 3) := by decide +kernel
theorem dX5_drop_41 : decode cX5_drop 41 = .ok (.iload_n 1, 1) := by decide +kernel
theorem dX5_drop_42 : decode cX5_drop 42 = .ok (.invokevirtual 111, 3) := by decide +kernel
theorem dX5_drop_45 : decode cX5_drop 45 = .ok (.aload_n 0, 1) := by decide +kernel
theorem dX5_drop_46 : decode cX5_drop 46 = .ok (.iload_n 2, 1) := by decide +kernel
theorem dX5_drop_47 : decode cX5_drop 47 = .ok (.invokevirtual 79, 3) := by decide +kernel
theorem dX5_drop_50 : decode cX5_drop 50 = .ok (.ireturn, 1) := by decide +kernel
set_option maxRecDepth 20000 in
theorem ggX5_feed_X5_within : GoodIn wsX5_feed wsX5_within := goodIn_r _ [9] (by decide +kernel) (by decide +kernel)
set_option maxRecDepth 20000 in
theorem gX5_feed_X5_within : GoodIn wsX5_feed (va_wsS RX5 66 yX5_within wsX5_within) := goodIn_app (goodIn_of _ (by decide +kernel)) ggX5_feed_X5_within
theorem dX5_feed_0 : decode cX5_feed 0 = .ok (.iload_n 1, 1) := by decide +kernel
theorem dX5_feed_1 : decode cX5_feed 1 = .ok (.iconst 0, 1) := by decide +kernel
theorem dX5_feed_2 : decode cX5_feed 2 = .ok (.sipush 255, 3) := by decide +kernel
theorem dX5_feed_5 : decode cX5_feed 5 = .ok (.invokestatic 66, 3) := by decide +kernel
theorem dX5_feed_8 : decode cX5_feed 8 = .ok (.ifCond .ne 6, 3) := by decide +kernel
theorem dX5_feed_11 : decode cX5_feed 11 = .ok (.ldc 70, 2) := by decide +kernel
theorem dX5_feed_13 : decode cX5_feed 13 = .ok (.ireturn, 1) := by decide +kernel
theorem dX5_feed_14 : decode cX5_feed 14 = .ok (.aload_n 0, 1) := by decide +kernel
theorem dX5_feed_15 : decode cX5_feed 15 = .ok (.getfield 19, 3) := by decide +kernel
theorem dX5_feed_18 : decode cX5_feed 18 = .ok (.getfield 115, 3) := by decide +kernel
theorem dX5_feed_21 : decode cX5_feed 21 = .ok (.bipush 120, 2) := by decide +kernel
theorem dX5_feed_23 : decode cX5_feed 23 = .ok (.if_icmp .lt 6, 3) := by decide +kernel
theorem dX5_feed_26 : decode cX5_feed 26 = .ok (.ldc 118, 2) := by decide +kernel
theorem dX5_feed_28 : decode cX5_feed 28 = .ok (.ireturn, 1) := by decide +kernel
theorem dX5_feed_29 : decode cX5_feed 29 = .ok (.aload_n 0, 1) := by decide +kernel
theorem dX5_feed_30 : decode cX5_feed 30 = .ok (.getfield 19, 3) := by decide +kernel
theorem dX5_feed_33 : decode cX5_feed 33 = .ok (.getfield 119, 3) := by decide +kernel
theorem dX5_feed_36 : decode cX5_feed 36 = .ok (.aload_n 0, 1) := by decide +kernel
theorem dX5_feed_37 : decode cX5_feed 37 = .ok (.getfield 19, 3) := by decide +kernel
theorem dX5_feed_40 : decode cX5_feed 40 = .ok (.getfield 115, 3) := by decide +kernel
theorem dX5_feed_43 : decode cX5_feed 43 = .ok (.iload_n 1, 1) := by decide +kernel
theorem dX5_feed_44 : decode cX5_feed 44 = .ok (.iastore, 1) := by decide +kernel
theorem dX5_feed_45 : decode cX5_feed 45 = .ok (.aload_n 0, 1) := by decide +kernel
theorem dX5_feed_46 : decode cX5_feed 46 = .ok (.getfield 19, 3) := by decide +kernel
theorem dX5_feed_49 : decode cX5_feed 49 = .ok (.dup, 1) := by decide +kernel
theorem dX5_feed_50 : decode cX5_feed 50 = .ok (.getfield 115, 3) := by decide +kernel
theorem dX5_feed_53 : decode cX5_feed 53 = .ok (.iconst 1, 1) := by decide +kernel
theorem dX5_feed_54 : decode cX5_feed 54 = .ok (.iadd, 1) := by decide +kernel
theorem dX5_feed_55 : decode cX5_feed 55 = .ok (.putfield 115, 3) := by decide +kernel
theorem dX5_feed_58 : decode cX5_feed 58 = .ok (.aload_n 0, 1) := by decide +kernel
theorem dX5_feed_59 : decode cX5_feed 59 = .ok (.getfield 19, 3) := by decide +kernel
theorem dX5_feed_62 : decode cX5_feed 62 = .ok (.getfield 115, 3) := by decide +kernel
theorem dX5_feed_65 : decode cX5_feed 65 = .ok (.ireturn, 1) := by decide +kernel
set_option maxRecDepth 20000 in
theorem ggX5_house_X3_tell : GoodIn wsX5_house wsX3_tell := goodIn_r _ [15, 16, 17, 18, 19, 20, 21, 22, 14, 23, 24, 25, 26, 27, 28, 29, 30, 31, 32, 33, 34, 35, 36, 37, 38, 39, 40, 41, 42, 43, 44, 45, 46, 47, 48, 49, 50, 51, 52, 53, 54, 55, 56, 57, 58, 59, 60, 61, 62, 63, 64, 65, 66, 67, 68, 69, 70, 71, 72, 73, 74, 112, 113, 114, 115, 116, 117, 118, 119, 120, 121, 122, 123, 124, 125, 126, 127, 128] (by decide +kernel) (by decide +kernel)
set_option maxRecDepth 20000 in
theorem gX5_house_X3_tell : GoodIn wsX5_house (wsV RX5 122 RX3 yX3_tell wsX3_tell) := goodIn_app (goodIn_of _ (by decide +kernel)) ggX5_house_X3_tell
theorem dX5_house_0 : decode cX5_house 0 = .ok (.aload_n 0, 1) := by decide +kernel
theorem dX5_house_1 : decode cX5_house 1 = .ok (.getfield 19, 3) := by decide +kernel
theorem dX5_house_4 : decode cX5_house 4 = .ok (.aload_n 0, 1) := by decide +kernel
theorem dX5_house_5 : decode cX5_house 5 = .ok (.getfield 30, 3) := by decide +kernel
theorem dX5_house_8 : decode cX5_house 8 = .ok (.invokevirtual 122, 3) := by decide +kernel
theorem dX5_house_11 : decode cX5_house 11 = .ok (.istore_n 1, 1) := by decide +kernel
theorem dX5_house_12 : decode cX5_house 12 = .ok (.aload_n 0, 1) := by decide +kernel
theorem dX5_house_13 : decode cX5_house 13 = .ok (.getfield 19, 3) := by decide +kernel
theorem dX5_house_16 : decode cX5_house 16 = .ok (.iconst 0, 1) := by decide +kernel
theorem dX5_house_17 : decode cX5_house 17 = .ok (.putfield 115, 3) := by decide +kernel
theorem dX5_house_20 : decode cX5_house 20 = .ok (.iload_n 1, 1) := by decide +kernel
theorem dX5_house_21 : decode cX5_house 21 = .ok (.ifCond .ne 25, 3) := by decide +kernel
theorem dX5_house_24 : decode cX5_house 24 = .ok (.aload_n 0, 1) := by decide +kernel
theorem dX5_house_25 : decode cX5_house 25 = .ok (.aload_n 0, 1) := by decide +kernel
theorem dX5_house_26 : decode cX5_house 26 = .ok (.getfield 19, 3) := by decide +kernel
theorem dX5_house_29 : decode cX5_house 29 = .ok (.getfield 126, 3) := by decide +kernel
theorem dX5_house_32 : decode cX5_house 32 = .ok (.putfield 55, 3) := by decide +kernel
theorem dX5_house_35 : decode cX5_house 35 = .ok (.ldc 129, 2) := by decide +kernel
theorem dX5_house_37 : decode cX5_house 37 = .ok (.aload_n 0, 1) := by decide +kernel
theorem dX5_house_38 : decode cX5_house 38 = .ok (.getfield 19, 3) := by decide +kernel
theorem dX5_house_41 : decode cX5_house 41 = .ok (.getfield 130, 3) := by decide +kernel
theorem dX5_house_44 : decode cX5_house 44 = .ok (.isub, 1) := by decide +kernel
theorem dX5_house_45 : decode cX5_house 45 = .ok (.ireturn, 1) := by decide +kernel
theorem dX5_house_46 : decode cX5_house 46 = .ok (.aload_n 0, 1) := by decide +kernel
theorem dX5_house_47 : decode cX5_house 47 = .ok (.getfield 26, 3) := by decide +kernel
theorem dX5_house_50 : decode cX5_house 50 = .ok (.aload_n 0, 1) := by decide +kernel
theorem dX5_house_51 : decode cX5_house 51 = .ok (.getfield 30, 3) := by decide +kernel
theorem dX5_house_54 : decode cX5_house 54 = .ok (.invokevirtual 133, 3) := by decide +kernel
theorem dX5_house_57 : decode cX5_house 57 = .ok (.aload_n 0, 1) := by decide +kernel
theorem dX5_house_58 : decode cX5_house 58 = .ok (.getfield 40, 3) := by decide +kernel
theorem dX5_house_61 : decode cX5_house 61 = .ok (.invokevirtual 137, 3) := by decide +kernel
theorem dX5_house_64 : decode cX5_house 64 = .ok (.aload_n 0, 1) := by decide +kernel
theorem dX5_house_65 : decode cX5_house 65 = .ok (.getfield 26, 3) := by decide +kernel
theorem dX5_house_68 : decode cX5_house 68 = .ok (.getfield 140, 3) := by decide +kernel
theorem dX5_house_71 : decode cX5_house 71 = .ok (.ireturn, 1) := by decide +kernel
theorem dX5_fault_0 : decode cX5_fault 0 = .ok (.aload_n 0, 1) := by decide +kernel
theorem dX5_fault_1 : decode cX5_fault 1 = .ok (.getfield 55, 3) := by decide +kernel
theorem dX5_fault_4 : decode cX5_fault 4 = .ok (.ireturn, 1) := by decide +kernel
theorem dX5_undo_0 : decode cX5_undo 0 = .ok (.aload_n 0, 1) := by decide +kernel
theorem dX5_undo_1 : decode cX5_undo 1 = .ok (.getfield 40, 3) := by decide +kernel
theorem dX5_undo_4 : decode cX5_undo 4 = .ok (.getfield 143, 3) := by decide +kernel
theorem dX5_undo_7 : decode cX5_undo 7 = .ok (.ifCond .ne 6, 3) := by decide +kernel
theorem dX5_undo_10 : decode cX5_undo 10 = .ok (.ldc 145, 2) := by decide +kernel
theorem dX5_undo_12 : decode cX5_undo 12 = .ok (.ireturn, 1) := by decide +kernel
theorem dX5_undo_13 : decode cX5_undo 13 = .ok (.aload_n 0, 1) := by decide +kernel
theorem dX5_undo_14 : decode cX5_undo 14 = .ok (.getfield 40, 3) := by decide +kernel
theorem dX5_undo_17 : decode cX5_undo 17 = .ok (.aload_n 0, 1) := by decide +kernel
theorem dX5_undo_18 : decode cX5_undo 18 = .ok (.getfield 26, 3) := by decide +kernel
theorem dX5_undo_21 : decode cX5_undo 21 = .ok (.invokevirtual 146, 3) := by decide +kernel
theorem dX5_undo_24 : decode cX5_undo 24 = .ok (.aload_n 0, 1) := by decide +kernel
theorem dX5_undo_25 : decode cX5_undo 25 = .ok (.getfield 40, 3) := by decide +kernel
theorem dX5_undo_28 : decode cX5_undo 28 = .ok (.getfield 143, 3) := by decide +kernel
theorem dX5_undo_31 : decode cX5_undo 31 = .ok (.ireturn, 1) := by decide +kernel
set_option maxRecDepth 20000 in
theorem ggX5_minutes_X0_stands : GoodIn wsX5_minutes wsX0_stands := goodIn_r _ [11, 12, 86, 87, 88, 89, 90, 91, 92, 93, 94, 95, 96, 97] (by decide +kernel) (by decide +kernel)
set_option maxRecDepth 20000 in
theorem gX5_minutes_X0_stands : GoodIn wsX5_minutes (wsV RX5 149 RX0 yX0_stands wsX0_stands) := goodIn_app (goodIn_of _ (by decide +kernel)) ggX5_minutes_X0_stands
set_option maxRecDepth 20000 in
theorem ggX5_minutes_X5_within : GoodIn wsX5_minutes wsX5_within := goodIn_r _ [16] (by decide +kernel) (by decide +kernel)
set_option maxRecDepth 20000 in
theorem gX5_minutes_X5_within : GoodIn wsX5_minutes (va_wsS RX5 66 yX5_within wsX5_within) := goodIn_app (goodIn_of _ (by decide +kernel)) ggX5_minutes_X5_within
set_option maxRecDepth 20000 in
theorem ggX5_minutes_X0_coldRooms : GoodIn wsX5_minutes wsX0_coldRooms := goodIn_r _ [75, 12, 34, 71, 86, 87, 88, 89, 90, 91, 92, 93, 94, 95, 96, 97] (by decide +kernel) (by decide +kernel)
set_option maxRecDepth 20000 in
theorem gX5_minutes_X0_coldRooms : GoodIn wsX5_minutes (wsV RX5 162 RX0 yX0_coldRooms wsX0_coldRooms) := goodIn_app (goodIn_of _ (by decide +kernel)) ggX5_minutes_X0_coldRooms
theorem dX5_minutes_0 : decode cX5_minutes 0 = .ok (.aload_n 0, 1) := by decide +kernel
theorem dX5_minutes_1 : decode cX5_minutes 1 = .ok (.getfield 26, 3) := by decide +kernel
theorem dX5_minutes_4 : decode cX5_minutes 4 = .ok (.invokevirtual 149, 3) := by decide +kernel
theorem dX5_minutes_7 : decode cX5_minutes 7 = .ok (.ifCond .ne 6, 3) := by decide +kernel
theorem dX5_minutes_10 : decode cX5_minutes 10 = .ok (.ldc 145, 2) := by decide +kernel
theorem dX5_minutes_12 : decode cX5_minutes 12 = .ok (.ireturn, 1) := by decide +kernel
theorem dX5_minutes_13 : decode cX5_minutes 13 = .ok (.iload_n 1, 1) := by decide +kernel
theorem dX5_minutes_14 : decode cX5_minutes 14 = .ok (.iconst 1, 1) := by decide +kernel
theorem dX5_minutes_15 : decode cX5_minutes 15 = .ok (.bipush 24, 2) := by decide +kernel
theorem dX5_minutes_17 : decode cX5_minutes 17 = .ok (.invokestatic 66, 3) := by decide +kernel
theorem dX5_minutes_20 : decode cX5_minutes 20 = .ok (.ifCond .ne 6, 3) := by decide +kernel
theorem dX5_minutes_23 : decode cX5_minutes 23 = .ok (.ldc 70, 2) := by decide +kernel
theorem dX5_minutes_25 : decode cX5_minutes 25 = .ok (.ireturn, 1) := by decide +kernel
theorem dX5_minutes_26 : decode cX5_minutes 26 = .ok (.aload_n 0, 1) := by decide +kernel
theorem dX5_minutes_27 : decode cX5_minutes 27 = .ok (.getfield 26, 3) := by decide +kernel
theorem dX5_minutes_30 : decode cX5_minutes 30 = .ok (.getfield 153, 3) := by decide +kernel
theorem dX5_minutes_33 : decode cX5_minutes 33 = .ok (.iload_n 1, 1) := by decide +kernel
theorem dX5_minutes_34 : decode cX5_minutes 34 = .ok (.iadd, 1) := by decide +kernel
theorem dX5_minutes_35 : decode cX5_minutes 35 = .ok (.sipush 999, 3) := by decide +kernel
theorem dX5_minutes_38 : decode cX5_minutes 38 = .ok (.if_icmp .le 6, 3) := by decide +kernel
theorem dX5_minutes_41 : decode cX5_minutes 41 = .ok (.ldc 118, 2) := by decide +kernel
theorem dX5_minutes_43 : decode cX5_minutes 43 = .ok (.ireturn, 1) := by decide +kernel
theorem dX5_minutes_44 : decode cX5_minutes 44 = .ok (.iconst 0, 1) := by decide +kernel
theorem dX5_minutes_45 : decode cX5_minutes 45 = .ok (.istore_n 2, 1) := by decide +kernel
theorem dX5_minutes_46 : decode cX5_minutes 46 = .ok (.iload_n 2, 1) := by decide +kernel
theorem dX5_minutes_47 : decode cX5_minutes 47 = .ok (.iload_n 1, 1) := by decide +kernel
theorem dX5_minutes_48 : decode cX5_minutes 48 = .ok (.if_icmp .ge 27, 3) := by decide +kernel
theorem dX5_minutes_51 : decode cX5_minutes 51 = .ok (.aload_n 0, 1) := by decide +kernel
theorem dX5_minutes_52 : decode cX5_minutes 52 = .ok (.getfield 40, 3) := by decide +kernel
theorem dX5_minutes_55 : decode cX5_minutes 55 = .ok (.aload_n 0, 1) := by decide +kernel
theorem dX5_minutes_56 : decode cX5_minutes 56 = .ok (.getfield 26, 3) := by decide +kernel
theorem dX5_minutes_59 : decode cX5_minutes 59 = .ok (.invokevirtual 156, 3) := by decide +kernel
theorem dX5_minutes_62 : decode cX5_minutes 62 = .ok (.aload_n 0, 1) := by decide +kernel
theorem dX5_minutes_63 : decode cX5_minutes 63 = .ok (.getfield 26, 3) := by decide +kernel
theorem dX5_minutes_66 : decode cX5_minutes 66 = .ok (.invokevirtual 159, 3) := by decide +kernel
theorem dX5_minutes_69 : decode cX5_minutes 69 = .ok (.iinc 2 1, 3) := by decide +kernel
theorem dX5_minutes_72 : decode cX5_minutes 72 = .ok (.goto (-26), 3) := by decide +kernel
theorem dX5_minutes_75 : decode cX5_minutes 75 = .ok (.aload_n 0, 1) := by decide +kernel
theorem dX5_minutes_76 : decode cX5_minutes 76 = .ok (.getfield 26, 3) := by decide +kernel
theorem dX5_minutes_79 : decode cX5_minutes 79 = .ok (.invokevirtual 162, 3) := by decide +kernel
theorem dX5_minutes_82 : decode cX5_minutes 82 = .ok (.ireturn, 1) := by decide +kernel
set_option maxRecDepth 20000 in
theorem ggX5_carry_X5_isTube : GoodIn wsX5_carry wsX5_isTube := goodIn_r _ [10, 2, 11, 12, 13, 9, 14, 51, 52, 53, 54, 55, 56, 57, 58, 59, 60, 61, 62, 63, 64, 65, 66, 67, 68, 69, 70, 71, 72] (by decide +kernel) (by decide +kernel)
set_option maxRecDepth 20000 in
theorem gX5_carry_X5_isTube : GoodIn wsX5_carry (wsV RX5 166 RX5 yX5_isTube wsX5_isTube) := goodIn_app (goodIn_of _ (by decide +kernel)) ggX5_carry_X5_isTube
set_option maxRecDepth 20000 in
theorem ggX5_carry_X5_isPlace : GoodIn wsX5_carry wsX5_isPlace := goodIn_r _ [18, 2, 19, 20, 21, 22, 23, 24, 25, 12, 13, 9, 14, 51, 52, 53, 54, 55, 56, 57, 58, 59, 60, 61, 62, 63, 64, 65, 66, 67, 68, 69, 70, 71, 72] (by decide +kernel) (by decide +kernel)
set_option maxRecDepth 20000 in
theorem gX5_carry_X5_isPlace : GoodIn wsX5_carry (wsV RX5 169 RX5 yX5_isPlace wsX5_isPlace) := goodIn_app (goodIn_of _ (by decide +kernel)) ggX5_carry_X5_isPlace
theorem dX5_carry_0 : decode cX5_carry 0 = .ok (.aload_n 0, 1) := by decide +kernel
theorem dX5_carry_1 : decode cX5_carry 1 = .ok (.iload_n 1, 1) := by decide +kernel
theorem dX5_carry_2 : decode cX5_carry 2 = .ok (.invokevirtual 166, 3) := by decide +kernel
theorem dX5_carry_5 : decode cX5_carry 5 = .ok (.ifCond .eq 11, 3) := by decide +kernel
theorem dX5_carry_8 : decode cX5_carry 8 = .ok (.aload_n 0, 1) := by decide +kernel
theorem dX5_carry_9 : decode cX5_carry 9 = .ok (.iload_n 2, 1) := by decide +kernel
theorem dX5_carry_10 : decode cX5_carry 10 = .ok (.invokevirtual 169, 3) := by decide +kernel
theorem dX5_carry_13 : decode cX5_carry 13 = .ok (.ifCond .ne 6, 3) := by decide +kernel
theorem dX5_carry_16 : decode cX5_carry 16 = .ok (.ldc 70, 2) := by decide +kernel
theorem dX5_carry_18 : decode cX5_carry 18 = .ok (.ireturn, 1) := by decide +kernel
theorem dX5_carry_19 : decode cX5_carry 19 = .ok (.aload_n 0, 1) := by decide +kernel
theorem dX5_carry_20 : decode cX5_carry 20 = .ok (.getfield 26, 3) := by decide +kernel
theorem dX5_carry_23 : decode cX5_carry 23 = .ok (.getfield 172, 3) := by decide +kernel
theorem dX5_carry_26 : decode cX5_carry 26 = .ok (.iload_n 1, 1) := by decide +kernel
theorem dX5_carry_27 : decode cX5_carry 27 = .ok (.iaload, 1) := by decide +kernel
theorem dX5_carry_28 : decode cX5_carry 28 = .ok (.istore_n 3, 1) := by decide +kernel
theorem dX5_carry_29 : decode cX5_carry 29 = .ok (.iload_n 3, 1) := by decide +kernel
theorem dX5_carry_30 : decode cX5_carry 30 = .ok (.iload_n 2, 1) := by decide +kernel
theorem dX5_carry_31 : decode cX5_carry 31 = .ok (.if_icmp .ne 6, 3) := by decide +kernel
theorem dX5_carry_34 : decode cX5_carry 34 = .ok (.ldc 145, 2) := by decide +kernel
theorem dX5_carry_36 : decode cX5_carry 36 = .ok (.ireturn, 1) := by decide +kernel
theorem dX5_carry_37 : decode cX5_carry 37 = .ok (.aload_n 0, 1) := by decide +kernel
theorem dX5_carry_38 : decode cX5_carry 38 = .ok (.getfield 40, 3) := by decide +kernel
theorem dX5_carry_41 : decode cX5_carry 41 = .ok (.aload_n 0, 1) := by decide +kernel
theorem dX5_carry_42 : decode cX5_carry 42 = .ok (.getfield 26, 3) := by decide +kernel
theorem dX5_carry_45 : decode cX5_carry 45 = .ok (.invokevirtual 156, 3) := by decide +kernel
theorem dX5_carry_48 : decode cX5_carry 48 = .ok (.aload_n 0, 1) := by decide +kernel
theorem dX5_carry_49 : decode cX5_carry 49 = .ok (.getfield 26, 3) := by decide +kernel
theorem dX5_carry_52 : decode cX5_carry 52 = .ok (.getfield 172, 3) := by decide +kernel
theorem dX5_carry_55 : decode cX5_carry 55 = .ok (.iload_n 1, 1) := by decide +kernel
theorem dX5_carry_56 : decode cX5_carry 56 = .ok (.iload_n 2, 1) := by decide +kernel
theorem dX5_carry_57 : decode cX5_carry 57 = .ok (.iastore, 1) := by decide +kernel
theorem dX5_carry_58 : decode cX5_carry 58 = .ok (.iload_n 3, 1) := by decide +kernel
theorem dX5_carry_59 : decode cX5_carry 59 = .ok (.ireturn, 1) := by decide +kernel
set_option maxRecDepth 20000 in
theorem ggX5_shake_X5_isTube : GoodIn wsX5_shake wsX5_isTube := goodIn_r _ [10, 2, 11, 12, 13, 9, 14, 47, 48, 49, 50, 51, 52, 53, 54, 55, 56, 57, 58, 59, 60, 61, 62, 63, 64, 65, 66, 67, 68] (by decide +kernel) (by decide +kernel)
set_option maxRecDepth 20000 in
theorem gX5_shake_X5_isTube : GoodIn wsX5_shake (wsV RX5 166 RX5 yX5_isTube wsX5_isTube) := goodIn_app (goodIn_of _ (by decide +kernel)) ggX5_shake_X5_isTube
theorem dX5_shake_0 : decode cX5_shake 0 = .ok (.aload_n 0, 1) := by decide +kernel
theorem dX5_shake_1 : decode cX5_shake 1 = .ok (.iload_n 1, 1) := by decide +kernel
theorem dX5_shake_2 : decode cX5_shake 2 = .ok (.invokevirtual 166, 3) := by decide +kernel
theorem dX5_shake_5 : decode cX5_shake 5 = .ok (.ifCond .ne 6, 3) := by decide +kernel
theorem dX5_shake_8 : decode cX5_shake 8 = .ok (.ldc 70, 2) := by decide +kernel
theorem dX5_shake_10 : decode cX5_shake 10 = .ok (.ireturn, 1) := by decide +kernel
theorem dX5_shake_11 : decode cX5_shake 11 = .ok (.aload_n 0, 1) := by decide +kernel
theorem dX5_shake_12 : decode cX5_shake 12 = .ok (.getfield 26, 3) := by decide +kernel
theorem dX5_shake_15 : decode cX5_shake 15 = .ok (.getfield 175, 3) := by decide +kernel
theorem dX5_shake_18 : decode cX5_shake 18 = .ok (.iload_n 1, 1) := by decide +kernel
theorem dX5_shake_19 : decode cX5_shake 19 = .ok (.iaload, 1) := by decide +kernel
theorem dX5_shake_20 : decode cX5_shake 20 = .ok (.istore_n 2, 1) := by decide +kernel
theorem dX5_shake_21 : decode cX5_shake 21 = .ok (.iload_n 2, 1) := by decide +kernel
theorem dX5_shake_22 : decode cX5_shake 22 = .ok (.ifCond .ne 6, 3) := by decide +kernel
theorem dX5_shake_25 : decode cX5_shake 25 = .ok (.ldc 145, 2) := by decide +kernel
theorem dX5_shake_27 : decode cX5_shake 27 = .ok (.ireturn, 1) := by decide +kernel
theorem dX5_shake_28 : decode cX5_shake 28 = .ok (.aload_n 0, 1) := by decide +kernel
theorem dX5_shake_29 : decode cX5_shake 29 = .ok (.getfield 40, 3) := by decide +kernel
theorem dX5_shake_32 : decode cX5_shake 32 = .ok (.aload_n 0, 1) := by decide +kernel
theorem dX5_shake_33 : decode cX5_shake 33 = .ok (.getfield 26, 3) := by decide +kernel
theorem dX5_shake_36 : decode cX5_shake 36 = .ok (.invokevirtual 156, 3) := by decide +kernel
theorem dX5_shake_39 : decode cX5_shake 39 = .ok (.aload_n 0, 1) := by decide +kernel
theorem dX5_shake_40 : decode cX5_shake 40 = .ok (.getfield 26, 3) := by decide +kernel
theorem dX5_shake_43 : decode cX5_shake 43 = .ok (.iload_n 1, 1) := by decide +kernel
theorem dX5_shake_44 : decode cX5_shake 44 = .ok (.invokevirtual 178, 3) := by decide +kernel
theorem dX5_shake_47 : decode cX5_shake 47 = .ok (.iload_n 2, 1) := by decide +kernel
theorem dX5_shake_48 : decode cX5_shake 48 = .ok (.ireturn, 1) := by decide +kernel
set_option maxRecDepth 20000 in
theorem ggX5_pour_X5_isTube : GoodIn wsX5_pour wsX5_isTube := goodIn_r _ [9, 2, 10, 11, 12, 8, 13, 50, 51, 52, 53, 54, 55, 56, 57, 58, 59, 60, 61, 62, 63, 64, 65, 66, 67, 68, 69, 70, 71] (by decide +kernel) (by decide +kernel)
set_option maxRecDepth 20000 in
theorem gX5_pour_X5_isTube : GoodIn wsX5_pour (wsV RX5 166 RX5 yX5_isTube wsX5_isTube) := goodIn_app (goodIn_of _ (by decide +kernel)) ggX5_pour_X5_isTube
theorem dX5_pour_0 : decode cX5_pour 0 = .ok (.aload_n 0, 1) := by decide +kernel
theorem dX5_pour_1 : decode cX5_pour 1 = .ok (.iload_n 1, 1) := by decide +kernel
theorem dX5_pour_2 : decode cX5_pour 2 = .ok (.invokevirtual 166, 3) := by decide +kernel
theorem dX5_pour_5 : decode cX5_pour 5 = .ok (.ifCond .eq 16, 3) := by decide +kernel
theorem dX5_pour_8 : decode cX5_pour 8 = .ok (.aload_n 0, 1) := by decide +kernel
theorem dX5_pour_9 : decode cX5_pour 9 = .ok (.iload_n 2, 1) := by decide +kernel
theorem dX5_pour_10 : decode cX5_pour 10 = .ok (.invokevirtual 166, 3) := by decide +kernel
theorem dX5_pour_13 : decode cX5_pour 13 = .ok (.ifCond .eq 8, 3) := by decide +kernel
theorem dX5_pour_16 : decode cX5_pour 16 = .ok (.iload_n 1, 1) := by decide +kernel
theorem dX5_pour_17 : decode cX5_pour 17 = .ok (.iload_n 2, 1) := by decide +kernel
theorem dX5_pour_18 : decode cX5_pour 18 = .ok (.if_icmp .ne 6, 3) := by decide +kernel
theorem dX5_pour_21 : decode cX5_pour 21 = .ok (.ldc 70, 2) := by decide +kernel
theorem dX5_pour_23 : decode cX5_pour 23 = .ok (.ireturn, 1) := by decide +kernel
theorem dX5_pour_24 : decode cX5_pour 24 = .ok (.aload_n 0, 1) := by decide +kernel
theorem dX5_pour_25 : decode cX5_pour 25 = .ok (.getfield 26, 3) := by decide +kernel
theorem dX5_pour_28 : decode cX5_pour 28 = .ok (.iload_n 1, 1) := by decide +kernel
theorem dX5_pour_29 : decode cX5_pour 29 = .ok (.iload_n 2, 1) := by decide +kernel
theorem dX5_pour_30 : decode cX5_pour 30 = .ok (.invokevirtual 181, 3) := by decide +kernel
theorem dX5_pour_33 : decode cX5_pour 33 = .ok (.istore_n 3, 1) := by decide +kernel
theorem dX5_pour_34 : decode cX5_pour 34 = .ok (.iload_n 3, 1) := by decide +kernel
theorem dX5_pour_35 : decode cX5_pour 35 = .ok (.ifCond .ne 6, 3) := by decide +kernel
theorem dX5_pour_38 : decode cX5_pour 38 = .ok (.ldc 145, 2) := by decide +kernel
theorem dX5_pour_40 : decode cX5_pour 40 = .ok (.ireturn, 1) := by decide +kernel
theorem dX5_pour_41 : decode cX5_pour 41 = .ok (.aload_n 0, 1) := by decide +kernel
theorem dX5_pour_42 : decode cX5_pour 42 = .ok (.getfield 40, 3) := by decide +kernel
theorem dX5_pour_45 : decode cX5_pour 45 = .ok (.aload_n 0, 1) := by decide +kernel
theorem dX5_pour_46 : decode cX5_pour 46 = .ok (.getfield 26, 3) := by decide +kernel
theorem dX5_pour_49 : decode cX5_pour 49 = .ok (.invokevirtual 156, 3) := by decide +kernel
theorem dX5_pour_52 : decode cX5_pour 52 = .ok (.aload_n 0, 1) := by decide +kernel
theorem dX5_pour_53 : decode cX5_pour 53 = .ok (.getfield 26, 3) := by decide +kernel
theorem dX5_pour_56 : decode cX5_pour 56 = .ok (.iload_n 1, 1) := by decide +kernel
theorem dX5_pour_57 : decode cX5_pour 57 = .ok (.iload_n 2, 1) := by decide +kernel
theorem dX5_pour_58 : decode cX5_pour 58 = .ok (.iload_n 3, 1) := by decide +kernel
theorem dX5_pour_59 : decode cX5_pour 59 = .ok (.invokevirtual 184, 3) := by decide +kernel
theorem dX5_pour_62 : decode cX5_pour 62 = .ok (.iload_n 3, 1) := by decide +kernel
theorem dX5_pour_63 : decode cX5_pour 63 = .ok (.ireturn, 1) := by decide +kernel
set_option maxRecDepth 20000 in
theorem ggX5_stove_X5_isRoom : GoodIn wsX5_stove wsX5_isRoom := goodIn_r _ [9, 2, 10, 11, 12, 8, 13, 40, 41, 42, 43, 44, 45, 46, 47, 48, 49, 50, 51, 52, 53, 54, 55, 56, 57, 58, 59, 60, 61] (by decide +kernel) (by decide +kernel)
set_option maxRecDepth 20000 in
theorem gX5_stove_X5_isRoom : GoodIn wsX5_stove (wsV RX5 187 RX5 yX5_isRoom wsX5_isRoom) := goodIn_app (goodIn_of _ (by decide +kernel)) ggX5_stove_X5_isRoom
set_option maxRecDepth 20000 in
theorem ggX5_stove_X5_within : GoodIn wsX5_stove wsX5_within := goodIn_r _ [13] (by decide +kernel) (by decide +kernel)
set_option maxRecDepth 20000 in
theorem gX5_stove_X5_within : GoodIn wsX5_stove (va_wsS RX5 66 yX5_within wsX5_within) := goodIn_app (goodIn_of _ (by decide +kernel)) ggX5_stove_X5_within
theorem dX5_stove_0 : decode cX5_stove 0 = .ok (.aload_n 0, 1) := by decide +kernel
theorem dX5_stove_1 : decode cX5_stove 1 = .ok (.iload_n 1, 1) := by decide +kernel
theorem dX5_stove_2 : decode cX5_stove 2 = .ok (.invokevirtual 187, 3) := by decide +kernel
theorem dX5_stove_5 : decode cX5_stove 5 = .ok (.ifCond .eq 13, 3) := by decide +kernel
theorem dX5_stove_8 : decode cX5_stove 8 = .ok (.iload_n 2, 1) := by decide +kernel
theorem dX5_stove_9 : decode cX5_stove 9 = .ok (.iconst 0, 1) := by decide +kernel
theorem dX5_stove_10 : decode cX5_stove 10 = .ok (.bipush 20, 2) := by decide +kernel
theorem dX5_stove_12 : decode cX5_stove 12 = .ok (.invokestatic 66, 3) := by decide +kernel
theorem dX5_stove_15 : decode cX5_stove 15 = .ok (.ifCond .ne 6, 3) := by decide +kernel
theorem dX5_stove_18 : decode cX5_stove 18 = .ok (.ldc 70, 2) := by decide +kernel
theorem dX5_stove_20 : decode cX5_stove 20 = .ok (.ireturn, 1) := by decide +kernel
theorem dX5_stove_21 : decode cX5_stove 21 = .ok (.aload_n 0, 1) := by decide +kernel
theorem dX5_stove_22 : decode cX5_stove 22 = .ok (.getfield 26, 3) := by decide +kernel
theorem dX5_stove_25 : decode cX5_stove 25 = .ok (.getfield 190, 3) := by decide +kernel
theorem dX5_stove_28 : decode cX5_stove 28 = .ok (.iload_n 1, 1) := by decide +kernel
theorem dX5_stove_29 : decode cX5_stove 29 = .ok (.iaload, 1) := by decide +kernel
theorem dX5_stove_30 : decode cX5_stove 30 = .ok (.istore_n 3, 1) := by decide +kernel
theorem dX5_stove_31 : decode cX5_stove 31 = .ok (.aload_n 0, 1) := by decide +kernel
theorem dX5_stove_32 : decode cX5_stove 32 = .ok (.getfield 40, 3) := by decide +kernel
theorem dX5_stove_35 : decode cX5_stove 35 = .ok (.aload_n 0, 1) := by decide +kernel
theorem dX5_stove_36 : decode cX5_stove 36 = .ok (.getfield 26, 3) := by decide +kernel
theorem dX5_stove_39 : decode cX5_stove 39 = .ok (.invokevirtual 156, 3) := by decide +kernel
theorem dX5_stove_42 : decode cX5_stove 42 = .ok (.aload_n 0, 1) := by decide +kernel
theorem dX5_stove_43 : decode cX5_stove 43 = .ok (.getfield 26, 3) := by decide +kernel
theorem dX5_stove_46 : decode cX5_stove 46 = .ok (.getfield 190, 3) := by decide +kernel
theorem dX5_stove_49 : decode cX5_stove 49 = .ok (.iload_n 1, 1) := by decide +kernel
theorem dX5_stove_50 : decode cX5_stove 50 = .ok (.iload_n 2, 1) := by decide +kernel
theorem dX5_stove_51 : decode cX5_stove 51 = .ok (.iastore, 1) := by decide +kernel
theorem dX5_stove_52 : decode cX5_stove 52 = .ok (.iload_n 3, 1) := by decide +kernel
theorem dX5_stove_53 : decode cX5_stove 53 = .ok (.ireturn, 1) := by decide +kernel
set_option maxRecDepth 20000 in
theorem ggX5_tube_X5_isTube : GoodIn wsX5_tube wsX5_isTube := goodIn_r _ [11, 2, 12, 13, 14, 10, 15, 33, 34, 35, 36, 37, 38, 39, 40, 41, 42, 43, 44, 45, 46, 47, 48, 49, 50, 51, 52, 53, 54] (by decide +kernel) (by decide +kernel)
set_option maxRecDepth 20000 in
theorem gX5_tube_X5_isTube : GoodIn wsX5_tube (wsV RX5 166 RX5 yX5_isTube wsX5_isTube) := goodIn_app (goodIn_of _ (by decide +kernel)) ggX5_tube_X5_isTube
theorem dX5_tube_0 : decode cX5_tube 0 = .ok (.aload_n 0, 1) := by decide +kernel
theorem dX5_tube_1 : decode cX5_tube 1 = .ok (.iload_n 1, 1) := by decide +kernel
theorem dX5_tube_2 : decode cX5_tube 2 = .ok (.invokevirtual 166, 3) := by decide +kernel
theorem dX5_tube_5 : decode cX5_tube 5 = .ok (.ifCond .ne 6, 3) := by decide +kernel
theorem dX5_tube_8 : decode cX5_tube 8 = .ok (.ldc 70, 2) := by decide +kernel
theorem dX5_tube_10 : decode cX5_tube 10 = .ok (.ireturn, 1) := by decide +kernel
theorem dX5_tube_11 : decode cX5_tube 11 = .ok (.iload_n 2, 1) := by decide +kernel
theorem dX5_tube_12 : decode cX5_tube 12 = .ok (.tableswitch 85 0 4 #[36, 46, 56, 66, 76], 36) := by decide +kernel
theorem dX5_tube_48 : decode cX5_tube 48 = .ok (.aload_n 0, 1) := by decide +kernel
theorem dX5_tube_49 : decode cX5_tube 49 = .ok (.getfield 26, 3) := by decide +kernel
theorem dX5_tube_52 : decode cX5_tube 52 = .ok (.getfield 172, 3) := by decide +kernel
theorem dX5_tube_55 : decode cX5_tube 55 = .ok (.iload_n 1, 1) := by decide +kernel
theorem dX5_tube_56 : decode cX5_tube 56 = .ok (.iaload, 1) := by decide +kernel
theorem dX5_tube_57 : decode cX5_tube 57 = .ok (.ireturn, 1) := by decide +kernel
theorem dX5_tube_58 : decode cX5_tube 58 = .ok (.aload_n 0, 1) := by decide +kernel
theorem dX5_tube_59 : decode cX5_tube 59 = .ok (.getfield 26, 3) := by decide +kernel
theorem dX5_tube_62 : decode cX5_tube 62 = .ok (.getfield 193, 3) := by decide +kernel
theorem dX5_tube_65 : decode cX5_tube 65 = .ok (.iload_n 1, 1) := by decide +kernel
theorem dX5_tube_66 : decode cX5_tube 66 = .ok (.iaload, 1) := by decide +kernel
theorem dX5_tube_67 : decode cX5_tube 67 = .ok (.ireturn, 1) := by decide +kernel
theorem dX5_tube_68 : decode cX5_tube 68 = .ok (.aload_n 0, 1) := by decide +kernel
theorem dX5_tube_69 : decode cX5_tube 69 = .ok (.getfield 26, 3) := by decide +kernel
theorem dX5_tube_72 : decode cX5_tube 72 = .ok (.getfield 196, 3) := by decide +kernel
theorem dX5_tube_75 : decode cX5_tube 75 = .ok (.iload_n 1, 1) := by decide +kernel
theorem dX5_tube_76 : decode cX5_tube 76 = .ok (.iaload, 1) := by decide +kernel
theorem dX5_tube_77 : decode cX5_tube 77 = .ok (.ireturn, 1) := by decide +kernel
theorem dX5_tube_78 : decode cX5_tube 78 = .ok (.aload_n 0, 1) := by decide +kernel
theorem dX5_tube_79 : decode cX5_tube 79 = .ok (.getfield 26, 3) := by decide +kernel
theorem dX5_tube_82 : decode cX5_tube 82 = .ok (.getfield 175, 3) := by decide +kernel
theorem dX5_tube_85 : decode cX5_tube 85 = .ok (.iload_n 1, 1) := by decide +kernel
theorem dX5_tube_86 : decode cX5_tube 86 = .ok (.iaload, 1) := by decide +kernel
theorem dX5_tube_87 : decode cX5_tube 87 = .ok (.ireturn, 1) := by decide +kernel
theorem dX5_tube_88 : decode cX5_tube 88 = .ok (.aload_n 0, 1) := by decide +kernel
theorem dX5_tube_89 : decode cX5_tube 89 = .ok (.getfield 26, 3) := by decide +kernel
theorem dX5_tube_92 : decode cX5_tube 92 = .ok (.iload_n 1, 1) := by decide +kernel
theorem dX5_tube_93 : decode cX5_tube 93 = .ok (.invokevirtual 199, 3) := by decide +kernel
theorem dX5_tube_96 : decode cX5_tube 96 = .ok (.ireturn, 1) := by decide +kernel
theorem dX5_tube_97 : decode cX5_tube 97 = .ok (.ldc 70, 2) := by decide +kernel
theorem dX5_tube_99 : decode cX5_tube 99 = .ok (.ireturn, 1) := by decide +kernel
set_option maxRecDepth 20000 in
theorem ggX5_room_X5_isPlace : GoodIn wsX5_room wsX5_isPlace := goodIn_r _ [9, 2, 10, 11, 12, 13, 14, 15, 16, 17, 18, 8, 19, 36, 37, 38, 39, 40, 41, 42, 43, 44, 45, 46, 47, 48, 49, 50, 51, 52, 53, 54, 55, 56, 57] (by decide +kernel) (by decide +kernel)
set_option maxRecDepth 20000 in
theorem gX5_room_X5_isPlace : GoodIn wsX5_room (wsV RX5 169 RX5 yX5_isPlace wsX5_isPlace) := goodIn_app (goodIn_of _ (by decide +kernel)) ggX5_room_X5_isPlace
set_option maxRecDepth 20000 in
theorem ggX5_room_X5_isRoom : GoodIn wsX5_room wsX5_isRoom := goodIn_r _ [29, 2, 10, 17, 18, 8, 19, 36, 37, 38, 39, 40, 41, 42, 43, 44, 45, 46, 47, 48, 49, 50, 51, 52, 53, 54, 55, 56, 57] (by decide +kernel) (by decide +kernel)
set_option maxRecDepth 20000 in
theorem gX5_room_X5_isRoom : GoodIn wsX5_room (wsV RX5 187 RX5 yX5_isRoom wsX5_isRoom) := goodIn_app (goodIn_of _ (by decide +kernel)) ggX5_room_X5_isRoom
theorem dX5_room_0 : decode cX5_room 0 = .ok (.aload_n 0, 1) := by decide +kernel
theorem dX5_room_1 : decode cX5_room 1 = .ok (.iload_n 1, 1) := by decide +kernel
theorem dX5_room_2 : decode cX5_room 2 = .ok (.invokevirtual 169, 3) := by decide +kernel
theorem dX5_room_5 : decode cX5_room 5 = .ok (.ifCond .ne 6, 3) := by decide +kernel
theorem dX5_room_8 : decode cX5_room 8 = .ok (.ldc 70, 2) := by decide +kernel
theorem dX5_room_10 : decode cX5_room 10 = .ok (.ireturn, 1) := by decide +kernel
theorem dX5_room_11 : decode cX5_room 11 = .ok (.iload_n 2, 1) := by decide +kernel
theorem dX5_room_12 : decode cX5_room 12 = .ok (.iconst 3, 1) := by decide +kernel
theorem dX5_room_13 : decode cX5_room 13 = .ok (.if_icmp .ne 12, 3) := by decide +kernel
theorem dX5_room_16 : decode cX5_room 16 = .ok (.aload_n 0, 1) := by decide +kernel
theorem dX5_room_17 : decode cX5_room 17 = .ok (.getfield 26, 3) := by decide +kernel
theorem dX5_room_20 : decode cX5_room 20 = .ok (.iload_n 1, 1) := by decide +kernel
theorem dX5_room_21 : decode cX5_room 21 = .ok (.invokevirtual 202, 3) := by decide +kernel
theorem dX5_room_24 : decode cX5_room 24 = .ok (.ireturn, 1) := by decide +kernel
theorem dX5_room_25 : decode cX5_room 25 = .ok (.aload_n 0, 1) := by decide +kernel
theorem dX5_room_26 : decode cX5_room 26 = .ok (.iload_n 1, 1) := by decide +kernel
theorem dX5_room_27 : decode cX5_room 27 = .ok (.invokevirtual 187, 3) := by decide +kernel
theorem dX5_room_30 : decode cX5_room 30 = .ok (.ifCond .ne 6, 3) := by decide +kernel
theorem dX5_room_33 : decode cX5_room 33 = .ok (.ldc 70, 2) := by decide +kernel
theorem dX5_room_35 : decode cX5_room 35 = .ok (.ireturn, 1) := by decide +kernel
theorem dX5_room_36 : decode cX5_room 36 = .ok (.iload_n 2, 1) := by decide +kernel
theorem dX5_room_37 : decode cX5_room 37 = .ok (.tableswitch 64 0 2 #[27, 37, 47], 27) := by decide +kernel
theorem dX5_room_64 : decode cX5_room 64 = .ok (.aload_n 0, 1) := by decide +kernel
theorem dX5_room_65 : decode cX5_room 65 = .ok (.getfield 26, 3) := by decide +kernel
theorem dX5_room_68 : decode cX5_room 68 = .ok (.getfield 205, 3) := by decide +kernel
theorem dX5_room_71 : decode cX5_room 71 = .ok (.iload_n 1, 1) := by decide +kernel
theorem dX5_room_72 : decode cX5_room 72 = .ok (.iaload, 1) := by decide +kernel
theorem dX5_room_73 : decode cX5_room 73 = .ok (.ireturn, 1) := by decide +kernel
theorem dX5_room_74 : decode cX5_room 74 = .ok (.aload_n 0, 1) := by decide +kernel
theorem dX5_room_75 : decode cX5_room 75 = .ok (.getfield 26, 3) := by decide +kernel
theorem dX5_room_78 : decode cX5_room 78 = .ok (.getfield 190, 3) := by decide +kernel
theorem dX5_room_81 : decode cX5_room 81 = .ok (.iload_n 1, 1) := by decide +kernel
theorem dX5_room_82 : decode cX5_room 82 = .ok (.iaload, 1) := by decide +kernel
theorem dX5_room_83 : decode cX5_room 83 = .ok (.ireturn, 1) := by decide +kernel
theorem dX5_room_84 : decode cX5_room 84 = .ok (.aload_n 0, 1) := by decide +kernel
theorem dX5_room_85 : decode cX5_room 85 = .ok (.getfield 26, 3) := by decide +kernel
theorem dX5_room_88 : decode cX5_room 88 = .ok (.iload_n 1, 1) := by decide +kernel
theorem dX5_room_89 : decode cX5_room 89 = .ok (.invokevirtual 208, 3) := by decide +kernel
theorem dX5_room_92 : decode cX5_room 92 = .ok (.ifCond .eq 7, 3) := by decide +kernel
theorem dX5_room_95 : decode cX5_room 95 = .ok (.iconst 1, 1) := by decide +kernel
theorem dX5_room_96 : decode cX5_room 96 = .ok (.goto 4, 3) := by decide +kernel
theorem dX5_room_99 : decode cX5_room 99 = .ok (.iconst 0, 1) := by decide +kernel
theorem dX5_room_100 : decode cX5_room 100 = .ok (.ireturn, 1) := by decide +kernel
theorem dX5_room_101 : decode cX5_room 101 = .ok (.ldc 70, 2) := by decide +kernel
theorem dX5_room_103 : decode cX5_room 103 = .ok (.ireturn, 1) := by decide +kernel
set_option maxRecDepth 20000 in
theorem ggX5_ahead_X5_isRoom : GoodIn wsX5_ahead wsX5_isRoom := goodIn_r _ [9, 3, 10, 11, 12, 8, 13, 66, 67, 68, 69, 70, 71, 72, 73, 74, 75, 76, 77, 78, 79, 80, 81, 82, 83, 84, 85, 86, 87] (by decide +kernel) (by decide +kernel)
set_option maxRecDepth 20000 in
theorem gX5_ahead_X5_isRoom : GoodIn wsX5_ahead (wsV RX5 187 RX5 yX5_isRoom wsX5_isRoom) := goodIn_app (goodIn_of _ (by decide +kernel)) ggX5_ahead_X5_isRoom
set_option maxRecDepth 20000 in
theorem ggX5_ahead_X5_within : GoodIn wsX5_ahead wsX5_within := goodIn_r _ [13] (by decide +kernel) (by decide +kernel)
set_option maxRecDepth 20000 in
theorem gX5_ahead_X5_within : GoodIn wsX5_ahead (va_wsS RX5 66 yX5_within wsX5_within) := goodIn_app (goodIn_of _ (by decide +kernel)) ggX5_ahead_X5_within
theorem dX5_ahead_0 : decode cX5_ahead 0 = .ok (.aload_n 0, 1) := by decide +kernel
theorem dX5_ahead_1 : decode cX5_ahead 1 = .ok (.iload_n 1, 1) := by decide +kernel
theorem dX5_ahead_2 : decode cX5_ahead 2 = .ok (.invokevirtual 187, 3) := by decide +kernel
theorem dX5_ahead_5 : decode cX5_ahead 5 = .ok (.ifCond .eq 13, 3) := by decide +kernel
theorem dX5_ahead_8 : decode cX5_ahead 8 = .ok (.iload_n 2, 1) := by decide +kernel
theorem dX5_ahead_9 : decode cX5_ahead 9 = .ok (.iconst 0, 1) := by decide +kernel
theorem dX5_ahead_10 : decode cX5_ahead 10 = .ok (.bipush 60, 2) := by decide +kernel
theorem dX5_ahead_12 : decode cX5_ahead 12 = .ok (.invokestatic 66, 3) := by decide +kernel
theorem dX5_ahead_15 : decode cX5_ahead 15 = .ok (.ifCond .ne 6, 3) := by decide +kernel
theorem dX5_ahead_18 : decode cX5_ahead 18 = .ok (.ldc 70, 2) := by decide +kernel
theorem dX5_ahead_20 : decode cX5_ahead 20 = .ok (.ireturn, 1) := by decide +kernel
theorem dX5_ahead_21 : decode cX5_ahead 21 = .ok (.aload_n 0, 1) := by decide +kernel
theorem dX5_ahead_22 : decode cX5_ahead 22 = .ok (.getfield 30, 3) := by decide +kernel
theorem dX5_ahead_25 : decode cX5_ahead 25 = .ok (.aload_n 0, 1) := by decide +kernel
theorem dX5_ahead_26 : decode cX5_ahead 26 = .ok (.getfield 26, 3) := by decide +kernel
theorem dX5_ahead_29 : decode cX5_ahead 29 = .ok (.invokevirtual 133, 3) := by decide +kernel
theorem dX5_ahead_32 : decode cX5_ahead 32 = .ok (.aload_n 0, 1) := by decide +kernel
theorem dX5_ahead_33 : decode cX5_ahead 33 = .ok (.getfield 30, 3) := by decide +kernel
theorem dX5_ahead_36 : decode cX5_ahead 36 = .ok (.iload_n 2, 1) := by decide +kernel
theorem dX5_ahead_37 : decode cX5_ahead 37 = .ok (.invokevirtual 211, 3) := by decide +kernel
theorem dX5_ahead_40 : decode cX5_ahead 40 = .ok (.aload_n 0, 1) := by decide +kernel
theorem dX5_ahead_41 : decode cX5_ahead 41 = .ok (.getfield 30, 3) := by decide +kernel
theorem dX5_ahead_44 : decode cX5_ahead 44 = .ok (.getfield 205, 3) := by decide +kernel
theorem dX5_ahead_47 : decode cX5_ahead 47 = .ok (.iload_n 1, 1) := by decide +kernel
theorem dX5_ahead_48 : decode cX5_ahead 48 = .ok (.iaload, 1) := by decide +kernel
theorem dX5_ahead_49 : decode cX5_ahead 49 = .ok (.ireturn, 1) := by decide +kernel
set_option maxRecDepth 20000 in
theorem ggX5_upAhead_X5_isTube : GoodIn wsX5_upAhead wsX5_isTube := goodIn_r _ [9, 3, 10, 11, 12, 8, 13, 66, 67, 68, 69, 70, 71, 72, 73, 74, 75, 76, 77, 78, 79, 80, 81, 82, 83, 84, 85, 86, 87] (by decide +kernel) (by decide +kernel)
set_option maxRecDepth 20000 in
theorem gX5_upAhead_X5_isTube : GoodIn wsX5_upAhead (wsV RX5 166 RX5 yX5_isTube wsX5_isTube) := goodIn_app (goodIn_of _ (by decide +kernel)) ggX5_upAhead_X5_isTube
set_option maxRecDepth 20000 in
theorem ggX5_upAhead_X5_within : GoodIn wsX5_upAhead wsX5_within := goodIn_r _ [13] (by decide +kernel) (by decide +kernel)
set_option maxRecDepth 20000 in
theorem gX5_upAhead_X5_within : GoodIn wsX5_upAhead (va_wsS RX5 66 yX5_within wsX5_within) := goodIn_app (goodIn_of _ (by decide +kernel)) ggX5_upAhead_X5_within
theorem dX5_upAhead_0 : decode cX5_upAhead 0 = .ok (.aload_n 0, 1) := by decide +kernel
theorem dX5_upAhead_1 : decode cX5_upAhead 1 = .ok (.iload_n 1, 1) := by decide +kernel
theorem dX5_upAhead_2 : decode cX5_upAhead 2 = .ok (.invokevirtual 166, 3) := by decide +kernel
theorem dX5_upAhead_5 : decode cX5_upAhead 5 = .ok (.ifCond .eq 13, 3) := by decide +kernel
theorem dX5_upAhead_8 : decode cX5_upAhead 8 = .ok (.iload_n 2, 1) := by decide +kernel
theorem dX5_upAhead_9 : decode cX5_upAhead 9 = .ok (.iconst 0, 1) := by decide +kernel
theorem dX5_upAhead_10 : decode cX5_upAhead 10 = .ok (.bipush 60, 2) := by decide +kernel
theorem dX5_upAhead_12 : decode cX5_upAhead 12 = .ok (.invokestatic 66, 3) := by decide +kernel
theorem dX5_upAhead_15 : decode cX5_upAhead 15 = .ok (.ifCond .ne 6, 3) := by decide +kernel
theorem dX5_upAhead_18 : decode cX5_upAhead 18 = .ok (.ldc 70, 2) := by decide +kernel
theorem dX5_upAhead_20 : decode cX5_upAhead 20 = .ok (.ireturn, 1) := by decide +kernel
theorem dX5_upAhead_21 : decode cX5_upAhead 21 = .ok (.aload_n 0, 1) := by decide +kernel
theorem dX5_upAhead_22 : decode cX5_upAhead 22 = .ok (.getfield 30, 3) := by decide +kernel
theorem dX5_upAhead_25 : decode cX5_upAhead 25 = .ok (.aload_n 0, 1) := by decide +kernel
theorem dX5_upAhead_26 : decode cX5_upAhead 26 = .ok (.getfield 26, 3) := by decide +kernel
theorem dX5_upAhead_29 : decode cX5_upAhead 29 = .ok (.invokevirtual 133, 3) := by decide +kernel
theorem dX5_upAhead_32 : decode cX5_upAhead 32 = .ok (.aload_n 0, 1) := by decide +kernel
theorem dX5_upAhead_33 : decode cX5_upAhead 33 = .ok (.getfield 30, 3) := by decide +kernel
theorem dX5_upAhead_36 : decode cX5_upAhead 36 = .ok (.iload_n 2, 1) := by decide +kernel
theorem dX5_upAhead_37 : decode cX5_upAhead 37 = .ok (.invokevirtual 211, 3) := by decide +kernel
theorem dX5_upAhead_40 : decode cX5_upAhead 40 = .ok (.aload_n 0, 1) := by decide +kernel
theorem dX5_upAhead_41 : decode cX5_upAhead 41 = .ok (.getfield 30, 3) := by decide +kernel
theorem dX5_upAhead_44 : decode cX5_upAhead 44 = .ok (.getfield 175, 3) := by decide +kernel
theorem dX5_upAhead_47 : decode cX5_upAhead 47 = .ok (.iload_n 1, 1) := by decide +kernel
theorem dX5_upAhead_48 : decode cX5_upAhead 48 = .ok (.iaload, 1) := by decide +kernel
theorem dX5_upAhead_49 : decode cX5_upAhead 49 = .ok (.ireturn, 1) := by decide +kernel
set_option maxRecDepth 20000 in
theorem ggX5_chill_X5_isRoom : GoodIn wsX5_chill wsX5_isRoom := goodIn_r _ [6, 7, 8, 9, 10, 5, 11, 70, 71, 72, 73, 74, 75, 76, 77, 78, 79, 80, 81, 82, 83, 84, 85, 86, 87, 88, 89, 90, 91] (by decide +kernel) (by decide +kernel)
set_option maxRecDepth 20000 in
theorem gX5_chill_X5_isRoom : GoodIn wsX5_chill (wsV RX5 187 RX5 yX5_isRoom wsX5_isRoom) := goodIn_app (goodIn_of _ (by decide +kernel)) ggX5_chill_X5_isRoom
theorem dX5_chill_0 : decode cX5_chill 0 = .ok (.aload_n 0, 1) := by decide +kernel
theorem dX5_chill_1 : decode cX5_chill 1 = .ok (.iload_n 1, 1) := by decide +kernel
theorem dX5_chill_2 : decode cX5_chill 2 = .ok (.invokevirtual 187, 3) := by decide +kernel
theorem dX5_chill_5 : decode cX5_chill 5 = .ok (.ifCond .ne 6, 3) := by decide +kernel
theorem dX5_chill_8 : decode cX5_chill 8 = .ok (.ldc 70, 2) := by decide +kernel
theorem dX5_chill_10 : decode cX5_chill 10 = .ok (.ireturn, 1) := by decide +kernel
theorem dX5_chill_11 : decode cX5_chill 11 = .ok (.aload_n 0, 1) := by decide +kernel
theorem dX5_chill_12 : decode cX5_chill 12 = .ok (.iconst 1, 1) := by decide +kernel
theorem dX5_chill_13 : decode cX5_chill 13 = .ok (.iload_n 1, 1) := by decide +kernel
theorem dX5_chill_14 : decode cX5_chill 14 = .ok (.ishl, 1) := by decide +kernel
theorem dX5_chill_15 : decode cX5_chill 15 = .ok (.invokevirtual 214, 3) := by decide +kernel
theorem dX5_chill_18 : decode cX5_chill 18 = .ok (.ireturn, 1) := by decide +kernel
set_option maxRecDepth 20000 in
theorem ggX5_first_X0_stands : GoodIn wsX5_first wsX0_stands := goodIn_r _ [10, 11, 85, 86, 87, 88, 89, 90, 91, 92, 93, 94, 95, 96] (by decide +kernel) (by decide +kernel)
set_option maxRecDepth 20000 in
theorem gX5_first_X0_stands : GoodIn wsX5_first (wsV RX5 149 RX0 yX0_stands wsX0_stands) := goodIn_app (goodIn_of _ (by decide +kernel)) ggX5_first_X0_stands
set_option maxRecDepth 20000 in
theorem ggX5_first_X5_within : GoodIn wsX5_first wsX5_within := goodIn_r _ [15] (by decide +kernel) (by decide +kernel)
set_option maxRecDepth 20000 in
theorem gX5_first_X5_within : GoodIn wsX5_first (va_wsS RX5 66 yX5_within wsX5_within) := goodIn_app (goodIn_of _ (by decide +kernel)) ggX5_first_X5_within
set_option maxRecDepth 20000 in
theorem ggX5_first_X0_coldRooms : GoodIn wsX5_first wsX0_coldRooms := goodIn_r _ [42, 11, 28, 25, 85, 86, 87, 88, 89, 90, 91, 92, 93, 94, 95, 96] (by decide +kernel) (by decide +kernel)
set_option maxRecDepth 20000 in
theorem gX5_first_X0_coldRooms : GoodIn wsX5_first (wsV RX5 162 RX0 yX0_coldRooms wsX0_coldRooms) := goodIn_app (goodIn_of _ (by decide +kernel)) ggX5_first_X0_coldRooms
theorem dX5_first_0 : decode cX5_first 0 = .ok (.aload_n 0, 1) := by decide +kernel
theorem dX5_first_1 : decode cX5_first 1 = .ok (.getfield 26, 3) := by decide +kernel
theorem dX5_first_4 : decode cX5_first 4 = .ok (.invokevirtual 149, 3) := by decide +kernel
theorem dX5_first_7 : decode cX5_first 7 = .ok (.ifCond .ne 6, 3) := by decide +kernel
theorem dX5_first_10 : decode cX5_first 10 = .ok (.ldc 145, 2) := by decide +kernel
theorem dX5_first_12 : decode cX5_first 12 = .ok (.ireturn, 1) := by decide +kernel
theorem dX5_first_13 : decode cX5_first 13 = .ok (.iload_n 1, 1) := by decide +kernel
theorem dX5_first_14 : decode cX5_first 14 = .ok (.iconst 0, 1) := by decide +kernel
theorem dX5_first_15 : decode cX5_first 15 = .ok (.iconst 1, 1) := by decide +kernel
theorem dX5_first_16 : decode cX5_first 16 = .ok (.invokestatic 66, 3) := by decide +kernel
theorem dX5_first_19 : decode cX5_first 19 = .ok (.ifCond .ne 6, 3) := by decide +kernel
theorem dX5_first_22 : decode cX5_first 22 = .ok (.ldc 70, 2) := by decide +kernel
theorem dX5_first_24 : decode cX5_first 24 = .ok (.ireturn, 1) := by decide +kernel
theorem dX5_first_25 : decode cX5_first 25 = .ok (.aload_n 0, 1) := by decide +kernel
theorem dX5_first_26 : decode cX5_first 26 = .ok (.iconst (-1), 1) := by decide +kernel
theorem dX5_first_27 : decode cX5_first 27 = .ok (.invokevirtual 214, 3) := by decide +kernel
theorem dX5_first_30 : decode cX5_first 30 = .ok (.istore_n 2, 1) := by decide +kernel
theorem dX5_first_31 : decode cX5_first 31 = .ok (.iload_n 2, 1) := by decide +kernel
theorem dX5_first_32 : decode cX5_first 32 = .ok (.ldc 217, 2) := by decide +kernel
theorem dX5_first_34 : decode cX5_first 34 = .ok (.if_icmp .eq 8, 3) := by decide +kernel
theorem dX5_first_37 : decode cX5_first 37 = .ok (.iload_n 1, 1) := by decide +kernel
theorem dX5_first_38 : decode cX5_first 38 = .ok (.iconst 1, 1) := by decide +kernel
theorem dX5_first_39 : decode cX5_first 39 = .ok (.if_icmp .ne 5, 3) := by decide +kernel
theorem dX5_first_42 : decode cX5_first 42 = .ok (.iload_n 2, 1) := by decide +kernel
theorem dX5_first_43 : decode cX5_first 43 = .ok (.ireturn, 1) := by decide +kernel
theorem dX5_first_44 : decode cX5_first 44 = .ok (.aload_n 0, 1) := by decide +kernel
theorem dX5_first_45 : decode cX5_first 45 = .ok (.getfield 30, 3) := by decide +kernel
theorem dX5_first_48 : decode cX5_first 48 = .ok (.invokevirtual 162, 3) := by decide +kernel
theorem dX5_first_51 : decode cX5_first 51 = .ok (.invokestatic 218, 3) := by decide +kernel
theorem dX5_first_54 : decode cX5_first 54 = .ok (.ireturn, 1) := by decide +kernel
set_option maxRecDepth 20000 in
theorem ggX5_filled_X5_isTube : GoodIn wsX5_filled wsX5_isTube := goodIn_r _ [11, 3, 12, 13, 14, 10, 15, 64, 65, 66, 67, 68, 69, 70, 71, 72, 73, 74, 75, 76, 77, 78, 79, 80, 81, 82, 83, 84, 85] (by decide +kernel) (by decide +kernel)
set_option maxRecDepth 20000 in
theorem gX5_filled_X5_isTube : GoodIn wsX5_filled (wsV RX5 166 RX5 yX5_isTube wsX5_isTube) := goodIn_app (goodIn_of _ (by decide +kernel)) ggX5_filled_X5_isTube
theorem dX5_filled_0 : decode cX5_filled 0 = .ok (.aload_n 0, 1) := by decide +kernel
theorem dX5_filled_1 : decode cX5_filled 1 = .ok (.iload_n 1, 1) := by decide +kernel
theorem dX5_filled_2 : decode cX5_filled 2 = .ok (.invokevirtual 166, 3) := by decide +kernel
theorem dX5_filled_5 : decode cX5_filled 5 = .ok (.ifCond .ne 6, 3) := by decide +kernel
theorem dX5_filled_8 : decode cX5_filled 8 = .ok (.ldc 70, 2) := by decide +kernel
theorem dX5_filled_10 : decode cX5_filled 10 = .ok (.ireturn, 1) := by decide +kernel
theorem dX5_filled_11 : decode cX5_filled 11 = .ok (.aload_n 0, 1) := by decide +kernel
theorem dX5_filled_12 : decode cX5_filled 12 = .ok (.getfield 30, 3) := by decide +kernel
theorem dX5_filled_15 : decode cX5_filled 15 = .ok (.aload_n 0, 1) := by decide +kernel
theorem dX5_filled_16 : decode cX5_filled 16 = .ok (.getfield 26, 3) := by decide +kernel
theorem dX5_filled_19 : decode cX5_filled 19 = .ok (.invokevirtual 133, 3) := by decide +kernel
theorem dX5_filled_22 : decode cX5_filled 22 = .ok (.iconst 0, 1) := by decide +kernel
theorem dX5_filled_23 : decode cX5_filled 23 = .ok (.istore_n 2, 1) := by decide +kernel
theorem dX5_filled_24 : decode cX5_filled 24 = .ok (.iload_n 2, 1) := by decide +kernel
theorem dX5_filled_25 : decode cX5_filled 25 = .ok (.bipush 60, 2) := by decide +kernel
theorem dX5_filled_27 : decode cX5_filled 27 = .ok (.if_icmp .gt 39, 3) := by decide +kernel
theorem dX5_filled_30 : decode cX5_filled 30 = .ok (.aload_n 0, 1) := by decide +kernel
theorem dX5_filled_31 : decode cX5_filled 31 = .ok (.getfield 30, 3) := by decide +kernel
theorem dX5_filled_34 : decode cX5_filled 34 = .ok (.getfield 175, 3) := by decide +kernel
theorem dX5_filled_37 : decode cX5_filled 37 = .ok (.iload_n 1, 1) := by decide +kernel
theorem dX5_filled_38 : decode cX5_filled 38 = .ok (.iaload, 1) := by decide +kernel
theorem dX5_filled_39 : decode cX5_filled 39 = .ok (.aload_n 0, 1) := by decide +kernel
theorem dX5_filled_40 : decode cX5_filled 40 = .ok (.getfield 30, 3) := by decide +kernel
theorem dX5_filled_43 : decode cX5_filled 43 = .ok (.getfield 196, 3) := by decide +kernel
theorem dX5_filled_46 : decode cX5_filled 46 = .ok (.iload_n 1, 1) := by decide +kernel
theorem dX5_filled_47 : decode cX5_filled 47 = .ok (.iaload, 1) := by decide +kernel
theorem dX5_filled_48 : decode cX5_filled 48 = .ok (.if_icmp .ne 5, 3) := by decide +kernel
theorem dX5_filled_51 : decode cX5_filled 51 = .ok (.iload_n 2, 1) := by decide +kernel
theorem dX5_filled_52 : decode cX5_filled 52 = .ok (.ireturn, 1) := by decide +kernel
theorem dX5_filled_53 : decode cX5_filled 53 = .ok (.aload_n 0, 1) := by decide +kernel
theorem dX5_filled_54 : decode cX5_filled 54 = .ok (.getfield 30, 3) := by decide +kernel
theorem dX5_filled_57 : decode cX5_filled 57 = .ok (.invokevirtual 159, 3) := by decide +kernel
theorem dX5_filled_60 : decode cX5_filled 60 = .ok (.iinc 2 1, 3) := by decide +kernel
theorem dX5_filled_63 : decode cX5_filled 63 = .ok (.goto (-39), 3) := by decide +kernel
theorem dX5_filled_66 : decode cX5_filled 66 = .ok (.ldc 217, 2) := by decide +kernel
theorem dX5_filled_68 : decode cX5_filled 68 = .ok (.ireturn, 1) := by decide +kernel
set_option maxRecDepth 20000 in
theorem ggX5_outs_X5_isRoom : GoodIn wsX5_outs wsX5_isRoom := goodIn_r _ [8, 3, 9, 10, 11, 7, 12, 91, 92, 93, 94, 95, 96, 97, 98, 99, 100, 101, 102, 103, 104, 105, 106, 107, 108, 109, 110, 111, 112] (by decide +kernel) (by decide +kernel)
set_option maxRecDepth 20000 in
theorem gX5_outs_X5_isRoom : GoodIn wsX5_outs (wsV RX5 187 RX5 yX5_isRoom wsX5_isRoom) := goodIn_app (goodIn_of _ (by decide +kernel)) ggX5_outs_X5_isRoom
set_option maxRecDepth 20000 in
theorem ggX5_outs_X5_within : GoodIn wsX5_outs wsX5_within := goodIn_r _ [12] (by decide +kernel) (by decide +kernel)
set_option maxRecDepth 20000 in
theorem gX5_outs_X5_within : GoodIn wsX5_outs (va_wsS RX5 66 yX5_within wsX5_within) := goodIn_app (goodIn_of _ (by decide +kernel)) ggX5_outs_X5_within
theorem dX5_outs_0 : decode cX5_outs 0 = .ok (.aload_n 0, 1) := by decide +kernel
theorem dX5_outs_1 : decode cX5_outs 1 = .ok (.iload_n 1, 1) := by decide +kernel
theorem dX5_outs_2 : decode cX5_outs 2 = .ok (.invokevirtual 187, 3) := by decide +kernel
theorem dX5_outs_5 : decode cX5_outs 5 = .ok (.ifCond .eq 22, 3) := by decide +kernel
theorem dX5_outs_8 : decode cX5_outs 8 = .ok (.iload_n 2, 1) := by decide +kernel
theorem dX5_outs_9 : decode cX5_outs 9 = .ok (.iconst 1, 1) := by decide +kernel
theorem dX5_outs_10 : decode cX5_outs 10 = .ok (.bipush 30, 2) := by decide +kernel
theorem dX5_outs_12 : decode cX5_outs 12 = .ok (.invokestatic 66, 3) := by decide +kernel
theorem dX5_outs_15 : decode cX5_outs 15 = .ok (.ifCond .eq 12, 3) := by decide +kernel
theorem dX5_outs_18 : decode cX5_outs 18 = .ok (.iload_n 3, 1) := by decide +kernel
theorem dX5_outs_19 : decode cX5_outs 19 = .ok (.iconst 0, 1) := by decide +kernel
theorem dX5_outs_20 : decode cX5_outs 20 = .ok (.iconst 1, 1) := by decide +kernel
theorem dX5_outs_21 : decode cX5_outs 21 = .ok (.invokestatic 66, 3) := by decide +kernel
theorem dX5_outs_24 : decode cX5_outs 24 = .ok (.ifCond .ne 6, 3) := by decide +kernel
theorem dX5_outs_27 : decode cX5_outs 27 = .ok (.ldc 70, 2) := by decide +kernel
theorem dX5_outs_29 : decode cX5_outs 29 = .ok (.ireturn, 1) := by decide +kernel
theorem dX5_outs_30 : decode cX5_outs 30 = .ok (.ldc 217, 2) := by decide +kernel
theorem dX5_outs_32 : decode cX5_outs 32 = .ok (.istore 4, 2) := by decide +kernel
theorem dX5_outs_34 : decode cX5_outs 34 = .ok (.aload_n 0, 1) := by decide +kernel
theorem dX5_outs_35 : decode cX5_outs 35 = .ok (.getfield 26, 3) := by decide +kernel
theorem dX5_outs_38 : decode cX5_outs 38 = .ok (.iload_n 1, 1) := by decide +kernel
theorem dX5_outs_39 : decode cX5_outs 39 = .ok (.invokevirtual 202, 3) := by decide +kernel
theorem dX5_outs_42 : decode cX5_outs 42 = .ok (.istore 5, 2) := by decide +kernel
theorem dX5_outs_44 : decode cX5_outs 44 = .ok (.iconst 0, 1) := by decide +kernel
theorem dX5_outs_45 : decode cX5_outs 45 = .ok (.istore 6, 2) := by decide +kernel
theorem dX5_outs_47 : decode cX5_outs 47 = .ok (.iload 6, 2) := by decide +kernel
theorem dX5_outs_49 : decode cX5_outs 49 = .ok (.iload 5, 2) := by decide +kernel
theorem dX5_outs_51 : decode cX5_outs 51 = .ok (.if_icmp .gt 44, 3) := by decide +kernel
theorem dX5_outs_54 : decode cX5_outs 54 = .ok (.iload 6, 2) := by decide +kernel
theorem dX5_outs_56 : decode cX5_outs 56 = .ok (.iload 5, 2) := by decide +kernel
theorem dX5_outs_58 : decode cX5_outs 58 = .ok (.invokestatic 223, 3) := by decide +kernel
theorem dX5_outs_61 : decode cX5_outs 61 = .ok (.ifCond .eq 28, 3) := by decide +kernel
theorem dX5_outs_64 : decode cX5_outs 64 = .ok (.iload 6, 2) := by decide +kernel
theorem dX5_outs_66 : decode cX5_outs 66 = .ok (.iload 4, 2) := by decide +kernel
theorem dX5_outs_68 : decode cX5_outs 68 = .ok (.invokestatic 227, 3) := by decide +kernel
theorem dX5_outs_71 : decode cX5_outs 71 = .ok (.ifCond .eq 18, 3) := by decide +kernel
theorem dX5_outs_74 : decode cX5_outs 74 = .ok (.aload_n 0, 1) := by decide +kernel
theorem dX5_outs_75 : decode cX5_outs 75 = .ok (.iload_n 1, 1) := by decide +kernel
theorem dX5_outs_76 : decode cX5_outs 76 = .ok (.iload_n 2, 1) := by decide +kernel
theorem dX5_outs_77 : decode cX5_outs 77 = .ok (.iload 6, 2) := by decide +kernel
theorem dX5_outs_79 : decode cX5_outs 79 = .ok (.invokevirtual 230, 3) := by decide +kernel
theorem dX5_outs_82 : decode cX5_outs 82 = .ok (.ifCond .eq 7, 3) := by decide +kernel
theorem dX5_outs_85 : decode cX5_outs 85 = .ok (.iload 6, 2) := by decide +kernel
theorem dX5_outs_87 : decode cX5_outs 87 = .ok (.istore 4, 2) := by decide +kernel
theorem dX5_outs_89 : decode cX5_outs 89 = .ok (.iinc 6 1, 3) := by decide +kernel
theorem dX5_outs_92 : decode cX5_outs 92 = .ok (.goto (-45), 3) := by decide +kernel
theorem dX5_outs_95 : decode cX5_outs 95 = .ok (.iload 4, 2) := by decide +kernel
theorem dX5_outs_97 : decode cX5_outs 97 = .ok (.iload_n 3, 1) := by decide +kernel
theorem dX5_outs_98 : decode cX5_outs 98 = .ok (.invokestatic 233, 3) := by decide +kernel
theorem dX5_outs_101 : decode cX5_outs 101 = .ok (.ireturn, 1) := by decide +kernel
set_option maxRecDepth 20000 in
theorem ggX5_shakes_X5_isRoom : GoodIn wsX5_shakes wsX5_isRoom := goodIn_r _ [8, 3, 9, 10, 11, 7, 12, 99, 100, 101, 102, 103, 104, 105, 106, 107, 108, 109, 110, 111, 112, 113, 114, 115, 116, 117, 118, 119, 120] (by decide +kernel) (by decide +kernel)
set_option maxRecDepth 20000 in
theorem gX5_shakes_X5_isRoom : GoodIn wsX5_shakes (wsV RX5 187 RX5 yX5_isRoom wsX5_isRoom) := goodIn_app (goodIn_of _ (by decide +kernel)) ggX5_shakes_X5_isRoom
set_option maxRecDepth 20000 in
theorem ggX5_shakes_X5_within : GoodIn wsX5_shakes wsX5_within := goodIn_r _ [12] (by decide +kernel) (by decide +kernel)
set_option maxRecDepth 20000 in
theorem gX5_shakes_X5_within : GoodIn wsX5_shakes (va_wsS RX5 66 yX5_within wsX5_within) := goodIn_app (goodIn_of _ (by decide +kernel)) ggX5_shakes_X5_within
theorem dX5_shakes_0 : decode cX5_shakes 0 = .ok (.aload_n 0, 1) := by decide +kernel
theorem dX5_shakes_1 : decode cX5_shakes 1 = .ok (.iload_n 1, 1) := by decide +kernel
theorem dX5_shakes_2 : decode cX5_shakes 2 = .ok (.invokevirtual 187, 3) := by decide +kernel
theorem dX5_shakes_5 : decode cX5_shakes 5 = .ok (.ifCond .eq 22, 3) := by decide +kernel
theorem dX5_shakes_8 : decode cX5_shakes 8 = .ok (.iload_n 2, 1) := by decide +kernel
theorem dX5_shakes_9 : decode cX5_shakes 9 = .ok (.iconst 1, 1) := by decide +kernel
theorem dX5_shakes_10 : decode cX5_shakes 10 = .ok (.bipush 30, 2) := by decide +kernel
theorem dX5_shakes_12 : decode cX5_shakes 12 = .ok (.invokestatic 66, 3) := by decide +kernel
theorem dX5_shakes_15 : decode cX5_shakes 15 = .ok (.ifCond .eq 12, 3) := by decide +kernel
theorem dX5_shakes_18 : decode cX5_shakes 18 = .ok (.iload_n 3, 1) := by decide +kernel
theorem dX5_shakes_19 : decode cX5_shakes 19 = .ok (.iconst 0, 1) := by decide +kernel
theorem dX5_shakes_20 : decode cX5_shakes 20 = .ok (.iconst 1, 1) := by decide +kernel
theorem dX5_shakes_21 : decode cX5_shakes 21 = .ok (.invokestatic 66, 3) := by decide +kernel
theorem dX5_shakes_24 : decode cX5_shakes 24 = .ok (.ifCond .ne 6, 3) := by decide +kernel
theorem dX5_shakes_27 : decode cX5_shakes 27 = .ok (.ldc 70, 2) := by decide +kernel
theorem dX5_shakes_29 : decode cX5_shakes 29 = .ok (.ireturn, 1) := by decide +kernel
theorem dX5_shakes_30 : decode cX5_shakes 30 = .ok (.ldc 217, 2) := by decide +kernel
theorem dX5_shakes_32 : decode cX5_shakes 32 = .ok (.istore 4, 2) := by decide +kernel
theorem dX5_shakes_34 : decode cX5_shakes 34 = .ok (.aload_n 0, 1) := by decide +kernel
theorem dX5_shakes_35 : decode cX5_shakes 35 = .ok (.getfield 26, 3) := by decide +kernel
theorem dX5_shakes_38 : decode cX5_shakes 38 = .ok (.iload_n 1, 1) := by decide +kernel
theorem dX5_shakes_39 : decode cX5_shakes 39 = .ok (.invokevirtual 202, 3) := by decide +kernel
theorem dX5_shakes_42 : decode cX5_shakes 42 = .ok (.istore 5, 2) := by decide +kernel
theorem dX5_shakes_44 : decode cX5_shakes 44 = .ok (.iconst 0, 1) := by decide +kernel
theorem dX5_shakes_45 : decode cX5_shakes 45 = .ok (.istore 6, 2) := by decide +kernel
theorem dX5_shakes_47 : decode cX5_shakes 47 = .ok (.iload 6, 2) := by decide +kernel
theorem dX5_shakes_49 : decode cX5_shakes 49 = .ok (.iload 5, 2) := by decide +kernel
theorem dX5_shakes_51 : decode cX5_shakes 51 = .ok (.if_icmp .gt 44, 3) := by decide +kernel
theorem dX5_shakes_54 : decode cX5_shakes 54 = .ok (.iload 6, 2) := by decide +kernel
theorem dX5_shakes_56 : decode cX5_shakes 56 = .ok (.iload 5, 2) := by decide +kernel
theorem dX5_shakes_58 : decode cX5_shakes 58 = .ok (.invokestatic 223, 3) := by decide +kernel
theorem dX5_shakes_61 : decode cX5_shakes 61 = .ok (.ifCond .eq 28, 3) := by decide +kernel
theorem dX5_shakes_64 : decode cX5_shakes 64 = .ok (.iload 6, 2) := by decide +kernel
theorem dX5_shakes_66 : decode cX5_shakes 66 = .ok (.iload 4, 2) := by decide +kernel
theorem dX5_shakes_68 : decode cX5_shakes 68 = .ok (.invokestatic 227, 3) := by decide +kernel
theorem dX5_shakes_71 : decode cX5_shakes 71 = .ok (.ifCond .eq 18, 3) := by decide +kernel
theorem dX5_shakes_74 : decode cX5_shakes 74 = .ok (.aload_n 0, 1) := by decide +kernel
theorem dX5_shakes_75 : decode cX5_shakes 75 = .ok (.iload_n 1, 1) := by decide +kernel
theorem dX5_shakes_76 : decode cX5_shakes 76 = .ok (.iload_n 2, 1) := by decide +kernel
theorem dX5_shakes_77 : decode cX5_shakes 77 = .ok (.iload 6, 2) := by decide +kernel
theorem dX5_shakes_79 : decode cX5_shakes 79 = .ok (.invokevirtual 236, 3) := by decide +kernel
theorem dX5_shakes_82 : decode cX5_shakes 82 = .ok (.ifCond .eq 7, 3) := by decide +kernel
theorem dX5_shakes_85 : decode cX5_shakes 85 = .ok (.iload 6, 2) := by decide +kernel
theorem dX5_shakes_87 : decode cX5_shakes 87 = .ok (.istore 4, 2) := by decide +kernel
theorem dX5_shakes_89 : decode cX5_shakes 89 = .ok (.iinc 6 1, 3) := by decide +kernel
theorem dX5_shakes_92 : decode cX5_shakes 92 = .ok (.goto (-45), 3) := by decide +kernel
theorem dX5_shakes_95 : decode cX5_shakes 95 = .ok (.iload 4, 2) := by decide +kernel
theorem dX5_shakes_97 : decode cX5_shakes 97 = .ok (.iload_n 3, 1) := by decide +kernel
theorem dX5_shakes_98 : decode cX5_shakes 98 = .ok (.invokestatic 233, 3) := by decide +kernel
theorem dX5_shakes_101 : decode cX5_shakes 101 = .ok (.ireturn, 1) := by decide +kernel
set_option maxRecDepth 20000 in
theorem ggX5_hang_X5_isTube : GoodIn wsX5_hang wsX5_isTube := goodIn_r _ [11, 2, 12, 13, 14, 10, 15, 68, 69, 70, 71, 72, 73, 74, 75, 76, 77, 78, 79, 80, 81, 82, 83, 84, 85, 86, 87, 88, 89] (by decide +kernel) (by decide +kernel)
set_option maxRecDepth 20000 in
theorem gX5_hang_X5_isTube : GoodIn wsX5_hang (wsV RX5 166 RX5 yX5_isTube wsX5_isTube) := goodIn_app (goodIn_of _ (by decide +kernel)) ggX5_hang_X5_isTube
set_option maxRecDepth 20000 in
theorem ggX5_hang_X5_within : GoodIn wsX5_hang wsX5_within := goodIn_r _ [15] (by decide +kernel) (by decide +kernel)
set_option maxRecDepth 20000 in
theorem gX5_hang_X5_within : GoodIn wsX5_hang (va_wsS RX5 66 yX5_within wsX5_within) := goodIn_app (goodIn_of _ (by decide +kernel)) ggX5_hang_X5_within
theorem dX5_hang_0 : decode cX5_hang 0 = .ok (.aload_n 0, 1) := by decide +kernel
theorem dX5_hang_1 : decode cX5_hang 1 = .ok (.iload_n 1, 1) := by decide +kernel
theorem dX5_hang_2 : decode cX5_hang 2 = .ok (.invokevirtual 166, 3) := by decide +kernel
theorem dX5_hang_5 : decode cX5_hang 5 = .ok (.ifCond .eq 22, 3) := by decide +kernel
theorem dX5_hang_8 : decode cX5_hang 8 = .ok (.iload_n 2, 1) := by decide +kernel
theorem dX5_hang_9 : decode cX5_hang 9 = .ok (.iconst 1, 1) := by decide +kernel
theorem dX5_hang_10 : decode cX5_hang 10 = .ok (.bipush 30, 2) := by decide +kernel
theorem dX5_hang_12 : decode cX5_hang 12 = .ok (.invokestatic 66, 3) := by decide +kernel
theorem dX5_hang_15 : decode cX5_hang 15 = .ok (.ifCond .eq 12, 3) := by decide +kernel
theorem dX5_hang_18 : decode cX5_hang 18 = .ok (.iload_n 3, 1) := by decide +kernel
theorem dX5_hang_19 : decode cX5_hang 19 = .ok (.iconst 0, 1) := by decide +kernel
theorem dX5_hang_20 : decode cX5_hang 20 = .ok (.iconst 1, 1) := by decide +kernel
theorem dX5_hang_21 : decode cX5_hang 21 = .ok (.invokestatic 66, 3) := by decide +kernel
theorem dX5_hang_24 : decode cX5_hang 24 = .ok (.ifCond .ne 6, 3) := by decide +kernel
theorem dX5_hang_27 : decode cX5_hang 27 = .ok (.ldc 70, 2) := by decide +kernel
theorem dX5_hang_29 : decode cX5_hang 29 = .ok (.ireturn, 1) := by decide +kernel
theorem dX5_hang_30 : decode cX5_hang 30 = .ok (.iconst 0, 1) := by decide +kernel
theorem dX5_hang_31 : decode cX5_hang 31 = .ok (.istore 4, 2) := by decide +kernel
theorem dX5_hang_33 : decode cX5_hang 33 = .ok (.iconst (-1), 1) := by decide +kernel
theorem dX5_hang_34 : decode cX5_hang 34 = .ok (.istore 5, 2) := by decide +kernel
theorem dX5_hang_36 : decode cX5_hang 36 = .ok (.iconst 0, 1) := by decide +kernel
theorem dX5_hang_37 : decode cX5_hang 37 = .ok (.istore 6, 2) := by decide +kernel
theorem dX5_hang_39 : decode cX5_hang 39 = .ok (.iload 6, 2) := by decide +kernel
theorem dX5_hang_41 : decode cX5_hang 41 = .ok (.aload_n 0, 1) := by decide +kernel
theorem dX5_hang_42 : decode cX5_hang 42 = .ok (.getfield 26, 3) := by decide +kernel
theorem dX5_hang_45 : decode cX5_hang 45 = .ok (.getfield 239, 3) := by decide +kernel
theorem dX5_hang_48 : decode cX5_hang 48 = .ok (.if_icmp .gt 68, 3) := by decide +kernel
theorem dX5_hang_51 : decode cX5_hang 51 = .ok (.aload_n 0, 1) := by decide +kernel
theorem dX5_hang_52 : decode cX5_hang 52 = .ok (.getfield 30, 3) := by decide +kernel
theorem dX5_hang_55 : decode cX5_hang 55 = .ok (.aload_n 0, 1) := by decide +kernel
theorem dX5_hang_56 : decode cX5_hang 56 = .ok (.getfield 26, 3) := by decide +kernel
theorem dX5_hang_59 : decode cX5_hang 59 = .ok (.invokevirtual 133, 3) := by decide +kernel
theorem dX5_hang_62 : decode cX5_hang 62 = .ok (.aload_n 0, 1) := by decide +kernel
theorem dX5_hang_63 : decode cX5_hang 63 = .ok (.getfield 30, 3) := by decide +kernel
theorem dX5_hang_66 : decode cX5_hang 66 = .ok (.getfield 172, 3) := by decide +kernel
theorem dX5_hang_69 : decode cX5_hang 69 = .ok (.iload_n 1, 1) := by decide +kernel
theorem dX5_hang_70 : decode cX5_hang 70 = .ok (.iload 6, 2) := by decide +kernel
theorem dX5_hang_72 : decode cX5_hang 72 = .ok (.iastore, 1) := by decide +kernel
theorem dX5_hang_73 : decode cX5_hang 73 = .ok (.aload_n 0, 1) := by decide +kernel
theorem dX5_hang_74 : decode cX5_hang 74 = .ok (.getfield 30, 3) := by decide +kernel
theorem dX5_hang_77 : decode cX5_hang 77 = .ok (.iload_n 2, 1) := by decide +kernel
theorem dX5_hang_78 : decode cX5_hang 78 = .ok (.invokevirtual 211, 3) := by decide +kernel
theorem dX5_hang_81 : decode cX5_hang 81 = .ok (.aload_n 0, 1) := by decide +kernel
theorem dX5_hang_82 : decode cX5_hang 82 = .ok (.getfield 30, 3) := by decide +kernel
theorem dX5_hang_85 : decode cX5_hang 85 = .ok (.getfield 175, 3) := by decide +kernel
theorem dX5_hang_88 : decode cX5_hang 88 = .ok (.iload_n 1, 1) := by decide +kernel
theorem dX5_hang_89 : decode cX5_hang 89 = .ok (.iaload, 1) := by decide +kernel
theorem dX5_hang_90 : decode cX5_hang 90 = .ok (.iload 5, 2) := by decide +kernel
theorem dX5_hang_92 : decode cX5_hang 92 = .ok (.if_icmp .le 18, 3) := by decide +kernel
theorem dX5_hang_95 : decode cX5_hang 95 = .ok (.aload_n 0, 1) := by decide +kernel
theorem dX5_hang_96 : decode cX5_hang 96 = .ok (.getfield 30, 3) := by decide +kernel
theorem dX5_hang_99 : decode cX5_hang 99 = .ok (.getfield 175, 3) := by decide +kernel
theorem dX5_hang_102 : decode cX5_hang 102 = .ok (.iload_n 1, 1) := by decide +kernel
theorem dX5_hang_103 : decode cX5_hang 103 = .ok (.iaload, 1) := by decide +kernel
theorem dX5_hang_104 : decode cX5_hang 104 = .ok (.istore 5, 2) := by decide +kernel
theorem dX5_hang_106 : decode cX5_hang 106 = .ok (.iload 6, 2) := by decide +kernel
theorem dX5_hang_108 : decode cX5_hang 108 = .ok (.istore 4, 2) := by decide +kernel
theorem dX5_hang_110 : decode cX5_hang 110 = .ok (.iinc 6 1, 3) := by decide +kernel
theorem dX5_hang_113 : decode cX5_hang 113 = .ok (.goto (-74), 3) := by decide +kernel
theorem dX5_hang_116 : decode cX5_hang 116 = .ok (.iload_n 3, 1) := by decide +kernel
theorem dX5_hang_117 : decode cX5_hang 117 = .ok (.ifCond .ne 8, 3) := by decide +kernel
theorem dX5_hang_120 : decode cX5_hang 120 = .ok (.iload 4, 2) := by decide +kernel
theorem dX5_hang_122 : decode cX5_hang 122 = .ok (.goto 5, 3) := by decide +kernel
theorem dX5_hang_125 : decode cX5_hang 125 = .ok (.iload 5, 2) := by decide +kernel
theorem dX5_hang_127 : decode cX5_hang 127 = .ok (.ireturn, 1) := by decide +kernel
set_option maxRecDepth 20000 in
theorem ggX5_fire_X5_isRoom : GoodIn wsX5_fire wsX5_isRoom := goodIn_r _ [10, 3, 11, 12, 13, 9, 14, 68, 69, 70, 71, 72, 73, 74, 75, 76, 77, 78, 79, 80, 81, 82, 83, 84, 85, 86, 87, 88, 89] (by decide +kernel) (by decide +kernel)
set_option maxRecDepth 20000 in
theorem gX5_fire_X5_isRoom : GoodIn wsX5_fire (wsV RX5 187 RX5 yX5_isRoom wsX5_isRoom) := goodIn_app (goodIn_of _ (by decide +kernel)) ggX5_fire_X5_isRoom
set_option maxRecDepth 20000 in
theorem ggX5_fire_X5_within : GoodIn wsX5_fire wsX5_within := goodIn_r _ [14] (by decide +kernel) (by decide +kernel)
set_option maxRecDepth 20000 in
theorem gX5_fire_X5_within : GoodIn wsX5_fire (va_wsS RX5 66 yX5_within wsX5_within) := goodIn_app (goodIn_of _ (by decide +kernel)) ggX5_fire_X5_within
theorem dX5_fire_0 : decode cX5_fire 0 = .ok (.aload_n 0, 1) := by decide +kernel
theorem dX5_fire_1 : decode cX5_fire 1 = .ok (.iload_n 1, 1) := by decide +kernel
theorem dX5_fire_2 : decode cX5_fire 2 = .ok (.invokevirtual 187, 3) := by decide +kernel
theorem dX5_fire_5 : decode cX5_fire 5 = .ok (.ifCond .eq 13, 3) := by decide +kernel
theorem dX5_fire_8 : decode cX5_fire 8 = .ok (.iload_n 2, 1) := by decide +kernel
theorem dX5_fire_9 : decode cX5_fire 9 = .ok (.iconst 1, 1) := by decide +kernel
theorem dX5_fire_10 : decode cX5_fire 10 = .ok (.bipush 30, 2) := by decide +kernel
theorem dX5_fire_12 : decode cX5_fire 12 = .ok (.invokestatic 66, 3) := by decide +kernel
theorem dX5_fire_15 : decode cX5_fire 15 = .ok (.ifCond .ne 6, 3) := by decide +kernel
theorem dX5_fire_18 : decode cX5_fire 18 = .ok (.ldc 70, 2) := by decide +kernel
theorem dX5_fire_20 : decode cX5_fire 20 = .ok (.ireturn, 1) := by decide +kernel
theorem dX5_fire_21 : decode cX5_fire 21 = .ok (.iconst 0, 1) := by decide +kernel
theorem dX5_fire_22 : decode cX5_fire 22 = .ok (.istore_n 3, 1) := by decide +kernel
theorem dX5_fire_23 : decode cX5_fire 23 = .ok (.iload_n 3, 1) := by decide +kernel
theorem dX5_fire_24 : decode cX5_fire 24 = .ok (.bipush 20, 2) := by decide +kernel
theorem dX5_fire_26 : decode cX5_fire 26 = .ok (.if_icmp .gt 51, 3) := by decide +kernel
theorem dX5_fire_29 : decode cX5_fire 29 = .ok (.aload_n 0, 1) := by decide +kernel
theorem dX5_fire_30 : decode cX5_fire 30 = .ok (.getfield 30, 3) := by decide +kernel
theorem dX5_fire_33 : decode cX5_fire 33 = .ok (.aload_n 0, 1) := by decide +kernel
theorem dX5_fire_34 : decode cX5_fire 34 = .ok (.getfield 26, 3) := by decide +kernel
theorem dX5_fire_37 : decode cX5_fire 37 = .ok (.invokevirtual 133, 3) := by decide +kernel
theorem dX5_fire_40 : decode cX5_fire 40 = .ok (.aload_n 0, 1) := by decide +kernel
theorem dX5_fire_41 : decode cX5_fire 41 = .ok (.getfield 30, 3) := by decide +kernel
theorem dX5_fire_44 : decode cX5_fire 44 = .ok (.getfield 190, 3) := by decide +kernel
theorem dX5_fire_47 : decode cX5_fire 47 = .ok (.iload_n 1, 1) := by decide +kernel
theorem dX5_fire_48 : decode cX5_fire 48 = .ok (.iload_n 3, 1) := by decide +kernel
theorem dX5_fire_49 : decode cX5_fire 49 = .ok (.iastore, 1) := by decide +kernel
theorem dX5_fire_50 : decode cX5_fire 50 = .ok (.aload_n 0, 1) := by decide +kernel
theorem dX5_fire_51 : decode cX5_fire 51 = .ok (.getfield 30, 3) := by decide +kernel
theorem dX5_fire_54 : decode cX5_fire 54 = .ok (.iload_n 2, 1) := by decide +kernel
theorem dX5_fire_55 : decode cX5_fire 55 = .ok (.invokevirtual 211, 3) := by decide +kernel
theorem dX5_fire_58 : decode cX5_fire 58 = .ok (.aload_n 0, 1) := by decide +kernel
theorem dX5_fire_59 : decode cX5_fire 59 = .ok (.getfield 30, 3) := by decide +kernel
theorem dX5_fire_62 : decode cX5_fire 62 = .ok (.iload_n 1, 1) := by decide +kernel
theorem dX5_fire_63 : decode cX5_fire 63 = .ok (.invokevirtual 208, 3) := by decide +kernel
theorem dX5_fire_66 : decode cX5_fire 66 = .ok (.ifCond .ne 5, 3) := by decide +kernel
theorem dX5_fire_69 : decode cX5_fire 69 = .ok (.iload_n 3, 1) := by decide +kernel
theorem dX5_fire_70 : decode cX5_fire 70 = .ok (.ireturn, 1) := by decide +kernel
theorem dX5_fire_71 : decode cX5_fire 71 = .ok (.iinc 3 1, 3) := by decide +kernel
theorem dX5_fire_74 : decode cX5_fire 74 = .ok (.goto (-51), 3) := by decide +kernel
theorem dX5_fire_77 : decode cX5_fire 77 = .ok (.ldc 217, 2) := by decide +kernel
theorem dX5_fire_79 : decode cX5_fire 79 = .ok (.ireturn, 1) := by decide +kernel
set_option maxRecDepth 20000 in
theorem ggX5_pours_X5_isTube : GoodIn wsX5_pours wsX5_isTube := goodIn_r _ [10, 3, 11, 12, 13, 9, 14, 60, 61, 62, 63, 64, 65, 66, 67, 68, 69, 70, 71, 72, 73, 74, 75, 76, 77, 78, 79, 80, 81] (by decide +kernel) (by decide +kernel)
set_option maxRecDepth 20000 in
theorem gX5_pours_X5_isTube : GoodIn wsX5_pours (wsV RX5 166 RX5 yX5_isTube wsX5_isTube) := goodIn_app (goodIn_of _ (by decide +kernel)) ggX5_pours_X5_isTube
set_option maxRecDepth 20000 in
theorem ggX5_pours_X5_within : GoodIn wsX5_pours wsX5_within := goodIn_r _ [14] (by decide +kernel) (by decide +kernel)
set_option maxRecDepth 20000 in
theorem gX5_pours_X5_within : GoodIn wsX5_pours (va_wsS RX5 66 yX5_within wsX5_within) := goodIn_app (goodIn_of _ (by decide +kernel)) ggX5_pours_X5_within
theorem dX5_pours_0 : decode cX5_pours 0 = .ok (.aload_n 0, 1) := by decide +kernel
theorem dX5_pours_1 : decode cX5_pours 1 = .ok (.iload_n 1, 1) := by decide +kernel
theorem dX5_pours_2 : decode cX5_pours 2 = .ok (.invokevirtual 166, 3) := by decide +kernel
theorem dX5_pours_5 : decode cX5_pours 5 = .ok (.ifCond .eq 18, 3) := by decide +kernel
theorem dX5_pours_8 : decode cX5_pours 8 = .ok (.iload_n 2, 1) := by decide +kernel
theorem dX5_pours_9 : decode cX5_pours 9 = .ok (.iconst 0, 1) := by decide +kernel
theorem dX5_pours_10 : decode cX5_pours 10 = .ok (.bipush 40, 2) := by decide +kernel
theorem dX5_pours_12 : decode cX5_pours 12 = .ok (.invokestatic 66, 3) := by decide +kernel
theorem dX5_pours_15 : decode cX5_pours 15 = .ok (.ifCond .eq 8, 3) := by decide +kernel
theorem dX5_pours_18 : decode cX5_pours 18 = .ok (.iload_n 3, 1) := by decide +kernel
theorem dX5_pours_19 : decode cX5_pours 19 = .ok (.iconst (-1), 1) := by decide +kernel
theorem dX5_pours_20 : decode cX5_pours 20 = .ok (.if_icmp .ge 6, 3) := by decide +kernel
theorem dX5_pours_23 : decode cX5_pours 23 = .ok (.ldc 70, 2) := by decide +kernel
theorem dX5_pours_25 : decode cX5_pours 25 = .ok (.ireturn, 1) := by decide +kernel
theorem dX5_pours_26 : decode cX5_pours 26 = .ok (.aload_n 0, 1) := by decide +kernel
theorem dX5_pours_27 : decode cX5_pours 27 = .ok (.getfield 30, 3) := by decide +kernel
theorem dX5_pours_30 : decode cX5_pours 30 = .ok (.aload_n 0, 1) := by decide +kernel
theorem dX5_pours_31 : decode cX5_pours 31 = .ok (.getfield 26, 3) := by decide +kernel
theorem dX5_pours_34 : decode cX5_pours 34 = .ok (.invokevirtual 133, 3) := by decide +kernel
theorem dX5_pours_37 : decode cX5_pours 37 = .ok (.iconst 0, 1) := by decide +kernel
theorem dX5_pours_38 : decode cX5_pours 38 = .ok (.istore 4, 2) := by decide +kernel
theorem dX5_pours_40 : decode cX5_pours 40 = .ok (.iload 4, 2) := by decide +kernel
theorem dX5_pours_42 : decode cX5_pours 42 = .ok (.iconst 3, 1) := by decide +kernel
theorem dX5_pours_43 : decode cX5_pours 43 = .ok (.if_icmp .gt 56, 3) := by decide +kernel
theorem dX5_pours_46 : decode cX5_pours 46 = .ok (.aload_n 0, 1) := by decide +kernel
theorem dX5_pours_47 : decode cX5_pours 47 = .ok (.getfield 30, 3) := by decide +kernel
theorem dX5_pours_50 : decode cX5_pours 50 = .ok (.aload_n 0, 1) := by decide +kernel
theorem dX5_pours_51 : decode cX5_pours 51 = .ok (.getfield 44, 3) := by decide +kernel
theorem dX5_pours_54 : decode cX5_pours 54 = .ok (.iload_n 1, 1) := by decide +kernel
theorem dX5_pours_55 : decode cX5_pours 55 = .ok (.iload_n 2, 1) := by decide +kernel
theorem dX5_pours_56 : decode cX5_pours 56 = .ok (.iconst 0, 1) := by decide +kernel
theorem dX5_pours_57 : decode cX5_pours 57 = .ok (.iload 4, 2) := by decide +kernel
theorem dX5_pours_59 : decode cX5_pours 59 = .ok (.invokestatic 242, 3) := by decide +kernel
theorem dX5_pours_62 : decode cX5_pours 62 = .ok (.ifCond .eq 31, 3) := by decide +kernel
theorem dX5_pours_65 : decode cX5_pours 65 = .ok (.iload_n 3, 1) := by decide +kernel
theorem dX5_pours_66 : decode cX5_pours 66 = .ok (.iconst (-1), 1) := by decide +kernel
theorem dX5_pours_67 : decode cX5_pours 67 = .ok (.if_icmp .ne 8, 3) := by decide +kernel
theorem dX5_pours_70 : decode cX5_pours 70 = .ok (.iload 4, 2) := by decide +kernel
theorem dX5_pours_72 : decode cX5_pours 72 = .ok (.goto 20, 3) := by decide +kernel
theorem dX5_pours_75 : decode cX5_pours 75 = .ok (.iload_n 3, 1) := by decide +kernel
theorem dX5_pours_76 : decode cX5_pours 76 = .ok (.iload 4, 2) := by decide +kernel
theorem dX5_pours_78 : decode cX5_pours 78 = .ok (.if_icmp .ge 12, 3) := by decide +kernel
theorem dX5_pours_81 : decode cX5_pours 81 = .ok (.aload_n 0, 1) := by decide +kernel
theorem dX5_pours_82 : decode cX5_pours 82 = .ok (.getfield 44, 3) := by decide +kernel
theorem dX5_pours_85 : decode cX5_pours 85 = .ok (.iload_n 3, 1) := by decide +kernel
theorem dX5_pours_86 : decode cX5_pours 86 = .ok (.iaload, 1) := by decide +kernel
theorem dX5_pours_87 : decode cX5_pours 87 = .ok (.goto 5, 3) := by decide +kernel
theorem dX5_pours_90 : decode cX5_pours 90 = .ok (.ldc 217, 2) := by decide +kernel
theorem dX5_pours_92 : decode cX5_pours 92 = .ok (.ireturn, 1) := by decide +kernel
theorem dX5_pours_93 : decode cX5_pours 93 = .ok (.iinc 4 1, 3) := by decide +kernel
theorem dX5_pours_96 : decode cX5_pours 96 = .ok (.goto (-56), 3) := by decide +kernel
theorem dX5_pours_99 : decode cX5_pours 99 = .ok (.ldc 217, 2) := by decide +kernel
theorem dX5_pours_101 : decode cX5_pours 101 = .ok (.ireturn, 1) := by decide +kernel
set_option maxRecDepth 20000 in
theorem ggX5_mix_X5_isRoom : GoodIn wsX5_mix wsX5_isRoom := goodIn_r _ [13, 3, 14, 15, 16, 12, 17, 33, 34, 35, 36, 37, 38, 39, 40, 41, 42, 43, 44, 45, 46, 47, 48, 49, 50, 51, 52, 53, 54] (by decide +kernel) (by decide +kernel)
set_option maxRecDepth 20000 in
theorem gX5_mix_X5_isRoom : GoodIn wsX5_mix (wsV RX5 187 RX5 yX5_isRoom wsX5_isRoom) := goodIn_app (goodIn_of _ (by decide +kernel)) ggX5_mix_X5_isRoom
set_option maxRecDepth 20000 in
theorem ggX5_mix_X5_within : GoodIn wsX5_mix wsX5_within := goodIn_r _ [17] (by decide +kernel) (by decide +kernel)
set_option maxRecDepth 20000 in
theorem gX5_mix_X5_within : GoodIn wsX5_mix (va_wsS RX5 66 yX5_within wsX5_within) := goodIn_app (goodIn_of _ (by decide +kernel)) ggX5_mix_X5_within
set_option maxRecDepth 20000 in
theorem ggX5_mix_X0_upIn : GoodIn wsX5_mix wsX0_upIn := goodIn_r _ [31, 23, 32, 43, 44, 45, 46, 47, 48, 49, 50, 51, 52, 53, 54] (by decide +kernel) (by decide +kernel)
set_option maxRecDepth 20000 in
theorem gX5_mix_X0_upIn : GoodIn wsX5_mix (wsV RX5 246 RX0 yX0_upIn wsX0_upIn) := goodIn_app (goodIn_of _ (by decide +kernel)) ggX5_mix_X0_upIn
theorem dX5_mix_0 : decode cX5_mix 0 = .ok (.aload_n 0, 1) := by decide +kernel
theorem dX5_mix_1 : decode cX5_mix 1 = .ok (.iload_n 1, 1) := by decide +kernel
theorem dX5_mix_2 : decode cX5_mix 2 = .ok (.invokevirtual 187, 3) := by decide +kernel
theorem dX5_mix_5 : decode cX5_mix 5 = .ok (.ifCond .eq 23, 3) := by decide +kernel
theorem dX5_mix_8 : decode cX5_mix 8 = .ok (.iload_n 2, 1) := by decide +kernel
theorem dX5_mix_9 : decode cX5_mix 9 = .ok (.iconst 0, 1) := by decide +kernel
theorem dX5_mix_10 : decode cX5_mix 10 = .ok (.sipush 999, 3) := by decide +kernel
theorem dX5_mix_13 : decode cX5_mix 13 = .ok (.invokestatic 66, 3) := by decide +kernel
theorem dX5_mix_16 : decode cX5_mix 16 = .ok (.ifCond .eq 12, 3) := by decide +kernel
theorem dX5_mix_19 : decode cX5_mix 19 = .ok (.iload_n 3, 1) := by decide +kernel
theorem dX5_mix_20 : decode cX5_mix 20 = .ok (.iconst 0, 1) := by decide +kernel
theorem dX5_mix_21 : decode cX5_mix 21 = .ok (.iconst 1, 1) := by decide +kernel
theorem dX5_mix_22 : decode cX5_mix 22 = .ok (.invokestatic 66, 3) := by decide +kernel
theorem dX5_mix_25 : decode cX5_mix 25 = .ok (.ifCond .ne 6, 3) := by decide +kernel
theorem dX5_mix_28 : decode cX5_mix 28 = .ok (.ldc 70, 2) := by decide +kernel
theorem dX5_mix_30 : decode cX5_mix 30 = .ok (.ireturn, 1) := by decide +kernel
theorem dX5_mix_31 : decode cX5_mix 31 = .ok (.iconst 0, 1) := by decide +kernel
theorem dX5_mix_32 : decode cX5_mix 32 = .ok (.istore 4, 2) := by decide +kernel
theorem dX5_mix_34 : decode cX5_mix 34 = .ok (.ldc 217, 2) := by decide +kernel
theorem dX5_mix_36 : decode cX5_mix 36 = .ok (.istore 5, 2) := by decide +kernel
theorem dX5_mix_38 : decode cX5_mix 38 = .ok (.aload_n 0, 1) := by decide +kernel
theorem dX5_mix_39 : decode cX5_mix 39 = .ok (.getfield 26, 3) := by decide +kernel
theorem dX5_mix_42 : decode cX5_mix 42 = .ok (.iload_n 1, 1) := by decide +kernel
theorem dX5_mix_43 : decode cX5_mix 43 = .ok (.invokevirtual 202, 3) := by decide +kernel
theorem dX5_mix_46 : decode cX5_mix 46 = .ok (.istore 6, 2) := by decide +kernel
theorem dX5_mix_48 : decode cX5_mix 48 = .ok (.iconst 0, 1) := by decide +kernel
theorem dX5_mix_49 : decode cX5_mix 49 = .ok (.istore 7, 2) := by decide +kernel
theorem dX5_mix_51 : decode cX5_mix 51 = .ok (.iload 7, 2) := by decide +kernel
theorem dX5_mix_53 : decode cX5_mix 53 = .ok (.iload 6, 2) := by decide +kernel
theorem dX5_mix_55 : decode cX5_mix 55 = .ok (.if_icmp .gt 62, 3) := by decide +kernel
theorem dX5_mix_58 : decode cX5_mix 58 = .ok (.iload 7, 2) := by decide +kernel
theorem dX5_mix_60 : decode cX5_mix 60 = .ok (.iload 6, 2) := by decide +kernel
theorem dX5_mix_62 : decode cX5_mix 62 = .ok (.invokestatic 223, 3) := by decide +kernel
theorem dX5_mix_65 : decode cX5_mix 65 = .ok (.ifCond .eq 46, 3) := by decide +kernel
theorem dX5_mix_68 : decode cX5_mix 68 = .ok (.sipush 999, 3) := by decide +kernel
theorem dX5_mix_71 : decode cX5_mix 71 = .ok (.aload_n 0, 1) := by decide +kernel
theorem dX5_mix_72 : decode cX5_mix 72 = .ok (.getfield 26, 3) := by decide +kernel
theorem dX5_mix_75 : decode cX5_mix 75 = .ok (.getfield 205, 3) := by decide +kernel
theorem dX5_mix_78 : decode cX5_mix 78 = .ok (.iload_n 1, 1) := by decide +kernel
theorem dX5_mix_79 : decode cX5_mix 79 = .ok (.iaload, 1) := by decide +kernel
theorem dX5_mix_80 : decode cX5_mix 80 = .ok (.aload_n 0, 1) := by decide +kernel
theorem dX5_mix_81 : decode cX5_mix 81 = .ok (.getfield 26, 3) := by decide +kernel
theorem dX5_mix_84 : decode cX5_mix 84 = .ok (.iload 7, 2) := by decide +kernel
theorem dX5_mix_86 : decode cX5_mix 86 = .ok (.invokevirtual 246, 3) := by decide +kernel
theorem dX5_mix_89 : decode cX5_mix 89 = .ok (.iadd, 1) := by decide +kernel
theorem dX5_mix_90 : decode cX5_mix 90 = .ok (.invokestatic 249, 3) := by decide +kernel
theorem dX5_mix_93 : decode cX5_mix 93 = .ok (.iload_n 2, 1) := by decide +kernel
theorem dX5_mix_94 : decode cX5_mix 94 = .ok (.if_icmp .ne 17, 3) := by decide +kernel
theorem dX5_mix_97 : decode cX5_mix 97 = .ok (.iinc 4 1, 3) := by decide +kernel
theorem dX5_mix_100 : decode cX5_mix 100 = .ok (.iload 5, 2) := by decide +kernel
theorem dX5_mix_102 : decode cX5_mix 102 = .ok (.ldc 217, 2) := by decide +kernel
theorem dX5_mix_104 : decode cX5_mix 104 = .ok (.if_icmp .ne 7, 3) := by decide +kernel
theorem dX5_mix_107 : decode cX5_mix 107 = .ok (.iload 7, 2) := by decide +kernel
theorem dX5_mix_109 : decode cX5_mix 109 = .ok (.istore 5, 2) := by decide +kernel
theorem dX5_mix_111 : decode cX5_mix 111 = .ok (.iinc 7 1, 3) := by decide +kernel
theorem dX5_mix_114 : decode cX5_mix 114 = .ok (.goto (-63), 3) := by decide +kernel
theorem dX5_mix_117 : decode cX5_mix 117 = .ok (.iload_n 3, 1) := by decide +kernel
theorem dX5_mix_118 : decode cX5_mix 118 = .ok (.ifCond .ne 8, 3) := by decide +kernel
theorem dX5_mix_121 : decode cX5_mix 121 = .ok (.iload 4, 2) := by decide +kernel
theorem dX5_mix_123 : decode cX5_mix 123 = .ok (.goto 5, 3) := by decide +kernel
theorem dX5_mix_126 : decode cX5_mix 126 = .ok (.iload 5, 2) := by decide +kernel
theorem dX5_mix_128 : decode cX5_mix 128 = .ok (.ireturn, 1) := by decide +kernel
set_option maxRecDepth 20000 in
theorem ggX5_degrees_X0_stands : GoodIn wsX5_degrees wsX0_stands := goodIn_r _ [7, 8, 30, 31, 32, 33, 34, 35, 36, 37, 38, 39, 40, 41] (by decide +kernel) (by decide +kernel)
set_option maxRecDepth 20000 in
theorem gX5_degrees_X0_stands : GoodIn wsX5_degrees (wsV RX5 149 RX0 yX0_stands wsX0_stands) := goodIn_app (goodIn_of _ (by decide +kernel)) ggX5_degrees_X0_stands
theorem dX5_degrees_0 : decode cX5_degrees 0 = .ok (.aload_n 0, 1) := by decide +kernel
theorem dX5_degrees_1 : decode cX5_degrees 1 = .ok (.getfield 26, 3) := by decide +kernel
theorem dX5_degrees_4 : decode cX5_degrees 4 = .ok (.invokevirtual 149, 3) := by decide +kernel
theorem dX5_degrees_7 : decode cX5_degrees 7 = .ok (.ifCond .eq 13, 3) := by decide +kernel
theorem dX5_degrees_10 : decode cX5_degrees 10 = .ok (.aload_n 0, 1) := by decide +kernel
theorem dX5_degrees_11 : decode cX5_degrees 11 = .ok (.getfield 26, 3) := by decide +kernel
theorem dX5_degrees_14 : decode cX5_degrees 14 = .ok (.invokevirtual 254, 3) := by decide +kernel
theorem dX5_degrees_17 : decode cX5_degrees 17 = .ok (.goto 5, 3) := by decide +kernel
theorem dX5_degrees_20 : decode cX5_degrees 20 = .ok (.ldc 145, 2) := by decide +kernel
theorem dX5_degrees_22 : decode cX5_degrees 22 = .ok (.ireturn, 1) := by decide +kernel
set_option maxRecDepth 20000 in
theorem ggX5_sale_X5_isTube : GoodIn wsX5_sale wsX5_isTube := goodIn_r _ [13, 3, 14, 15, 16, 12, 17, 63, 64, 65, 66, 67, 68, 69, 70, 71, 72, 73, 74, 75, 76, 77, 78, 79, 80, 81, 82, 83, 84] (by decide +kernel) (by decide +kernel)
set_option maxRecDepth 20000 in
theorem gX5_sale_X5_isTube : GoodIn wsX5_sale (wsV RX5 166 RX5 yX5_isTube wsX5_isTube) := goodIn_app (goodIn_of _ (by decide +kernel)) ggX5_sale_X5_isTube
set_option maxRecDepth 20000 in
theorem ggX5_sale_X5_within : GoodIn wsX5_sale wsX5_within := goodIn_r _ [17] (by decide +kernel) (by decide +kernel)
set_option maxRecDepth 20000 in
theorem gX5_sale_X5_within : GoodIn wsX5_sale (va_wsS RX5 66 yX5_within wsX5_within) := goodIn_app (goodIn_of _ (by decide +kernel)) ggX5_sale_X5_within
theorem dX5_sale_0 : decode cX5_sale 0 = .ok (.aload_n 0, 1) := by decide +kernel
theorem dX5_sale_1 : decode cX5_sale 1 = .ok (.iload_n 1, 1) := by decide +kernel
theorem dX5_sale_2 : decode cX5_sale 2 = .ok (.invokevirtual 166, 3) := by decide +kernel
theorem dX5_sale_5 : decode cX5_sale 5 = .ok (.ifCond .eq 44, 3) := by decide +kernel
theorem dX5_sale_8 : decode cX5_sale 8 = .ok (.iload_n 2, 1) := by decide +kernel
theorem dX5_sale_9 : decode cX5_sale 9 = .ok (.iconst 1, 1) := by decide +kernel
theorem dX5_sale_10 : decode cX5_sale 10 = .ok (.bipush 30, 2) := by decide +kernel
theorem dX5_sale_12 : decode cX5_sale 12 = .ok (.invokestatic 66, 3) := by decide +kernel
theorem dX5_sale_15 : decode cX5_sale 15 = .ok (.ifCond .eq 34, 3) := by decide +kernel
theorem dX5_sale_18 : decode cX5_sale 18 = .ok (.iload_n 3, 1) := by decide +kernel
theorem dX5_sale_19 : decode cX5_sale 19 = .ok (.iconst 1, 1) := by decide +kernel
theorem dX5_sale_20 : decode cX5_sale 20 = .ok (.bipush 99, 2) := by decide +kernel
theorem dX5_sale_22 : decode cX5_sale 22 = .ok (.invokestatic 66, 3) := by decide +kernel
theorem dX5_sale_25 : decode cX5_sale 25 = .ok (.ifCond .eq 24, 3) := by decide +kernel
theorem dX5_sale_28 : decode cX5_sale 28 = .ok (.iload 4, 2) := by decide +kernel
theorem dX5_sale_30 : decode cX5_sale 30 = .ok (.iconst 0, 1) := by decide +kernel
theorem dX5_sale_31 : decode cX5_sale 31 = .ok (.bipush 9, 2) := by decide +kernel
theorem dX5_sale_33 : decode cX5_sale 33 = .ok (.invokestatic 66, 3) := by decide +kernel
theorem dX5_sale_36 : decode cX5_sale 36 = .ok (.ifCond .eq 13, 3) := by decide +kernel
theorem dX5_sale_39 : decode cX5_sale 39 = .ok (.iload 5, 2) := by decide +kernel
theorem dX5_sale_41 : decode cX5_sale 41 = .ok (.iconst 0, 1) := by decide +kernel
theorem dX5_sale_42 : decode cX5_sale 42 = .ok (.iconst 1, 1) := by decide +kernel
theorem dX5_sale_43 : decode cX5_sale 43 = .ok (.invokestatic 66, 3) := by decide +kernel
theorem dX5_sale_46 : decode cX5_sale 46 = .ok (.ifCond .ne 6, 3) := by decide +kernel
theorem dX5_sale_49 : decode cX5_sale 49 = .ok (.ldc 70, 2) := by decide +kernel
theorem dX5_sale_51 : decode cX5_sale 51 = .ok (.ireturn, 1) := by decide +kernel
theorem dX5_sale_52 : decode cX5_sale 52 = .ok (.iconst 0, 1) := by decide +kernel
theorem dX5_sale_53 : decode cX5_sale 53 = .ok (.istore 6, 2) := by decide +kernel
theorem dX5_sale_55 : decode cX5_sale 55 = .ok (.iconst (-1), 1) := by decide +kernel
theorem dX5_sale_56 : decode cX5_sale 56 = .ok (.istore 7, 2) := by decide +kernel
theorem dX5_sale_58 : decode cX5_sale 58 = .ok (.aload_n 0, 1) := by decide +kernel
theorem dX5_sale_59 : decode cX5_sale 59 = .ok (.getfield 30, 3) := by decide +kernel
theorem dX5_sale_62 : decode cX5_sale 62 = .ok (.aload_n 0, 1) := by decide +kernel
theorem dX5_sale_63 : decode cX5_sale 63 = .ok (.getfield 26, 3) := by decide +kernel
theorem dX5_sale_66 : decode cX5_sale 66 = .ok (.invokevirtual 133, 3) := by decide +kernel
theorem dX5_sale_69 : decode cX5_sale 69 = .ok (.iconst 0, 1) := by decide +kernel
theorem dX5_sale_70 : decode cX5_sale 70 = .ok (.istore 8, 2) := by decide +kernel
theorem dX5_sale_72 : decode cX5_sale 72 = .ok (.iload 8, 2) := by decide +kernel
theorem dX5_sale_74 : decode cX5_sale 74 = .ok (.iload_n 2, 1) := by decide +kernel
theorem dX5_sale_75 : decode cX5_sale 75 = .ok (.if_icmp .gt 54, 3) := by decide +kernel
theorem dX5_sale_78 : decode cX5_sale 78 = .ok (.aload_n 0, 1) := by decide +kernel
theorem dX5_sale_79 : decode cX5_sale 79 = .ok (.getfield 30, 3) := by decide +kernel
theorem dX5_sale_82 : decode cX5_sale 82 = .ok (.getfield 175, 3) := by decide +kernel
theorem dX5_sale_85 : decode cX5_sale 85 = .ok (.iload_n 1, 1) := by decide +kernel
theorem dX5_sale_86 : decode cX5_sale 86 = .ok (.iaload, 1) := by decide +kernel
theorem dX5_sale_87 : decode cX5_sale 87 = .ok (.iconst 0, 1) := by decide +kernel
theorem dX5_sale_88 : decode cX5_sale 88 = .ok (.iload_n 3, 1) := by decide +kernel
theorem dX5_sale_89 : decode cX5_sale 89 = .ok (.iload 4, 2) := by decide +kernel
theorem dX5_sale_91 : decode cX5_sale 91 = .ok (.iload 8, 2) := by decide +kernel
theorem dX5_sale_93 : decode cX5_sale 93 = .ok (.imul, 1) := by decide +kernel
theorem dX5_sale_94 : decode cX5_sale 94 = .ok (.isub, 1) := by decide +kernel
theorem dX5_sale_95 : decode cX5_sale 95 = .ok (.invokestatic 257, 3) := by decide +kernel
theorem dX5_sale_98 : decode cX5_sale 98 = .ok (.imul, 1) := by decide +kernel
theorem dX5_sale_99 : decode cX5_sale 99 = .ok (.istore 9, 2) := by decide +kernel
theorem dX5_sale_101 : decode cX5_sale 101 = .ok (.iload 9, 2) := by decide +kernel
theorem dX5_sale_103 : decode cX5_sale 103 = .ok (.iload 7, 2) := by decide +kernel
theorem dX5_sale_105 : decode cX5_sale 105 = .ok (.if_icmp .le 11, 3) := by decide +kernel
theorem dX5_sale_108 : decode cX5_sale 108 = .ok (.iload 9, 2) := by decide +kernel
theorem dX5_sale_110 : decode cX5_sale 110 = .ok (.istore 7, 2) := by decide +kernel
theorem dX5_sale_112 : decode cX5_sale 112 = .ok (.iload 8, 2) := by decide +kernel
theorem dX5_sale_114 : decode cX5_sale 114 = .ok (.istore 6, 2) := by decide +kernel
theorem dX5_sale_116 : decode cX5_sale 116 = .ok (.aload_n 0, 1) := by decide +kernel
theorem dX5_sale_117 : decode cX5_sale 117 = .ok (.getfield 30, 3) := by decide +kernel
theorem dX5_sale_120 : decode cX5_sale 120 = .ok (.invokevirtual 159, 3) := by decide +kernel
theorem dX5_sale_123 : decode cX5_sale 123 = .ok (.iinc 8 1, 3) := by decide +kernel
theorem dX5_sale_126 : decode cX5_sale 126 = .ok (.goto (-54), 3) := by decide +kernel
theorem dX5_sale_129 : decode cX5_sale 129 = .ok (.iload 5, 2) := by decide +kernel
theorem dX5_sale_131 : decode cX5_sale 131 = .ok (.ifCond .ne 8, 3) := by decide +kernel
theorem dX5_sale_134 : decode cX5_sale 134 = .ok (.iload 6, 2) := by decide +kernel
theorem dX5_sale_136 : decode cX5_sale 136 = .ok (.goto 5, 3) := by decide +kernel
theorem dX5_sale_139 : decode cX5_sale 139 = .ok (.iload 7, 2) := by decide +kernel
theorem dX5_sale_141 : decode cX5_sale 141 = .ok (.ireturn, 1) := by decide +kernel
set_option maxRecDepth 20000 in
theorem ggX5_who_X5_isTube : GoodIn wsX5_who wsX5_isTube := goodIn_r _ [10, 3, 11, 12, 13, 9, 14, 105, 106, 107, 108, 109, 110, 111, 112, 113, 114, 115, 116, 117, 118, 119, 120, 121, 122, 123, 124, 125, 126] (by decide +kernel) (by decide +kernel)
set_option maxRecDepth 20000 in
theorem gX5_who_X5_isTube : GoodIn wsX5_who (wsV RX5 166 RX5 yX5_isTube wsX5_isTube) := goodIn_app (goodIn_of _ (by decide +kernel)) ggX5_who_X5_isTube
set_option maxRecDepth 20000 in
theorem ggX5_who_X5_within : GoodIn wsX5_who wsX5_within := goodIn_r _ [14] (by decide +kernel) (by decide +kernel)
set_option maxRecDepth 20000 in
theorem gX5_who_X5_within : GoodIn wsX5_who (va_wsS RX5 66 yX5_within wsX5_within) := goodIn_app (goodIn_of _ (by decide +kernel)) ggX5_who_X5_within
set_option maxRecDepth 20000 in
theorem ggX5_who_X5_isRoom : GoodIn wsX5_who wsX5_isRoom := goodIn_r _ [18, 3, 4, 12, 13, 9, 14, 105, 106, 107, 108, 109, 110, 111, 112, 113, 114, 115, 116, 117, 118, 119, 120, 121, 122, 123, 124, 125, 126] (by decide +kernel) (by decide +kernel)
set_option maxRecDepth 20000 in
theorem gX5_who_X5_isRoom : GoodIn wsX5_who (wsV RX5 187 RX5 yX5_isRoom wsX5_isRoom) := goodIn_app (goodIn_of _ (by decide +kernel)) ggX5_who_X5_isRoom
set_option maxRecDepth 20000 in
theorem ggX5_who_X5_isRow : GoodIn wsX5_who wsX5_isRow := goodIn_r _ [21, 12, 13, 9, 14] (by decide +kernel) (by decide +kernel)
set_option maxRecDepth 20000 in
theorem gX5_who_X5_isRow : GoodIn wsX5_who (va_wsS RX5 62 yX5_isRow wsX5_isRow) := goodIn_app (goodIn_of _ (by decide +kernel)) ggX5_who_X5_isRow
set_option maxRecDepth 20000 in
theorem ggX5_who_X2_reach : GoodIn wsX5_who wsX2_reach := goodIn_r _ [26, 27, 28, 29, 30, 25, 31, 32, 127, 128, 129] (by decide +kernel) (by decide +kernel)
set_option maxRecDepth 20000 in
theorem gX5_who_X2_reach : GoodIn wsX5_who (wsV RX5 82 RX2 yX2_reach wsX2_reach) := goodIn_app (goodIn_of _ (by decide +kernel)) ggX5_who_X2_reach
set_option maxRecDepth 20000 in
theorem ggX5_who_X5_found : GoodIn wsX5_who wsX5_found := goodIn_r _ [36, 37, 38, 105, 106, 107, 108, 109, 110, 111, 112, 113, 114] (by decide +kernel) (by decide +kernel)
set_option maxRecDepth 20000 in
theorem gX5_who_X5_found : GoodIn wsX5_who (wsV RX5 71 RX5 yX5_found wsX5_found) := goodIn_app (goodIn_of _ (by decide +kernel)) ggX5_who_X5_found
set_option maxRecDepth 20000 in
theorem ggX5_who_X5_plain : GoodIn wsX5_who wsX5_plain := goodIn_r _ [104, 37, 105, 106, 107, 108, 109, 110, 111, 112, 113, 114] (by decide +kernel) (by decide +kernel)
set_option maxRecDepth 20000 in
theorem gX5_who_X5_plain : GoodIn wsX5_who (wsV RX5 79 RX5 yX5_plain wsX5_plain) := goodIn_app (goodIn_of _ (by decide +kernel)) ggX5_who_X5_plain
theorem dX5_who_0 : decode cX5_who 0 = .ok (.aload_n 0, 1) := by decide +kernel
theorem dX5_who_1 : decode cX5_who 1 = .ok (.iload_n 1, 1) := by decide +kernel
theorem dX5_who_2 : decode cX5_who 2 = .ok (.invokevirtual 166, 3) := by decide +kernel
theorem dX5_who_5 : decode cX5_who 5 = .ok (.ifCond .eq 39, 3) := by decide +kernel
theorem dX5_who_8 : decode cX5_who 8 = .ok (.iload_n 2, 1) := by decide +kernel
theorem dX5_who_9 : decode cX5_who 9 = .ok (.iconst 0, 1) := by decide +kernel
theorem dX5_who_10 : decode cX5_who 10 = .ok (.iconst 2, 1) := by decide +kernel
theorem dX5_who_11 : decode cX5_who 11 = .ok (.invokestatic 66, 3) := by decide +kernel
theorem dX5_who_14 : decode cX5_who 14 = .ok (.ifCond .eq 30, 3) := by decide +kernel
theorem dX5_who_17 : decode cX5_who 17 = .ok (.aload_n 0, 1) := by decide +kernel
theorem dX5_who_18 : decode cX5_who 18 = .ok (.iload_n 3, 1) := by decide +kernel
theorem dX5_who_19 : decode cX5_who 19 = .ok (.invokevirtual 187, 3) := by decide +kernel
theorem dX5_who_22 : decode cX5_who 22 = .ok (.ifCond .eq 22, 3) := by decide +kernel
theorem dX5_who_25 : decode cX5_who 25 = .ok (.iload 4, 2) := by decide +kernel
theorem dX5_who_27 : decode cX5_who 27 = .ok (.invokestatic 62, 3) := by decide +kernel
theorem dX5_who_30 : decode cX5_who 30 = .ok (.ifCond .eq 14, 3) := by decide +kernel
theorem dX5_who_33 : decode cX5_who 33 = .ok (.iload 6, 2) := by decide +kernel
theorem dX5_who_35 : decode cX5_who 35 = .ok (.iconst 1, 1) := by decide +kernel
theorem dX5_who_36 : decode cX5_who 36 = .ok (.bipush 12, 2) := by decide +kernel
theorem dX5_who_38 : decode cX5_who 38 = .ok (.invokestatic 66, 3) := by decide +kernel
theorem dX5_who_41 : decode cX5_who 41 = .ok (.ifCond .ne 6, 3) := by decide +kernel
theorem dX5_who_44 : decode cX5_who 44 = .ok (.ldc 70, 2) := by decide +kernel
theorem dX5_who_46 : decode cX5_who 46 = .ok (.ireturn, 1) := by decide +kernel
theorem dX5_who_47 : decode cX5_who 47 = .ok (.aload_n 0, 1) := by decide +kernel
theorem dX5_who_48 : decode cX5_who 48 = .ok (.getfield 10, 3) := by decide +kernel
theorem dX5_who_51 : decode cX5_who 51 = .ok (.iload 4, 2) := by decide +kernel
theorem dX5_who_53 : decode cX5_who 53 = .ok (.iload 5, 2) := by decide +kernel
theorem dX5_who_55 : decode cX5_who 55 = .ok (.iload 6, 2) := by decide +kernel
theorem dX5_who_57 : decode cX5_who 57 = .ok (.invokevirtual 82, 3) := by decide +kernel
theorem dX5_who_60 : decode cX5_who 60 = .ok (.istore 7, 2) := by decide +kernel
theorem dX5_who_62 : decode cX5_who 62 = .ok (.iload 7, 2) := by decide +kernel
theorem dX5_who_64 : decode cX5_who 64 = .ok (.ifCond .eq 10, 3) := by decide +kernel
theorem dX5_who_67 : decode cX5_who 67 = .ok (.aload_n 0, 1) := by decide +kernel
theorem dX5_who_68 : decode cX5_who 68 = .ok (.iload 7, 2) := by decide +kernel
theorem dX5_who_70 : decode cX5_who 70 = .ok (.invokevirtual 71, 3) := by decide +kernel
theorem dX5_who_73 : decode cX5_who 73 = .ok (.ireturn, 1) := by decide +kernel
theorem dX5_who_74 : decode cX5_who 74 = .ok (.iload_n 2, 1) := by decide +kernel
theorem dX5_who_75 : decode cX5_who 75 = .ok (.iconst 2, 1) := by decide +kernel
theorem dX5_who_76 : decode cX5_who 76 = .ok (.if_icmp .ne 7, 3) := by decide +kernel
theorem dX5_who_79 : decode cX5_who 79 = .ok (.iconst 0, 1) := by decide +kernel
theorem dX5_who_80 : decode cX5_who 80 = .ok (.goto 4, 3) := by decide +kernel
theorem dX5_who_83 : decode cX5_who 83 = .ok (.iconst 1, 1) := by decide +kernel
theorem dX5_who_84 : decode cX5_who 84 = .ok (.istore 8, 2) := by decide +kernel
theorem dX5_who_86 : decode cX5_who 86 = .ok (.iload_n 2, 1) := by decide +kernel
theorem dX5_who_87 : decode cX5_who 87 = .ok (.ifCond .ne 7, 3) := by decide +kernel
theorem dX5_who_90 : decode cX5_who 90 = .ok (.iconst 5, 1) := by decide +kernel
theorem dX5_who_91 : decode cX5_who 91 = .ok (.goto 20, 3) := by decide +kernel
theorem dX5_who_94 : decode cX5_who 94 = .ok (.iload_n 2, 1) := by decide +kernel
theorem dX5_who_95 : decode cX5_who 95 = .ok (.iconst 1, 1) := by decide +kernel
theorem dX5_who_96 : decode cX5_who 96 = .ok (.if_icmp .ne 8, 3) := by decide +kernel
theorem dX5_who_99 : decode cX5_who 99 = .ok (.bipush 9, 2) := by decide +kernel
theorem dX5_who_101 : decode cX5_who 101 = .ok (.goto 10, 3) := by decide +kernel
theorem dX5_who_104 : decode cX5_who 104 = .ok (.aload_n 0, 1) := by decide +kernel
theorem dX5_who_105 : decode cX5_who 105 = .ok (.getfield 26, 3) := by decide +kernel
theorem dX5_who_108 : decode cX5_who 108 = .ok (.getfield 239, 3) := by decide +kernel
theorem dX5_who_111 : decode cX5_who 111 = .ok (.istore 9, 2) := by decide +kernel
theorem dX5_who_113 : decode cX5_who 113 = .ok (.iconst 0, 1) := by decide +kernel
theorem dX5_who_114 : decode cX5_who 114 = .ok (.istore 10, 2) := by decide +kernel
theorem dX5_who_116 : decode cX5_who 116 = .ok (.iload 8, 2) := by decide +kernel
theorem dX5_who_118 : decode cX5_who 118 = .ok (.istore 11, 2) := by decide +kernel
theorem dX5_who_120 : decode cX5_who 120 = .ok (.iload 11, 2) := by decide +kernel
theorem dX5_who_122 : decode cX5_who 122 = .ok (.iload 9, 2) := by decide +kernel
theorem dX5_who_124 : decode cX5_who 124 = .ok (.if_icmp .gt 54, 3) := by decide +kernel
theorem dX5_who_127 : decode cX5_who 127 = .ok (.aload_n 0, 1) := by decide +kernel
theorem dX5_who_128 : decode cX5_who 128 = .ok (.getfield 30, 3) := by decide +kernel
theorem dX5_who_131 : decode cX5_who 131 = .ok (.aload_n 0, 1) := by decide +kernel
theorem dX5_who_132 : decode cX5_who 132 = .ok (.getfield 26, 3) := by decide +kernel
theorem dX5_who_135 : decode cX5_who 135 = .ok (.invokevirtual 133, 3) := by decide +kernel
theorem dX5_who_138 : decode cX5_who 138 = .ok (.aload_n 0, 1) := by decide +kernel
theorem dX5_who_139 : decode cX5_who 139 = .ok (.getfield 30, 3) := by decide +kernel
theorem dX5_who_142 : decode cX5_who 142 = .ok (.iload_n 1, 1) := by decide +kernel
theorem dX5_who_143 : decode cX5_who 143 = .ok (.iload_n 2, 1) := by decide +kernel
theorem dX5_who_144 : decode cX5_who 144 = .ok (.iload 11, 2) := by decide +kernel
theorem dX5_who_146 : decode cX5_who 146 = .ok (.invokevirtual 260, 3) := by decide +kernel
theorem dX5_who_149 : decode cX5_who 149 = .ok (.aload_n 0, 1) := by decide +kernel
theorem dX5_who_150 : decode cX5_who 150 = .ok (.iload_n 3, 1) := by decide +kernel
theorem dX5_who_151 : decode cX5_who 151 = .ok (.iload 4, 2) := by decide +kernel
theorem dX5_who_153 : decode cX5_who 153 = .ok (.iload 5, 2) := by decide +kernel
theorem dX5_who_155 : decode cX5_who 155 = .ok (.iload 6, 2) := by decide +kernel
theorem dX5_who_157 : decode cX5_who 157 = .ok (.invokevirtual 263, 3) := by decide +kernel
theorem dX5_who_160 : decode cX5_who 160 = .ok (.ifCond .eq 12, 3) := by decide +kernel
theorem dX5_who_163 : decode cX5_who 163 = .ok (.iload 10, 2) := by decide +kernel
theorem dX5_who_165 : decode cX5_who 165 = .ok (.iconst 1, 1) := by decide +kernel
theorem dX5_who_166 : decode cX5_who 166 = .ok (.iload 11, 2) := by decide +kernel
theorem dX5_who_168 : decode cX5_who 168 = .ok (.ishl, 1) := by decide +kernel
theorem dX5_who_169 : decode cX5_who 169 = .ok (.ior, 1) := by decide +kernel
theorem dX5_who_170 : decode cX5_who 170 = .ok (.istore 10, 2) := by decide +kernel
theorem dX5_who_172 : decode cX5_who 172 = .ok (.iinc 11 1, 3) := by decide +kernel
theorem dX5_who_175 : decode cX5_who 175 = .ok (.goto (-55), 3) := by decide +kernel
theorem dX5_who_178 : decode cX5_who 178 = .ok (.aload_n 0, 1) := by decide +kernel
theorem dX5_who_179 : decode cX5_who 179 = .ok (.iload 10, 2) := by decide +kernel
theorem dX5_who_181 : decode cX5_who 181 = .ok (.invokevirtual 79, 3) := by decide +kernel
theorem dX5_who_184 : decode cX5_who 184 = .ok (.ireturn, 1) := by decide +kernel
set_option maxRecDepth 20000 in
theorem ggX5_frosts_X5_isRoom : GoodIn wsX5_frosts wsX5_isRoom := goodIn_r _ [7, 8, 9, 10, 11, 6, 12, 110, 111, 112, 113, 114, 115, 116, 117, 118, 119, 120, 121, 122, 123, 124, 125, 126, 127, 128, 129, 130, 131] (by decide +kernel) (by decide +kernel)
set_option maxRecDepth 20000 in
theorem gX5_frosts_X5_isRoom : GoodIn wsX5_frosts (wsV RX5 187 RX5 yX5_isRoom wsX5_isRoom) := goodIn_app (goodIn_of _ (by decide +kernel)) ggX5_frosts_X5_isRoom
set_option maxRecDepth 20000 in
theorem ggX5_frosts_X5_within : GoodIn wsX5_frosts wsX5_within := goodIn_r _ [12] (by decide +kernel) (by decide +kernel)
set_option maxRecDepth 20000 in
theorem gX5_frosts_X5_within : GoodIn wsX5_frosts (va_wsS RX5 66 yX5_within wsX5_within) := goodIn_app (goodIn_of _ (by decide +kernel)) ggX5_frosts_X5_within
set_option maxRecDepth 20000 in
theorem ggX5_frosts_X5_isRow : GoodIn wsX5_frosts wsX5_isRow := goodIn_r _ [15, 10, 11, 6, 12] (by decide +kernel) (by decide +kernel)
set_option maxRecDepth 20000 in
theorem gX5_frosts_X5_isRow : GoodIn wsX5_frosts (va_wsS RX5 62 yX5_isRow wsX5_isRow) := goodIn_app (goodIn_of _ (by decide +kernel)) ggX5_frosts_X5_isRow
set_option maxRecDepth 20000 in
theorem ggX5_frosts_X2_reach : GoodIn wsX5_frosts wsX2_reach := goodIn_r _ [20, 21, 22, 23, 24, 19, 25, 26, 132, 133, 134] (by decide +kernel) (by decide +kernel)
set_option maxRecDepth 20000 in
theorem gX5_frosts_X2_reach : GoodIn wsX5_frosts (wsV RX5 82 RX2 yX2_reach wsX2_reach) := goodIn_app (goodIn_of _ (by decide +kernel)) ggX5_frosts_X2_reach
set_option maxRecDepth 20000 in
theorem ggX5_frosts_X5_found : GoodIn wsX5_frosts wsX5_found := goodIn_r _ [30, 31, 32, 110, 111, 112, 113, 114, 115, 116, 117, 118, 119] (by decide +kernel) (by decide +kernel)
set_option maxRecDepth 20000 in
theorem gX5_frosts_X5_found : GoodIn wsX5_frosts (wsV RX5 71 RX5 yX5_found wsX5_found) := goodIn_app (goodIn_of _ (by decide +kernel)) ggX5_frosts_X5_found
set_option maxRecDepth 20000 in
theorem ggX5_frosts_X5_plain : GoodIn wsX5_frosts wsX5_plain := goodIn_r _ [109, 31, 110, 111, 112, 113, 114, 115, 116, 117, 118, 119] (by decide +kernel) (by decide +kernel)
set_option maxRecDepth 20000 in
theorem gX5_frosts_X5_plain : GoodIn wsX5_frosts (wsV RX5 79 RX5 yX5_plain wsX5_plain) := goodIn_app (goodIn_of _ (by decide +kernel)) ggX5_frosts_X5_plain
theorem dX5_frosts_0 : decode cX5_frosts 0 = .ok (.aload_n 0, 1) := by decide +kernel
theorem dX5_frosts_1 : decode cX5_frosts 1 = .ok (.iload_n 1, 1) := by decide +kernel
theorem dX5_frosts_2 : decode cX5_frosts 2 = .ok (.invokevirtual 187, 3) := by decide +kernel
theorem dX5_frosts_5 : decode cX5_frosts 5 = .ok (.ifCond .eq 30, 3) := by decide +kernel
theorem dX5_frosts_8 : decode cX5_frosts 8 = .ok (.iload_n 2, 1) := by decide +kernel
theorem dX5_frosts_9 : decode cX5_frosts 9 = .ok (.iconst 0, 1) := by decide +kernel
theorem dX5_frosts_10 : decode cX5_frosts 10 = .ok (.iconst 1, 1) := by decide +kernel
theorem dX5_frosts_11 : decode cX5_frosts 11 = .ok (.invokestatic 66, 3) := by decide +kernel
theorem dX5_frosts_14 : decode cX5_frosts 14 = .ok (.ifCond .eq 21, 3) := by decide +kernel
theorem dX5_frosts_17 : decode cX5_frosts 17 = .ok (.iload_n 3, 1) := by decide +kernel
theorem dX5_frosts_18 : decode cX5_frosts 18 = .ok (.invokestatic 62, 3) := by decide +kernel
theorem dX5_frosts_21 : decode cX5_frosts 21 = .ok (.ifCond .eq 14, 3) := by decide +kernel
theorem dX5_frosts_24 : decode cX5_frosts 24 = .ok (.iload 5, 2) := by decide +kernel
theorem dX5_frosts_26 : decode cX5_frosts 26 = .ok (.iconst 1, 1) := by decide +kernel
theorem dX5_frosts_27 : decode cX5_frosts 27 = .ok (.bipush 12, 2) := by decide +kernel
theorem dX5_frosts_29 : decode cX5_frosts 29 = .ok (.invokestatic 66, 3) := by decide +kernel
theorem dX5_frosts_32 : decode cX5_frosts 32 = .ok (.ifCond .ne 6, 3) := by decide +kernel
theorem dX5_frosts_35 : decode cX5_frosts 35 = .ok (.ldc 70, 2) := by decide +kernel
theorem dX5_frosts_37 : decode cX5_frosts 37 = .ok (.ireturn, 1) := by decide +kernel
theorem dX5_frosts_38 : decode cX5_frosts 38 = .ok (.aload_n 0, 1) := by decide +kernel
theorem dX5_frosts_39 : decode cX5_frosts 39 = .ok (.getfield 10, 3) := by decide +kernel
theorem dX5_frosts_42 : decode cX5_frosts 42 = .ok (.iload_n 3, 1) := by decide +kernel
theorem dX5_frosts_43 : decode cX5_frosts 43 = .ok (.iload 4, 2) := by decide +kernel
theorem dX5_frosts_45 : decode cX5_frosts 45 = .ok (.iload 5, 2) := by decide +kernel
theorem dX5_frosts_47 : decode cX5_frosts 47 = .ok (.invokevirtual 82, 3) := by decide +kernel
theorem dX5_frosts_50 : decode cX5_frosts 50 = .ok (.istore 6, 2) := by decide +kernel
theorem dX5_frosts_52 : decode cX5_frosts 52 = .ok (.iload 6, 2) := by decide +kernel
theorem dX5_frosts_54 : decode cX5_frosts 54 = .ok (.ifCond .eq 10, 3) := by decide +kernel
theorem dX5_frosts_57 : decode cX5_frosts 57 = .ok (.aload_n 0, 1) := by decide +kernel
theorem dX5_frosts_58 : decode cX5_frosts 58 = .ok (.iload 6, 2) := by decide +kernel
theorem dX5_frosts_60 : decode cX5_frosts 60 = .ok (.invokevirtual 71, 3) := by decide +kernel
theorem dX5_frosts_63 : decode cX5_frosts 63 = .ok (.ireturn, 1) := by decide +kernel
theorem dX5_frosts_64 : decode cX5_frosts 64 = .ok (.aload_n 0, 1) := by decide +kernel
theorem dX5_frosts_65 : decode cX5_frosts 65 = .ok (.iload_n 2, 1) := by decide +kernel
theorem dX5_frosts_66 : decode cX5_frosts 66 = .ok (.ifCond .ne 16, 3) := by decide +kernel
theorem dX5_frosts_69 : decode cX5_frosts 69 = .ok (.aload_n 0, 1) := by decide +kernel
theorem dX5_frosts_70 : decode cX5_frosts 70 = .ok (.iload_n 1, 1) := by decide +kernel
theorem dX5_frosts_71 : decode cX5_frosts 71 = .ok (.iload_n 3, 1) := by decide +kernel
theorem dX5_frosts_72 : decode cX5_frosts 72 = .ok (.iload 4, 2) := by decide +kernel
theorem dX5_frosts_74 : decode cX5_frosts 74 = .ok (.iload 5, 2) := by decide +kernel
theorem dX5_frosts_76 : decode cX5_frosts 76 = .ok (.invokevirtual 267, 3) := by decide +kernel
theorem dX5_frosts_79 : decode cX5_frosts 79 = .ok (.goto 13, 3) := by decide +kernel
theorem dX5_frosts_82 : decode cX5_frosts 82 = .ok (.aload_n 0, 1) := by decide +kernel
theorem dX5_frosts_83 : decode cX5_frosts 83 = .ok (.iload_n 1, 1) := by decide +kernel
theorem dX5_frosts_84 : decode cX5_frosts 84 = .ok (.iload_n 3, 1) := by decide +kernel
theorem dX5_frosts_85 : decode cX5_frosts 85 = .ok (.iload 4, 2) := by decide +kernel
theorem dX5_frosts_87 : decode cX5_frosts 87 = .ok (.iload 5, 2) := by decide +kernel
theorem dX5_frosts_89 : decode cX5_frosts 89 = .ok (.invokevirtual 271, 3) := by decide +kernel
theorem dX5_frosts_92 : decode cX5_frosts 92 = .ok (.invokevirtual 79, 3) := by decide +kernel
theorem dX5_frosts_95 : decode cX5_frosts 95 = .ok (.ireturn, 1) := by decide +kernel
set_option maxRecDepth 20000 in
theorem ggX5_forgotten_X5_isRoom : GoodIn wsX5_forgotten wsX5_isRoom := goodIn_r _ [11, 2, 12, 13, 14, 10, 15, 97, 98, 99, 100, 101, 102, 103, 104, 105, 106, 107, 108, 109, 110, 111, 112, 113, 114, 115, 116, 117, 118] (by decide +kernel) (by decide +kernel)
set_option maxRecDepth 20000 in
theorem gX5_forgotten_X5_isRoom : GoodIn wsX5_forgotten (wsV RX5 187 RX5 yX5_isRoom wsX5_isRoom) := goodIn_app (goodIn_of _ (by decide +kernel)) ggX5_forgotten_X5_isRoom
set_option maxRecDepth 20000 in
theorem ggX5_forgotten_X5_within : GoodIn wsX5_forgotten wsX5_within := goodIn_r _ [15] (by decide +kernel) (by decide +kernel)
set_option maxRecDepth 20000 in
theorem gX5_forgotten_X5_within : GoodIn wsX5_forgotten (va_wsS RX5 66 yX5_within wsX5_within) := goodIn_app (goodIn_of _ (by decide +kernel)) ggX5_forgotten_X5_within
theorem dX5_forgotten_0 : decode cX5_forgotten 0 = .ok (.aload_n 0, 1) := by decide +kernel
theorem dX5_forgotten_1 : decode cX5_forgotten 1 = .ok (.iload_n 1, 1) := by decide +kernel
theorem dX5_forgotten_2 : decode cX5_forgotten 2 = .ok (.invokevirtual 187, 3) := by decide +kernel
theorem dX5_forgotten_5 : decode cX5_forgotten 5 = .ok (.ifCond .eq 33, 3) := by decide +kernel
theorem dX5_forgotten_8 : decode cX5_forgotten 8 = .ok (.iload_n 2, 1) := by decide +kernel
theorem dX5_forgotten_9 : decode cX5_forgotten 9 = .ok (.iconst 0, 1) := by decide +kernel
theorem dX5_forgotten_10 : decode cX5_forgotten 10 = .ok (.bipush 30, 2) := by decide +kernel
theorem dX5_forgotten_12 : decode cX5_forgotten 12 = .ok (.invokestatic 66, 3) := by decide +kernel
theorem dX5_forgotten_15 : decode cX5_forgotten 15 = .ok (.ifCond .eq 23, 3) := by decide +kernel
theorem dX5_forgotten_18 : decode cX5_forgotten 18 = .ok (.iload_n 3, 1) := by decide +kernel
theorem dX5_forgotten_19 : decode cX5_forgotten 19 = .ok (.iconst 0, 1) := by decide +kernel
theorem dX5_forgotten_20 : decode cX5_forgotten 20 = .ok (.bipush 10, 2) := by decide +kernel
theorem dX5_forgotten_22 : decode cX5_forgotten 22 = .ok (.invokestatic 66, 3) := by decide +kernel
theorem dX5_forgotten_25 : decode cX5_forgotten 25 = .ok (.ifCond .eq 13, 3) := by decide +kernel
theorem dX5_forgotten_28 : decode cX5_forgotten 28 = .ok (.iload 4, 2) := by decide +kernel
theorem dX5_forgotten_30 : decode cX5_forgotten 30 = .ok (.iconst 0, 1) := by decide +kernel
theorem dX5_forgotten_31 : decode cX5_forgotten 31 = .ok (.iconst 1, 1) := by decide +kernel
theorem dX5_forgotten_32 : decode cX5_forgotten 32 = .ok (.invokestatic 66, 3) := by decide +kernel
theorem dX5_forgotten_35 : decode cX5_forgotten 35 = .ok (.ifCond .ne 7, 3) := by decide +kernel
theorem dX5_forgotten_38 : decode cX5_forgotten 38 = .ok (.ldc2_w 274, 3) := by decide +kernel
theorem dX5_forgotten_41 : decode cX5_forgotten 41 = .ok (.lreturn, 1) := by decide +kernel
theorem dX5_forgotten_42 : decode cX5_forgotten 42 = .ok (.aload_n 0, 1) := by decide +kernel
theorem dX5_forgotten_43 : decode cX5_forgotten 43 = .ok (.getfield 26, 3) := by decide +kernel
theorem dX5_forgotten_46 : decode cX5_forgotten 46 = .ok (.iload_n 1, 1) := by decide +kernel
theorem dX5_forgotten_47 : decode cX5_forgotten 47 = .ok (.invokevirtual 202, 3) := by decide +kernel
theorem dX5_forgotten_50 : decode cX5_forgotten 50 = .ok (.istore 5, 2) := by decide +kernel
theorem dX5_forgotten_52 : decode cX5_forgotten 52 = .ok (.lconst 0, 1) := by decide +kernel
theorem dX5_forgotten_53 : decode cX5_forgotten 53 = .ok (.lstore 6, 2) := by decide +kernel
theorem dX5_forgotten_55 : decode cX5_forgotten 55 = .ok (.iconst 0, 1) := by decide +kernel
theorem dX5_forgotten_56 : decode cX5_forgotten 56 = .ok (.istore 8, 2) := by decide +kernel
theorem dX5_forgotten_58 : decode cX5_forgotten 58 = .ok (.iload 8, 2) := by decide +kernel
theorem dX5_forgotten_60 : decode cX5_forgotten 60 = .ok (.iload 5, 2) := by decide +kernel
theorem dX5_forgotten_62 : decode cX5_forgotten 62 = .ok (.if_icmp .gt 73, 3) := by decide +kernel
theorem dX5_forgotten_65 : decode cX5_forgotten 65 = .ok (.bipush 10, 2) := by decide +kernel
theorem dX5_forgotten_67 : decode cX5_forgotten 67 = .ok (.iload_n 3, 1) := by decide +kernel
theorem dX5_forgotten_68 : decode cX5_forgotten 68 = .ok (.isub, 1) := by decide +kernel
theorem dX5_forgotten_69 : decode cX5_forgotten 69 = .ok (.iload 8, 2) := by decide +kernel
theorem dX5_forgotten_71 : decode cX5_forgotten 71 = .ok (.invokestatic 276, 3) := by decide +kernel
theorem dX5_forgotten_74 : decode cX5_forgotten 74 = .ok (.invokestatic 279, 3) := by decide +kernel
theorem dX5_forgotten_77 : decode cX5_forgotten 77 = .ok (.iload_n 3, 1) := by decide +kernel
theorem dX5_forgotten_78 : decode cX5_forgotten 78 = .ok (.iload 5, 2) := by decide +kernel
theorem dX5_forgotten_80 : decode cX5_forgotten 80 = .ok (.iload 8, 2) := by decide +kernel
theorem dX5_forgotten_82 : decode cX5_forgotten 82 = .ok (.iconst (-1), 1) := by decide +kernel
theorem dX5_forgotten_83 : decode cX5_forgotten 83 = .ok (.ixor, 1) := by decide +kernel
theorem dX5_forgotten_84 : decode cX5_forgotten 84 = .ok (.iand, 1) := by decide +kernel
theorem dX5_forgotten_85 : decode cX5_forgotten 85 = .ok (.invokestatic 276, 3) := by decide +kernel
theorem dX5_forgotten_88 : decode cX5_forgotten 88 = .ok (.invokestatic 279, 3) := by decide +kernel
theorem dX5_forgotten_91 : decode cX5_forgotten 91 = .ok (.lmul, 1) := by decide +kernel
theorem dX5_forgotten_92 : decode cX5_forgotten 92 = .ok (.lstore 9, 2) := by decide +kernel
theorem dX5_forgotten_94 : decode cX5_forgotten 94 = .ok (.iload 8, 2) := by decide +kernel
theorem dX5_forgotten_96 : decode cX5_forgotten 96 = .ok (.iload 5, 2) := by decide +kernel
theorem dX5_forgotten_98 : decode cX5_forgotten 98 = .ok (.invokestatic 223, 3) := by decide +kernel
theorem dX5_forgotten_101 : decode cX5_forgotten 101 = .ok (.ifCond .eq 28, 3) := by decide +kernel
theorem dX5_forgotten_104 : decode cX5_forgotten 104 = .ok (.lload 9, 2) := by decide +kernel
theorem dX5_forgotten_106 : decode cX5_forgotten 106 = .ok (.lconst 0, 1) := by decide +kernel
theorem dX5_forgotten_107 : decode cX5_forgotten 107 = .ok (.lcmp, 1) := by decide +kernel
theorem dX5_forgotten_108 : decode cX5_forgotten 108 = .ok (.ifCond .le 21, 3) := by decide +kernel
theorem dX5_forgotten_111 : decode cX5_forgotten 111 = .ok (.aload_n 0, 1) := by decide +kernel
theorem dX5_forgotten_112 : decode cX5_forgotten 112 = .ok (.iload_n 1, 1) := by decide +kernel
theorem dX5_forgotten_113 : decode cX5_forgotten 113 = .ok (.iload_n 2, 1) := by decide +kernel
theorem dX5_forgotten_114 : decode cX5_forgotten 114 = .ok (.iload 8, 2) := by decide +kernel
theorem dX5_forgotten_116 : decode cX5_forgotten 116 = .ok (.invokevirtual 283, 3) := by decide +kernel
theorem dX5_forgotten_119 : decode cX5_forgotten 119 = .ok (.ifCond .eq 10, 3) := by decide +kernel
theorem dX5_forgotten_122 : decode cX5_forgotten 122 = .ok (.lload 6, 2) := by decide +kernel
theorem dX5_forgotten_124 : decode cX5_forgotten 124 = .ok (.lload 9, 2) := by decide +kernel
theorem dX5_forgotten_126 : decode cX5_forgotten 126 = .ok (.ladd, 1) := by decide +kernel
theorem dX5_forgotten_127 : decode cX5_forgotten 127 = .ok (.lstore 6, 2) := by decide +kernel
theorem dX5_forgotten_129 : decode cX5_forgotten 129 = .ok (.iinc 8 1, 3) := by decide +kernel
theorem dX5_forgotten_132 : decode cX5_forgotten 132 = .ok (.goto (-74), 3) := by decide +kernel
theorem dX5_forgotten_135 : decode cX5_forgotten 135 = .ok (.bipush 10, 2) := by decide +kernel
theorem dX5_forgotten_137 : decode cX5_forgotten 137 = .ok (.iload 5, 2) := by decide +kernel
theorem dX5_forgotten_139 : decode cX5_forgotten 139 = .ok (.invokestatic 276, 3) := by decide +kernel
theorem dX5_forgotten_142 : decode cX5_forgotten 142 = .ok (.invokestatic 279, 3) := by decide +kernel
theorem dX5_forgotten_145 : decode cX5_forgotten 145 = .ok (.lstore 8, 2) := by decide +kernel
theorem dX5_forgotten_147 : decode cX5_forgotten 147 = .ok (.lconst 1, 1) := by decide +kernel
theorem dX5_forgotten_148 : decode cX5_forgotten 148 = .ok (.lload 6, 2) := by decide +kernel
theorem dX5_forgotten_150 : decode cX5_forgotten 150 = .ok (.lload 8, 2) := by decide +kernel
theorem dX5_forgotten_152 : decode cX5_forgotten 152 = .ok (.invokestatic 286, 3) := by decide +kernel
theorem dX5_forgotten_155 : decode cX5_forgotten 155 = .ok (.invokestatic 290, 3) := by decide +kernel
theorem dX5_forgotten_158 : decode cX5_forgotten 158 = .ok (.lstore 10, 2) := by decide +kernel
theorem dX5_forgotten_160 : decode cX5_forgotten 160 = .ok (.iload 4, 2) := by decide +kernel
theorem dX5_forgotten_162 : decode cX5_forgotten 162 = .ok (.ifCond .ne 11, 3) := by decide +kernel
theorem dX5_forgotten_165 : decode cX5_forgotten 165 = .ok (.lload 6, 2) := by decide +kernel
theorem dX5_forgotten_167 : decode cX5_forgotten 167 = .ok (.lload 10, 2) := by decide +kernel
theorem dX5_forgotten_169 : decode cX5_forgotten 169 = .ok (.ldiv, 1) := by decide +kernel
theorem dX5_forgotten_170 : decode cX5_forgotten 170 = .ok (.goto 8, 3) := by decide +kernel
theorem dX5_forgotten_173 : decode cX5_forgotten 173 = .ok (.lload 8, 2) := by decide +kernel
theorem dX5_forgotten_175 : decode cX5_forgotten 175 = .ok (.lload 10, 2) := by decide +kernel
theorem dX5_forgotten_177 : decode cX5_forgotten 177 = .ok (.ldiv, 1) := by decide +kernel
theorem dX5_forgotten_178 : decode cX5_forgotten 178 = .ok (.lreturn, 1) := by decide +kernel
set_option maxRecDepth 20000 in
theorem ggX5_drawn_X0_stands : GoodIn wsX5_drawn wsX0_stands := goodIn_r _ [12, 13, 103, 104, 105, 106, 107, 108, 109, 110, 111, 112, 113, 114] (by decide +kernel) (by decide +kernel)
set_option maxRecDepth 20000 in
theorem gX5_drawn_X0_stands : GoodIn wsX5_drawn (wsV RX5 149 RX0 yX0_stands wsX0_stands) := goodIn_app (goodIn_of _ (by decide +kernel)) ggX5_drawn_X0_stands
set_option maxRecDepth 20000 in
theorem ggX5_drawn_X5_within : GoodIn wsX5_drawn wsX5_within := goodIn_r _ [17] (by decide +kernel) (by decide +kernel)
set_option maxRecDepth 20000 in
theorem gX5_drawn_X5_within : GoodIn wsX5_drawn (va_wsS RX5 66 yX5_within wsX5_within) := goodIn_app (goodIn_of _ (by decide +kernel)) ggX5_drawn_X5_within
set_option maxRecDepth 20000 in
theorem ggX5_drawn_X0_coldRooms : GoodIn wsX5_drawn wsX0_coldRooms := goodIn_r _ [77, 13, 26, 23, 103, 104, 105, 106, 107, 108, 109, 110, 111, 112, 113, 114] (by decide +kernel) (by decide +kernel)
set_option maxRecDepth 20000 in
theorem gX5_drawn_X0_coldRooms : GoodIn wsX5_drawn (wsV RX5 162 RX0 yX0_coldRooms wsX0_coldRooms) := goodIn_app (goodIn_of _ (by decide +kernel)) ggX5_drawn_X0_coldRooms
theorem dX5_drawn_0 : decode cX5_drawn 0 = .ok (.aload_n 0, 1) := by decide +kernel
theorem dX5_drawn_1 : decode cX5_drawn 1 = .ok (.getfield 26, 3) := by decide +kernel
theorem dX5_drawn_4 : decode cX5_drawn 4 = .ok (.invokevirtual 149, 3) := by decide +kernel
theorem dX5_drawn_7 : decode cX5_drawn 7 = .ok (.ifCond .ne 6, 3) := by decide +kernel
theorem dX5_drawn_10 : decode cX5_drawn 10 = .ok (.ldc 145, 2) := by decide +kernel
theorem dX5_drawn_12 : decode cX5_drawn 12 = .ok (.ireturn, 1) := by decide +kernel
theorem dX5_drawn_13 : decode cX5_drawn 13 = .ok (.iload_n 1, 1) := by decide +kernel
theorem dX5_drawn_14 : decode cX5_drawn 14 = .ok (.iconst 0, 1) := by decide +kernel
theorem dX5_drawn_15 : decode cX5_drawn 15 = .ok (.bipush 60, 2) := by decide +kernel
theorem dX5_drawn_17 : decode cX5_drawn 17 = .ok (.invokestatic 66, 3) := by decide +kernel
theorem dX5_drawn_20 : decode cX5_drawn 20 = .ok (.ifCond .eq 23, 3) := by decide +kernel
theorem dX5_drawn_23 : decode cX5_drawn 23 = .ok (.iload_n 2, 1) := by decide +kernel
theorem dX5_drawn_24 : decode cX5_drawn 24 = .ok (.iconst 1, 1) := by decide +kernel
theorem dX5_drawn_25 : decode cX5_drawn 25 = .ok (.ldc_w 292, 3) := by decide +kernel
theorem dX5_drawn_28 : decode cX5_drawn 28 = .ok (.invokestatic 66, 3) := by decide +kernel
theorem dX5_drawn_31 : decode cX5_drawn 31 = .ok (.ifCond .eq 12, 3) := by decide +kernel
theorem dX5_drawn_34 : decode cX5_drawn 34 = .ok (.iload_n 3, 1) := by decide +kernel
theorem dX5_drawn_35 : decode cX5_drawn 35 = .ok (.iconst 0, 1) := by decide +kernel
theorem dX5_drawn_36 : decode cX5_drawn 36 = .ok (.iconst 1, 1) := by decide +kernel
theorem dX5_drawn_37 : decode cX5_drawn 37 = .ok (.invokestatic 66, 3) := by decide +kernel
theorem dX5_drawn_40 : decode cX5_drawn 40 = .ok (.ifCond .ne 6, 3) := by decide +kernel
theorem dX5_drawn_43 : decode cX5_drawn 43 = .ok (.ldc 70, 2) := by decide +kernel
theorem dX5_drawn_45 : decode cX5_drawn 45 = .ok (.ireturn, 1) := by decide +kernel
theorem dX5_drawn_46 : decode cX5_drawn 46 = .ok (.iload_n 2, 1) := by decide +kernel
theorem dX5_drawn_47 : decode cX5_drawn 47 = .ok (.i2l, 1) := by decide +kernel
theorem dX5_drawn_48 : decode cX5_drawn 48 = .ok (.lstore 4, 2) := by decide +kernel
theorem dX5_drawn_50 : decode cX5_drawn 50 = .ok (.aload_n 0, 1) := by decide +kernel
theorem dX5_drawn_51 : decode cX5_drawn 51 = .ok (.getfield 30, 3) := by decide +kernel
theorem dX5_drawn_54 : decode cX5_drawn 54 = .ok (.aload_n 0, 1) := by decide +kernel
theorem dX5_drawn_55 : decode cX5_drawn 55 = .ok (.getfield 26, 3) := by decide +kernel
theorem dX5_drawn_58 : decode cX5_drawn 58 = .ok (.invokevirtual 133, 3) := by decide +kernel
theorem dX5_drawn_61 : decode cX5_drawn 61 = .ok (.iconst 0, 1) := by decide +kernel
theorem dX5_drawn_62 : decode cX5_drawn 62 = .ok (.istore 6, 2) := by decide +kernel
theorem dX5_drawn_64 : decode cX5_drawn 64 = .ok (.iload 6, 2) := by decide +kernel
theorem dX5_drawn_66 : decode cX5_drawn 66 = .ok (.iload_n 1, 1) := by decide +kernel
theorem dX5_drawn_67 : decode cX5_drawn 67 = .ok (.if_icmp .ge 37, 3) := by decide +kernel
theorem dX5_drawn_70 : decode cX5_drawn 70 = .ok (.lload 4, 2) := by decide +kernel
theorem dX5_drawn_72 : decode cX5_drawn 72 = .ok (.ldc2_w 293, 3) := by decide +kernel
theorem dX5_drawn_75 : decode cX5_drawn 75 = .ok (.lmul, 1) := by decide +kernel
theorem dX5_drawn_76 : decode cX5_drawn 76 = .ok (.ldc2_w 295, 3) := by decide +kernel
theorem dX5_drawn_79 : decode cX5_drawn 79 = .ok (.lrem, 1) := by decide +kernel
theorem dX5_drawn_80 : decode cX5_drawn 80 = .ok (.lstore 4, 2) := by decide +kernel
theorem dX5_drawn_82 : decode cX5_drawn 82 = .ok (.aload_n 0, 1) := by decide +kernel
theorem dX5_drawn_83 : decode cX5_drawn 83 = .ok (.getfield 30, 3) := by decide +kernel
theorem dX5_drawn_86 : decode cX5_drawn 86 = .ok (.lload 4, 2) := by decide +kernel
theorem dX5_drawn_88 : decode cX5_drawn 88 = .ok (.invokevirtual 297, 3) := by decide +kernel
theorem dX5_drawn_91 : decode cX5_drawn 91 = .ok (.aload_n 0, 1) := by decide +kernel
theorem dX5_drawn_92 : decode cX5_drawn 92 = .ok (.getfield 30, 3) := by decide +kernel
theorem dX5_drawn_95 : decode cX5_drawn 95 = .ok (.invokevirtual 159, 3) := by decide +kernel
theorem dX5_drawn_98 : decode cX5_drawn 98 = .ok (.iinc 6 1, 3) := by decide +kernel
theorem dX5_drawn_101 : decode cX5_drawn 101 = .ok (.goto (-37), 3) := by decide +kernel
theorem dX5_drawn_104 : decode cX5_drawn 104 = .ok (.iload_n 3, 1) := by decide +kernel
theorem dX5_drawn_105 : decode cX5_drawn 105 = .ok (.ifCond .ne 16, 3) := by decide +kernel
theorem dX5_drawn_108 : decode cX5_drawn 108 = .ok (.aload_n 0, 1) := by decide +kernel
theorem dX5_drawn_109 : decode cX5_drawn 109 = .ok (.getfield 30, 3) := by decide +kernel
theorem dX5_drawn_112 : decode cX5_drawn 112 = .ok (.invokevirtual 162, 3) := by decide +kernel
theorem dX5_drawn_115 : decode cX5_drawn 115 = .ok (.invokestatic 276, 3) := by decide +kernel
theorem dX5_drawn_118 : decode cX5_drawn 118 = .ok (.goto 10, 3) := by decide +kernel
theorem dX5_drawn_121 : decode cX5_drawn 121 = .ok (.aload_n 0, 1) := by decide +kernel
theorem dX5_drawn_122 : decode cX5_drawn 122 = .ok (.getfield 30, 3) := by decide +kernel
theorem dX5_drawn_125 : decode cX5_drawn 125 = .ok (.invokevirtual 254, 3) := by decide +kernel
theorem dX5_drawn_128 : decode cX5_drawn 128 = .ok (.ireturn, 1) := by decide +kernel
set_option maxRecDepth 20000 in
theorem ggX5_image_X5_within : GoodIn wsX5_image wsX5_within := goodIn_r _ [8] (by decide +kernel) (by decide +kernel)
set_option maxRecDepth 20000 in
theorem gX5_image_X5_within : GoodIn wsX5_image (va_wsS RX5 66 yX5_within wsX5_within) := goodIn_app (goodIn_of _ (by decide +kernel)) ggX5_image_X5_within
set_option maxRecDepth 20000 in
theorem ggX5_image_X0_stands : GoodIn wsX5_image wsX0_stands := goodIn_r _ [13, 14, 44, 45, 46, 47, 48, 49, 50, 51, 52, 53, 54, 55] (by decide +kernel) (by decide +kernel)
set_option maxRecDepth 20000 in
theorem gX5_image_X0_stands : GoodIn wsX5_image (wsV RX5 149 RX0 yX0_stands wsX0_stands) := goodIn_app (goodIn_of _ (by decide +kernel)) ggX5_image_X0_stands
theorem dX5_image_0 : decode cX5_image 0 = .ok (.iload_n 1, 1) := by decide +kernel
theorem dX5_image_1 : decode cX5_image 1 = .ok (.iconst 0, 1) := by decide +kernel
theorem dX5_image_2 : decode cX5_image 2 = .ok (.iconst 1, 1) := by decide +kernel
theorem dX5_image_3 : decode cX5_image 3 = .ok (.invokestatic 66, 3) := by decide +kernel
theorem dX5_image_6 : decode cX5_image 6 = .ok (.ifCond .ne 6, 3) := by decide +kernel
theorem dX5_image_9 : decode cX5_image 9 = .ok (.ldc 70, 2) := by decide +kernel
theorem dX5_image_11 : decode cX5_image 11 = .ok (.ireturn, 1) := by decide +kernel
theorem dX5_image_12 : decode cX5_image 12 = .ok (.aload_n 0, 1) := by decide +kernel
theorem dX5_image_13 : decode cX5_image 13 = .ok (.getfield 26, 3) := by decide +kernel
theorem dX5_image_16 : decode cX5_image 16 = .ok (.invokevirtual 149, 3) := by decide +kernel
theorem dX5_image_19 : decode cX5_image 19 = .ok (.ifCond .ne 6, 3) := by decide +kernel
theorem dX5_image_22 : decode cX5_image 22 = .ok (.ldc 145, 2) := by decide +kernel
theorem dX5_image_24 : decode cX5_image 24 = .ok (.ireturn, 1) := by decide +kernel
theorem dX5_image_25 : decode cX5_image 25 = .ok (.aload_n 0, 1) := by decide +kernel
theorem dX5_image_26 : decode cX5_image 26 = .ok (.getfield 33, 3) := by decide +kernel
theorem dX5_image_29 : decode cX5_image 29 = .ok (.iload_n 1, 1) := by decide +kernel
theorem dX5_image_30 : decode cX5_image 30 = .ok (.aaload, 1) := by decide +kernel
theorem dX5_image_31 : decode cX5_image 31 = .ok (.aload_n 0, 1) := by decide +kernel
theorem dX5_image_32 : decode cX5_image 32 = .ok (.getfield 26, 3) := by decide +kernel
theorem dX5_image_35 : decode cX5_image 35 = .ok (.invokevirtual 133, 3) := by decide +kernel
theorem dX5_image_38 : decode cX5_image 38 = .ok (.iconst 1, 1) := by decide +kernel
theorem dX5_image_39 : decode cX5_image 39 = .ok (.ireturn, 1) := by decide +kernel
set_option maxRecDepth 20000 in
theorem ggX5_restore_X5_within : GoodIn wsX5_restore wsX5_within := goodIn_r _ [9] (by decide +kernel) (by decide +kernel)
set_option maxRecDepth 20000 in
theorem gX5_restore_X5_within : GoodIn wsX5_restore (va_wsS RX5 66 yX5_within wsX5_within) := goodIn_app (goodIn_of _ (by decide +kernel)) ggX5_restore_X5_within
set_option maxRecDepth 20000 in
theorem ggX5_restore_X0_stands : GoodIn wsX5_restore wsX0_stands := goodIn_r _ [14, 15, 51, 52, 53, 54, 55, 56, 57, 58, 59, 60, 61, 62] (by decide +kernel) (by decide +kernel)
set_option maxRecDepth 20000 in
theorem gX5_restore_X0_stands : GoodIn wsX5_restore (wsV RX5 149 RX0 yX0_stands wsX0_stands) := goodIn_app (goodIn_of _ (by decide +kernel)) ggX5_restore_X0_stands
theorem dX5_restore_0 : decode cX5_restore 0 = .ok (.iload_n 1, 1) := by decide +kernel
theorem dX5_restore_1 : decode cX5_restore 1 = .ok (.iconst 0, 1) := by decide +kernel
theorem dX5_restore_2 : decode cX5_restore 2 = .ok (.iconst 1, 1) := by decide +kernel
theorem dX5_restore_3 : decode cX5_restore 3 = .ok (.invokestatic 66, 3) := by decide +kernel
theorem dX5_restore_6 : decode cX5_restore 6 = .ok (.ifCond .ne 6, 3) := by decide +kernel
theorem dX5_restore_9 : decode cX5_restore 9 = .ok (.ldc 70, 2) := by decide +kernel
theorem dX5_restore_11 : decode cX5_restore 11 = .ok (.ireturn, 1) := by decide +kernel
theorem dX5_restore_12 : decode cX5_restore 12 = .ok (.aload_n 0, 1) := by decide +kernel
theorem dX5_restore_13 : decode cX5_restore 13 = .ok (.getfield 33, 3) := by decide +kernel
theorem dX5_restore_16 : decode cX5_restore 16 = .ok (.iload_n 1, 1) := by decide +kernel
theorem dX5_restore_17 : decode cX5_restore 17 = .ok (.aaload, 1) := by decide +kernel
theorem dX5_restore_18 : decode cX5_restore 18 = .ok (.invokevirtual 149, 3) := by decide +kernel
theorem dX5_restore_21 : decode cX5_restore 21 = .ok (.ifCond .ne 6, 3) := by decide +kernel
theorem dX5_restore_24 : decode cX5_restore 24 = .ok (.ldc 145, 2) := by decide +kernel
theorem dX5_restore_26 : decode cX5_restore 26 = .ok (.ireturn, 1) := by decide +kernel
theorem dX5_restore_27 : decode cX5_restore 27 = .ok (.aload_n 0, 1) := by decide +kernel
theorem dX5_restore_28 : decode cX5_restore 28 = .ok (.getfield 26, 3) := by decide +kernel
theorem dX5_restore_31 : decode cX5_restore 31 = .ok (.aload_n 0, 1) := by decide +kernel
theorem dX5_restore_32 : decode cX5_restore 32 = .ok (.getfield 33, 3) := by decide +kernel
theorem dX5_restore_35 : decode cX5_restore 35 = .ok (.iload_n 1, 1) := by decide +kernel
theorem dX5_restore_36 : decode cX5_restore 36 = .ok (.aaload, 1) := by decide +kernel
theorem dX5_restore_37 : decode cX5_restore 37 = .ok (.invokevirtual 133, 3) := by decide +kernel
theorem dX5_restore_40 : decode cX5_restore 40 = .ok (.aload_n 0, 1) := by decide +kernel
theorem dX5_restore_41 : decode cX5_restore 41 = .ok (.getfield 40, 3) := by decide +kernel
theorem dX5_restore_44 : decode cX5_restore 44 = .ok (.invokevirtual 137, 3) := by decide +kernel
theorem dX5_restore_47 : decode cX5_restore 47 = .ok (.iconst 1, 1) := by decide +kernel
theorem dX5_restore_48 : decode cX5_restore 48 = .ok (.ireturn, 1) := by decide +kernel
set_option maxRecDepth 20000 in
theorem ggX5_kind_X5_isTube : GoodIn wsX5_kind wsX5_isTube := goodIn_r _ [8, 1, 9, 10, 11, 7, 12, 13, 14, 15, 16, 17, 18, 19, 20, 21, 22, 23, 24, 25, 26, 27, 28, 29, 30, 31, 32, 33, 34] (by decide +kernel) (by decide +kernel)
set_option maxRecDepth 20000 in
theorem gX5_kind_X5_isTube : GoodIn wsX5_kind (wsV RX5 166 RX5 yX5_isTube wsX5_isTube) := goodIn_app (goodIn_of _ (by decide +kernel)) ggX5_kind_X5_isTube
theorem dX5_kind_0 : decode cX5_kind 0 = .ok (.aload_n 0, 1) := by decide +kernel
theorem dX5_kind_1 : decode cX5_kind 1 = .ok (.iload_n 1, 1) := by decide +kernel
theorem dX5_kind_2 : decode cX5_kind 2 = .ok (.invokevirtual 166, 3) := by decide +kernel
theorem dX5_kind_5 : decode cX5_kind 5 = .ok (.ifCond .eq 15, 3) := by decide +kernel
theorem dX5_kind_8 : decode cX5_kind 8 = .ok (.aload_n 0, 1) := by decide +kernel
theorem dX5_kind_9 : decode cX5_kind 9 = .ok (.getfield 26, 3) := by decide +kernel
theorem dX5_kind_12 : decode cX5_kind 12 = .ok (.getfield 301, 3) := by decide +kernel
theorem dX5_kind_15 : decode cX5_kind 15 = .ok (.iload_n 1, 1) := by decide +kernel
theorem dX5_kind_16 : decode cX5_kind 16 = .ok (.iaload, 1) := by decide +kernel
theorem dX5_kind_17 : decode cX5_kind 17 = .ok (.goto 5, 3) := by decide +kernel
theorem dX5_kind_20 : decode cX5_kind 20 = .ok (.ldc 70, 2) := by decide +kernel
theorem dX5_kind_22 : decode cX5_kind 22 = .ok (.ireturn, 1) := by decide +kernel
set_option maxRecDepth 20000 in
theorem ggX5_as_X5_isTube : GoodIn wsX5_as wsX5_isTube := goodIn_r _ [9, 2, 10, 11, 12, 8, 13, 24, 25, 26, 27, 28, 29, 30, 31, 32, 33, 34, 35, 36, 37, 38, 39, 40, 41, 42, 43, 44, 45] (by decide +kernel) (by decide +kernel)
set_option maxRecDepth 20000 in
theorem gX5_as_X5_isTube : GoodIn wsX5_as (wsV RX5 166 RX5 yX5_isTube wsX5_isTube) := goodIn_app (goodIn_of _ (by decide +kernel)) ggX5_as_X5_isTube
set_option maxRecDepth 20000 in
theorem ggX5_as_X5_within : GoodIn wsX5_as wsX5_within := goodIn_r _ [13] (by decide +kernel) (by decide +kernel)
set_option maxRecDepth 20000 in
theorem gX5_as_X5_within : GoodIn wsX5_as (va_wsS RX5 66 yX5_within wsX5_within) := goodIn_app (goodIn_of _ (by decide +kernel)) ggX5_as_X5_within
set_option maxRecDepth 20000 in
theorem ggX5_as_X5_plain : GoodIn wsX5_as wsX5_plain := goodIn_r _ [17, 18, 24, 25, 26, 27, 28, 29, 30, 31, 32, 33] (by decide +kernel) (by decide +kernel)
set_option maxRecDepth 20000 in
theorem gX5_as_X5_plain : GoodIn wsX5_as (wsV RX5 79 RX5 yX5_plain wsX5_plain) := goodIn_app (goodIn_of _ (by decide +kernel)) ggX5_as_X5_plain
set_option maxRecDepth 20000 in
theorem ggX5_as_X5_found : GoodIn wsX5_as wsX5_found := goodIn_r _ [22, 18, 23, 24, 25, 26, 27, 28, 29, 30, 31, 32, 33] (by decide +kernel) (by decide +kernel)
set_option maxRecDepth 20000 in
theorem gX5_as_X5_found : GoodIn wsX5_as (wsV RX5 71 RX5 yX5_found wsX5_found) := goodIn_app (goodIn_of _ (by decide +kernel)) ggX5_as_X5_found
theorem dX5_as_0 : decode cX5_as 0 = .ok (.aload_n 0, 1) := by decide +kernel
theorem dX5_as_1 : decode cX5_as 1 = .ok (.iload_n 1, 1) := by decide +kernel
theorem dX5_as_2 : decode cX5_as 2 = .ok (.invokevirtual 166, 3) := by decide +kernel
theorem dX5_as_5 : decode cX5_as 5 = .ok (.ifCond .eq 12, 3) := by decide +kernel
theorem dX5_as_8 : decode cX5_as 8 = .ok (.iload_n 2, 1) := by decide +kernel
theorem dX5_as_9 : decode cX5_as 9 = .ok (.iconst 0, 1) := by decide +kernel
theorem dX5_as_10 : decode cX5_as 10 = .ok (.iconst 5, 1) := by decide +kernel
theorem dX5_as_11 : decode cX5_as 11 = .ok (.invokestatic 66, 3) := by decide +kernel
theorem dX5_as_14 : decode cX5_as 14 = .ok (.ifCond .ne 6, 3) := by decide +kernel
theorem dX5_as_17 : decode cX5_as 17 = .ok (.ldc 70, 2) := by decide +kernel
theorem dX5_as_19 : decode cX5_as 19 = .ok (.ireturn, 1) := by decide +kernel
theorem dX5_as_20 : decode cX5_as 20 = .ok (.aload_n 0, 1) := by decide +kernel
theorem dX5_as_21 : decode cX5_as 21 = .ok (.getfield 26, 3) := by decide +kernel
theorem dX5_as_24 : decode cX5_as 24 = .ok (.getfield 301, 3) := by decide +kernel
theorem dX5_as_27 : decode cX5_as 27 = .ok (.iload_n 1, 1) := by decide +kernel
theorem dX5_as_28 : decode cX5_as 28 = .ok (.iaload, 1) := by decide +kernel
theorem dX5_as_29 : decode cX5_as 29 = .ok (.istore_n 3, 1) := by decide +kernel
theorem dX5_as_30 : decode cX5_as 30 = .ok (.iconst 0, 1) := by decide +kernel
theorem dX5_as_31 : decode cX5_as 31 = .ok (.istore 4, 2) := by decide +kernel
theorem dX5_as_33 : decode cX5_as 33 = .ok (.iload 4, 2) := by decide +kernel
theorem dX5_as_35 : decode cX5_as 35 = .ok (.bipush 6, 2) := by decide +kernel
theorem dX5_as_37 : decode cX5_as 37 = .ok (.if_icmp .ge 35, 3) := by decide +kernel
theorem dX5_as_40 : decode cX5_as 40 = .ok (.iload_n 3, 1) := by decide +kernel
theorem dX5_as_41 : decode cX5_as 41 = .ok (.iconst 0, 1) := by decide +kernel
theorem dX5_as_42 : decode cX5_as 42 = .ok (.iconst 5, 1) := by decide +kernel
theorem dX5_as_43 : decode cX5_as 43 = .ok (.invokestatic 66, 3) := by decide +kernel
theorem dX5_as_46 : decode cX5_as 46 = .ok (.ifCond .eq 26, 3) := by decide +kernel
theorem dX5_as_49 : decode cX5_as 49 = .ok (.iload_n 3, 1) := by decide +kernel
theorem dX5_as_50 : decode cX5_as 50 = .ok (.iload_n 2, 1) := by decide +kernel
theorem dX5_as_51 : decode cX5_as 51 = .ok (.if_icmp .ne 9, 3) := by decide +kernel
theorem dX5_as_54 : decode cX5_as 54 = .ok (.aload_n 0, 1) := by decide +kernel
theorem dX5_as_55 : decode cX5_as 55 = .ok (.iload_n 1, 1) := by decide +kernel
theorem dX5_as_56 : decode cX5_as 56 = .ok (.invokevirtual 79, 3) := by decide +kernel
theorem dX5_as_59 : decode cX5_as 59 = .ok (.ireturn, 1) := by decide +kernel
theorem dX5_as_60 : decode cX5_as 60 = .ok (.getstatic 304, 3) := by decide +kernel
theorem dX5_as_63 : decode cX5_as 63 = .ok (.iload_n 3, 1) := by decide +kernel
theorem dX5_as_64 : decode cX5_as 64 = .ok (.iaload, 1) := by decide +kernel
theorem dX5_as_65 : decode cX5_as 65 = .ok (.istore_n 3, 1) := by decide +kernel
theorem dX5_as_66 : decode cX5_as 66 = .ok (.iinc 4 1, 3) := by decide +kernel
theorem dX5_as_69 : decode cX5_as 69 = .ok (.goto (-36), 3) := by decide +kernel
theorem dX5_as_72 : decode cX5_as 72 = .ok (.aload_n 0, 1) := by decide +kernel
theorem dX5_as_73 : decode cX5_as 73 = .ok (.iconst 3, 1) := by decide +kernel
theorem dX5_as_74 : decode cX5_as 74 = .ok (.invokevirtual 71, 3) := by decide +kernel
theorem dX5_as_77 : decode cX5_as 77 = .ok (.ireturn, 1) := by decide +kernel
set_option maxRecDepth 20000 in
theorem ggX5_ask_X5_isTube : GoodIn wsX5_ask wsX5_isTube := goodIn_r _ [9, 4, 10, 11, 12, 8, 13, 35, 36, 37, 38, 39, 40, 41, 42, 43, 44, 47, 48, 49, 50, 51, 52, 53, 54, 55, 56, 57, 58] (by decide +kernel) (by decide +kernel)
set_option maxRecDepth 20000 in
theorem gX5_ask_X5_isTube : GoodIn wsX5_ask (wsV RX5 166 RX5 yX5_isTube wsX5_isTube) := goodIn_app (goodIn_of _ (by decide +kernel)) ggX5_ask_X5_isTube
set_option maxRecDepth 20000 in
theorem ggX5_ask_X5_within : GoodIn wsX5_ask wsX5_within := goodIn_r _ [13] (by decide +kernel) (by decide +kernel)
set_option maxRecDepth 20000 in
theorem gX5_ask_X5_within : GoodIn wsX5_ask (va_wsS RX5 66 yX5_within wsX5_within) := goodIn_app (goodIn_of _ (by decide +kernel)) ggX5_ask_X5_within
theorem dX5_ask_0 : decode cX5_ask 0 = .ok (.aload_n 0, 1) := by decide +kernel
theorem dX5_ask_1 : decode cX5_ask 1 = .ok (.iload_n 1, 1) := by decide +kernel
theorem dX5_ask_2 : decode cX5_ask 2 = .ok (.invokevirtual 166, 3) := by decide +kernel
theorem dX5_ask_5 : decode cX5_ask 5 = .ok (.ifCond .eq 12, 3) := by decide +kernel
theorem dX5_ask_8 : decode cX5_ask 8 = .ok (.iload_n 2, 1) := by decide +kernel
theorem dX5_ask_9 : decode cX5_ask 9 = .ok (.iconst 0, 1) := by decide +kernel
theorem dX5_ask_10 : decode cX5_ask 10 = .ok (.iconst 1, 1) := by decide +kernel
theorem dX5_ask_11 : decode cX5_ask 11 = .ok (.invokestatic 66, 3) := by decide +kernel
theorem dX5_ask_14 : decode cX5_ask 14 = .ok (.ifCond .ne 6, 3) := by decide +kernel
theorem dX5_ask_17 : decode cX5_ask 17 = .ok (.ldc 70, 2) := by decide +kernel
theorem dX5_ask_19 : decode cX5_ask 19 = .ok (.ireturn, 1) := by decide +kernel
theorem dX5_ask_20 : decode cX5_ask 20 = .ok (.aload_n 0, 1) := by decide +kernel
theorem dX5_ask_21 : decode cX5_ask 21 = .ok (.getfield 51, 3) := by decide +kernel
theorem dX5_ask_24 : decode cX5_ask 24 = .ok (.iconst 0, 1) := by decide +kernel
theorem dX5_ask_25 : decode cX5_ask 25 = .ok (.putfield 307, 3) := by decide +kernel
theorem dX5_ask_28 : decode cX5_ask 28 = .ok (.aload_n 0, 1) := by decide +kernel
theorem dX5_ask_29 : decode cX5_ask 29 = .ok (.getfield 26, 3) := by decide +kernel
theorem dX5_ask_32 : decode cX5_ask 32 = .ok (.aload_n 0, 1) := by decide +kernel
theorem dX5_ask_33 : decode cX5_ask 33 = .ok (.getfield 51, 3) := by decide +kernel
theorem dX5_ask_36 : decode cX5_ask 36 = .ok (.iload_n 2, 1) := by decide +kernel
theorem dX5_ask_37 : decode cX5_ask 37 = .ok (.ifCond .ne 14, 3) := by decide +kernel
theorem dX5_ask_40 : decode cX5_ask 40 = .ok (.aload_n 0, 1) := by decide +kernel
theorem dX5_ask_41 : decode cX5_ask 41 = .ok (.getfield 26, 3) := by decide +kernel
theorem dX5_ask_44 : decode cX5_ask 44 = .ok (.iload_n 1, 1) := by decide +kernel
theorem dX5_ask_45 : decode cX5_ask 45 = .ok (.invokestatic 308, 3) := by decide +kernel
theorem dX5_ask_48 : decode cX5_ask 48 = .ok (.goto 11, 3) := by decide +kernel
theorem dX5_ask_51 : decode cX5_ask 51 = .ok (.aload_n 0, 1) := by decide +kernel
theorem dX5_ask_52 : decode cX5_ask 52 = .ok (.getfield 26, 3) := by decide +kernel
theorem dX5_ask_55 : decode cX5_ask 55 = .ok (.iload_n 1, 1) := by decide +kernel
theorem dX5_ask_56 : decode cX5_ask 56 = .ok (.invokestatic 312, 3) := by decide +kernel
theorem dX5_ask_59 : decode cX5_ask 59 = .ok (.iload_n 1, 1) := by decide +kernel
theorem dX5_ask_60 : decode cX5_ask 60 = .ok (.iconst 0, 1) := by decide +kernel
theorem dX5_ask_61 : decode cX5_ask 61 = .ok (.invokestatic 315, 3) := by decide +kernel
theorem dX5_ask_64 : decode cX5_ask 64 = .ok (.ireturn, 1) := by decide +kernel
set_option maxRecDepth 20000 in
theorem ggX5_trace_X5_within : GoodIn wsX5_trace wsX5_within := goodIn_r _ [8] (by decide +kernel) (by decide +kernel)
set_option maxRecDepth 20000 in
theorem gX5_trace_X5_within : GoodIn wsX5_trace (va_wsS RX5 66 yX5_within wsX5_within) := goodIn_app (goodIn_of _ (by decide +kernel)) ggX5_trace_X5_within
theorem dX5_trace_0 : decode cX5_trace 0 = .ok (.iload_n 1, 1) := by decide +kernel
theorem dX5_trace_1 : decode cX5_trace 1 = .ok (.iconst 0, 1) := by decide +kernel
theorem dX5_trace_2 : decode cX5_trace 2 = .ok (.aload_n 0, 1) := by decide +kernel
theorem dX5_trace_3 : decode cX5_trace 3 = .ok (.getfield 51, 3) := by decide +kernel
theorem dX5_trace_6 : decode cX5_trace 6 = .ok (.getfield 307, 3) := by decide +kernel
theorem dX5_trace_9 : decode cX5_trace 9 = .ok (.iconst 1, 1) := by decide +kernel
theorem dX5_trace_10 : decode cX5_trace 10 = .ok (.isub, 1) := by decide +kernel
theorem dX5_trace_11 : decode cX5_trace 11 = .ok (.invokestatic 66, 3) := by decide +kernel
theorem dX5_trace_14 : decode cX5_trace 14 = .ok (.ifCond .eq 15, 3) := by decide +kernel
theorem dX5_trace_17 : decode cX5_trace 17 = .ok (.aload_n 0, 1) := by decide +kernel
theorem dX5_trace_18 : decode cX5_trace 18 = .ok (.getfield 51, 3) := by decide +kernel
theorem dX5_trace_21 : decode cX5_trace 21 = .ok (.getfield 319, 3) := by decide +kernel
theorem dX5_trace_24 : decode cX5_trace 24 = .ok (.iload_n 1, 1) := by decide +kernel
theorem dX5_trace_25 : decode cX5_trace 25 = .ok (.iaload, 1) := by decide +kernel
theorem dX5_trace_26 : decode cX5_trace 26 = .ok (.goto 5, 3) := by decide +kernel
theorem dX5_trace_29 : decode cX5_trace 29 = .ok (.ldc 217, 2) := by decide +kernel
theorem dX5_trace_31 : decode cX5_trace 31 = .ok (.ireturn, 1) := by decide +kernel
set_option maxRecDepth 20000 in
theorem ggX5_count_X2_present : GoodIn wsX5_count wsX2_present := goodIn_r _ [15, 16, 17, 18, 14, 19, 20, 65, 66, 67] (by decide +kernel) (by decide +kernel)
set_option maxRecDepth 20000 in
theorem gX5_count_X2_present : GoodIn wsX5_count (wsV RX5 322 RX2 yX2_present wsX2_present) := goodIn_app (goodIn_of _ (by decide +kernel)) ggX5_count_X2_present
set_option maxRecDepth 20000 in
theorem ggX5_count_X0_coldRooms : GoodIn wsX5_count wsX0_coldRooms := goodIn_r _ [25, 26, 27, 28, 45, 46, 47, 48, 49, 50, 51, 52, 53, 54, 55, 56] (by decide +kernel) (by decide +kernel)
set_option maxRecDepth 20000 in
theorem gX5_count_X0_coldRooms : GoodIn wsX5_count (wsV RX5 162 RX0 yX0_coldRooms wsX0_coldRooms) := goodIn_app (goodIn_of _ (by decide +kernel)) ggX5_count_X0_coldRooms
set_option maxRecDepth 20000 in
theorem ggX5_count_X0_upIn : GoodIn wsX5_count wsX0_upIn := goodIn_r _ [32, 33, 34, 45, 46, 47, 48, 49, 50, 51, 52, 53, 54, 55, 56] (by decide +kernel) (by decide +kernel)
set_option maxRecDepth 20000 in
theorem gX5_count_X0_upIn : GoodIn wsX5_count (wsV RX5 246 RX0 yX0_upIn wsX0_upIn) := goodIn_app (goodIn_of _ (by decide +kernel)) ggX5_count_X0_upIn
theorem dX5_count_0 : decode cX5_count 0 = .ok (.iload_n 1, 1) := by decide +kernel
theorem dX5_count_1 : decode cX5_count 1 = .ok (.tableswitch 112 0 7 #[47, 55, 63, 71, 79, 87, 96, 104], 47) := by decide +kernel
theorem dX5_count_48 : decode cX5_count 48 = .ok (.aload_n 0, 1) := by decide +kernel
theorem dX5_count_49 : decode cX5_count 49 = .ok (.getfield 10, 3) := by decide +kernel
theorem dX5_count_52 : decode cX5_count 52 = .ok (.invokevirtual 322, 3) := by decide +kernel
theorem dX5_count_55 : decode cX5_count 55 = .ok (.ireturn, 1) := by decide +kernel
theorem dX5_count_56 : decode cX5_count 56 = .ok (.aload_n 0, 1) := by decide +kernel
theorem dX5_count_57 : decode cX5_count 57 = .ok (.getfield 26, 3) := by decide +kernel
theorem dX5_count_60 : decode cX5_count 60 = .ok (.getfield 239, 3) := by decide +kernel
theorem dX5_count_63 : decode cX5_count 63 = .ok (.ireturn, 1) := by decide +kernel
theorem dX5_count_64 : decode cX5_count 64 = .ok (.aload_n 0, 1) := by decide +kernel
theorem dX5_count_65 : decode cX5_count 65 = .ok (.getfield 26, 3) := by decide +kernel
theorem dX5_count_68 : decode cX5_count 68 = .ok (.getfield 140, 3) := by decide +kernel
theorem dX5_count_71 : decode cX5_count 71 = .ok (.ireturn, 1) := by decide +kernel
theorem dX5_count_72 : decode cX5_count 72 = .ok (.aload_n 0, 1) := by decide +kernel
theorem dX5_count_73 : decode cX5_count 73 = .ok (.getfield 26, 3) := by decide +kernel
theorem dX5_count_76 : decode cX5_count 76 = .ok (.getfield 153, 3) := by decide +kernel
theorem dX5_count_79 : decode cX5_count 79 = .ok (.ireturn, 1) := by decide +kernel
theorem dX5_count_80 : decode cX5_count 80 = .ok (.aload_n 0, 1) := by decide +kernel
theorem dX5_count_81 : decode cX5_count 81 = .ok (.getfield 26, 3) := by decide +kernel
theorem dX5_count_84 : decode cX5_count 84 = .ok (.invokevirtual 162, 3) := by decide +kernel
theorem dX5_count_87 : decode cX5_count 87 = .ok (.ireturn, 1) := by decide +kernel
theorem dX5_count_88 : decode cX5_count 88 = .ok (.aload_n 0, 1) := by decide +kernel
theorem dX5_count_89 : decode cX5_count 89 = .ok (.getfield 26, 3) := by decide +kernel
theorem dX5_count_92 : decode cX5_count 92 = .ok (.iconst (-1), 1) := by decide +kernel
theorem dX5_count_93 : decode cX5_count 93 = .ok (.invokevirtual 246, 3) := by decide +kernel
theorem dX5_count_96 : decode cX5_count 96 = .ok (.ireturn, 1) := by decide +kernel
theorem dX5_count_97 : decode cX5_count 97 = .ok (.aload_n 0, 1) := by decide +kernel
theorem dX5_count_98 : decode cX5_count 98 = .ok (.getfield 40, 3) := by decide +kernel
theorem dX5_count_101 : decode cX5_count 101 = .ok (.getfield 143, 3) := by decide +kernel
theorem dX5_count_104 : decode cX5_count 104 = .ok (.ireturn, 1) := by decide +kernel
theorem dX5_count_105 : decode cX5_count 105 = .ok (.aload_n 0, 1) := by decide +kernel
theorem dX5_count_106 : decode cX5_count 106 = .ok (.getfield 19, 3) := by decide +kernel
theorem dX5_count_109 : decode cX5_count 109 = .ok (.getfield 115, 3) := by decide +kernel
theorem dX5_count_112 : decode cX5_count 112 = .ok (.ireturn, 1) := by decide +kernel
theorem dX5_count_113 : decode cX5_count 113 = .ok (.ldc 70, 2) := by decide +kernel
theorem dX5_count_115 : decode cX5_count 115 = .ok (.ireturn, 1) := by decide +kernel
theorem dX5_status_0 : decode cX5_status 0 = .ok (.aload_n 0, 1) := by decide +kernel
theorem dX5_status_1 : decode cX5_status 1 = .ok (.getfield 59, 3) := by decide +kernel
theorem dX5_status_4 : decode cX5_status 4 = .ok (.ireturn, 1) := by decide +kernel
theorem dX5_within_0 : decode cX5_within 0 = .ok (.iload_n 0, 1) := by decide +kernel
theorem dX5_within_1 : decode cX5_within 1 = .ok (.iload_n 1, 1) := by decide +kernel
theorem dX5_within_2 : decode cX5_within 2 = .ok (.if_icmp .lt 12, 3) := by decide +kernel
theorem dX5_within_5 : decode cX5_within 5 = .ok (.iload_n 0, 1) := by decide +kernel
theorem dX5_within_6 : decode cX5_within 6 = .ok (.iload_n 2, 1) := by decide +kernel
theorem dX5_within_7 : decode cX5_within 7 = .ok (.if_icmp .gt 7, 3) := by decide +kernel
theorem dX5_within_10 : decode cX5_within 10 = .ok (.iconst 1, 1) := by decide +kernel
theorem dX5_within_11 : decode cX5_within 11 = .ok (.goto 4, 3) := by decide +kernel
theorem dX5_within_14 : decode cX5_within 14 = .ok (.iconst 0, 1) := by decide +kernel
theorem dX5_within_15 : decode cX5_within 15 = .ok (.ireturn, 1) := by decide +kernel
set_option maxRecDepth 20000 in
theorem ggX5_isRow_X5_within : GoodIn wsX5_isRow wsX5_within := goodIn_r _ [4] (by decide +kernel) (by decide +kernel)
set_option maxRecDepth 20000 in
theorem gX5_isRow_X5_within : GoodIn wsX5_isRow (va_wsS RX5 66 yX5_within wsX5_within) := goodIn_app (goodIn_of _ (by decide +kernel)) ggX5_isRow_X5_within
theorem dX5_isRow_0 : decode cX5_isRow 0 = .ok (.iload_n 0, 1) := by decide +kernel
theorem dX5_isRow_1 : decode cX5_isRow 1 = .ok (.iconst 0, 1) := by decide +kernel
theorem dX5_isRow_2 : decode cX5_isRow 2 = .ok (.bipush 7, 2) := by decide +kernel
theorem dX5_isRow_4 : decode cX5_isRow 4 = .ok (.invokestatic 66, 3) := by decide +kernel
theorem dX5_isRow_7 : decode cX5_isRow 7 = .ok (.ireturn, 1) := by decide +kernel
set_option maxRecDepth 20000 in
theorem ggX5_isTube_X5_within : GoodIn wsX5_isTube wsX5_within := goodIn_r _ [6] (by decide +kernel) (by decide +kernel)
set_option maxRecDepth 20000 in
theorem gX5_isTube_X5_within : GoodIn wsX5_isTube (va_wsS RX5 66 yX5_within wsX5_within) := goodIn_app (goodIn_of _ (by decide +kernel)) ggX5_isTube_X5_within
theorem dX5_isTube_0 : decode cX5_isTube 0 = .ok (.iload_n 1, 1) := by decide +kernel
theorem dX5_isTube_1 : decode cX5_isTube 1 = .ok (.iconst 0, 1) := by decide +kernel
theorem dX5_isTube_2 : decode cX5_isTube 2 = .ok (.aload_n 0, 1) := by decide +kernel
theorem dX5_isTube_3 : decode cX5_isTube 3 = .ok (.getfield 26, 3) := by decide +kernel
theorem dX5_isTube_6 : decode cX5_isTube 6 = .ok (.getfield 140, 3) := by decide +kernel
theorem dX5_isTube_9 : decode cX5_isTube 9 = .ok (.iconst 1, 1) := by decide +kernel
theorem dX5_isTube_10 : decode cX5_isTube 10 = .ok (.isub, 1) := by decide +kernel
theorem dX5_isTube_11 : decode cX5_isTube 11 = .ok (.invokestatic 66, 3) := by decide +kernel
theorem dX5_isTube_14 : decode cX5_isTube 14 = .ok (.ireturn, 1) := by decide +kernel
set_option maxRecDepth 20000 in
theorem ggX5_isRoom_X5_within : GoodIn wsX5_isRoom wsX5_within := goodIn_r _ [6] (by decide +kernel) (by decide +kernel)
set_option maxRecDepth 20000 in
theorem gX5_isRoom_X5_within : GoodIn wsX5_isRoom (va_wsS RX5 66 yX5_within wsX5_within) := goodIn_app (goodIn_of _ (by decide +kernel)) ggX5_isRoom_X5_within
theorem dX5_isRoom_0 : decode cX5_isRoom 0 = .ok (.iload_n 1, 1) := by decide +kernel
theorem dX5_isRoom_1 : decode cX5_isRoom 1 = .ok (.iconst 0, 1) := by decide +kernel
theorem dX5_isRoom_2 : decode cX5_isRoom 2 = .ok (.aload_n 0, 1) := by decide +kernel
theorem dX5_isRoom_3 : decode cX5_isRoom 3 = .ok (.getfield 26, 3) := by decide +kernel
theorem dX5_isRoom_6 : decode cX5_isRoom 6 = .ok (.getfield 239, 3) := by decide +kernel
theorem dX5_isRoom_9 : decode cX5_isRoom 9 = .ok (.iconst 1, 1) := by decide +kernel
theorem dX5_isRoom_10 : decode cX5_isRoom 10 = .ok (.isub, 1) := by decide +kernel
theorem dX5_isRoom_11 : decode cX5_isRoom 11 = .ok (.invokestatic 66, 3) := by decide +kernel
theorem dX5_isRoom_14 : decode cX5_isRoom 14 = .ok (.ireturn, 1) := by decide +kernel
set_option maxRecDepth 20000 in
theorem ggX5_isPlace_X0_stands : GoodIn wsX5_isPlace wsX0_stands := goodIn_r _ [7, 8, 23, 24, 25, 26, 27, 28, 29, 30, 31, 32, 33, 34] (by decide +kernel) (by decide +kernel)
set_option maxRecDepth 20000 in
theorem gX5_isPlace_X0_stands : GoodIn wsX5_isPlace (wsV RX5 149 RX0 yX0_stands wsX0_stands) := goodIn_app (goodIn_of _ (by decide +kernel)) ggX5_isPlace_X0_stands
set_option maxRecDepth 20000 in
theorem ggX5_isPlace_X5_within : GoodIn wsX5_isPlace wsX5_within := goodIn_r _ [12] (by decide +kernel) (by decide +kernel)
set_option maxRecDepth 20000 in
theorem gX5_isPlace_X5_within : GoodIn wsX5_isPlace (va_wsS RX5 66 yX5_within wsX5_within) := goodIn_app (goodIn_of _ (by decide +kernel)) ggX5_isPlace_X5_within
theorem dX5_isPlace_0 : decode cX5_isPlace 0 = .ok (.aload_n 0, 1) := by decide +kernel
theorem dX5_isPlace_1 : decode cX5_isPlace 1 = .ok (.getfield 26, 3) := by decide +kernel
theorem dX5_isPlace_4 : decode cX5_isPlace 4 = .ok (.invokevirtual 149, 3) := by decide +kernel
theorem dX5_isPlace_7 : decode cX5_isPlace 7 = .ok (.ifCond .eq 22, 3) := by decide +kernel
theorem dX5_isPlace_10 : decode cX5_isPlace 10 = .ok (.iload_n 1, 1) := by decide +kernel
theorem dX5_isPlace_11 : decode cX5_isPlace 11 = .ok (.iconst 0, 1) := by decide +kernel
theorem dX5_isPlace_12 : decode cX5_isPlace 12 = .ok (.aload_n 0, 1) := by decide +kernel
theorem dX5_isPlace_13 : decode cX5_isPlace 13 = .ok (.getfield 26, 3) := by decide +kernel
theorem dX5_isPlace_16 : decode cX5_isPlace 16 = .ok (.getfield 239, 3) := by decide +kernel
theorem dX5_isPlace_19 : decode cX5_isPlace 19 = .ok (.invokestatic 66, 3) := by decide +kernel
theorem dX5_isPlace_22 : decode cX5_isPlace 22 = .ok (.ifCond .eq 7, 3) := by decide +kernel
theorem dX5_isPlace_25 : decode cX5_isPlace 25 = .ok (.iconst 1, 1) := by decide +kernel
theorem dX5_isPlace_26 : decode cX5_isPlace 26 = .ok (.goto 4, 3) := by decide +kernel
theorem dX5_isPlace_29 : decode cX5_isPlace 29 = .ok (.iconst 0, 1) := by decide +kernel
theorem dX5_isPlace_30 : decode cX5_isPlace 30 = .ok (.ireturn, 1) := by decide +kernel
theorem dX5_found_0 : decode cX5_found 0 = .ok (.aload_n 0, 1) := by decide +kernel
theorem dX5_found_1 : decode cX5_found 1 = .ok (.iload_n 1, 1) := by decide +kernel
theorem dX5_found_2 : decode cX5_found 2 = .ok (.putfield 59, 3) := by decide +kernel
theorem dX5_found_5 : decode cX5_found 5 = .ok (.ldc_w 325, 3) := by decide +kernel
theorem dX5_found_8 : decode cX5_found 8 = .ok (.iload_n 1, 1) := by decide +kernel
theorem dX5_found_9 : decode cX5_found 9 = .ok (.isub, 1) := by decide +kernel
theorem dX5_found_10 : decode cX5_found 10 = .ok (.ireturn, 1) := by decide +kernel
theorem dX5_plain_0 : decode cX5_plain 0 = .ok (.aload_n 0, 1) := by decide +kernel
theorem dX5_plain_1 : decode cX5_plain 1 = .ok (.iconst 0, 1) := by decide +kernel
theorem dX5_plain_2 : decode cX5_plain 2 = .ok (.putfield 59, 3) := by decide +kernel
theorem dX5_plain_5 : decode cX5_plain 5 = .ok (.iload_n 1, 1) := by decide +kernel
theorem dX5_plain_6 : decode cX5_plain 6 = .ok (.ireturn, 1) := by decide +kernel
theorem dX6_init_0 : decode cX6_init 0 = .ok (.aload_n 0, 1) := by decide +kernel
theorem dX6_init_1 : decode cX6_init 1 = .ok (.invokespecial 1, 3) := by decide +kernel
theorem dX6_init_4 : decode cX6_init 4 = .ok (.aload_n 0, 1) := by decide +kernel
theorem dX6_init_5 : decode cX6_init 5 = .ok (.bipush 8, 2) := by decide +kernel
theorem dX6_init_7 : decode cX6_init 7 = .ok (.newarray .int, 2) := by decide +kernel
theorem dX6_init_9 : decode cX6_init 9 = .ok (.dup, 1) := by decide +kernel
theorem dX6_init_10 : decode cX6_init 10 = .ok (.iconst 0, 1) := by decide +kernel
theorem dX6_init_11 : decode cX6_init 11 = .ok (.iconst (-1), 1) := by decide +kernel
theorem dX6_init_12 : decode cX6_init 12 = .ok (.iastore, 1) := by decide +kernel
theorem dX6_init_13 : decode cX6_init 13 = .ok (.dup, 1) := by decide +kernel
theorem dX6_init_14 : decode cX6_init 14 = .ok (.iconst 1, 1) := by decide +kernel
theorem dX6_init_15 : decode cX6_init 15 = .ok (.iconst (-1), 1) := by decide +kernel
theorem dX6_init_16 : decode cX6_init 16 = .ok (.iastore, 1) := by decide +kernel
theorem dX6_init_17 : decode cX6_init 17 = .ok (.dup, 1) := by decide +kernel
theorem dX6_init_18 : decode cX6_init 18 = .ok (.iconst 2, 1) := by decide +kernel
theorem dX6_init_19 : decode cX6_init 19 = .ok (.iconst (-1), 1) := by decide +kernel
theorem dX6_init_20 : decode cX6_init 20 = .ok (.iastore, 1) := by decide +kernel
theorem dX6_init_21 : decode cX6_init 21 = .ok (.dup, 1) := by decide +kernel
theorem dX6_init_22 : decode cX6_init 22 = .ok (.iconst 3, 1) := by decide +kernel
theorem dX6_init_23 : decode cX6_init 23 = .ok (.iconst (-1), 1) := by decide +kernel
theorem dX6_init_24 : decode cX6_init 24 = .ok (.iastore, 1) := by decide +kernel
theorem dX6_init_25 : decode cX6_init 25 = .ok (.dup, 1) := by decide +kernel
theorem dX6_init_26 : decode cX6_init 26 = .ok (.iconst 4, 1) := by decide +kernel
theorem dX6_init_27 : decode cX6_init 27 = .ok (.iconst (-1), 1) := by decide +kernel
theorem dX6_init_28 : decode cX6_init 28 = .ok (.iastore, 1) := by decide +kernel
theorem dX6_init_29 : decode cX6_init 29 = .ok (.dup, 1) := by decide +kernel
theorem dX6_init_30 : decode cX6_init 30 = .ok (.iconst 5, 1) := by decide +kernel
theorem dX6_init_31 : decode cX6_init 31 = .ok (.iconst (-1), 1) := by decide +kernel
theorem dX6_init_32 : decode cX6_init 32 = .ok (.iastore, 1) := by decide +kernel
theorem dX6_init_33 : decode cX6_init 33 = .ok (.dup, 1) := by decide +kernel
theorem dX6_init_34 : decode cX6_init 34 = .ok (.bipush 6, 2) := by decide +kernel
theorem dX6_init_36 : decode cX6_init 36 = .ok (.iconst (-1), 1) := by decide +kernel
theorem dX6_init_37 : decode cX6_init 37 = .ok (.iastore, 1) := by decide +kernel
theorem dX6_init_38 : decode cX6_init 38 = .ok (.dup, 1) := by decide +kernel
theorem dX6_init_39 : decode cX6_init 39 = .ok (.bipush 7, 2) := by decide +kernel
theorem dX6_init_41 : decode cX6_init 41 = .ok (.iconst (-1), 1) := by decide +kernel
theorem dX6_init_42 : decode cX6_init 42 = .ok (.iastore, 1) := by decide +kernel
theorem dX6_init_43 : decode cX6_init 43 = .ok (.putfield 7, 3) := by decide +kernel
theorem dX6_init_46 : decode cX6_init 46 = .ok (.aload_n 0, 1) := by decide +kernel
theorem dX6_init_47 : decode cX6_init 47 = .ok (.bipush 8, 2) := by decide +kernel
theorem dX6_init_49 : decode cX6_init 49 = .ok (.newarray .int, 2) := by decide +kernel
theorem dX6_init_51 : decode cX6_init 51 = .ok (.putfield 13, 3) := by decide +kernel
theorem dX6_init_54 : decode cX6_init 54 = .ok (.aload_n 0, 1) := by decide +kernel
theorem dX6_init_55 : decode cX6_init 55 = .ok (.sipush 320, 3) := by decide +kernel
theorem dX6_init_58 : decode cX6_init 58 = .ok (.newarray .int, 2) := by decide +kernel
theorem dX6_init_60 : decode cX6_init 60 = .ok (.putfield 16, 3) := by decide +kernel
theorem dX6_init_63 : decode cX6_init 63 = .ok (.aload_n 0, 1) := by decide +kernel
theorem dX6_init_64 : decode cX6_init 64 = .ok (.bipush 45, 2) := by decide +kernel
theorem dX6_init_66 : decode cX6_init 66 = .ok (.newarray .int, 2) := by decide +kernel
theorem dX6_init_68 : decode cX6_init 68 = .ok (.putfield 19, 3) := by decide +kernel
theorem dX6_init_71 : decode cX6_init 71 = .ok (.aload_n 0, 1) := by decide +kernel
theorem dX6_init_72 : decode cX6_init 72 = .ok (.bipush 45, 2) := by decide +kernel
theorem dX6_init_74 : decode cX6_init 74 = .ok (.newarray .int, 2) := by decide +kernel
theorem dX6_init_76 : decode cX6_init 76 = .ok (.putfield 22, 3) := by decide +kernel
theorem dX6_init_79 : decode cX6_init 79 = .ok (.aload_n 0, 1) := by decide +kernel
theorem dX6_init_80 : decode cX6_init 80 = .ok (.bipush 45, 2) := by decide +kernel
theorem dX6_init_82 : decode cX6_init 82 = .ok (.newarray .int, 2) := by decide +kernel
theorem dX6_init_84 : decode cX6_init 84 = .ok (.putfield 25, 3) := by decide +kernel
theorem dX6_init_87 : decode cX6_init 87 = .ok (.aload_n 0, 1) := by decide +kernel
theorem dX6_init_88 : decode cX6_init 88 = .ok (.sipush 1080, 3) := by decide +kernel
theorem dX6_init_91 : decode cX6_init 91 = .ok (.newarray .int, 2) := by decide +kernel
theorem dX6_init_93 : decode cX6_init 93 = .ok (.putfield 28, 3) := by decide +kernel
theorem dX6_init_96 : decode cX6_init 96 = .ok (.aload_n 0, 1) := by decide +kernel
theorem dX6_init_97 : decode cX6_init 97 = .ok (.bipush 120, 2) := by decide +kernel
theorem dX6_init_99 : decode cX6_init 99 = .ok (.newarray .int, 2) := by decide +kernel
theorem dX6_init_101 : decode cX6_init 101 = .ok (.putfield 31, 3) := by decide +kernel
theorem dX6_init_104 : decode cX6_init 104 = .ok (.aload_n 0, 1) := by decide +kernel
theorem dX6_init_105 : decode cX6_init 105 = .ok (.iconst 3, 1) := by decide +kernel
theorem dX6_init_106 : decode cX6_init 106 = .ok (.newarray .int, 2) := by decide +kernel
theorem dX6_init_108 : decode cX6_init 108 = .ok (.putfield 34, 3) := by decide +kernel
theorem dX6_init_111 : decode cX6_init 111 = .ok (.aload_n 0, 1) := by decide +kernel
theorem dX6_init_112 : decode cX6_init 112 = .ok (.iconst 2, 1) := by decide +kernel
theorem dX6_init_113 : decode cX6_init 113 = .ok (.newarray .boolean, 2) := by decide +kernel
theorem dX6_init_115 : decode cX6_init 115 = .ok (.putfield 37, 3) := by decide +kernel
theorem dX6_init_118 : decode cX6_init 118 = .ok (.aload_n 0, 1) := by decide +kernel
theorem dX6_init_119 : decode cX6_init 119 = .ok (.bipush 90, 2) := by decide +kernel
theorem dX6_init_121 : decode cX6_init 121 = .ok (.newarray .int, 2) := by decide +kernel
theorem dX6_init_123 : decode cX6_init 123 = .ok (.putfield 41, 3) := by decide +kernel
theorem dX6_init_126 : decode cX6_init 126 = .ok (.aload_n 0, 1) := by decide +kernel
theorem dX6_init_127 : decode cX6_init 127 = .ok (.bipush 16, 2) := by decide +kernel
theorem dX6_init_129 : decode cX6_init 129 = .ok (.newarray .int, 2) := by decide +kernel
theorem dX6_init_131 : decode cX6_init 131 = .ok (.putfield 44, 3) := by decide +kernel
theorem dX6_init_134 : decode cX6_init 134 = .ok (.return_, 1) := by decide +kernel
theorem dX6_in_0 : decode cX6_in 0 = .ok (.lload_n 0, 1) := by decide +kernel
theorem dX6_in_1 : decode cX6_in 1 = .ok (.lload_n 2, 1) := by decide +kernel
theorem dX6_in_2 : decode cX6_in 2 = .ok (.lcmp, 1) := by decide +kernel
theorem dX6_in_3 : decode cX6_in 3 = .ok (.ifCond .lt 14, 3) := by decide +kernel
theorem dX6_in_6 : decode cX6_in 6 = .ok (.lload_n 0, 1) := by decide +kernel
theorem dX6_in_7 : decode cX6_in 7 = .ok (.lload 4, 2) := by decide +kernel
theorem dX6_in_9 : decode cX6_in 9 = .ok (.lcmp, 1) := by decide +kernel
theorem dX6_in_10 : decode cX6_in 10 = .ok (.ifCond .gt 7, 3) := by decide +kernel
theorem dX6_in_13 : decode cX6_in 13 = .ok (.iconst 1, 1) := by decide +kernel
theorem dX6_in_14 : decode cX6_in 14 = .ok (.goto 4, 3) := by decide +kernel
theorem dX6_in_17 : decode cX6_in 17 = .ok (.iconst 0, 1) := by decide +kernel
theorem dX6_in_18 : decode cX6_in 18 = .ok (.ireturn, 1) := by decide +kernel
theorem dX6_finding_0 : decode cX6_finding 0 = .ok (.aload_n 0, 1) := by decide +kernel
theorem dX6_finding_1 : decode cX6_finding 1 = .ok (.iload_n 1, 1) := by decide +kernel
theorem dX6_finding_2 : decode cX6_finding 2 = .ok (.putfield 51, 3) := by decide +kernel
theorem dX6_finding_5 : decode cX6_finding 5 = .ok (.ldc 54, 2) := by decide +kernel
theorem dX6_finding_7 : decode cX6_finding 7 = .ok (.iload_n 1, 1) := by decide +kernel
theorem dX6_finding_8 : decode cX6_finding 8 = .ok (.isub, 1) := by decide +kernel
theorem dX6_finding_9 : decode cX6_finding 9 = .ok (.ireturn, 1) := by decide +kernel
set_option maxRecDepth 20000 in
theorem ggX6_isRow_X6_in : GoodIn wsX6_isRow wsX6_in := goodIn_r _ [5] (by decide +kernel) (by decide +kernel)
set_option maxRecDepth 20000 in
theorem gX6_isRow_X6_in : GoodIn wsX6_isRow (va_wsS RX6 57 yX6_in wsX6_in) := goodIn_app (goodIn_of _ (by decide +kernel)) ggX6_isRow_X6_in
theorem dX6_isRow_0 : decode cX6_isRow 0 = .ok (.iload_n 0, 1) := by decide +kernel
theorem dX6_isRow_1 : decode cX6_isRow 1 = .ok (.i2l, 1) := by decide +kernel
theorem dX6_isRow_2 : decode cX6_isRow 2 = .ok (.lconst 0, 1) := by decide +kernel
theorem dX6_isRow_3 : decode cX6_isRow 3 = .ok (.ldc2_w 55, 3) := by decide +kernel
theorem dX6_isRow_6 : decode cX6_isRow 6 = .ok (.invokestatic 57, 3) := by decide +kernel
theorem dX6_isRow_9 : decode cX6_isRow 9 = .ok (.ireturn, 1) := by decide +kernel
set_option maxRecDepth 20000 in
theorem ggX6_row_X6_isRow : GoodIn wsX6_row wsX6_isRow := goodIn_r _ [11, 12, 13, 14, 10, 15] (by decide +kernel) (by decide +kernel)
set_option maxRecDepth 20000 in
theorem gX6_row_X6_isRow : GoodIn wsX6_row (va_wsS RX6 61 yX6_isRow wsX6_isRow) := goodIn_app (goodIn_of _ (by decide +kernel)) ggX6_row_X6_isRow
set_option maxRecDepth 20000 in
theorem ggX6_row_X6_in : GoodIn wsX6_row wsX6_in := goodIn_r _ [15] (by decide +kernel) (by decide +kernel)
set_option maxRecDepth 20000 in
theorem gX6_row_X6_in : GoodIn wsX6_row (va_wsS RX6 57 yX6_in wsX6_in) := goodIn_app (goodIn_of _ (by decide +kernel)) ggX6_row_X6_in
set_option maxRecDepth 20000 in
theorem ggX6_row_X6_finding : GoodIn wsX6_row wsX6_finding := goodIn_r _ [19, 4, 20, 21, 22, 23, 24, 25, 26, 27, 28, 29, 30, 31, 32, 33, 34, 35, 36, 37, 38, 39, 40, 41, 42, 43, 44] (by decide +kernel) (by decide +kernel)
set_option maxRecDepth 20000 in
theorem gX6_row_X6_finding : GoodIn wsX6_row (wsV RX6 68 RX6 yX6_finding wsX6_finding) := goodIn_app (goodIn_of _ (by decide +kernel)) ggX6_row_X6_finding
theorem dX6_row_0 : decode cX6_row 0 = .ok (.aload_n 0, 1) := by decide +kernel
theorem dX6_row_1 : decode cX6_row 1 = .ok (.iconst 0, 1) := by decide +kernel
theorem dX6_row_2 : decode cX6_row 2 = .ok (.putfield 47, 3) := by decide +kernel
theorem dX6_row_5 : decode cX6_row 5 = .ok (.iload_n 1, 1) := by decide +kernel
theorem dX6_row_6 : decode cX6_row 6 = .ok (.invokestatic 61, 3) := by decide +kernel
theorem dX6_row_9 : decode cX6_row 9 = .ok (.ifCond .eq 21, 3) := by decide +kernel
theorem dX6_row_12 : decode cX6_row 12 = .ok (.iload_n 2, 1) := by decide +kernel
theorem dX6_row_13 : decode cX6_row 13 = .ok (.i2l, 1) := by decide +kernel
theorem dX6_row_14 : decode cX6_row 14 = .ok (.lconst 0, 1) := by decide +kernel
theorem dX6_row_15 : decode cX6_row 15 = .ok (.ldc2_w 65, 3) := by decide +kernel
theorem dX6_row_18 : decode cX6_row 18 = .ok (.invokestatic 57, 3) := by decide +kernel
theorem dX6_row_21 : decode cX6_row 21 = .ok (.ifCond .eq 9, 3) := by decide +kernel
theorem dX6_row_24 : decode cX6_row 24 = .ok (.iload_n 3, 1) := by decide +kernel
theorem dX6_row_25 : decode cX6_row 25 = .ok (.bipush 40, 2) := by decide +kernel
theorem dX6_row_27 : decode cX6_row 27 = .ok (.if_icmp .le 6, 3) := by decide +kernel
theorem dX6_row_30 : decode cX6_row 30 = .ok (.ldc 67, 2) := by decide +kernel
theorem dX6_row_32 : decode cX6_row 32 = .ok (.ireturn, 1) := by decide +kernel
theorem dX6_row_33 : decode cX6_row 33 = .ok (.aload_n 0, 1) := by decide +kernel
theorem dX6_row_34 : decode cX6_row 34 = .ok (.iconst 0, 1) := by decide +kernel
theorem dX6_row_35 : decode cX6_row 35 = .ok (.putfield 51, 3) := by decide +kernel
theorem dX6_row_38 : decode cX6_row 38 = .ok (.iload_n 3, 1) := by decide +kernel
theorem dX6_row_39 : decode cX6_row 39 = .ok (.ifCond .ge 9, 3) := by decide +kernel
theorem dX6_row_42 : decode cX6_row 42 = .ok (.aload_n 0, 1) := by decide +kernel
theorem dX6_row_43 : decode cX6_row 43 = .ok (.iconst 4, 1) := by decide +kernel
theorem dX6_row_44 : decode cX6_row 44 = .ok (.invokevirtual 68, 3) := by decide +kernel
theorem dX6_row_47 : decode cX6_row 47 = .ok (.ireturn, 1) := by decide +kernel
theorem dX6_row_48 : decode cX6_row 48 = .ok (.aload_n 0, 1) := by decide +kernel
theorem dX6_row_49 : decode cX6_row 49 = .ok (.getfield 7, 3) := by decide +kernel
theorem dX6_row_52 : decode cX6_row 52 = .ok (.iload_n 1, 1) := by decide +kernel
theorem dX6_row_53 : decode cX6_row 53 = .ok (.iload_n 2, 1) := by decide +kernel
theorem dX6_row_54 : decode cX6_row 54 = .ok (.iastore, 1) := by decide +kernel
theorem dX6_row_55 : decode cX6_row 55 = .ok (.aload_n 0, 1) := by decide +kernel
theorem dX6_row_56 : decode cX6_row 56 = .ok (.getfield 13, 3) := by decide +kernel
theorem dX6_row_59 : decode cX6_row 59 = .ok (.iload_n 1, 1) := by decide +kernel
theorem dX6_row_60 : decode cX6_row 60 = .ok (.iload_n 3, 1) := by decide +kernel
theorem dX6_row_61 : decode cX6_row 61 = .ok (.iastore, 1) := by decide +kernel
theorem dX6_row_62 : decode cX6_row 62 = .ok (.iconst 0, 1) := by decide +kernel
theorem dX6_row_63 : decode cX6_row 63 = .ok (.istore 4, 2) := by decide +kernel
theorem dX6_row_65 : decode cX6_row 65 = .ok (.iload 4, 2) := by decide +kernel
theorem dX6_row_67 : decode cX6_row 67 = .ok (.bipush 40, 2) := by decide +kernel
theorem dX6_row_69 : decode cX6_row 69 = .ok (.if_icmp .ge 22, 3) := by decide +kernel
theorem dX6_row_72 : decode cX6_row 72 = .ok (.aload_n 0, 1) := by decide +kernel
theorem dX6_row_73 : decode cX6_row 73 = .ok (.getfield 16, 3) := by decide +kernel
theorem dX6_row_76 : decode cX6_row 76 = .ok (.bipush 40, 2) := by decide +kernel
theorem dX6_row_78 : decode cX6_row 78 = .ok (.iload_n 1, 1) := by decide +kernel
theorem dX6_row_79 : decode cX6_row 79 = .ok (.imul, 1) := by decide +kernel
theorem dX6_row_80 : decode cX6_row 80 = .ok (.iload 4, 2) := by decide +kernel
theorem dX6_row_82 : decode cX6_row 82 = .ok (.iadd, 1) := by decide +kernel
theorem dX6_row_83 : decode cX6_row 83 = .ok (.iconst 0, 1) := by decide +kernel
theorem dX6_row_84 : decode cX6_row 84 = .ok (.iastore, 1) := by decide +kernel
theorem dX6_row_85 : decode cX6_row 85 = .ok (.iinc 4 1, 3) := by decide +kernel
theorem dX6_row_88 : decode cX6_row 88 = .ok (.goto (-23), 3) := by decide +kernel
theorem dX6_row_91 : decode cX6_row 91 = .ok (.iload_n 3, 1) := by decide +kernel
theorem dX6_row_92 : decode cX6_row 92 = .ok (.ireturn, 1) := by decide +kernel
set_option maxRecDepth 20000 in
theorem ggX6_set_X6_isRow : GoodIn wsX6_set wsX6_isRow := goodIn_r _ [10, 11, 12, 13, 9, 14] (by decide +kernel) (by decide +kernel)
set_option maxRecDepth 20000 in
theorem gX6_set_X6_isRow : GoodIn wsX6_set (va_wsS RX6 61 yX6_isRow wsX6_isRow) := goodIn_app (goodIn_of _ (by decide +kernel)) ggX6_set_X6_isRow
set_option maxRecDepth 20000 in
theorem ggX6_set_X6_finding : GoodIn wsX6_set wsX6_finding := goodIn_r _ [18, 3, 19, 20, 21, 22, 23, 24, 25, 26, 27, 28, 29, 30, 31, 32, 33, 34, 35, 36, 37, 38, 39, 40, 41, 42, 43] (by decide +kernel) (by decide +kernel)
set_option maxRecDepth 20000 in
theorem gX6_set_X6_finding : GoodIn wsX6_set (wsV RX6 68 RX6 yX6_finding wsX6_finding) := goodIn_app (goodIn_of _ (by decide +kernel)) ggX6_set_X6_finding
set_option maxRecDepth 20000 in
theorem ggX6_set_X6_in : GoodIn wsX6_set wsX6_in := goodIn_r _ [14] (by decide +kernel) (by decide +kernel)
set_option maxRecDepth 20000 in
theorem gX6_set_X6_in : GoodIn wsX6_set (va_wsS RX6 57 yX6_in wsX6_in) := goodIn_app (goodIn_of _ (by decide +kernel)) ggX6_set_X6_in
theorem dX6_set_0 : decode cX6_set 0 = .ok (.aload_n 0, 1) := by decide +kernel
theorem dX6_set_1 : decode cX6_set 1 = .ok (.iconst 0, 1) := by decide +kernel
theorem dX6_set_2 : decode cX6_set 2 = .ok (.putfield 47, 3) := by decide +kernel
theorem dX6_set_5 : decode cX6_set 5 = .ok (.iload_n 1, 1) := by decide +kernel
theorem dX6_set_6 : decode cX6_set 6 = .ok (.invokestatic 61, 3) := by decide +kernel
theorem dX6_set_9 : decode cX6_set 9 = .ok (.ifCond .ne 6, 3) := by decide +kernel
theorem dX6_set_12 : decode cX6_set 12 = .ok (.ldc 67, 2) := by decide +kernel
theorem dX6_set_14 : decode cX6_set 14 = .ok (.ireturn, 1) := by decide +kernel
theorem dX6_set_15 : decode cX6_set 15 = .ok (.aload_n 0, 1) := by decide +kernel
theorem dX6_set_16 : decode cX6_set 16 = .ok (.iconst 0, 1) := by decide +kernel
theorem dX6_set_17 : decode cX6_set 17 = .ok (.putfield 51, 3) := by decide +kernel
theorem dX6_set_20 : decode cX6_set 20 = .ok (.aload_n 0, 1) := by decide +kernel
theorem dX6_set_21 : decode cX6_set 21 = .ok (.getfield 7, 3) := by decide +kernel
theorem dX6_set_24 : decode cX6_set 24 = .ok (.iload_n 1, 1) := by decide +kernel
theorem dX6_set_25 : decode cX6_set 25 = .ok (.iaload, 1) := by decide +kernel
theorem dX6_set_26 : decode cX6_set 26 = .ok (.ifCond .ge 9, 3) := by decide +kernel
theorem dX6_set_29 : decode cX6_set 29 = .ok (.aload_n 0, 1) := by decide +kernel
theorem dX6_set_30 : decode cX6_set 30 = .ok (.iconst 1, 1) := by decide +kernel
theorem dX6_set_31 : decode cX6_set 31 = .ok (.invokevirtual 68, 3) := by decide +kernel
theorem dX6_set_34 : decode cX6_set 34 = .ok (.ireturn, 1) := by decide +kernel
theorem dX6_set_35 : decode cX6_set 35 = .ok (.iload_n 2, 1) := by decide +kernel
theorem dX6_set_36 : decode cX6_set 36 = .ok (.i2l, 1) := by decide +kernel
theorem dX6_set_37 : decode cX6_set 37 = .ok (.lconst 0, 1) := by decide +kernel
theorem dX6_set_38 : decode cX6_set 38 = .ok (.aload_n 0, 1) := by decide +kernel
theorem dX6_set_39 : decode cX6_set 39 = .ok (.getfield 13, 3) := by decide +kernel
theorem dX6_set_42 : decode cX6_set 42 = .ok (.iload_n 1, 1) := by decide +kernel
theorem dX6_set_43 : decode cX6_set 43 = .ok (.iaload, 1) := by decide +kernel
theorem dX6_set_44 : decode cX6_set 44 = .ok (.iconst 1, 1) := by decide +kernel
theorem dX6_set_45 : decode cX6_set 45 = .ok (.isub, 1) := by decide +kernel
theorem dX6_set_46 : decode cX6_set 46 = .ok (.i2l, 1) := by decide +kernel
theorem dX6_set_47 : decode cX6_set 47 = .ok (.invokestatic 57, 3) := by decide +kernel
theorem dX6_set_50 : decode cX6_set 50 = .ok (.ifCond .ne 9, 3) := by decide +kernel
theorem dX6_set_53 : decode cX6_set 53 = .ok (.aload_n 0, 1) := by decide +kernel
theorem dX6_set_54 : decode cX6_set 54 = .ok (.iconst 2, 1) := by decide +kernel
theorem dX6_set_55 : decode cX6_set 55 = .ok (.invokevirtual 68, 3) := by decide +kernel
theorem dX6_set_58 : decode cX6_set 58 = .ok (.ireturn, 1) := by decide +kernel
theorem dX6_set_59 : decode cX6_set 59 = .ok (.aload_n 0, 1) := by decide +kernel
theorem dX6_set_60 : decode cX6_set 60 = .ok (.getfield 16, 3) := by decide +kernel
theorem dX6_set_63 : decode cX6_set 63 = .ok (.bipush 40, 2) := by decide +kernel
theorem dX6_set_65 : decode cX6_set 65 = .ok (.iload_n 1, 1) := by decide +kernel
theorem dX6_set_66 : decode cX6_set 66 = .ok (.imul, 1) := by decide +kernel
theorem dX6_set_67 : decode cX6_set 67 = .ok (.iload_n 2, 1) := by decide +kernel
theorem dX6_set_68 : decode cX6_set 68 = .ok (.iadd, 1) := by decide +kernel
theorem dX6_set_69 : decode cX6_set 69 = .ok (.aload_n 0, 1) := by decide +kernel
theorem dX6_set_70 : decode cX6_set 70 = .ok (.getfield 7, 3) := by decide +kernel
theorem dX6_set_73 : decode cX6_set 73 = .ok (.iload_n 1, 1) := by decide +kernel
theorem dX6_set_74 : decode cX6_set 74 = .ok (.iaload, 1) := by decide +kernel
theorem dX6_set_75 : decode cX6_set 75 = .ok (.ifCond .ne 8, 3) := by decide +kernel
theorem dX6_set_78 : decode cX6_set 78 = .ok (.iload_n 3, 1) := by decide +kernel
theorem dX6_set_79 : decode cX6_set 79 = .ok (.i2b, 1) := by decide +kernel
theorem dX6_set_80 : decode cX6_set 80 = .ok (.goto 19, 3) := by decide +kernel
theorem dX6_set_83 : decode cX6_set 83 = .ok (.aload_n 0, 1) := by decide +kernel
theorem dX6_set_84 : decode cX6_set 84 = .ok (.getfield 7, 3) := by decide +kernel
theorem dX6_set_87 : decode cX6_set 87 = .ok (.iload_n 1, 1) := by decide +kernel
theorem dX6_set_88 : decode cX6_set 88 = .ok (.iaload, 1) := by decide +kernel
theorem dX6_set_89 : decode cX6_set 89 = .ok (.iconst 1, 1) := by decide +kernel
theorem dX6_set_90 : decode cX6_set 90 = .ok (.if_icmp .ne 8, 3) := by decide +kernel
theorem dX6_set_93 : decode cX6_set 93 = .ok (.iload_n 3, 1) := by decide +kernel
theorem dX6_set_94 : decode cX6_set 94 = .ok (.i2s, 1) := by decide +kernel
theorem dX6_set_95 : decode cX6_set 95 = .ok (.goto 4, 3) := by decide +kernel
theorem dX6_set_98 : decode cX6_set 98 = .ok (.iload_n 3, 1) := by decide +kernel
theorem dX6_set_99 : decode cX6_set 99 = .ok (.iastore, 1) := by decide +kernel
theorem dX6_set_100 : decode cX6_set 100 = .ok (.aload_n 0, 1) := by decide +kernel
theorem dX6_set_101 : decode cX6_set 101 = .ok (.getfield 16, 3) := by decide +kernel
theorem dX6_set_104 : decode cX6_set 104 = .ok (.bipush 40, 2) := by decide +kernel
theorem dX6_set_106 : decode cX6_set 106 = .ok (.iload_n 1, 1) := by decide +kernel
theorem dX6_set_107 : decode cX6_set 107 = .ok (.imul, 1) := by decide +kernel
theorem dX6_set_108 : decode cX6_set 108 = .ok (.iload_n 2, 1) := by decide +kernel
theorem dX6_set_109 : decode cX6_set 109 = .ok (.iadd, 1) := by decide +kernel
theorem dX6_set_110 : decode cX6_set 110 = .ok (.iaload, 1) := by decide +kernel
theorem dX6_set_111 : decode cX6_set 111 = .ok (.ireturn, 1) := by decide +kernel
set_option maxRecDepth 20000 in
theorem ggX6_copy_X6_isRow : GoodIn wsX6_copy wsX6_isRow := goodIn_r _ [10, 11, 12, 13, 9, 14] (by decide +kernel) (by decide +kernel)
set_option maxRecDepth 20000 in
theorem gX6_copy_X6_isRow : GoodIn wsX6_copy (va_wsS RX6 61 yX6_isRow wsX6_isRow) := goodIn_app (goodIn_of _ (by decide +kernel)) ggX6_copy_X6_isRow
set_option maxRecDepth 20000 in
theorem ggX6_copy_X6_finding : GoodIn wsX6_copy wsX6_finding := goodIn_r _ [18, 3, 19, 20, 21, 22, 23, 24, 25, 26, 27, 28, 29, 30, 31, 32, 33, 34, 35, 36, 37, 38, 39, 40, 41, 42, 43] (by decide +kernel) (by decide +kernel)
set_option maxRecDepth 20000 in
theorem gX6_copy_X6_finding : GoodIn wsX6_copy (wsV RX6 68 RX6 yX6_finding wsX6_finding) := goodIn_app (goodIn_of _ (by decide +kernel)) ggX6_copy_X6_finding
theorem dX6_copy_0 : decode cX6_copy 0 = .ok (.aload_n 0, 1) := by decide +kernel
theorem dX6_copy_1 : decode cX6_copy 1 = .ok (.iconst 0, 1) := by decide +kernel
theorem dX6_copy_2 : decode cX6_copy 2 = .ok (.putfield 47, 3) := by decide +kernel
theorem dX6_copy_5 : decode cX6_copy 5 = .ok (.iload_n 1, 1) := by decide +kernel
theorem dX6_copy_6 : decode cX6_copy 6 = .ok (.invokestatic 61, 3) := by decide +kernel
theorem dX6_copy_9 : decode cX6_copy 9 = .ok (.ifCond .eq 10, 3) := by decide +kernel
theorem dX6_copy_12 : decode cX6_copy 12 = .ok (.iload_n 3, 1) := by decide +kernel
theorem dX6_copy_13 : decode cX6_copy 13 = .ok (.invokestatic 61, 3) := by decide +kernel
theorem dX6_copy_16 : decode cX6_copy 16 = .ok (.ifCond .ne 6, 3) := by decide +kernel
theorem dX6_copy_19 : decode cX6_copy 19 = .ok (.ldc 67, 2) := by decide +kernel
theorem dX6_copy_21 : decode cX6_copy 21 = .ok (.ireturn, 1) := by decide +kernel
theorem dX6_copy_22 : decode cX6_copy 22 = .ok (.aload_n 0, 1) := by decide +kernel
theorem dX6_copy_23 : decode cX6_copy 23 = .ok (.iconst 0, 1) := by decide +kernel
theorem dX6_copy_24 : decode cX6_copy 24 = .ok (.putfield 51, 3) := by decide +kernel
theorem dX6_copy_27 : decode cX6_copy 27 = .ok (.aload_n 0, 1) := by decide +kernel
theorem dX6_copy_28 : decode cX6_copy 28 = .ok (.getfield 7, 3) := by decide +kernel
theorem dX6_copy_31 : decode cX6_copy 31 = .ok (.iload_n 1, 1) := by decide +kernel
theorem dX6_copy_32 : decode cX6_copy 32 = .ok (.iaload, 1) := by decide +kernel
theorem dX6_copy_33 : decode cX6_copy 33 = .ok (.ifCond .lt 12, 3) := by decide +kernel
theorem dX6_copy_36 : decode cX6_copy 36 = .ok (.aload_n 0, 1) := by decide +kernel
theorem dX6_copy_37 : decode cX6_copy 37 = .ok (.getfield 7, 3) := by decide +kernel
theorem dX6_copy_40 : decode cX6_copy 40 = .ok (.iload_n 3, 1) := by decide +kernel
theorem dX6_copy_41 : decode cX6_copy 41 = .ok (.iaload, 1) := by decide +kernel
theorem dX6_copy_42 : decode cX6_copy 42 = .ok (.ifCond .ge 9, 3) := by decide +kernel
theorem dX6_copy_45 : decode cX6_copy 45 = .ok (.aload_n 0, 1) := by decide +kernel
theorem dX6_copy_46 : decode cX6_copy 46 = .ok (.iconst 1, 1) := by decide +kernel
theorem dX6_copy_47 : decode cX6_copy 47 = .ok (.invokevirtual 68, 3) := by decide +kernel
theorem dX6_copy_50 : decode cX6_copy 50 = .ok (.ireturn, 1) := by decide +kernel
theorem dX6_copy_51 : decode cX6_copy 51 = .ok (.aload_n 0, 1) := by decide +kernel
theorem dX6_copy_52 : decode cX6_copy 52 = .ok (.getfield 7, 3) := by decide +kernel
theorem dX6_copy_55 : decode cX6_copy 55 = .ok (.iload_n 1, 1) := by decide +kernel
theorem dX6_copy_56 : decode cX6_copy 56 = .ok (.iaload, 1) := by decide +kernel
theorem dX6_copy_57 : decode cX6_copy 57 = .ok (.aload_n 0, 1) := by decide +kernel
theorem dX6_copy_58 : decode cX6_copy 58 = .ok (.getfield 7, 3) := by decide +kernel
theorem dX6_copy_61 : decode cX6_copy 61 = .ok (.iload_n 3, 1) := by decide +kernel
theorem dX6_copy_62 : decode cX6_copy 62 = .ok (.iaload, 1) := by decide +kernel
theorem dX6_copy_63 : decode cX6_copy 63 = .ok (.if_icmp .eq 9, 3) := by decide +kernel
theorem dX6_copy_66 : decode cX6_copy 66 = .ok (.aload_n 0, 1) := by decide +kernel
theorem dX6_copy_67 : decode cX6_copy 67 = .ok (.iconst 5, 1) := by decide +kernel
theorem dX6_copy_68 : decode cX6_copy 68 = .ok (.invokevirtual 68, 3) := by decide +kernel
theorem dX6_copy_71 : decode cX6_copy 71 = .ok (.ireturn, 1) := by decide +kernel
theorem dX6_copy_72 : decode cX6_copy 72 = .ok (.iload_n 2, 1) := by decide +kernel
theorem dX6_copy_73 : decode cX6_copy 73 = .ok (.ifCond .lt 48, 3) := by decide +kernel
theorem dX6_copy_76 : decode cX6_copy 76 = .ok (.iload 4, 2) := by decide +kernel
theorem dX6_copy_78 : decode cX6_copy 78 = .ok (.ifCond .lt 43, 3) := by decide +kernel
theorem dX6_copy_81 : decode cX6_copy 81 = .ok (.iload 5, 2) := by decide +kernel
theorem dX6_copy_83 : decode cX6_copy 83 = .ok (.ifCond .lt 38, 3) := by decide +kernel
theorem dX6_copy_86 : decode cX6_copy 86 = .ok (.iload_n 2, 1) := by decide +kernel
theorem dX6_copy_87 : decode cX6_copy 87 = .ok (.i2l, 1) := by decide +kernel
theorem dX6_copy_88 : decode cX6_copy 88 = .ok (.iload 5, 2) := by decide +kernel
theorem dX6_copy_90 : decode cX6_copy 90 = .ok (.i2l, 1) := by decide +kernel
theorem dX6_copy_91 : decode cX6_copy 91 = .ok (.ladd, 1) := by decide +kernel
theorem dX6_copy_92 : decode cX6_copy 92 = .ok (.aload_n 0, 1) := by decide +kernel
theorem dX6_copy_93 : decode cX6_copy 93 = .ok (.getfield 13, 3) := by decide +kernel
theorem dX6_copy_96 : decode cX6_copy 96 = .ok (.iload_n 1, 1) := by decide +kernel
theorem dX6_copy_97 : decode cX6_copy 97 = .ok (.iaload, 1) := by decide +kernel
theorem dX6_copy_98 : decode cX6_copy 98 = .ok (.i2l, 1) := by decide +kernel
theorem dX6_copy_99 : decode cX6_copy 99 = .ok (.lcmp, 1) := by decide +kernel
theorem dX6_copy_100 : decode cX6_copy 100 = .ok (.ifCond .gt 21, 3) := by decide +kernel
theorem dX6_copy_103 : decode cX6_copy 103 = .ok (.iload 4, 2) := by decide +kernel
theorem dX6_copy_105 : decode cX6_copy 105 = .ok (.i2l, 1) := by decide +kernel
theorem dX6_copy_106 : decode cX6_copy 106 = .ok (.iload 5, 2) := by decide +kernel
theorem dX6_copy_108 : decode cX6_copy 108 = .ok (.i2l, 1) := by decide +kernel
theorem dX6_copy_109 : decode cX6_copy 109 = .ok (.ladd, 1) := by decide +kernel
theorem dX6_copy_110 : decode cX6_copy 110 = .ok (.aload_n 0, 1) := by decide +kernel
theorem dX6_copy_111 : decode cX6_copy 111 = .ok (.getfield 13, 3) := by decide +kernel
theorem dX6_copy_114 : decode cX6_copy 114 = .ok (.iload_n 3, 1) := by decide +kernel
theorem dX6_copy_115 : decode cX6_copy 115 = .ok (.iaload, 1) := by decide +kernel
theorem dX6_copy_116 : decode cX6_copy 116 = .ok (.i2l, 1) := by decide +kernel
theorem dX6_copy_117 : decode cX6_copy 117 = .ok (.lcmp, 1) := by decide +kernel
theorem dX6_copy_118 : decode cX6_copy 118 = .ok (.ifCond .le 9, 3) := by decide +kernel
theorem dX6_copy_121 : decode cX6_copy 121 = .ok (.aload_n 0, 1) := by decide +kernel
theorem dX6_copy_122 : decode cX6_copy 122 = .ok (.iconst 2, 1) := by decide +kernel
theorem dX6_copy_123 : decode cX6_copy 123 = .ok (.invokevirtual 68, 3) := by decide +kernel
theorem dX6_copy_126 : decode cX6_copy 126 = .ok (.ireturn, 1) := by decide +kernel
theorem dX6_copy_127 : decode cX6_copy 127 = .ok (.iload_n 2, 1) := by decide +kernel
theorem dX6_copy_128 : decode cX6_copy 128 = .ok (.iload 4, 2) := by decide +kernel
theorem dX6_copy_130 : decode cX6_copy 130 = .ok (.if_icmp .lt 7, 3) := by decide +kernel
theorem dX6_copy_133 : decode cX6_copy 133 = .ok (.iconst 1, 1) := by decide +kernel
theorem dX6_copy_134 : decode cX6_copy 134 = .ok (.goto 4, 3) := by decide +kernel
theorem dX6_copy_137 : decode cX6_copy 137 = .ok (.iconst 0, 1) := by decide +kernel
theorem dX6_copy_138 : decode cX6_copy 138 = .ok (.istore 6, 2) := by decide +kernel
theorem dX6_copy_140 : decode cX6_copy 140 = .ok (.iconst 0, 1) := by decide +kernel
theorem dX6_copy_141 : decode cX6_copy 141 = .ok (.istore 7, 2) := by decide +kernel
theorem dX6_copy_143 : decode cX6_copy 143 = .ok (.iload 7, 2) := by decide +kernel
theorem dX6_copy_145 : decode cX6_copy 145 = .ok (.iload 5, 2) := by decide +kernel
theorem dX6_copy_147 : decode cX6_copy 147 = .ok (.if_icmp .ge 57, 3) := by decide +kernel
theorem dX6_copy_150 : decode cX6_copy 150 = .ok (.iload 6, 2) := by decide +kernel
theorem dX6_copy_152 : decode cX6_copy 152 = .ok (.ifCond .eq 8, 3) := by decide +kernel
theorem dX6_copy_155 : decode cX6_copy 155 = .ok (.iload 7, 2) := by decide +kernel
theorem dX6_copy_157 : decode cX6_copy 157 = .ok (.goto 10, 3) := by decide +kernel
theorem dX6_copy_160 : decode cX6_copy 160 = .ok (.iload 5, 2) := by decide +kernel
theorem dX6_copy_162 : decode cX6_copy 162 = .ok (.iconst 1, 1) := by decide +kernel
theorem dX6_copy_163 : decode cX6_copy 163 = .ok (.isub, 1) := by decide +kernel
theorem dX6_copy_164 : decode cX6_copy 164 = .ok (.iload 7, 2) := by decide +kernel
theorem dX6_copy_166 : decode cX6_copy 166 = .ok (.isub, 1) := by decide +kernel
theorem dX6_copy_167 : decode cX6_copy 167 = .ok (.istore 8, 2) := by decide +kernel
theorem dX6_copy_169 : decode cX6_copy 169 = .ok (.aload_n 0, 1) := by decide +kernel
theorem dX6_copy_170 : decode cX6_copy 170 = .ok (.getfield 16, 3) := by decide +kernel
theorem dX6_copy_173 : decode cX6_copy 173 = .ok (.bipush 40, 2) := by decide +kernel
theorem dX6_copy_175 : decode cX6_copy 175 = .ok (.iload_n 3, 1) := by decide +kernel
theorem dX6_copy_176 : decode cX6_copy 176 = .ok (.imul, 1) := by decide +kernel
theorem dX6_copy_177 : decode cX6_copy 177 = .ok (.iload 4, 2) := by decide +kernel
theorem dX6_copy_179 : decode cX6_copy 179 = .ok (.iadd, 1) := by decide +kernel
theorem dX6_copy_180 : decode cX6_copy 180 = .ok (.iload 8, 2) := by decide +kernel
theorem dX6_copy_182 : decode cX6_copy 182 = .ok (.iadd, 1) := by decide +kernel
theorem dX6_copy_183 : decode cX6_copy 183 = .ok (.aload_n 0, 1) := by decide +kernel
theorem dX6_copy_184 : decode cX6_copy 184 = .ok (.getfield 16, 3) := by decide +kernel
theorem dX6_copy_187 : decode cX6_copy 187 = .ok (.bipush 40, 2) := by decide +kernel
theorem dX6_copy_189 : decode cX6_copy 189 = .ok (.iload_n 1, 1) := by decide +kernel
theorem dX6_copy_190 : decode cX6_copy 190 = .ok (.imul, 1) := by decide +kernel
theorem dX6_copy_191 : decode cX6_copy 191 = .ok (.iload_n 2, 1) := by decide +kernel
theorem dX6_copy_192 : decode cX6_copy 192 = .ok (.iadd, 1) := by decide +kernel
theorem dX6_copy_193 : decode cX6_copy 193 = .ok (.iload 8, 2) := by decide +kernel
theorem dX6_copy_195 : decode cX6_copy 195 = .ok (.iadd, 1) := by decide +kernel
theorem dX6_copy_196 : decode cX6_copy 196 = .ok (.iaload, 1) := by decide +kernel
theorem dX6_copy_197 : decode cX6_copy 197 = .ok (.iastore, 1) := by decide +kernel
theorem dX6_copy_198 : decode cX6_copy 198 = .ok (.iinc 7 1, 3) := by decide +kernel
theorem dX6_copy_201 : decode cX6_copy 201 = .ok (.goto (-58), 3) := by decide +kernel
theorem dX6_copy_204 : decode cX6_copy 204 = .ok (.iload 5, 2) := by decide +kernel
theorem dX6_copy_206 : decode cX6_copy 206 = .ok (.ireturn, 1) := by decide +kernel
set_option maxRecDepth 20000 in
theorem ggX6_drop_X6_isRow : GoodIn wsX6_drop wsX6_isRow := goodIn_r _ [9, 10, 11, 12, 8, 13] (by decide +kernel) (by decide +kernel)
set_option maxRecDepth 20000 in
theorem gX6_drop_X6_isRow : GoodIn wsX6_drop (va_wsS RX6 61 yX6_isRow wsX6_isRow) := goodIn_app (goodIn_of _ (by decide +kernel)) ggX6_drop_X6_isRow
set_option maxRecDepth 20000 in
theorem ggX6_drop_X6_finding : GoodIn wsX6_drop wsX6_finding := goodIn_r _ [17, 3, 18, 19, 20, 21, 22, 23, 24, 25, 26, 27, 28, 29, 30, 31, 32, 33, 34, 35, 36, 37, 38, 39, 40, 41, 42] (by decide +kernel) (by decide +kernel)
set_option maxRecDepth 20000 in
theorem gX6_drop_X6_finding : GoodIn wsX6_drop (wsV RX6 68 RX6 yX6_finding wsX6_finding) := goodIn_app (goodIn_of _ (by decide +kernel)) ggX6_drop_X6_finding
theorem dX6_drop_0 : decode cX6_drop 0 = .ok (.aload_n 0, 1) := by decide +kernel
theorem dX6_drop_1 : decode cX6_drop 1 = .ok (.iconst 0, 1) := by decide +kernel
theorem dX6_drop_2 : decode cX6_drop 2 = .ok (.putfield 47, 3) := by decide +kernel
theorem dX6_drop_5 : decode cX6_drop 5 = .ok (.iload_n 1, 1) := by decide +kernel
theorem dX6_drop_6 : decode cX6_drop 6 = .ok (.invokestatic 61, 3) := by decide +kernel
theorem dX6_drop_9 : decode cX6_drop 9 = .ok (.ifCond .ne 6, 3) := by decide +kernel
theorem dX6_drop_12 : decode cX6_drop 12 = .ok (.ldc 67, 2) := by decide +kernel
theorem dX6_drop_14 : decode cX6_drop 14 = .ok (.ireturn, 1) := by decide +kernel
theorem dX6_drop_15 : decode cX6_drop 15 = .ok (.aload_n 0, 1) := by decide +kernel
theorem dX6_drop_16 : decode cX6_drop 16 = .ok (.iconst 0, 1) := by decide +kernel
theorem dX6_drop_17 : decode cX6_drop 17 = .ok (.putfield 51, 3) := by decide +kernel
theorem dX6_drop_20 : decode cX6_drop 20 = .ok (.aload_n 0, 1) := by decide +kernel
theorem dX6_drop_21 : decode cX6_drop 21 = .ok (.getfield 7, 3) := by decide +kernel
theorem dX6_drop_24 : decode cX6_drop 24 = .ok (.iload_n 1, 1) := by decide +kernel
theorem dX6_drop_25 : decode cX6_drop 25 = .ok (.iaload, 1) := by decide +kernel
theorem dX6_drop_26 : decode cX6_drop 26 = .ok (.ifCond .ge 9, 3) := by decide +kernel
theorem dX6_drop_29 : decode cX6_drop 29 = .ok (.aload_n 0, 1) := by decide +kernel
theorem dX6_drop_30 : decode cX6_drop 30 = .ok (.iconst 1, 1) := by decide +kernel
theorem dX6_drop_31 : decode cX6_drop 31 = .ok (.invokevirtual 68, 3) := by decide +kernel
theorem dX6_drop_34 : decode cX6_drop 34 = .ok (.ireturn, 1) := by decide +kernel
theorem dX6_drop_35 : decode cX6_drop 35 = .ok (.aload_n 0, 1) := by decide +kernel
theorem dX6_drop_36 : decode cX6_drop 36 = .ok (.getfield 7, 3) := by decide +kernel
theorem dX6_drop_39 : decode cX6_drop 39 = .ok (.iload_n 1, 1) := by decide +kernel
theorem dX6_drop_40 : decode cX6_drop 40 = .ok (.iconst (-1), 1) := by decide +kernel
theorem dX6_drop_41 : decode cX6_drop 41 = .ok (.iastore, 1) := by decide +kernel
theorem dX6_drop_42 : decode cX6_drop 42 = .ok (.aload_n 0, 1) := by decide +kernel
theorem dX6_drop_43 : decode cX6_drop 43 = .ok (.getfield 13, 3) := by decide +kernel
theorem dX6_drop_46 : decode cX6_drop 46 = .ok (.iload_n 1, 1) := by decide +kernel
theorem dX6_drop_47 : decode cX6_drop 47 = .ok (.iaload, 1) := by decide +kernel
theorem dX6_drop_48 : decode cX6_drop 48 = .ok (.ireturn, 1) := by decide +kernel
set_option maxRecDepth 20000 in
theorem ggX6_feed_X6_in : GoodIn wsX6_feed wsX6_in := goodIn_r _ [10] (by decide +kernel) (by decide +kernel)
set_option maxRecDepth 20000 in
theorem gX6_feed_X6_in : GoodIn wsX6_feed (va_wsS RX6 57 yX6_in wsX6_in) := goodIn_app (goodIn_of _ (by decide +kernel)) ggX6_feed_X6_in
theorem dX6_feed_0 : decode cX6_feed 0 = .ok (.aload_n 0, 1) := by decide +kernel
theorem dX6_feed_1 : decode cX6_feed 1 = .ok (.iconst 0, 1) := by decide +kernel
theorem dX6_feed_2 : decode cX6_feed 2 = .ok (.putfield 47, 3) := by decide +kernel
theorem dX6_feed_5 : decode cX6_feed 5 = .ok (.iload_n 1, 1) := by decide +kernel
theorem dX6_feed_6 : decode cX6_feed 6 = .ok (.i2l, 1) := by decide +kernel
theorem dX6_feed_7 : decode cX6_feed 7 = .ok (.lconst 0, 1) := by decide +kernel
theorem dX6_feed_8 : decode cX6_feed 8 = .ok (.ldc2_w 72, 3) := by decide +kernel
theorem dX6_feed_11 : decode cX6_feed 11 = .ok (.invokestatic 57, 3) := by decide +kernel
theorem dX6_feed_14 : decode cX6_feed 14 = .ok (.ifCond .ne 6, 3) := by decide +kernel
theorem dX6_feed_17 : decode cX6_feed 17 = .ok (.ldc 67, 2) := by decide +kernel
theorem dX6_feed_19 : decode cX6_feed 19 = .ok (.ireturn, 1) := by decide +kernel
theorem dX6_feed_20 : decode cX6_feed 20 = .ok (.aload_n 0, 1) := by decide +kernel
theorem dX6_feed_21 : decode cX6_feed 21 = .ok (.getfield 74, 3) := by decide +kernel
theorem dX6_feed_24 : decode cX6_feed 24 = .ok (.bipush 120, 2) := by decide +kernel
theorem dX6_feed_26 : decode cX6_feed 26 = .ok (.if_icmp .ne 6, 3) := by decide +kernel
theorem dX6_feed_29 : decode cX6_feed 29 = .ok (.ldc 77, 2) := by decide +kernel
theorem dX6_feed_31 : decode cX6_feed 31 = .ok (.ireturn, 1) := by decide +kernel
theorem dX6_feed_32 : decode cX6_feed 32 = .ok (.aload_n 0, 1) := by decide +kernel
theorem dX6_feed_33 : decode cX6_feed 33 = .ok (.getfield 31, 3) := by decide +kernel
theorem dX6_feed_36 : decode cX6_feed 36 = .ok (.aload_n 0, 1) := by decide +kernel
theorem dX6_feed_37 : decode cX6_feed 37 = .ok (.getfield 74, 3) := by decide +kernel
theorem dX6_feed_40 : decode cX6_feed 40 = .ok (.iload_n 1, 1) := by decide +kernel
theorem dX6_feed_41 : decode cX6_feed 41 = .ok (.iastore, 1) := by decide +kernel
theorem dX6_feed_42 : decode cX6_feed 42 = .ok (.aload_n 0, 1) := by decide +kernel
theorem dX6_feed_43 : decode cX6_feed 43 = .ok (.dup, 1) := by decide +kernel
theorem dX6_feed_44 : decode cX6_feed 44 = .ok (.getfield 74, 3) := by decide +kernel
theorem dX6_feed_47 : decode cX6_feed 47 = .ok (.iconst 1, 1) := by decide +kernel
theorem dX6_feed_48 : decode cX6_feed 48 = .ok (.iadd, 1) := by decide +kernel
theorem dX6_feed_49 : decode cX6_feed 49 = .ok (.putfield 74, 3) := by decide +kernel
theorem dX6_feed_52 : decode cX6_feed 52 = .ok (.aload_n 0, 1) := by decide +kernel
theorem dX6_feed_53 : decode cX6_feed 53 = .ok (.getfield 74, 3) := by decide +kernel
theorem dX6_feed_56 : decode cX6_feed 56 = .ok (.ireturn, 1) := by decide +kernel
theorem dX6_bad_0 : decode cX6_bad 0 = .ok (.aload_n 0, 1) := by decide +kernel
theorem dX6_bad_1 : decode cX6_bad 1 = .ok (.getfield 78, 3) := by decide +kernel
theorem dX6_bad_4 : decode cX6_bad 4 = .ok (.ifCond .ne 16, 3) := by decide +kernel
theorem dX6_bad_7 : decode cX6_bad 7 = .ok (.aload_n 0, 1) := by decide +kernel
theorem dX6_bad_8 : decode cX6_bad 8 = .ok (.iload_n 1, 1) := by decide +kernel
theorem dX6_bad_9 : decode cX6_bad 9 = .ok (.putfield 78, 3) := by decide +kernel
theorem dX6_bad_12 : decode cX6_bad 12 = .ok (.aload_n 0, 1) := by decide +kernel
theorem dX6_bad_13 : decode cX6_bad 13 = .ok (.aload_n 0, 1) := by decide +kernel
theorem dX6_bad_14 : decode cX6_bad 14 = .ok (.getfield 81, 3) := by decide +kernel
theorem dX6_bad_17 : decode cX6_bad 17 = .ok (.putfield 84, 3) := by decide +kernel
theorem dX6_bad_20 : decode cX6_bad 20 = .ok (.return_, 1) := by decide +kernel
set_option maxRecDepth 20000 in
theorem ggX6_nextToken_X6_in : GoodIn wsX6_nextToken wsX6_in := goodIn_r _ [15] (by decide +kernel) (by decide +kernel)
set_option maxRecDepth 20000 in
theorem gX6_nextToken_X6_in : GoodIn wsX6_nextToken (va_wsS RX6 57 yX6_in wsX6_in) := goodIn_app (goodIn_of _ (by decide +kernel)) ggX6_nextToken_X6_in
theorem dX6_nextToken_0 : decode cX6_nextToken 0 = .ok (.aload_n 0, 1) := by decide +kernel
theorem dX6_nextToken_1 : decode cX6_nextToken 1 = .ok (.aload_n 0, 1) := by decide +kernel
theorem dX6_nextToken_2 : decode cX6_nextToken 2 = .ok (.getfield 87, 3) := by decide +kernel
theorem dX6_nextToken_5 : decode cX6_nextToken 5 = .ok (.putfield 81, 3) := by decide +kernel
theorem dX6_nextToken_8 : decode cX6_nextToken 8 = .ok (.aload_n 0, 1) := by decide +kernel
theorem dX6_nextToken_9 : decode cX6_nextToken 9 = .ok (.aload_n 0, 1) := by decide +kernel
theorem dX6_nextToken_10 : decode cX6_nextToken 10 = .ok (.getfield 87, 3) := by decide +kernel
theorem dX6_nextToken_13 : decode cX6_nextToken 13 = .ok (.aload_n 0, 1) := by decide +kernel
theorem dX6_nextToken_14 : decode cX6_nextToken 14 = .ok (.getfield 74, 3) := by decide +kernel
theorem dX6_nextToken_17 : decode cX6_nextToken 17 = .ok (.if_icmp .ge 15, 3) := by decide +kernel
theorem dX6_nextToken_20 : decode cX6_nextToken 20 = .ok (.aload_n 0, 1) := by decide +kernel
theorem dX6_nextToken_21 : decode cX6_nextToken 21 = .ok (.getfield 31, 3) := by decide +kernel
theorem dX6_nextToken_24 : decode cX6_nextToken 24 = .ok (.aload_n 0, 1) := by decide +kernel
theorem dX6_nextToken_25 : decode cX6_nextToken 25 = .ok (.getfield 87, 3) := by decide +kernel
theorem dX6_nextToken_28 : decode cX6_nextToken 28 = .ok (.iaload, 1) := by decide +kernel
theorem dX6_nextToken_29 : decode cX6_nextToken 29 = .ok (.goto 5, 3) := by decide +kernel
theorem dX6_nextToken_32 : decode cX6_nextToken 32 = .ok (.ldc 90, 2) := by decide +kernel
theorem dX6_nextToken_34 : decode cX6_nextToken 34 = .ok (.putfield 91, 3) := by decide +kernel
theorem dX6_nextToken_37 : decode cX6_nextToken 37 = .ok (.aload_n 0, 1) := by decide +kernel
theorem dX6_nextToken_38 : decode cX6_nextToken 38 = .ok (.aload_n 0, 1) := by decide +kernel
theorem dX6_nextToken_39 : decode cX6_nextToken 39 = .ok (.getfield 87, 3) := by decide +kernel
theorem dX6_nextToken_42 : decode cX6_nextToken 42 = .ok (.aload_n 0, 1) := by decide +kernel
theorem dX6_nextToken_43 : decode cX6_nextToken 43 = .ok (.getfield 74, 3) := by decide +kernel
theorem dX6_nextToken_46 : decode cX6_nextToken 46 = .ok (.if_icmp .ne 7, 3) := by decide +kernel
theorem dX6_nextToken_49 : decode cX6_nextToken 49 = .ok (.iconst 1, 1) := by decide +kernel
theorem dX6_nextToken_50 : decode cX6_nextToken 50 = .ok (.goto 68, 3) := by decide +kernel
theorem dX6_nextToken_53 : decode cX6_nextToken 53 = .ok (.aload_n 0, 1) := by decide +kernel
theorem dX6_nextToken_54 : decode cX6_nextToken 54 = .ok (.getfield 91, 3) := by decide +kernel
theorem dX6_nextToken_57 : decode cX6_nextToken 57 = .ok (.i2l, 1) := by decide +kernel
theorem dX6_nextToken_58 : decode cX6_nextToken 58 = .ok (.ldc2_w 94, 3) := by decide +kernel
theorem dX6_nextToken_61 : decode cX6_nextToken 61 = .ok (.ldc2_w 96, 3) := by decide +kernel
theorem dX6_nextToken_64 : decode cX6_nextToken 64 = .ok (.invokestatic 57, 3) := by decide +kernel
theorem dX6_nextToken_67 : decode cX6_nextToken 67 = .ok (.ifCond .eq 7, 3) := by decide +kernel
theorem dX6_nextToken_70 : decode cX6_nextToken 70 = .ok (.iconst 2, 1) := by decide +kernel
theorem dX6_nextToken_71 : decode cX6_nextToken 71 = .ok (.goto 47, 3) := by decide +kernel
theorem dX6_nextToken_74 : decode cX6_nextToken 74 = .ok (.aload_n 0, 1) := by decide +kernel
theorem dX6_nextToken_75 : decode cX6_nextToken 75 = .ok (.getfield 91, 3) := by decide +kernel
theorem dX6_nextToken_78 : decode cX6_nextToken 78 = .ok (.i2l, 1) := by decide +kernel
theorem dX6_nextToken_79 : decode cX6_nextToken 79 = .ok (.ldc2_w 98, 3) := by decide +kernel
theorem dX6_nextToken_82 : decode cX6_nextToken 82 = .ok (.ldc2_w 100, 3) := by decide +kernel
theorem dX6_nextToken_85 : decode cX6_nextToken 85 = .ok (.invokestatic 57, 3) := by decide +kernel
theorem dX6_nextToken_88 : decode cX6_nextToken 88 = .ok (.ifCond .eq 7, 3) := by decide +kernel
theorem dX6_nextToken_91 : decode cX6_nextToken 91 = .ok (.iconst 3, 1) := by decide +kernel
theorem dX6_nextToken_92 : decode cX6_nextToken 92 = .ok (.goto 26, 3) := by decide +kernel
theorem dX6_nextToken_95 : decode cX6_nextToken 95 = .ok (.aload_n 0, 1) := by decide +kernel
theorem dX6_nextToken_96 : decode cX6_nextToken 96 = .ok (.getfield 91, 3) := by decide +kernel
theorem dX6_nextToken_99 : decode cX6_nextToken 99 = .ok (.bipush 44, 2) := by decide +kernel
theorem dX6_nextToken_101 : decode cX6_nextToken 101 = .ok (.if_icmp .eq 12, 3) := by decide +kernel
theorem dX6_nextToken_104 : decode cX6_nextToken 104 = .ok (.aload_n 0, 1) := by decide +kernel
theorem dX6_nextToken_105 : decode cX6_nextToken 105 = .ok (.getfield 91, 3) := by decide +kernel
theorem dX6_nextToken_108 : decode cX6_nextToken 108 = .ok (.bipush 59, 2) := by decide +kernel
theorem dX6_nextToken_110 : decode cX6_nextToken 110 = .ok (.if_icmp .ne 7, 3) := by decide +kernel
theorem dX6_nextToken_113 : decode cX6_nextToken 113 = .ok (.iconst 4, 1) := by decide +kernel
theorem dX6_nextToken_114 : decode cX6_nextToken 114 = .ok (.goto 4, 3) := by decide +kernel
theorem dX6_nextToken_117 : decode cX6_nextToken 117 = .ok (.iconst 0, 1) := by decide +kernel
theorem dX6_nextToken_118 : decode cX6_nextToken 118 = .ok (.putfield 102, 3) := by decide +kernel
theorem dX6_nextToken_121 : decode cX6_nextToken 121 = .ok (.aload_n 0, 1) := by decide +kernel
theorem dX6_nextToken_122 : decode cX6_nextToken 122 = .ok (.dup, 1) := by decide +kernel
theorem dX6_nextToken_123 : decode cX6_nextToken 123 = .ok (.getfield 87, 3) := by decide +kernel
theorem dX6_nextToken_126 : decode cX6_nextToken 126 = .ok (.aload_n 0, 1) := by decide +kernel
theorem dX6_nextToken_127 : decode cX6_nextToken 127 = .ok (.getfield 87, 3) := by decide +kernel
theorem dX6_nextToken_130 : decode cX6_nextToken 130 = .ok (.aload_n 0, 1) := by decide +kernel
theorem dX6_nextToken_131 : decode cX6_nextToken 131 = .ok (.getfield 74, 3) := by decide +kernel
theorem dX6_nextToken_134 : decode cX6_nextToken 134 = .ok (.if_icmp .ge 7, 3) := by decide +kernel
theorem dX6_nextToken_137 : decode cX6_nextToken 137 = .ok (.iconst 1, 1) := by decide +kernel
theorem dX6_nextToken_138 : decode cX6_nextToken 138 = .ok (.goto 4, 3) := by decide +kernel
theorem dX6_nextToken_141 : decode cX6_nextToken 141 = .ok (.iconst 0, 1) := by decide +kernel
theorem dX6_nextToken_142 : decode cX6_nextToken 142 = .ok (.iadd, 1) := by decide +kernel
theorem dX6_nextToken_143 : decode cX6_nextToken 143 = .ok (.putfield 87, 3) := by decide +kernel
theorem dX6_nextToken_146 : decode cX6_nextToken 146 = .ok (.aload_n 0, 1) := by decide +kernel
theorem dX6_nextToken_147 : decode cX6_nextToken 147 = .ok (.getfield 102, 3) := by decide +kernel
theorem dX6_nextToken_150 : decode cX6_nextToken 150 = .ok (.iconst 3, 1) := by decide +kernel
theorem dX6_nextToken_151 : decode cX6_nextToken 151 = .ok (.if_icmp .ne 126, 3) := by decide +kernel
theorem dX6_nextToken_154 : decode cX6_nextToken 154 = .ok (.aload_n 0, 1) := by decide +kernel
theorem dX6_nextToken_155 : decode cX6_nextToken 155 = .ok (.dup, 1) := by decide +kernel
theorem dX6_nextToken_156 : decode cX6_nextToken 156 = .ok (.getfield 91, 3) := by decide +kernel
theorem dX6_nextToken_159 : decode cX6_nextToken 159 = .ok (.bipush 48, 2) := by decide +kernel
theorem dX6_nextToken_161 : decode cX6_nextToken 161 = .ok (.isub, 1) := by decide +kernel
theorem dX6_nextToken_162 : decode cX6_nextToken 162 = .ok (.putfield 91, 3) := by decide +kernel
theorem dX6_nextToken_165 : decode cX6_nextToken 165 = .ok (.aload_n 0, 1) := by decide +kernel
theorem dX6_nextToken_166 : decode cX6_nextToken 166 = .ok (.getfield 87, 3) := by decide +kernel
theorem dX6_nextToken_169 : decode cX6_nextToken 169 = .ok (.aload_n 0, 1) := by decide +kernel
theorem dX6_nextToken_170 : decode cX6_nextToken 170 = .ok (.getfield 74, 3) := by decide +kernel
theorem dX6_nextToken_173 : decode cX6_nextToken 173 = .ok (.if_icmp .ge 82, 3) := by decide +kernel
theorem dX6_nextToken_176 : decode cX6_nextToken 176 = .ok (.aload_n 0, 1) := by decide +kernel
theorem dX6_nextToken_177 : decode cX6_nextToken 177 = .ok (.getfield 31, 3) := by decide +kernel
theorem dX6_nextToken_180 : decode cX6_nextToken 180 = .ok (.aload_n 0, 1) := by decide +kernel
theorem dX6_nextToken_181 : decode cX6_nextToken 181 = .ok (.getfield 87, 3) := by decide +kernel
theorem dX6_nextToken_184 : decode cX6_nextToken 184 = .ok (.iaload, 1) := by decide +kernel
theorem dX6_nextToken_185 : decode cX6_nextToken 185 = .ok (.i2l, 1) := by decide +kernel
theorem dX6_nextToken_186 : decode cX6_nextToken 186 = .ok (.ldc2_w 98, 3) := by decide +kernel
theorem dX6_nextToken_189 : decode cX6_nextToken 189 = .ok (.ldc2_w 100, 3) := by decide +kernel
theorem dX6_nextToken_192 : decode cX6_nextToken 192 = .ok (.invokestatic 57, 3) := by decide +kernel
theorem dX6_nextToken_195 : decode cX6_nextToken 195 = .ok (.ifCond .eq 60, 3) := by decide +kernel
theorem dX6_nextToken_198 : decode cX6_nextToken 198 = .ok (.aload_n 0, 1) := by decide +kernel
theorem dX6_nextToken_199 : decode cX6_nextToken 199 = .ok (.aload_n 0, 1) := by decide +kernel
theorem dX6_nextToken_200 : decode cX6_nextToken 200 = .ok (.getfield 87, 3) := by decide +kernel
theorem dX6_nextToken_203 : decode cX6_nextToken 203 = .ok (.aload_n 0, 1) := by decide +kernel
theorem dX6_nextToken_204 : decode cX6_nextToken 204 = .ok (.getfield 81, 3) := by decide +kernel
theorem dX6_nextToken_207 : decode cX6_nextToken 207 = .ok (.isub, 1) := by decide +kernel
theorem dX6_nextToken_208 : decode cX6_nextToken 208 = .ok (.iconst 2, 1) := by decide +kernel
theorem dX6_nextToken_209 : decode cX6_nextToken 209 = .ok (.if_icmp .ge 26, 3) := by decide +kernel
theorem dX6_nextToken_212 : decode cX6_nextToken 212 = .ok (.bipush 10, 2) := by decide +kernel
theorem dX6_nextToken_214 : decode cX6_nextToken 214 = .ok (.aload_n 0, 1) := by decide +kernel
theorem dX6_nextToken_215 : decode cX6_nextToken 215 = .ok (.getfield 91, 3) := by decide +kernel
theorem dX6_nextToken_218 : decode cX6_nextToken 218 = .ok (.imul, 1) := by decide +kernel
theorem dX6_nextToken_219 : decode cX6_nextToken 219 = .ok (.aload_n 0, 1) := by decide +kernel
theorem dX6_nextToken_220 : decode cX6_nextToken 220 = .ok (.getfield 31, 3) := by decide +kernel
theorem dX6_nextToken_223 : decode cX6_nextToken 223 = .ok (.aload_n 0, 1) := by decide +kernel
theorem dX6_nextToken_224 : decode cX6_nextToken 224 = .ok (.getfield 87, 3) := by decide +kernel
theorem dX6_nextToken_227 : decode cX6_nextToken 227 = .ok (.iaload, 1) := by decide +kernel
theorem dX6_nextToken_228 : decode cX6_nextToken 228 = .ok (.iadd, 1) := by decide +kernel
theorem dX6_nextToken_229 : decode cX6_nextToken 229 = .ok (.bipush 48, 2) := by decide +kernel
theorem dX6_nextToken_231 : decode cX6_nextToken 231 = .ok (.isub, 1) := by decide +kernel
theorem dX6_nextToken_232 : decode cX6_nextToken 232 = .ok (.goto 7, 3) := by decide +kernel
theorem dX6_nextToken_235 : decode cX6_nextToken 235 = .ok (.aload_n 0, 1) := by decide +kernel
theorem dX6_nextToken_236 : decode cX6_nextToken 236 = .ok (.getfield 91, 3) := by decide +kernel
theorem dX6_nextToken_239 : decode cX6_nextToken 239 = .ok (.putfield 91, 3) := by decide +kernel
theorem dX6_nextToken_242 : decode cX6_nextToken 242 = .ok (.aload_n 0, 1) := by decide +kernel
theorem dX6_nextToken_243 : decode cX6_nextToken 243 = .ok (.dup, 1) := by decide +kernel
theorem dX6_nextToken_244 : decode cX6_nextToken 244 = .ok (.getfield 87, 3) := by decide +kernel
theorem dX6_nextToken_247 : decode cX6_nextToken 247 = .ok (.iconst 1, 1) := by decide +kernel
theorem dX6_nextToken_248 : decode cX6_nextToken 248 = .ok (.iadd, 1) := by decide +kernel
theorem dX6_nextToken_249 : decode cX6_nextToken 249 = .ok (.putfield 87, 3) := by decide +kernel
theorem dX6_nextToken_252 : decode cX6_nextToken 252 = .ok (.goto (-87), 3) := by decide +kernel
theorem dX6_nextToken_255 : decode cX6_nextToken 255 = .ok (.aload_n 0, 1) := by decide +kernel
theorem dX6_nextToken_256 : decode cX6_nextToken 256 = .ok (.aload_n 0, 1) := by decide +kernel
theorem dX6_nextToken_257 : decode cX6_nextToken 257 = .ok (.getfield 87, 3) := by decide +kernel
theorem dX6_nextToken_260 : decode cX6_nextToken 260 = .ok (.aload_n 0, 1) := by decide +kernel
theorem dX6_nextToken_261 : decode cX6_nextToken 261 = .ok (.getfield 81, 3) := by decide +kernel
theorem dX6_nextToken_264 : decode cX6_nextToken 264 = .ok (.isub, 1) := by decide +kernel
theorem dX6_nextToken_265 : decode cX6_nextToken 265 = .ok (.iconst 2, 1) := by decide +kernel
theorem dX6_nextToken_266 : decode cX6_nextToken 266 = .ok (.if_icmp .le 7, 3) := by decide +kernel
theorem dX6_nextToken_269 : decode cX6_nextToken 269 = .ok (.iconst 0, 1) := by decide +kernel
theorem dX6_nextToken_270 : decode cX6_nextToken 270 = .ok (.goto 4, 3) := by decide +kernel
theorem dX6_nextToken_273 : decode cX6_nextToken 273 = .ok (.iconst 3, 1) := by decide +kernel
theorem dX6_nextToken_274 : decode cX6_nextToken 274 = .ok (.putfield 102, 3) := by decide +kernel
theorem dX6_nextToken_277 : decode cX6_nextToken 277 = .ok (.return_, 1) := by decide +kernel
set_option maxRecDepth 20000 in
theorem ggX6_must_X6_bad : GoodIn wsX6_must wsX6_bad := goodIn_r _ [6, 1, 7, 8, 26, 27, 28, 29, 30, 31, 32, 33, 34, 35, 36, 37, 38, 39, 40, 41, 42, 43, 44, 45, 46, 47, 48, 49] (by decide +kernel) (by decide +kernel)
set_option maxRecDepth 20000 in
theorem gX6_must_X6_bad : GoodIn wsX6_must (wsV RX6 105 RX6 yX6_bad wsX6_bad) := goodIn_app (goodIn_of _ (by decide +kernel)) ggX6_must_X6_bad
set_option maxRecDepth 20000 in
theorem ggX6_must_X6_nextToken : GoodIn wsX6_must wsX6_nextToken := goodIn_r _ [12, 13, 7, 14, 15, 16, 17, 18, 19, 20, 21, 22, 23, 24, 5, 25, 26, 27, 28, 29, 30, 31, 32, 33, 34, 35, 36, 37, 38, 39, 40, 41, 42, 43, 44, 45, 46, 47, 48, 49] (by decide +kernel) (by decide +kernel)
set_option maxRecDepth 20000 in
theorem gX6_must_X6_nextToken : GoodIn wsX6_must (wsV RX6 109 RX6 yX6_nextToken wsX6_nextToken) := goodIn_app (goodIn_of _ (by decide +kernel)) ggX6_must_X6_nextToken
theorem dX6_must_0 : decode cX6_must 0 = .ok (.iload_n 1, 1) := by decide +kernel
theorem dX6_must_1 : decode cX6_must 1 = .ok (.ifCond .ne 8, 3) := by decide +kernel
theorem dX6_must_4 : decode cX6_must 4 = .ok (.aload_n 0, 1) := by decide +kernel
theorem dX6_must_5 : decode cX6_must 5 = .ok (.iconst 1, 1) := by decide +kernel
theorem dX6_must_6 : decode cX6_must 6 = .ok (.invokevirtual 105, 3) := by decide +kernel
theorem dX6_must_9 : decode cX6_must 9 = .ok (.aload_n 0, 1) := by decide +kernel
theorem dX6_must_10 : decode cX6_must 10 = .ok (.getfield 78, 3) := by decide +kernel
theorem dX6_must_13 : decode cX6_must 13 = .ok (.ifCond .ne 7, 3) := by decide +kernel
theorem dX6_must_16 : decode cX6_must 16 = .ok (.aload_n 0, 1) := by decide +kernel
theorem dX6_must_17 : decode cX6_must 17 = .ok (.invokevirtual 109, 3) := by decide +kernel
theorem dX6_must_20 : decode cX6_must 20 = .ok (.return_, 1) := by decide +kernel
theorem dX6_isLetter_0 : decode cX6_isLetter 0 = .ok (.aload_n 0, 1) := by decide +kernel
theorem dX6_isLetter_1 : decode cX6_isLetter 1 = .ok (.getfield 78, 3) := by decide +kernel
theorem dX6_isLetter_4 : decode cX6_isLetter 4 = .ok (.ifCond .ne 23, 3) := by decide +kernel
theorem dX6_isLetter_7 : decode cX6_isLetter 7 = .ok (.aload_n 0, 1) := by decide +kernel
theorem dX6_isLetter_8 : decode cX6_isLetter 8 = .ok (.getfield 102, 3) := by decide +kernel
theorem dX6_isLetter_11 : decode cX6_isLetter 11 = .ok (.iconst 2, 1) := by decide +kernel
theorem dX6_isLetter_12 : decode cX6_isLetter 12 = .ok (.if_icmp .ne 15, 3) := by decide +kernel
theorem dX6_isLetter_15 : decode cX6_isLetter 15 = .ok (.aload_n 0, 1) := by decide +kernel
theorem dX6_isLetter_16 : decode cX6_isLetter 16 = .ok (.getfield 91, 3) := by decide +kernel
theorem dX6_isLetter_19 : decode cX6_isLetter 19 = .ok (.iload_n 1, 1) := by decide +kernel
theorem dX6_isLetter_20 : decode cX6_isLetter 20 = .ok (.if_icmp .ne 7, 3) := by decide +kernel
theorem dX6_isLetter_23 : decode cX6_isLetter 23 = .ok (.iconst 1, 1) := by decide +kernel
theorem dX6_isLetter_24 : decode cX6_isLetter 24 = .ok (.goto 4, 3) := by decide +kernel
theorem dX6_isLetter_27 : decode cX6_isLetter 27 = .ok (.iconst 0, 1) := by decide +kernel
theorem dX6_isLetter_28 : decode cX6_isLetter 28 = .ok (.ireturn, 1) := by decide +kernel
set_option maxRecDepth 20000 in
theorem ggX6_number_X6_bad : GoodIn wsX6_number wsX6_bad := goodIn_r _ [8, 1, 9, 10, 30, 31, 32, 33, 34, 35, 36, 37, 38, 39, 40, 41, 42, 43, 44, 45, 46, 47, 48, 49, 50, 51, 52, 53] (by decide +kernel) (by decide +kernel)
set_option maxRecDepth 20000 in
theorem gX6_number_X6_bad : GoodIn wsX6_number (wsV RX6 105 RX6 yX6_bad wsX6_bad) := goodIn_app (goodIn_of _ (by decide +kernel)) ggX6_number_X6_bad
set_option maxRecDepth 20000 in
theorem ggX6_number_X6_in : GoodIn wsX6_number wsX6_in := goodIn_r _ [13] (by decide +kernel) (by decide +kernel)
set_option maxRecDepth 20000 in
theorem gX6_number_X6_in : GoodIn wsX6_number (va_wsS RX6 57 yX6_in wsX6_in) := goodIn_app (goodIn_of _ (by decide +kernel)) ggX6_number_X6_in
set_option maxRecDepth 20000 in
theorem ggX6_number_X6_must : GoodIn wsX6_number wsX6_must := goodIn_r _ [17, 1, 4, 5, 6, 7, 8, 9, 10, 18, 19, 20, 21, 22, 23, 24, 25, 3, 26, 27, 28, 29, 2, 11, 12, 13, 30, 31, 32, 33, 34, 35, 36, 37, 38, 39, 40, 41, 42, 43, 44, 45, 46, 47, 48, 49, 50, 51, 52, 53] (by decide +kernel) (by decide +kernel)
set_option maxRecDepth 20000 in
theorem gX6_number_X6_must : GoodIn wsX6_number (wsV RX6 112 RX6 yX6_must wsX6_must) := goodIn_app (goodIn_of _ (by decide +kernel)) ggX6_number_X6_must
theorem dX6_number_0 : decode cX6_number 0 = .ok (.aload_n 0, 1) := by decide +kernel
theorem dX6_number_1 : decode cX6_number 1 = .ok (.getfield 78, 3) := by decide +kernel
theorem dX6_number_4 : decode cX6_number 4 = .ok (.ifCond .ne 16, 3) := by decide +kernel
theorem dX6_number_7 : decode cX6_number 7 = .ok (.aload_n 0, 1) := by decide +kernel
theorem dX6_number_8 : decode cX6_number 8 = .ok (.getfield 102, 3) := by decide +kernel
theorem dX6_number_11 : decode cX6_number 11 = .ok (.iconst 3, 1) := by decide +kernel
theorem dX6_number_12 : decode cX6_number 12 = .ok (.if_icmp .eq 8, 3) := by decide +kernel
theorem dX6_number_15 : decode cX6_number 15 = .ok (.aload_n 0, 1) := by decide +kernel
theorem dX6_number_16 : decode cX6_number 16 = .ok (.iconst 1, 1) := by decide +kernel
theorem dX6_number_17 : decode cX6_number 17 = .ok (.invokevirtual 105, 3) := by decide +kernel
theorem dX6_number_20 : decode cX6_number 20 = .ok (.aload_n 0, 1) := by decide +kernel
theorem dX6_number_21 : decode cX6_number 21 = .ok (.getfield 78, 3) := by decide +kernel
theorem dX6_number_24 : decode cX6_number 24 = .ok (.ifCond .ne 23, 3) := by decide +kernel
theorem dX6_number_27 : decode cX6_number 27 = .ok (.aload_n 0, 1) := by decide +kernel
theorem dX6_number_28 : decode cX6_number 28 = .ok (.getfield 91, 3) := by decide +kernel
theorem dX6_number_31 : decode cX6_number 31 = .ok (.i2l, 1) := by decide +kernel
theorem dX6_number_32 : decode cX6_number 32 = .ok (.iload_n 1, 1) := by decide +kernel
theorem dX6_number_33 : decode cX6_number 33 = .ok (.i2l, 1) := by decide +kernel
theorem dX6_number_34 : decode cX6_number 34 = .ok (.iload_n 2, 1) := by decide +kernel
theorem dX6_number_35 : decode cX6_number 35 = .ok (.i2l, 1) := by decide +kernel
theorem dX6_number_36 : decode cX6_number 36 = .ok (.invokestatic 57, 3) := by decide +kernel
theorem dX6_number_39 : decode cX6_number 39 = .ok (.ifCond .ne 8, 3) := by decide +kernel
theorem dX6_number_42 : decode cX6_number 42 = .ok (.aload_n 0, 1) := by decide +kernel
theorem dX6_number_43 : decode cX6_number 43 = .ok (.iconst 2, 1) := by decide +kernel
theorem dX6_number_44 : decode cX6_number 44 = .ok (.invokevirtual 105, 3) := by decide +kernel
theorem dX6_number_47 : decode cX6_number 47 = .ok (.aload_n 0, 1) := by decide +kernel
theorem dX6_number_48 : decode cX6_number 48 = .ok (.getfield 78, 3) := by decide +kernel
theorem dX6_number_51 : decode cX6_number 51 = .ok (.ifCond .ne 10, 3) := by decide +kernel
theorem dX6_number_54 : decode cX6_number 54 = .ok (.aload_n 0, 1) := by decide +kernel
theorem dX6_number_55 : decode cX6_number 55 = .ok (.getfield 91, 3) := by decide +kernel
theorem dX6_number_58 : decode cX6_number 58 = .ok (.goto 4, 3) := by decide +kernel
theorem dX6_number_61 : decode cX6_number 61 = .ok (.iload_n 1, 1) := by decide +kernel
theorem dX6_number_62 : decode cX6_number 62 = .ok (.istore_n 3, 1) := by decide +kernel
theorem dX6_number_63 : decode cX6_number 63 = .ok (.aload_n 0, 1) := by decide +kernel
theorem dX6_number_64 : decode cX6_number 64 = .ok (.iconst 1, 1) := by decide +kernel
theorem dX6_number_65 : decode cX6_number 65 = .ok (.invokevirtual 112, 3) := by decide +kernel
theorem dX6_number_68 : decode cX6_number 68 = .ok (.iload_n 3, 1) := by decide +kernel
theorem dX6_number_69 : decode cX6_number 69 = .ok (.ireturn, 1) := by decide +kernel
set_option maxRecDepth 20000 in
theorem ggX6_mustSign_X6_must : GoodIn wsX6_mustSign wsX6_must := goodIn_r _ [7, 8, 9, 10, 11, 6, 12, 13, 14, 15, 16, 17, 18, 19, 20, 21, 22, 2, 23, 24, 25, 26, 1, 27, 28, 29, 30, 31, 32, 33, 34, 35, 36, 37, 38, 39, 40, 41, 42, 43, 44, 45, 46, 47, 48, 49, 50, 51, 52, 53] (by decide +kernel) (by decide +kernel)
set_option maxRecDepth 20000 in
theorem gX6_mustSign_X6_must : GoodIn wsX6_mustSign (wsV RX6 112 RX6 yX6_must wsX6_must) := goodIn_app (goodIn_of _ (by decide +kernel)) ggX6_mustSign_X6_must
theorem dX6_mustSign_0 : decode cX6_mustSign 0 = .ok (.aload_n 0, 1) := by decide +kernel
theorem dX6_mustSign_1 : decode cX6_mustSign 1 = .ok (.aload_n 0, 1) := by decide +kernel
theorem dX6_mustSign_2 : decode cX6_mustSign 2 = .ok (.getfield 102, 3) := by decide +kernel
theorem dX6_mustSign_5 : decode cX6_mustSign 5 = .ok (.iconst 4, 1) := by decide +kernel
theorem dX6_mustSign_6 : decode cX6_mustSign 6 = .ok (.if_icmp .ne 15, 3) := by decide +kernel
theorem dX6_mustSign_9 : decode cX6_mustSign 9 = .ok (.aload_n 0, 1) := by decide +kernel
theorem dX6_mustSign_10 : decode cX6_mustSign 10 = .ok (.getfield 91, 3) := by decide +kernel
theorem dX6_mustSign_13 : decode cX6_mustSign 13 = .ok (.iload_n 1, 1) := by decide +kernel
theorem dX6_mustSign_14 : decode cX6_mustSign 14 = .ok (.if_icmp .ne 7, 3) := by decide +kernel
theorem dX6_mustSign_17 : decode cX6_mustSign 17 = .ok (.iconst 1, 1) := by decide +kernel
theorem dX6_mustSign_18 : decode cX6_mustSign 18 = .ok (.goto 4, 3) := by decide +kernel
theorem dX6_mustSign_21 : decode cX6_mustSign 21 = .ok (.iconst 0, 1) := by decide +kernel
theorem dX6_mustSign_22 : decode cX6_mustSign 22 = .ok (.invokevirtual 112, 3) := by decide +kernel
theorem dX6_mustSign_25 : decode cX6_mustSign 25 = .ok (.return_, 1) := by decide +kernel
set_option maxRecDepth 20000 in
theorem ggX6_begin_X6_nextToken : GoodIn wsX6_begin wsX6_nextToken := goodIn_r _ [7, 1, 8, 9, 10, 11, 12, 13, 14, 15, 16, 17, 18, 19, 6, 20, 21, 22, 23, 24, 25, 26, 27, 28, 29, 30, 31, 32, 33, 34, 35, 36, 37, 38, 39, 40, 41, 42, 43, 44] (by decide +kernel) (by decide +kernel)
set_option maxRecDepth 20000 in
theorem gX6_begin_X6_nextToken : GoodIn wsX6_begin (wsV RX6 109 RX6 yX6_nextToken wsX6_nextToken) := goodIn_app (goodIn_of _ (by decide +kernel)) ggX6_begin_X6_nextToken
theorem dX6_begin_0 : decode cX6_begin 0 = .ok (.aload_n 0, 1) := by decide +kernel
theorem dX6_begin_1 : decode cX6_begin 1 = .ok (.iconst 0, 1) := by decide +kernel
theorem dX6_begin_2 : decode cX6_begin 2 = .ok (.putfield 87, 3) := by decide +kernel
theorem dX6_begin_5 : decode cX6_begin 5 = .ok (.aload_n 0, 1) := by decide +kernel
theorem dX6_begin_6 : decode cX6_begin 6 = .ok (.iconst 0, 1) := by decide +kernel
theorem dX6_begin_7 : decode cX6_begin 7 = .ok (.putfield 78, 3) := by decide +kernel
theorem dX6_begin_10 : decode cX6_begin 10 = .ok (.aload_n 0, 1) := by decide +kernel
theorem dX6_begin_11 : decode cX6_begin 11 = .ok (.invokevirtual 109, 3) := by decide +kernel
theorem dX6_begin_14 : decode cX6_begin 14 = .ok (.return_, 1) := by decide +kernel
set_option maxRecDepth 20000 in
theorem ggX6_failed_X6_bad : GoodIn wsX6_failed wsX6_bad := goodIn_r _ [9, 1, 10, 11, 12, 13, 14, 15, 16, 17, 18, 19, 20, 21, 22, 23, 24, 25, 26, 27, 28, 29, 30, 31, 32, 33, 34, 35] (by decide +kernel) (by decide +kernel)
set_option maxRecDepth 20000 in
theorem gX6_failed_X6_bad : GoodIn wsX6_failed (wsV RX6 105 RX6 yX6_bad wsX6_bad) := goodIn_app (goodIn_of _ (by decide +kernel)) ggX6_failed_X6_bad
theorem dX6_failed_0 : decode cX6_failed 0 = .ok (.aload_n 0, 1) := by decide +kernel
theorem dX6_failed_1 : decode cX6_failed 1 = .ok (.getfield 78, 3) := by decide +kernel
theorem dX6_failed_4 : decode cX6_failed 4 = .ok (.ifCond .ne 16, 3) := by decide +kernel
theorem dX6_failed_7 : decode cX6_failed 7 = .ok (.aload_n 0, 1) := by decide +kernel
theorem dX6_failed_8 : decode cX6_failed 8 = .ok (.getfield 102, 3) := by decide +kernel
theorem dX6_failed_11 : decode cX6_failed 11 = .ok (.iconst 1, 1) := by decide +kernel
theorem dX6_failed_12 : decode cX6_failed 12 = .ok (.if_icmp .eq 8, 3) := by decide +kernel
theorem dX6_failed_15 : decode cX6_failed 15 = .ok (.aload_n 0, 1) := by decide +kernel
theorem dX6_failed_16 : decode cX6_failed 16 = .ok (.iconst 1, 1) := by decide +kernel
theorem dX6_failed_17 : decode cX6_failed 17 = .ok (.invokevirtual 105, 3) := by decide +kernel
theorem dX6_failed_20 : decode cX6_failed 20 = .ok (.aload_n 0, 1) := by decide +kernel
theorem dX6_failed_21 : decode cX6_failed 21 = .ok (.iconst 0, 1) := by decide +kernel
theorem dX6_failed_22 : decode cX6_failed 22 = .ok (.putfield 74, 3) := by decide +kernel
theorem dX6_failed_25 : decode cX6_failed 25 = .ok (.aload_n 0, 1) := by decide +kernel
theorem dX6_failed_26 : decode cX6_failed 26 = .ok (.aload_n 0, 1) := by decide +kernel
theorem dX6_failed_27 : decode cX6_failed 27 = .ok (.getfield 78, 3) := by decide +kernel
theorem dX6_failed_30 : decode cX6_failed 30 = .ok (.ifCond .le 10, 3) := by decide +kernel
theorem dX6_failed_33 : decode cX6_failed 33 = .ok (.aload_n 0, 1) := by decide +kernel
theorem dX6_failed_34 : decode cX6_failed 34 = .ok (.getfield 78, 3) := by decide +kernel
theorem dX6_failed_37 : decode cX6_failed 37 = .ok (.goto 7, 3) := by decide +kernel
theorem dX6_failed_40 : decode cX6_failed 40 = .ok (.aload_n 0, 1) := by decide +kernel
theorem dX6_failed_41 : decode cX6_failed 41 = .ok (.getfield 116, 3) := by decide +kernel
theorem dX6_failed_44 : decode cX6_failed 44 = .ok (.putfield 116, 3) := by decide +kernel
theorem dX6_failed_47 : decode cX6_failed 47 = .ok (.aload_n 0, 1) := by decide +kernel
theorem dX6_failed_48 : decode cX6_failed 48 = .ok (.getfield 78, 3) := by decide +kernel
theorem dX6_failed_51 : decode cX6_failed 51 = .ok (.ifCond .le 7, 3) := by decide +kernel
theorem dX6_failed_54 : decode cX6_failed 54 = .ok (.iconst 1, 1) := by decide +kernel
theorem dX6_failed_55 : decode cX6_failed 55 = .ok (.goto 4, 3) := by decide +kernel
theorem dX6_failed_58 : decode cX6_failed 58 = .ok (.iconst 0, 1) := by decide +kernel
theorem dX6_failed_59 : decode cX6_failed 59 = .ok (.ireturn, 1) := by decide +kernel
theorem dX6_fault_0 : decode cX6_fault 0 = .ok (.aload_n 0, 1) := by decide +kernel
theorem dX6_fault_1 : decode cX6_fault 1 = .ok (.iconst 0, 1) := by decide +kernel
theorem dX6_fault_2 : decode cX6_fault 2 = .ok (.putfield 47, 3) := by decide +kernel
theorem dX6_fault_5 : decode cX6_fault 5 = .ok (.aload_n 0, 1) := by decide +kernel
theorem dX6_fault_6 : decode cX6_fault 6 = .ok (.getfield 116, 3) := by decide +kernel
theorem dX6_fault_9 : decode cX6_fault 9 = .ok (.ireturn, 1) := by decide +kernel
theorem dX6_isSort_0 : decode cX6_isSort 0 = .ok (.aload_n 0, 1) := by decide +kernel
theorem dX6_isSort_1 : decode cX6_isSort 1 = .ok (.getfield 78, 3) := by decide +kernel
theorem dX6_isSort_4 : decode cX6_isSort 4 = .ok (.ifCond .ne 27, 3) := by decide +kernel
theorem dX6_isSort_7 : decode cX6_isSort 7 = .ok (.aload_n 0, 1) := by decide +kernel
theorem dX6_isSort_8 : decode cX6_isSort 8 = .ok (.getfield 102, 3) := by decide +kernel
theorem dX6_isSort_11 : decode cX6_isSort 11 = .ok (.iconst 2, 1) := by decide +kernel
theorem dX6_isSort_12 : decode cX6_isSort 12 = .ok (.if_icmp .ne 19, 3) := by decide +kernel
theorem dX6_isSort_15 : decode cX6_isSort 15 = .ok (.aload_n 0, 1) := by decide +kernel
theorem dX6_isSort_16 : decode cX6_isSort 16 = .ok (.getfield 91, 3) := by decide +kernel
theorem dX6_isSort_19 : decode cX6_isSort 19 = .ok (.invokestatic 119, 3) := by decide +kernel
theorem dX6_isSort_22 : decode cX6_isSort 22 = .ok (.ldc 90, 2) := by decide +kernel
theorem dX6_isSort_24 : decode cX6_isSort 24 = .ok (.if_icmp .eq 7, 3) := by decide +kernel
theorem dX6_isSort_27 : decode cX6_isSort 27 = .ok (.iconst 1, 1) := by decide +kernel
theorem dX6_isSort_28 : decode cX6_isSort 28 = .ok (.goto 4, 3) := by decide +kernel
theorem dX6_isSort_31 : decode cX6_isSort 31 = .ok (.iconst 0, 1) := by decide +kernel
theorem dX6_isSort_32 : decode cX6_isSort 32 = .ok (.ireturn, 1) := by decide +kernel
set_option maxRecDepth 20000 in
theorem ggX6_house_X6_begin : GoodIn wsX6_house wsX6_begin := goodIn_r _ [11, 12, 13, 14, 15, 16, 10, 17, 18, 19, 20, 21, 22, 23, 24, 25, 26, 27, 28, 29, 30, 71, 72, 73, 74, 75, 76, 77, 78, 79, 80, 81, 82, 83, 84, 85, 86, 87, 88, 89, 90, 91, 92, 93, 94] (by decide +kernel) (by decide +kernel)
set_option maxRecDepth 20000 in
theorem gX6_house_X6_begin : GoodIn wsX6_house (wsV RX6 132 RX6 yX6_begin wsX6_begin) := goodIn_app (goodIn_of _ (by decide +kernel)) ggX6_house_X6_begin
set_option maxRecDepth 20000 in
theorem ggX6_house_X6_isLetter : GoodIn wsX6_house wsX6_isLetter := goodIn_r _ [34, 13, 27, 22, 71, 72, 73, 74, 75, 76, 77, 78, 79, 80, 81, 82, 83, 84, 85, 86, 87, 88, 89, 90, 91, 92, 93, 94] (by decide +kernel) (by decide +kernel)
set_option maxRecDepth 20000 in
theorem gX6_house_X6_isLetter : GoodIn wsX6_house (wsV RX6 122 RX6 yX6_isLetter wsX6_isLetter) := goodIn_app (goodIn_of _ (by decide +kernel)) ggX6_house_X6_isLetter
set_option maxRecDepth 20000 in
theorem ggX6_house_X6_must : GoodIn wsX6_house wsX6_must := goodIn_r _ [38, 13, 39, 40, 41, 10, 42, 18, 4, 14, 15, 16, 17, 12, 19, 20, 21, 22, 23, 24, 25, 26, 27, 28, 29, 30, 71, 72, 73, 74, 75, 76, 77, 78, 79, 80, 81, 82, 83, 84, 85, 86, 87, 88, 89, 90, 91, 92, 93, 94] (by decide +kernel) (by decide +kernel)
set_option maxRecDepth 20000 in
theorem gX6_house_X6_must : GoodIn wsX6_house (wsV RX6 112 RX6 yX6_must wsX6_must) := goodIn_app (goodIn_of _ (by decide +kernel)) ggX6_house_X6_must
set_option maxRecDepth 20000 in
theorem ggX6_house_X6_number : GoodIn wsX6_house wsX6_number := goodIn_r _ [46, 13, 27, 22, 39, 40, 41, 10, 42, 18, 4, 28, 29, 30, 35, 36, 37, 38, 14, 15, 16, 17, 12, 19, 20, 21, 23, 24, 25, 26, 71, 72, 73, 74, 75, 76, 77, 78, 79, 80, 81, 82, 83, 84, 85, 86, 87, 88, 89, 90, 91, 92, 93, 94] (by decide +kernel) (by decide +kernel)
set_option maxRecDepth 20000 in
theorem gX6_house_X6_number : GoodIn wsX6_house (wsV RX6 125 RX6 yX6_number wsX6_number) := goodIn_app (goodIn_of _ (by decide +kernel)) ggX6_house_X6_number
set_option maxRecDepth 20000 in
theorem ggX6_house_X6_mustSign : GoodIn wsX6_house wsX6_mustSign := goodIn_r _ [50, 27, 22, 35, 36, 37, 10, 38, 13, 39, 40, 41, 42, 18, 4, 14, 15, 16, 17, 12, 19, 20, 21, 23, 24, 25, 26, 28, 29, 30, 71, 72, 73, 74, 75, 76, 77, 78, 79, 80, 81, 82, 83, 84, 85, 86, 87, 88, 89, 90, 91, 92, 93, 94] (by decide +kernel) (by decide +kernel)
set_option maxRecDepth 20000 in
theorem gX6_house_X6_mustSign : GoodIn wsX6_house (wsV RX6 129 RX6 yX6_mustSign wsX6_mustSign) := goodIn_app (goodIn_of _ (by decide +kernel)) ggX6_house_X6_mustSign
set_option maxRecDepth 20000 in
theorem ggX6_house_X6_bad : GoodIn wsX6_house wsX6_bad := goodIn_r _ [42, 13, 18, 4, 71, 72, 73, 74, 75, 76, 77, 78, 79, 80, 81, 82, 83, 84, 85, 86, 87, 88, 89, 90, 91, 92, 93, 94] (by decide +kernel) (by decide +kernel)
set_option maxRecDepth 20000 in
theorem gX6_house_X6_bad : GoodIn wsX6_house (wsV RX6 105 RX6 yX6_bad wsX6_bad) := goodIn_app (goodIn_of _ (by decide +kernel)) ggX6_house_X6_bad
set_option maxRecDepth 20000 in
theorem ggX6_house_X6_isSort : GoodIn wsX6_house wsX6_isSort := goodIn_r _ [58, 13, 27, 22, 21, 59, 60, 10, 61, 71, 72, 73, 74, 75, 76, 77, 78, 79, 80, 81, 82, 83, 84, 85, 86, 87, 88, 89, 90, 91, 92, 93, 94] (by decide +kernel) (by decide +kernel)
set_option maxRecDepth 20000 in
theorem gX6_house_X6_isSort : GoodIn wsX6_house (wsV RX6 138 RX6 yX6_isSort wsX6_isSort) := goodIn_app (goodIn_of _ (by decide +kernel)) ggX6_house_X6_isSort
set_option maxRecDepth 20000 in
theorem ggX6_house_X6_failed : GoodIn wsX6_house wsX6_failed := goodIn_r _ [69, 13, 27, 19, 70, 39, 40, 41, 10, 42, 18, 4, 71, 72, 73, 74, 75, 76, 77, 78, 79, 80, 81, 82, 83, 84, 85, 86, 87, 88, 89, 90, 91, 92, 93, 94] (by decide +kernel) (by decide +kernel)
set_option maxRecDepth 20000 in
theorem gX6_house_X6_failed : GoodIn wsX6_house (wsV RX6 145 RX6 yX6_failed wsX6_failed) := goodIn_app (goodIn_of _ (by decide +kernel)) ggX6_house_X6_failed
theorem dX6_house_0 : decode cX6_house 0 = .ok (.aload_n 0, 1) := by decide +kernel
theorem dX6_house_1 : decode cX6_house 1 = .ok (.iconst 0, 1) := by decide +kernel
theorem dX6_house_2 : decode cX6_house 2 = .ok (.putfield 47, 3) := by decide +kernel
theorem dX6_house_5 : decode cX6_house 5 = .ok (.aload_n 0, 1) := by decide +kernel
theorem dX6_house_6 : decode cX6_house 6 = .ok (.invokevirtual 132, 3) := by decide +kernel
theorem dX6_house_9 : decode cX6_house 9 = .ok (.iconst 0, 1) := by decide +kernel
theorem dX6_house_10 : decode cX6_house 10 = .ok (.istore_n 1, 1) := by decide +kernel
theorem dX6_house_11 : decode cX6_house 11 = .ok (.iload_n 1, 1) := by decide +kernel
theorem dX6_house_12 : decode cX6_house 12 = .ok (.bipush 45, 2) := by decide +kernel
theorem dX6_house_14 : decode cX6_house 14 = .ok (.if_icmp .ge 16, 3) := by decide +kernel
theorem dX6_house_17 : decode cX6_house 17 = .ok (.aload_n 0, 1) := by decide +kernel
theorem dX6_house_18 : decode cX6_house 18 = .ok (.getfield 22, 3) := by decide +kernel
theorem dX6_house_21 : decode cX6_house 21 = .ok (.iload_n 1, 1) := by decide +kernel
theorem dX6_house_22 : decode cX6_house 22 = .ok (.iconst 0, 1) := by decide +kernel
theorem dX6_house_23 : decode cX6_house 23 = .ok (.iastore, 1) := by decide +kernel
theorem dX6_house_24 : decode cX6_house 24 = .ok (.iinc 1 1, 3) := by decide +kernel
theorem dX6_house_27 : decode cX6_house 27 = .ok (.goto (-16), 3) := by decide +kernel
theorem dX6_house_30 : decode cX6_house 30 = .ok (.aload_n 0, 1) := by decide +kernel
theorem dX6_house_31 : decode cX6_house 31 = .ok (.aload_n 0, 1) := by decide +kernel
theorem dX6_house_32 : decode cX6_house 32 = .ok (.bipush 104, 2) := by decide +kernel
theorem dX6_house_34 : decode cX6_house 34 = .ok (.invokevirtual 122, 3) := by decide +kernel
theorem dX6_house_37 : decode cX6_house 37 = .ok (.invokevirtual 112, 3) := by decide +kernel
theorem dX6_house_40 : decode cX6_house 40 = .ok (.aload_n 0, 1) := by decide +kernel
theorem dX6_house_41 : decode cX6_house 41 = .ok (.getfield 22, 3) := by decide +kernel
theorem dX6_house_44 : decode cX6_house 44 = .ok (.iconst 2, 1) := by decide +kernel
theorem dX6_house_45 : decode cX6_house 45 = .ok (.aload_n 0, 1) := by decide +kernel
theorem dX6_house_46 : decode cX6_house 46 = .ok (.iconst 0, 1) := by decide +kernel
theorem dX6_house_47 : decode cX6_house 47 = .ok (.bipush 9, 2) := by decide +kernel
theorem dX6_house_49 : decode cX6_house 49 = .ok (.invokevirtual 125, 3) := by decide +kernel
theorem dX6_house_52 : decode cX6_house 52 = .ok (.iastore, 1) := by decide +kernel
theorem dX6_house_53 : decode cX6_house 53 = .ok (.aload_n 0, 1) := by decide +kernel
theorem dX6_house_54 : decode cX6_house 54 = .ok (.bipush 44, 2) := by decide +kernel
theorem dX6_house_56 : decode cX6_house 56 = .ok (.invokevirtual 129, 3) := by decide +kernel
theorem dX6_house_59 : decode cX6_house 59 = .ok (.aload_n 0, 1) := by decide +kernel
theorem dX6_house_60 : decode cX6_house 60 = .ok (.getfield 22, 3) := by decide +kernel
theorem dX6_house_63 : decode cX6_house 63 = .ok (.iconst 3, 1) := by decide +kernel
theorem dX6_house_64 : decode cX6_house 64 = .ok (.aload_n 0, 1) := by decide +kernel
theorem dX6_house_65 : decode cX6_house 65 = .ok (.iconst 0, 1) := by decide +kernel
theorem dX6_house_66 : decode cX6_house 66 = .ok (.bipush 60, 2) := by decide +kernel
theorem dX6_house_68 : decode cX6_house 68 = .ok (.invokevirtual 125, 3) := by decide +kernel
theorem dX6_house_71 : decode cX6_house 71 = .ok (.iastore, 1) := by decide +kernel
theorem dX6_house_72 : decode cX6_house 72 = .ok (.aload_n 0, 1) := by decide +kernel
theorem dX6_house_73 : decode cX6_house 73 = .ok (.bipush 59, 2) := by decide +kernel
theorem dX6_house_75 : decode cX6_house 75 = .ok (.invokevirtual 129, 3) := by decide +kernel
theorem dX6_house_78 : decode cX6_house 78 = .ok (.aload_n 0, 1) := by decide +kernel
theorem dX6_house_79 : decode cX6_house 79 = .ok (.bipush 109, 2) := by decide +kernel
theorem dX6_house_81 : decode cX6_house 81 = .ok (.invokevirtual 122, 3) := by decide +kernel
theorem dX6_house_84 : decode cX6_house 84 = .ok (.ifCond .ne 8, 3) := by decide +kernel
theorem dX6_house_87 : decode cX6_house 87 = .ok (.aload_n 0, 1) := by decide +kernel
theorem dX6_house_88 : decode cX6_house 88 = .ok (.iconst 1, 1) := by decide +kernel
theorem dX6_house_89 : decode cX6_house 89 = .ok (.invokevirtual 105, 3) := by decide +kernel
theorem dX6_house_92 : decode cX6_house 92 = .ok (.aload_n 0, 1) := by decide +kernel
theorem dX6_house_93 : decode cX6_house 93 = .ok (.bipush 109, 2) := by decide +kernel
theorem dX6_house_95 : decode cX6_house 95 = .ok (.invokevirtual 122, 3) := by decide +kernel
theorem dX6_house_98 : decode cX6_house 98 = .ok (.ifCond .eq 10, 3) := by decide +kernel
theorem dX6_house_101 : decode cX6_house 101 = .ok (.aload_n 0, 1) := by decide +kernel
theorem dX6_house_102 : decode cX6_house 102 = .ok (.invokevirtual 135, 3) := by decide +kernel
theorem dX6_house_105 : decode cX6_house 105 = .ok (.goto (-13), 3) := by decide +kernel
theorem dX6_house_108 : decode cX6_house 108 = .ok (.aload_n 0, 1) := by decide +kernel
theorem dX6_house_109 : decode cX6_house 109 = .ok (.invokevirtual 138, 3) := by decide +kernel
theorem dX6_house_112 : decode cX6_house 112 = .ok (.ifCond .ne 8, 3) := by decide +kernel
theorem dX6_house_115 : decode cX6_house 115 = .ok (.aload_n 0, 1) := by decide +kernel
theorem dX6_house_116 : decode cX6_house 116 = .ok (.iconst 1, 1) := by decide +kernel
theorem dX6_house_117 : decode cX6_house 117 = .ok (.invokevirtual 105, 3) := by decide +kernel
theorem dX6_house_120 : decode cX6_house 120 = .ok (.aload_n 0, 1) := by decide +kernel
theorem dX6_house_121 : decode cX6_house 121 = .ok (.invokevirtual 138, 3) := by decide +kernel
theorem dX6_house_124 : decode cX6_house 124 = .ok (.ifCond .eq 10, 3) := by decide +kernel
theorem dX6_house_127 : decode cX6_house 127 = .ok (.aload_n 0, 1) := by decide +kernel
theorem dX6_house_128 : decode cX6_house 128 = .ok (.invokevirtual 142, 3) := by decide +kernel
theorem dX6_house_131 : decode cX6_house 131 = .ok (.goto (-11), 3) := by decide +kernel
theorem dX6_house_134 : decode cX6_house 134 = .ok (.aload_n 0, 1) := by decide +kernel
theorem dX6_house_135 : decode cX6_house 135 = .ok (.invokevirtual 145, 3) := by decide +kernel
theorem dX6_house_138 : decode cX6_house 138 = .ok (.ifCond .eq 11, 3) := by decide +kernel
theorem dX6_house_141 : decode cX6_house 141 = .ok (.ldc 148, 2) := by decide +kernel
theorem dX6_house_143 : decode cX6_house 143 = .ok (.aload_n 0, 1) := by decide +kernel
theorem dX6_house_144 : decode cX6_house 144 = .ok (.getfield 84, 3) := by decide +kernel
theorem dX6_house_147 : decode cX6_house 147 = .ok (.isub, 1) := by decide +kernel
theorem dX6_house_148 : decode cX6_house 148 = .ok (.ireturn, 1) := by decide +kernel
theorem dX6_house_149 : decode cX6_house 149 = .ok (.aload_n 0, 1) := by decide +kernel
theorem dX6_house_150 : decode cX6_house 150 = .ok (.iconst 0, 1) := by decide +kernel
theorem dX6_house_151 : decode cX6_house 151 = .ok (.putfield 149, 3) := by decide +kernel
theorem dX6_house_154 : decode cX6_house 154 = .ok (.iconst 0, 1) := by decide +kernel
theorem dX6_house_155 : decode cX6_house 155 = .ok (.istore_n 1, 1) := by decide +kernel
theorem dX6_house_156 : decode cX6_house 156 = .ok (.iload_n 1, 1) := by decide +kernel
theorem dX6_house_157 : decode cX6_house 157 = .ok (.bipush 45, 2) := by decide +kernel
theorem dX6_house_159 : decode cX6_house 159 = .ok (.if_icmp .ge 21, 3) := by decide +kernel
theorem dX6_house_162 : decode cX6_house 162 = .ok (.aload_n 0, 1) := by decide +kernel
theorem dX6_house_163 : decode cX6_house 163 = .ok (.getfield 19, 3) := by decide +kernel
theorem dX6_house_166 : decode cX6_house 166 = .ok (.iload_n 1, 1) := by decide +kernel
theorem dX6_house_167 : decode cX6_house 167 = .ok (.aload_n 0, 1) := by decide +kernel
theorem dX6_house_168 : decode cX6_house 168 = .ok (.getfield 22, 3) := by decide +kernel
theorem dX6_house_171 : decode cX6_house 171 = .ok (.iload_n 1, 1) := by decide +kernel
theorem dX6_house_172 : decode cX6_house 172 = .ok (.iaload, 1) := by decide +kernel
theorem dX6_house_173 : decode cX6_house 173 = .ok (.iastore, 1) := by decide +kernel
theorem dX6_house_174 : decode cX6_house 174 = .ok (.iinc 1 1, 3) := by decide +kernel
theorem dX6_house_177 : decode cX6_house 177 = .ok (.goto (-21), 3) := by decide +kernel
theorem dX6_house_180 : decode cX6_house 180 = .ok (.aload_n 0, 1) := by decide +kernel
theorem dX6_house_181 : decode cX6_house 181 = .ok (.getfield 19, 3) := by decide +kernel
theorem dX6_house_184 : decode cX6_house 184 = .ok (.iconst 1, 1) := by decide +kernel
theorem dX6_house_185 : decode cX6_house 185 = .ok (.iaload, 1) := by decide +kernel
theorem dX6_house_186 : decode cX6_house 186 = .ok (.ireturn, 1) := by decide +kernel
theorem dX6_isThere_0 : decode cX6_isThere 0 = .ok (.aload_n 0, 1) := by decide +kernel
theorem dX6_isThere_1 : decode cX6_isThere 1 = .ok (.getfield 19, 3) := by decide +kernel
theorem dX6_isThere_4 : decode cX6_isThere 4 = .ok (.iconst 0, 1) := by decide +kernel
theorem dX6_isThere_5 : decode cX6_isThere 5 = .ok (.iaload, 1) := by decide +kernel
theorem dX6_isThere_6 : decode cX6_isThere 6 = .ok (.ifCond .le 7, 3) := by decide +kernel
theorem dX6_isThere_9 : decode cX6_isThere 9 = .ok (.iconst 1, 1) := by decide +kernel
theorem dX6_isThere_10 : decode cX6_isThere 10 = .ok (.goto 4, 3) := by decide +kernel
theorem dX6_isThere_13 : decode cX6_isThere 13 = .ok (.iconst 0, 1) := by decide +kernel
theorem dX6_isThere_14 : decode cX6_isThere 14 = .ok (.ireturn, 1) := by decide +kernel
set_option maxRecDepth 20000 in
theorem ggX6_isTube_X6_in : GoodIn wsX6_isTube wsX6_in := goodIn_r _ [5] (by decide +kernel) (by decide +kernel)
set_option maxRecDepth 20000 in
theorem gX6_isTube_X6_in : GoodIn wsX6_isTube (va_wsS RX6 57 yX6_in wsX6_in) := goodIn_app (goodIn_of _ (by decide +kernel)) ggX6_isTube_X6_in
theorem dX6_isTube_0 : decode cX6_isTube 0 = .ok (.iload_n 1, 1) := by decide +kernel
theorem dX6_isTube_1 : decode cX6_isTube 1 = .ok (.i2l, 1) := by decide +kernel
theorem dX6_isTube_2 : decode cX6_isTube 2 = .ok (.lconst 0, 1) := by decide +kernel
theorem dX6_isTube_3 : decode cX6_isTube 3 = .ok (.aload_n 0, 1) := by decide +kernel
theorem dX6_isTube_4 : decode cX6_isTube 4 = .ok (.getfield 19, 3) := by decide +kernel
theorem dX6_isTube_7 : decode cX6_isTube 7 = .ok (.iconst 1, 1) := by decide +kernel
theorem dX6_isTube_8 : decode cX6_isTube 8 = .ok (.iaload, 1) := by decide +kernel
theorem dX6_isTube_9 : decode cX6_isTube 9 = .ok (.iconst 1, 1) := by decide +kernel
theorem dX6_isTube_10 : decode cX6_isTube 10 = .ok (.isub, 1) := by decide +kernel
theorem dX6_isTube_11 : decode cX6_isTube 11 = .ok (.i2l, 1) := by decide +kernel
theorem dX6_isTube_12 : decode cX6_isTube 12 = .ok (.invokestatic 57, 3) := by decide +kernel
theorem dX6_isTube_15 : decode cX6_isTube 15 = .ok (.ireturn, 1) := by decide +kernel
set_option maxRecDepth 20000 in
theorem ggX6_isRoom_X6_in : GoodIn wsX6_isRoom wsX6_in := goodIn_r _ [5] (by decide +kernel) (by decide +kernel)
set_option maxRecDepth 20000 in
theorem gX6_isRoom_X6_in : GoodIn wsX6_isRoom (va_wsS RX6 57 yX6_in wsX6_in) := goodIn_app (goodIn_of _ (by decide +kernel)) ggX6_isRoom_X6_in
theorem dX6_isRoom_0 : decode cX6_isRoom 0 = .ok (.iload_n 1, 1) := by decide +kernel
theorem dX6_isRoom_1 : decode cX6_isRoom 1 = .ok (.i2l, 1) := by decide +kernel
theorem dX6_isRoom_2 : decode cX6_isRoom 2 = .ok (.lconst 0, 1) := by decide +kernel
theorem dX6_isRoom_3 : decode cX6_isRoom 3 = .ok (.aload_n 0, 1) := by decide +kernel
theorem dX6_isRoom_4 : decode cX6_isRoom 4 = .ok (.getfield 19, 3) := by decide +kernel
theorem dX6_isRoom_7 : decode cX6_isRoom 7 = .ok (.iconst 0, 1) := by decide +kernel
theorem dX6_isRoom_8 : decode cX6_isRoom 8 = .ok (.iaload, 1) := by decide +kernel
theorem dX6_isRoom_9 : decode cX6_isRoom 9 = .ok (.iconst 1, 1) := by decide +kernel
theorem dX6_isRoom_10 : decode cX6_isRoom 10 = .ok (.isub, 1) := by decide +kernel
theorem dX6_isRoom_11 : decode cX6_isRoom 11 = .ok (.i2l, 1) := by decide +kernel
theorem dX6_isRoom_12 : decode cX6_isRoom 12 = .ok (.invokestatic 57, 3) := by decide +kernel
theorem dX6_isRoom_15 : decode cX6_isRoom 15 = .ok (.ireturn, 1) := by decide +kernel
set_option maxRecDepth 20000 in
theorem ggX6_isPlace_X6_isThere : GoodIn wsX6_isPlace wsX6_isThere := goodIn_r _ [6, 1, 10, 11, 12, 13, 14, 15, 16, 17, 18, 19, 20, 21, 22, 23, 24, 25, 26, 27, 28, 29, 30, 31, 32, 33] (by decide +kernel) (by decide +kernel)
set_option maxRecDepth 20000 in
theorem gX6_isPlace_X6_isThere : GoodIn wsX6_isPlace (wsV RX6 152 RX6 yX6_isThere wsX6_isThere) := goodIn_app (goodIn_of _ (by decide +kernel)) ggX6_isPlace_X6_isThere
set_option maxRecDepth 20000 in
theorem ggX6_isPlace_X6_in : GoodIn wsX6_isPlace wsX6_in := goodIn_r _ [9] (by decide +kernel) (by decide +kernel)
set_option maxRecDepth 20000 in
theorem gX6_isPlace_X6_in : GoodIn wsX6_isPlace (va_wsS RX6 57 yX6_in wsX6_in) := goodIn_app (goodIn_of _ (by decide +kernel)) ggX6_isPlace_X6_in
theorem dX6_isPlace_0 : decode cX6_isPlace 0 = .ok (.aload_n 0, 1) := by decide +kernel
theorem dX6_isPlace_1 : decode cX6_isPlace 1 = .ok (.invokevirtual 152, 3) := by decide +kernel
theorem dX6_isPlace_4 : decode cX6_isPlace 4 = .ok (.ifCond .eq 23, 3) := by decide +kernel
theorem dX6_isPlace_7 : decode cX6_isPlace 7 = .ok (.iload_n 1, 1) := by decide +kernel
theorem dX6_isPlace_8 : decode cX6_isPlace 8 = .ok (.i2l, 1) := by decide +kernel
theorem dX6_isPlace_9 : decode cX6_isPlace 9 = .ok (.lconst 0, 1) := by decide +kernel
theorem dX6_isPlace_10 : decode cX6_isPlace 10 = .ok (.aload_n 0, 1) := by decide +kernel
theorem dX6_isPlace_11 : decode cX6_isPlace 11 = .ok (.getfield 19, 3) := by decide +kernel
theorem dX6_isPlace_14 : decode cX6_isPlace 14 = .ok (.iconst 0, 1) := by decide +kernel
theorem dX6_isPlace_15 : decode cX6_isPlace 15 = .ok (.iaload, 1) := by decide +kernel
theorem dX6_isPlace_16 : decode cX6_isPlace 16 = .ok (.i2l, 1) := by decide +kernel
theorem dX6_isPlace_17 : decode cX6_isPlace 17 = .ok (.invokestatic 57, 3) := by decide +kernel
theorem dX6_isPlace_20 : decode cX6_isPlace 20 = .ok (.ifCond .eq 7, 3) := by decide +kernel
theorem dX6_isPlace_23 : decode cX6_isPlace 23 = .ok (.iconst 1, 1) := by decide +kernel
theorem dX6_isPlace_24 : decode cX6_isPlace 24 = .ok (.goto 4, 3) := by decide +kernel
theorem dX6_isPlace_27 : decode cX6_isPlace 27 = .ok (.iconst 0, 1) := by decide +kernel
theorem dX6_isPlace_28 : decode cX6_isPlace 28 = .ok (.ireturn, 1) := by decide +kernel
theorem dX6_colds_0 : decode cX6_colds 0 = .ok (.iconst 0, 1) := by decide +kernel
theorem dX6_colds_1 : decode cX6_colds 1 = .ok (.istore_n 1, 1) := by decide +kernel
theorem dX6_colds_2 : decode cX6_colds 2 = .ok (.iconst 0, 1) := by decide +kernel
theorem dX6_colds_3 : decode cX6_colds 3 = .ok (.istore_n 2, 1) := by decide +kernel
theorem dX6_colds_4 : decode cX6_colds 4 = .ok (.iload_n 2, 1) := by decide +kernel
theorem dX6_colds_5 : decode cX6_colds 5 = .ok (.aload_n 0, 1) := by decide +kernel
theorem dX6_colds_6 : decode cX6_colds 6 = .ok (.iconst 0, 1) := by decide +kernel
theorem dX6_colds_7 : decode cX6_colds 7 = .ok (.iaload, 1) := by decide +kernel
theorem dX6_colds_8 : decode cX6_colds 8 = .ok (.if_icmp .ge 27, 3) := by decide +kernel
theorem dX6_colds_11 : decode cX6_colds 11 = .ok (.iload_n 1, 1) := by decide +kernel
theorem dX6_colds_12 : decode cX6_colds 12 = .ok (.aload_n 0, 1) := by decide +kernel
theorem dX6_colds_13 : decode cX6_colds 13 = .ok (.iload_n 2, 1) := by decide +kernel
theorem dX6_colds_14 : decode cX6_colds 14 = .ok (.invokestatic 167, 3) := by decide +kernel
theorem dX6_colds_17 : decode cX6_colds 17 = .ok (.ifCond .eq 9, 3) := by decide +kernel
theorem dX6_colds_20 : decode cX6_colds 20 = .ok (.iconst 1, 1) := by decide +kernel
theorem dX6_colds_21 : decode cX6_colds 21 = .ok (.iload_n 2, 1) := by decide +kernel
theorem dX6_colds_22 : decode cX6_colds 22 = .ok (.ishl, 1) := by decide +kernel
theorem dX6_colds_23 : decode cX6_colds 23 = .ok (.goto 4, 3) := by decide +kernel
theorem dX6_colds_26 : decode cX6_colds 26 = .ok (.iconst 0, 1) := by decide +kernel
theorem dX6_colds_27 : decode cX6_colds 27 = .ok (.ior, 1) := by decide +kernel
theorem dX6_colds_28 : decode cX6_colds 28 = .ok (.istore_n 1, 1) := by decide +kernel
theorem dX6_colds_29 : decode cX6_colds 29 = .ok (.iinc 2 1, 3) := by decide +kernel
theorem dX6_colds_32 : decode cX6_colds 32 = .ok (.goto (-28), 3) := by decide +kernel
theorem dX6_colds_35 : decode cX6_colds 35 = .ok (.iload_n 1, 1) := by decide +kernel
theorem dX6_colds_36 : decode cX6_colds 36 = .ok (.ireturn, 1) := by decide +kernel
theorem dX6_upOf_0 : decode cX6_upOf 0 = .ok (.iconst 0, 1) := by decide +kernel
theorem dX6_upOf_1 : decode cX6_upOf 1 = .ok (.istore_n 1, 1) := by decide +kernel
theorem dX6_upOf_2 : decode cX6_upOf 2 = .ok (.iconst 0, 1) := by decide +kernel
theorem dX6_upOf_3 : decode cX6_upOf 3 = .ok (.istore_n 2, 1) := by decide +kernel
theorem dX6_upOf_4 : decode cX6_upOf 4 = .ok (.iload_n 2, 1) := by decide +kernel
theorem dX6_upOf_5 : decode cX6_upOf 5 = .ok (.aload_n 0, 1) := by decide +kernel
theorem dX6_upOf_6 : decode cX6_upOf 6 = .ok (.iconst 1, 1) := by decide +kernel
theorem dX6_upOf_7 : decode cX6_upOf 7 = .ok (.iaload, 1) := by decide +kernel
theorem dX6_upOf_8 : decode cX6_upOf 8 = .ok (.if_icmp .ge 18, 3) := by decide +kernel
theorem dX6_upOf_11 : decode cX6_upOf 11 = .ok (.iload_n 1, 1) := by decide +kernel
theorem dX6_upOf_12 : decode cX6_upOf 12 = .ok (.aload_n 0, 1) := by decide +kernel
theorem dX6_upOf_13 : decode cX6_upOf 13 = .ok (.iload_n 2, 1) := by decide +kernel
theorem dX6_upOf_14 : decode cX6_upOf 14 = .ok (.iconst 4, 1) := by decide +kernel
theorem dX6_upOf_15 : decode cX6_upOf 15 = .ok (.invokestatic 155, 3) := by decide +kernel
theorem dX6_upOf_18 : decode cX6_upOf 18 = .ok (.iadd, 1) := by decide +kernel
theorem dX6_upOf_19 : decode cX6_upOf 19 = .ok (.istore_n 1, 1) := by decide +kernel
theorem dX6_upOf_20 : decode cX6_upOf 20 = .ok (.iinc 2 1, 3) := by decide +kernel
theorem dX6_upOf_23 : decode cX6_upOf 23 = .ok (.goto (-19), 3) := by decide +kernel
theorem dX6_upOf_26 : decode cX6_upOf 26 = .ok (.iload_n 1, 1) := by decide +kernel
theorem dX6_upOf_27 : decode cX6_upOf 27 = .ok (.ireturn, 1) := by decide +kernel
set_option maxRecDepth 20000 in
theorem ggX6_minutes_X6_isThere : GoodIn wsX6_minutes wsX6_isThere := goodIn_r _ [11, 5, 48, 49, 50, 51, 52, 53, 54, 55, 56, 57, 58, 59, 60, 61, 62, 63, 64, 65, 66, 67, 68, 69, 70, 71] (by decide +kernel) (by decide +kernel)
set_option maxRecDepth 20000 in
theorem gX6_minutes_X6_isThere : GoodIn wsX6_minutes (wsV RX6 152 RX6 yX6_isThere wsX6_isThere) := goodIn_app (goodIn_of _ (by decide +kernel)) ggX6_minutes_X6_isThere
set_option maxRecDepth 20000 in
theorem ggX6_minutes_X6_in : GoodIn wsX6_minutes wsX6_in := goodIn_r _ [14] (by decide +kernel) (by decide +kernel)
set_option maxRecDepth 20000 in
theorem gX6_minutes_X6_in : GoodIn wsX6_minutes (va_wsS RX6 57 yX6_in wsX6_in) := goodIn_app (goodIn_of _ (by decide +kernel)) ggX6_minutes_X6_in
set_option maxRecDepth 20000 in
theorem ggX6_minutes_X6_colds : GoodIn wsX6_minutes wsX6_colds := goodIn_r _ [47, 42, 43, 10, 44, 33, 34, 35] (by decide +kernel) (by decide +kernel)
set_option maxRecDepth 20000 in
theorem gX6_minutes_X6_colds : GoodIn wsX6_minutes (va_wsS RX6 195 yX6_colds wsX6_colds) := goodIn_app (goodIn_of _ (by decide +kernel)) ggX6_minutes_X6_colds
theorem dX6_minutes_0 : decode cX6_minutes 0 = .ok (.aload_n 0, 1) := by decide +kernel
theorem dX6_minutes_1 : decode cX6_minutes 1 = .ok (.iconst 0, 1) := by decide +kernel
theorem dX6_minutes_2 : decode cX6_minutes 2 = .ok (.putfield 47, 3) := by decide +kernel
theorem dX6_minutes_5 : decode cX6_minutes 5 = .ok (.aload_n 0, 1) := by decide +kernel
theorem dX6_minutes_6 : decode cX6_minutes 6 = .ok (.invokevirtual 152, 3) := by decide +kernel
theorem dX6_minutes_9 : decode cX6_minutes 9 = .ok (.ifCond .ne 6, 3) := by decide +kernel
theorem dX6_minutes_12 : decode cX6_minutes 12 = .ok (.ldc 189, 2) := by decide +kernel
theorem dX6_minutes_14 : decode cX6_minutes 14 = .ok (.ireturn, 1) := by decide +kernel
theorem dX6_minutes_15 : decode cX6_minutes 15 = .ok (.iload_n 1, 1) := by decide +kernel
theorem dX6_minutes_16 : decode cX6_minutes 16 = .ok (.i2l, 1) := by decide +kernel
theorem dX6_minutes_17 : decode cX6_minutes 17 = .ok (.lconst 1, 1) := by decide +kernel
theorem dX6_minutes_18 : decode cX6_minutes 18 = .ok (.ldc2_w 190, 3) := by decide +kernel
theorem dX6_minutes_21 : decode cX6_minutes 21 = .ok (.invokestatic 57, 3) := by decide +kernel
theorem dX6_minutes_24 : decode cX6_minutes 24 = .ok (.ifCond .ne 6, 3) := by decide +kernel
theorem dX6_minutes_27 : decode cX6_minutes 27 = .ok (.ldc 67, 2) := by decide +kernel
theorem dX6_minutes_29 : decode cX6_minutes 29 = .ok (.ireturn, 1) := by decide +kernel
theorem dX6_minutes_30 : decode cX6_minutes 30 = .ok (.aload_n 0, 1) := by decide +kernel
theorem dX6_minutes_31 : decode cX6_minutes 31 = .ok (.getfield 19, 3) := by decide +kernel
theorem dX6_minutes_34 : decode cX6_minutes 34 = .ok (.iconst 4, 1) := by decide +kernel
theorem dX6_minutes_35 : decode cX6_minutes 35 = .ok (.iaload, 1) := by decide +kernel
theorem dX6_minutes_36 : decode cX6_minutes 36 = .ok (.iload_n 1, 1) := by decide +kernel
theorem dX6_minutes_37 : decode cX6_minutes 37 = .ok (.iadd, 1) := by decide +kernel
theorem dX6_minutes_38 : decode cX6_minutes 38 = .ok (.sipush 999, 3) := by decide +kernel
theorem dX6_minutes_41 : decode cX6_minutes 41 = .ok (.if_icmp .le 6, 3) := by decide +kernel
theorem dX6_minutes_44 : decode cX6_minutes 44 = .ok (.ldc 77, 2) := by decide +kernel
theorem dX6_minutes_46 : decode cX6_minutes 46 = .ok (.ireturn, 1) := by decide +kernel
theorem dX6_minutes_47 : decode cX6_minutes 47 = .ok (.iconst 0, 1) := by decide +kernel
theorem dX6_minutes_48 : decode cX6_minutes 48 = .ok (.istore_n 2, 1) := by decide +kernel
theorem dX6_minutes_49 : decode cX6_minutes 49 = .ok (.iload_n 2, 1) := by decide +kernel
theorem dX6_minutes_50 : decode cX6_minutes 50 = .ok (.iload_n 1, 1) := by decide +kernel
theorem dX6_minutes_51 : decode cX6_minutes 51 = .ok (.if_icmp .ge 20, 3) := by decide +kernel
theorem dX6_minutes_54 : decode cX6_minutes 54 = .ok (.aload_n 0, 1) := by decide +kernel
theorem dX6_minutes_55 : decode cX6_minutes 55 = .ok (.invokevirtual 192, 3) := by decide +kernel
theorem dX6_minutes_58 : decode cX6_minutes 58 = .ok (.aload_n 0, 1) := by decide +kernel
theorem dX6_minutes_59 : decode cX6_minutes 59 = .ok (.getfield 19, 3) := by decide +kernel
theorem dX6_minutes_62 : decode cX6_minutes 62 = .ok (.invokestatic 181, 3) := by decide +kernel
theorem dX6_minutes_65 : decode cX6_minutes 65 = .ok (.iinc 2 1, 3) := by decide +kernel
theorem dX6_minutes_68 : decode cX6_minutes 68 = .ok (.goto (-19), 3) := by decide +kernel
theorem dX6_minutes_71 : decode cX6_minutes 71 = .ok (.aload_n 0, 1) := by decide +kernel
theorem dX6_minutes_72 : decode cX6_minutes 72 = .ok (.getfield 19, 3) := by decide +kernel
theorem dX6_minutes_75 : decode cX6_minutes 75 = .ok (.invokestatic 195, 3) := by decide +kernel
theorem dX6_minutes_78 : decode cX6_minutes 78 = .ok (.ireturn, 1) := by decide +kernel
set_option maxRecDepth 20000 in
theorem ggX6_carry_X6_isTube : GoodIn wsX6_carry wsX6_isTube := goodIn_r _ [9, 3, 10, 11, 8, 12, 33, 34, 35, 36, 37, 38, 39, 40, 41, 42, 43, 44, 45, 46, 47, 48, 49, 50, 51, 52, 53, 54, 55, 56] (by decide +kernel) (by decide +kernel)
set_option maxRecDepth 20000 in
theorem gX6_carry_X6_isTube : GoodIn wsX6_carry (wsV RX6 198 RX6 yX6_isTube wsX6_isTube) := goodIn_app (goodIn_of _ (by decide +kernel)) ggX6_carry_X6_isTube
set_option maxRecDepth 20000 in
theorem ggX6_carry_X6_isPlace : GoodIn wsX6_carry wsX6_isPlace := goodIn_r _ [16, 3, 17, 18, 19, 8, 20, 10, 11, 12, 33, 34, 35, 36, 37, 38, 39, 40, 41, 42, 43, 44, 45, 46, 47, 48, 49, 50, 51, 52, 53, 54, 55, 56] (by decide +kernel) (by decide +kernel)
set_option maxRecDepth 20000 in
theorem gX6_carry_X6_isPlace : GoodIn wsX6_carry (wsV RX6 201 RX6 yX6_isPlace wsX6_isPlace) := goodIn_app (goodIn_of _ (by decide +kernel)) ggX6_carry_X6_isPlace
theorem dX6_carry_0 : decode cX6_carry 0 = .ok (.aload_n 0, 1) := by decide +kernel
theorem dX6_carry_1 : decode cX6_carry 1 = .ok (.iconst 0, 1) := by decide +kernel
theorem dX6_carry_2 : decode cX6_carry 2 = .ok (.putfield 47, 3) := by decide +kernel
theorem dX6_carry_5 : decode cX6_carry 5 = .ok (.aload_n 0, 1) := by decide +kernel
theorem dX6_carry_6 : decode cX6_carry 6 = .ok (.iload_n 1, 1) := by decide +kernel
theorem dX6_carry_7 : decode cX6_carry 7 = .ok (.invokevirtual 198, 3) := by decide +kernel
theorem dX6_carry_10 : decode cX6_carry 10 = .ok (.ifCond .eq 11, 3) := by decide +kernel
theorem dX6_carry_13 : decode cX6_carry 13 = .ok (.aload_n 0, 1) := by decide +kernel
theorem dX6_carry_14 : decode cX6_carry 14 = .ok (.iload_n 2, 1) := by decide +kernel
theorem dX6_carry_15 : decode cX6_carry 15 = .ok (.invokevirtual 201, 3) := by decide +kernel
theorem dX6_carry_18 : decode cX6_carry 18 = .ok (.ifCond .ne 6, 3) := by decide +kernel
theorem dX6_carry_21 : decode cX6_carry 21 = .ok (.ldc 67, 2) := by decide +kernel
theorem dX6_carry_23 : decode cX6_carry 23 = .ok (.ireturn, 1) := by decide +kernel
theorem dX6_carry_24 : decode cX6_carry 24 = .ok (.aload_n 0, 1) := by decide +kernel
theorem dX6_carry_25 : decode cX6_carry 25 = .ok (.getfield 19, 3) := by decide +kernel
theorem dX6_carry_28 : decode cX6_carry 28 = .ok (.iload_n 1, 1) := by decide +kernel
theorem dX6_carry_29 : decode cX6_carry 29 = .ok (.iconst 1, 1) := by decide +kernel
theorem dX6_carry_30 : decode cX6_carry 30 = .ok (.invokestatic 155, 3) := by decide +kernel
theorem dX6_carry_33 : decode cX6_carry 33 = .ok (.istore_n 3, 1) := by decide +kernel
theorem dX6_carry_34 : decode cX6_carry 34 = .ok (.iload_n 3, 1) := by decide +kernel
theorem dX6_carry_35 : decode cX6_carry 35 = .ok (.iload_n 2, 1) := by decide +kernel
theorem dX6_carry_36 : decode cX6_carry 36 = .ok (.if_icmp .ne 6, 3) := by decide +kernel
theorem dX6_carry_39 : decode cX6_carry 39 = .ok (.ldc 189, 2) := by decide +kernel
theorem dX6_carry_41 : decode cX6_carry 41 = .ok (.ireturn, 1) := by decide +kernel
theorem dX6_carry_42 : decode cX6_carry 42 = .ok (.aload_n 0, 1) := by decide +kernel
theorem dX6_carry_43 : decode cX6_carry 43 = .ok (.invokevirtual 192, 3) := by decide +kernel
theorem dX6_carry_46 : decode cX6_carry 46 = .ok (.aload_n 0, 1) := by decide +kernel
theorem dX6_carry_47 : decode cX6_carry 47 = .ok (.getfield 19, 3) := by decide +kernel
theorem dX6_carry_50 : decode cX6_carry 50 = .ok (.iload_n 1, 1) := by decide +kernel
theorem dX6_carry_51 : decode cX6_carry 51 = .ok (.iconst 1, 1) := by decide +kernel
theorem dX6_carry_52 : decode cX6_carry 52 = .ok (.iload_n 2, 1) := by decide +kernel
theorem dX6_carry_53 : decode cX6_carry 53 = .ok (.invokestatic 170, 3) := by decide +kernel
theorem dX6_carry_56 : decode cX6_carry 56 = .ok (.iload_n 3, 1) := by decide +kernel
theorem dX6_carry_57 : decode cX6_carry 57 = .ok (.ireturn, 1) := by decide +kernel
set_option maxRecDepth 20000 in
theorem ggX6_shake_X6_isTube : GoodIn wsX6_shake wsX6_isTube := goodIn_r _ [9, 3, 10, 11, 8, 12, 34, 35, 36, 37, 38, 39, 40, 41, 42, 43, 44, 45, 46, 47, 48, 49, 50, 51, 52, 53, 54, 55, 56, 57] (by decide +kernel) (by decide +kernel)
set_option maxRecDepth 20000 in
theorem gX6_shake_X6_isTube : GoodIn wsX6_shake (wsV RX6 198 RX6 yX6_isTube wsX6_isTube) := goodIn_app (goodIn_of _ (by decide +kernel)) ggX6_shake_X6_isTube
theorem dX6_shake_0 : decode cX6_shake 0 = .ok (.aload_n 0, 1) := by decide +kernel
theorem dX6_shake_1 : decode cX6_shake 1 = .ok (.iconst 0, 1) := by decide +kernel
theorem dX6_shake_2 : decode cX6_shake 2 = .ok (.putfield 47, 3) := by decide +kernel
theorem dX6_shake_5 : decode cX6_shake 5 = .ok (.aload_n 0, 1) := by decide +kernel
theorem dX6_shake_6 : decode cX6_shake 6 = .ok (.iload_n 1, 1) := by decide +kernel
theorem dX6_shake_7 : decode cX6_shake 7 = .ok (.invokevirtual 198, 3) := by decide +kernel
theorem dX6_shake_10 : decode cX6_shake 10 = .ok (.ifCond .ne 6, 3) := by decide +kernel
theorem dX6_shake_13 : decode cX6_shake 13 = .ok (.ldc 67, 2) := by decide +kernel
theorem dX6_shake_15 : decode cX6_shake 15 = .ok (.ireturn, 1) := by decide +kernel
theorem dX6_shake_16 : decode cX6_shake 16 = .ok (.aload_n 0, 1) := by decide +kernel
theorem dX6_shake_17 : decode cX6_shake 17 = .ok (.getfield 19, 3) := by decide +kernel
theorem dX6_shake_20 : decode cX6_shake 20 = .ok (.iload_n 1, 1) := by decide +kernel
theorem dX6_shake_21 : decode cX6_shake 21 = .ok (.iconst 4, 1) := by decide +kernel
theorem dX6_shake_22 : decode cX6_shake 22 = .ok (.invokestatic 155, 3) := by decide +kernel
theorem dX6_shake_25 : decode cX6_shake 25 = .ok (.ifCond .ne 6, 3) := by decide +kernel
theorem dX6_shake_28 : decode cX6_shake 28 = .ok (.ldc 189, 2) := by decide +kernel
theorem dX6_shake_30 : decode cX6_shake 30 = .ok (.ireturn, 1) := by decide +kernel
theorem dX6_shake_31 : decode cX6_shake 31 = .ok (.aload_n 0, 1) := by decide +kernel
theorem dX6_shake_32 : decode cX6_shake 32 = .ok (.invokevirtual 192, 3) := by decide +kernel
theorem dX6_shake_35 : decode cX6_shake 35 = .ok (.aload_n 0, 1) := by decide +kernel
theorem dX6_shake_36 : decode cX6_shake 36 = .ok (.getfield 19, 3) := by decide +kernel
theorem dX6_shake_39 : decode cX6_shake 39 = .ok (.iload_n 1, 1) := by decide +kernel
theorem dX6_shake_40 : decode cX6_shake 40 = .ok (.invokestatic 204, 3) := by decide +kernel
theorem dX6_shake_43 : decode cX6_shake 43 = .ok (.ireturn, 1) := by decide +kernel
set_option maxRecDepth 20000 in
theorem ggX6_pour_X6_isTube : GoodIn wsX6_pour wsX6_isTube := goodIn_r _ [10, 5, 11, 12, 9, 13, 33, 34, 35, 36, 37, 38, 39, 40, 41, 42, 43, 44, 45, 46, 47, 48, 49, 50, 51, 52, 53, 54, 55, 56] (by decide +kernel) (by decide +kernel)
set_option maxRecDepth 20000 in
theorem gX6_pour_X6_isTube : GoodIn wsX6_pour (wsV RX6 198 RX6 yX6_isTube wsX6_isTube) := goodIn_app (goodIn_of _ (by decide +kernel)) ggX6_pour_X6_isTube
theorem dX6_pour_0 : decode cX6_pour 0 = .ok (.aload_n 0, 1) := by decide +kernel
theorem dX6_pour_1 : decode cX6_pour 1 = .ok (.iconst 0, 1) := by decide +kernel
theorem dX6_pour_2 : decode cX6_pour 2 = .ok (.putfield 47, 3) := by decide +kernel
theorem dX6_pour_5 : decode cX6_pour 5 = .ok (.aload_n 0, 1) := by decide +kernel
theorem dX6_pour_6 : decode cX6_pour 6 = .ok (.iload_n 1, 1) := by decide +kernel
theorem dX6_pour_7 : decode cX6_pour 7 = .ok (.invokevirtual 198, 3) := by decide +kernel
theorem dX6_pour_10 : decode cX6_pour 10 = .ok (.ifCond .eq 16, 3) := by decide +kernel
theorem dX6_pour_13 : decode cX6_pour 13 = .ok (.aload_n 0, 1) := by decide +kernel
theorem dX6_pour_14 : decode cX6_pour 14 = .ok (.iload_n 2, 1) := by decide +kernel
theorem dX6_pour_15 : decode cX6_pour 15 = .ok (.invokevirtual 198, 3) := by decide +kernel
theorem dX6_pour_18 : decode cX6_pour 18 = .ok (.ifCond .eq 8, 3) := by decide +kernel
theorem dX6_pour_21 : decode cX6_pour 21 = .ok (.iload_n 1, 1) := by decide +kernel
theorem dX6_pour_22 : decode cX6_pour 22 = .ok (.iload_n 2, 1) := by decide +kernel
theorem dX6_pour_23 : decode cX6_pour 23 = .ok (.if_icmp .ne 6, 3) := by decide +kernel
theorem dX6_pour_26 : decode cX6_pour 26 = .ok (.ldc 67, 2) := by decide +kernel
theorem dX6_pour_28 : decode cX6_pour 28 = .ok (.ireturn, 1) := by decide +kernel
theorem dX6_pour_29 : decode cX6_pour 29 = .ok (.aload_n 0, 1) := by decide +kernel
theorem dX6_pour_30 : decode cX6_pour 30 = .ok (.invokevirtual 207, 3) := by decide +kernel
theorem dX6_pour_33 : decode cX6_pour 33 = .ok (.aload_n 0, 1) := by decide +kernel
theorem dX6_pour_34 : decode cX6_pour 34 = .ok (.getfield 25, 3) := by decide +kernel
theorem dX6_pour_37 : decode cX6_pour 37 = .ok (.iload_n 1, 1) := by decide +kernel
theorem dX6_pour_38 : decode cX6_pour 38 = .ok (.iload_n 2, 1) := by decide +kernel
theorem dX6_pour_39 : decode cX6_pour 39 = .ok (.invokestatic 210, 3) := by decide +kernel
theorem dX6_pour_42 : decode cX6_pour 42 = .ok (.ifCond .ne 6, 3) := by decide +kernel
theorem dX6_pour_45 : decode cX6_pour 45 = .ok (.ldc 189, 2) := by decide +kernel
theorem dX6_pour_47 : decode cX6_pour 47 = .ok (.ireturn, 1) := by decide +kernel
theorem dX6_pour_48 : decode cX6_pour 48 = .ok (.aload_n 0, 1) := by decide +kernel
theorem dX6_pour_49 : decode cX6_pour 49 = .ok (.invokevirtual 192, 3) := by decide +kernel
theorem dX6_pour_52 : decode cX6_pour 52 = .ok (.aload_n 0, 1) := by decide +kernel
theorem dX6_pour_53 : decode cX6_pour 53 = .ok (.getfield 19, 3) := by decide +kernel
theorem dX6_pour_56 : decode cX6_pour 56 = .ok (.iload_n 1, 1) := by decide +kernel
theorem dX6_pour_57 : decode cX6_pour 57 = .ok (.iload_n 2, 1) := by decide +kernel
theorem dX6_pour_58 : decode cX6_pour 58 = .ok (.invokestatic 210, 3) := by decide +kernel
theorem dX6_pour_61 : decode cX6_pour 61 = .ok (.ireturn, 1) := by decide +kernel
set_option maxRecDepth 20000 in
theorem ggX6_stove_X6_isRoom : GoodIn wsX6_stove wsX6_isRoom := goodIn_r _ [9, 4, 10, 11, 8, 12, 19, 20, 21, 22, 23, 24, 25, 26, 27, 28, 29, 30, 31, 32, 33, 34, 35, 36, 37, 38, 39, 40, 41, 42] (by decide +kernel) (by decide +kernel)
set_option maxRecDepth 20000 in
theorem gX6_stove_X6_isRoom : GoodIn wsX6_stove (wsV RX6 213 RX6 yX6_isRoom wsX6_isRoom) := goodIn_app (goodIn_of _ (by decide +kernel)) ggX6_stove_X6_isRoom
set_option maxRecDepth 20000 in
theorem ggX6_stove_X6_in : GoodIn wsX6_stove wsX6_in := goodIn_r _ [12] (by decide +kernel) (by decide +kernel)
set_option maxRecDepth 20000 in
theorem gX6_stove_X6_in : GoodIn wsX6_stove (va_wsS RX6 57 yX6_in wsX6_in) := goodIn_app (goodIn_of _ (by decide +kernel)) ggX6_stove_X6_in
theorem dX6_stove_0 : decode cX6_stove 0 = .ok (.aload_n 0, 1) := by decide +kernel
theorem dX6_stove_1 : decode cX6_stove 1 = .ok (.iconst 0, 1) := by decide +kernel
theorem dX6_stove_2 : decode cX6_stove 2 = .ok (.putfield 47, 3) := by decide +kernel
theorem dX6_stove_5 : decode cX6_stove 5 = .ok (.aload_n 0, 1) := by decide +kernel
theorem dX6_stove_6 : decode cX6_stove 6 = .ok (.iload_n 1, 1) := by decide +kernel
theorem dX6_stove_7 : decode cX6_stove 7 = .ok (.invokevirtual 213, 3) := by decide +kernel
theorem dX6_stove_10 : decode cX6_stove 10 = .ok (.ifCond .eq 15, 3) := by decide +kernel
theorem dX6_stove_13 : decode cX6_stove 13 = .ok (.iload_n 2, 1) := by decide +kernel
theorem dX6_stove_14 : decode cX6_stove 14 = .ok (.i2l, 1) := by decide +kernel
theorem dX6_stove_15 : decode cX6_stove 15 = .ok (.lconst 0, 1) := by decide +kernel
theorem dX6_stove_16 : decode cX6_stove 16 = .ok (.ldc2_w 216, 3) := by decide +kernel
theorem dX6_stove_19 : decode cX6_stove 19 = .ok (.invokestatic 57, 3) := by decide +kernel
theorem dX6_stove_22 : decode cX6_stove 22 = .ok (.ifCond .ne 6, 3) := by decide +kernel
theorem dX6_stove_25 : decode cX6_stove 25 = .ok (.ldc 67, 2) := by decide +kernel
theorem dX6_stove_27 : decode cX6_stove 27 = .ok (.ireturn, 1) := by decide +kernel
theorem dX6_stove_28 : decode cX6_stove 28 = .ok (.aload_n 0, 1) := by decide +kernel
theorem dX6_stove_29 : decode cX6_stove 29 = .ok (.invokevirtual 192, 3) := by decide +kernel
theorem dX6_stove_32 : decode cX6_stove 32 = .ok (.aload_n 0, 1) := by decide +kernel
theorem dX6_stove_33 : decode cX6_stove 33 = .ok (.getfield 19, 3) := by decide +kernel
theorem dX6_stove_36 : decode cX6_stove 36 = .ok (.iconst 5, 1) := by decide +kernel
theorem dX6_stove_37 : decode cX6_stove 37 = .ok (.iconst 2, 1) := by decide +kernel
theorem dX6_stove_38 : decode cX6_stove 38 = .ok (.iload_n 1, 1) := by decide +kernel
theorem dX6_stove_39 : decode cX6_stove 39 = .ok (.imul, 1) := by decide +kernel
theorem dX6_stove_40 : decode cX6_stove 40 = .ok (.iadd, 1) := by decide +kernel
theorem dX6_stove_41 : decode cX6_stove 41 = .ok (.iconst 1, 1) := by decide +kernel
theorem dX6_stove_42 : decode cX6_stove 42 = .ok (.iadd, 1) := by decide +kernel
theorem dX6_stove_43 : decode cX6_stove 43 = .ok (.iaload, 1) := by decide +kernel
theorem dX6_stove_44 : decode cX6_stove 44 = .ok (.istore_n 3, 1) := by decide +kernel
theorem dX6_stove_45 : decode cX6_stove 45 = .ok (.aload_n 0, 1) := by decide +kernel
theorem dX6_stove_46 : decode cX6_stove 46 = .ok (.getfield 19, 3) := by decide +kernel
theorem dX6_stove_49 : decode cX6_stove 49 = .ok (.iconst 5, 1) := by decide +kernel
theorem dX6_stove_50 : decode cX6_stove 50 = .ok (.iconst 2, 1) := by decide +kernel
theorem dX6_stove_51 : decode cX6_stove 51 = .ok (.iload_n 1, 1) := by decide +kernel
theorem dX6_stove_52 : decode cX6_stove 52 = .ok (.imul, 1) := by decide +kernel
theorem dX6_stove_53 : decode cX6_stove 53 = .ok (.iadd, 1) := by decide +kernel
theorem dX6_stove_54 : decode cX6_stove 54 = .ok (.iconst 1, 1) := by decide +kernel
theorem dX6_stove_55 : decode cX6_stove 55 = .ok (.iadd, 1) := by decide +kernel
theorem dX6_stove_56 : decode cX6_stove 56 = .ok (.iload_n 2, 1) := by decide +kernel
theorem dX6_stove_57 : decode cX6_stove 57 = .ok (.iastore, 1) := by decide +kernel
theorem dX6_stove_58 : decode cX6_stove 58 = .ok (.iload_n 3, 1) := by decide +kernel
theorem dX6_stove_59 : decode cX6_stove 59 = .ok (.ireturn, 1) := by decide +kernel
theorem dX6_undo_0 : decode cX6_undo 0 = .ok (.aload_n 0, 1) := by decide +kernel
theorem dX6_undo_1 : decode cX6_undo 1 = .ok (.iconst 0, 1) := by decide +kernel
theorem dX6_undo_2 : decode cX6_undo 2 = .ok (.putfield 47, 3) := by decide +kernel
theorem dX6_undo_5 : decode cX6_undo 5 = .ok (.aload_n 0, 1) := by decide +kernel
theorem dX6_undo_6 : decode cX6_undo 6 = .ok (.getfield 149, 3) := by decide +kernel
theorem dX6_undo_9 : decode cX6_undo 9 = .ok (.ifCond .ne 6, 3) := by decide +kernel
theorem dX6_undo_12 : decode cX6_undo 12 = .ok (.ldc 189, 2) := by decide +kernel
theorem dX6_undo_14 : decode cX6_undo 14 = .ok (.ireturn, 1) := by decide +kernel
theorem dX6_undo_15 : decode cX6_undo 15 = .ok (.aload_n 0, 1) := by decide +kernel
theorem dX6_undo_16 : decode cX6_undo 16 = .ok (.dup, 1) := by decide +kernel
theorem dX6_undo_17 : decode cX6_undo 17 = .ok (.getfield 149, 3) := by decide +kernel
theorem dX6_undo_20 : decode cX6_undo 20 = .ok (.iconst 1, 1) := by decide +kernel
theorem dX6_undo_21 : decode cX6_undo 21 = .ok (.isub, 1) := by decide +kernel
theorem dX6_undo_22 : decode cX6_undo 22 = .ok (.putfield 149, 3) := by decide +kernel
theorem dX6_undo_25 : decode cX6_undo 25 = .ok (.iconst 0, 1) := by decide +kernel
theorem dX6_undo_26 : decode cX6_undo 26 = .ok (.istore_n 1, 1) := by decide +kernel
theorem dX6_undo_27 : decode cX6_undo 27 = .ok (.iload_n 1, 1) := by decide +kernel
theorem dX6_undo_28 : decode cX6_undo 28 = .ok (.bipush 45, 2) := by decide +kernel
theorem dX6_undo_30 : decode cX6_undo 30 = .ok (.if_icmp .ge 29, 3) := by decide +kernel
theorem dX6_undo_33 : decode cX6_undo 33 = .ok (.aload_n 0, 1) := by decide +kernel
theorem dX6_undo_34 : decode cX6_undo 34 = .ok (.getfield 19, 3) := by decide +kernel
theorem dX6_undo_37 : decode cX6_undo 37 = .ok (.iload_n 1, 1) := by decide +kernel
theorem dX6_undo_38 : decode cX6_undo 38 = .ok (.aload_n 0, 1) := by decide +kernel
theorem dX6_undo_39 : decode cX6_undo 39 = .ok (.getfield 28, 3) := by decide +kernel
theorem dX6_undo_42 : decode cX6_undo 42 = .ok (.bipush 45, 2) := by decide +kernel
theorem dX6_undo_44 : decode cX6_undo 44 = .ok (.aload_n 0, 1) := by decide +kernel
theorem dX6_undo_45 : decode cX6_undo 45 = .ok (.getfield 149, 3) := by decide +kernel
theorem dX6_undo_48 : decode cX6_undo 48 = .ok (.imul, 1) := by decide +kernel
theorem dX6_undo_49 : decode cX6_undo 49 = .ok (.iload_n 1, 1) := by decide +kernel
theorem dX6_undo_50 : decode cX6_undo 50 = .ok (.iadd, 1) := by decide +kernel
theorem dX6_undo_51 : decode cX6_undo 51 = .ok (.iaload, 1) := by decide +kernel
theorem dX6_undo_52 : decode cX6_undo 52 = .ok (.iastore, 1) := by decide +kernel
theorem dX6_undo_53 : decode cX6_undo 53 = .ok (.iinc 1 1, 3) := by decide +kernel
theorem dX6_undo_56 : decode cX6_undo 56 = .ok (.goto (-29), 3) := by decide +kernel
theorem dX6_undo_59 : decode cX6_undo 59 = .ok (.aload_n 0, 1) := by decide +kernel
theorem dX6_undo_60 : decode cX6_undo 60 = .ok (.getfield 149, 3) := by decide +kernel
theorem dX6_undo_63 : decode cX6_undo 63 = .ok (.ireturn, 1) := by decide +kernel
set_option maxRecDepth 20000 in
theorem ggX6_tube_X6_isTube : GoodIn wsX6_tube wsX6_isTube := goodIn_r _ [9, 4, 10, 11, 8, 12, 28, 29, 30, 31, 32, 33, 34, 35, 36, 37, 38, 39, 40, 41, 42, 43, 44, 45, 46, 47, 48, 49, 50, 51] (by decide +kernel) (by decide +kernel)
set_option maxRecDepth 20000 in
theorem gX6_tube_X6_isTube : GoodIn wsX6_tube (wsV RX6 198 RX6 yX6_isTube wsX6_isTube) := goodIn_app (goodIn_of _ (by decide +kernel)) ggX6_tube_X6_isTube
set_option maxRecDepth 20000 in
theorem ggX6_tube_X6_in : GoodIn wsX6_tube wsX6_in := goodIn_r _ [12] (by decide +kernel) (by decide +kernel)
set_option maxRecDepth 20000 in
theorem gX6_tube_X6_in : GoodIn wsX6_tube (va_wsS RX6 57 yX6_in wsX6_in) := goodIn_app (goodIn_of _ (by decide +kernel)) ggX6_tube_X6_in
theorem dX6_tube_0 : decode cX6_tube 0 = .ok (.aload_n 0, 1) := by decide +kernel
theorem dX6_tube_1 : decode cX6_tube 1 = .ok (.iconst 0, 1) := by decide +kernel
theorem dX6_tube_2 : decode cX6_tube 2 = .ok (.putfield 47, 3) := by decide +kernel
theorem dX6_tube_5 : decode cX6_tube 5 = .ok (.aload_n 0, 1) := by decide +kernel
theorem dX6_tube_6 : decode cX6_tube 6 = .ok (.iload_n 1, 1) := by decide +kernel
theorem dX6_tube_7 : decode cX6_tube 7 = .ok (.invokevirtual 198, 3) := by decide +kernel
theorem dX6_tube_10 : decode cX6_tube 10 = .ok (.ifCond .eq 15, 3) := by decide +kernel
theorem dX6_tube_13 : decode cX6_tube 13 = .ok (.iload_n 2, 1) := by decide +kernel
theorem dX6_tube_14 : decode cX6_tube 14 = .ok (.i2l, 1) := by decide +kernel
theorem dX6_tube_15 : decode cX6_tube 15 = .ok (.lconst 0, 1) := by decide +kernel
theorem dX6_tube_16 : decode cX6_tube 16 = .ok (.ldc2_w 218, 3) := by decide +kernel
theorem dX6_tube_19 : decode cX6_tube 19 = .ok (.invokestatic 57, 3) := by decide +kernel
theorem dX6_tube_22 : decode cX6_tube 22 = .ok (.ifCond .ne 6, 3) := by decide +kernel
theorem dX6_tube_25 : decode cX6_tube 25 = .ok (.ldc 67, 2) := by decide +kernel
theorem dX6_tube_27 : decode cX6_tube 27 = .ok (.ireturn, 1) := by decide +kernel
theorem dX6_tube_28 : decode cX6_tube 28 = .ok (.iload_n 2, 1) := by decide +kernel
theorem dX6_tube_29 : decode cX6_tube 29 = .ok (.iconst 4, 1) := by decide +kernel
theorem dX6_tube_30 : decode cX6_tube 30 = .ok (.if_icmp .ge 17, 3) := by decide +kernel
theorem dX6_tube_33 : decode cX6_tube 33 = .ok (.aload_n 0, 1) := by decide +kernel
theorem dX6_tube_34 : decode cX6_tube 34 = .ok (.getfield 19, 3) := by decide +kernel
theorem dX6_tube_37 : decode cX6_tube 37 = .ok (.iload_n 1, 1) := by decide +kernel
theorem dX6_tube_38 : decode cX6_tube 38 = .ok (.iconst 1, 1) := by decide +kernel
theorem dX6_tube_39 : decode cX6_tube 39 = .ok (.iload_n 2, 1) := by decide +kernel
theorem dX6_tube_40 : decode cX6_tube 40 = .ok (.iadd, 1) := by decide +kernel
theorem dX6_tube_41 : decode cX6_tube 41 = .ok (.invokestatic 155, 3) := by decide +kernel
theorem dX6_tube_44 : decode cX6_tube 44 = .ok (.goto 11, 3) := by decide +kernel
theorem dX6_tube_47 : decode cX6_tube 47 = .ok (.aload_n 0, 1) := by decide +kernel
theorem dX6_tube_48 : decode cX6_tube 48 = .ok (.getfield 19, 3) := by decide +kernel
theorem dX6_tube_51 : decode cX6_tube 51 = .ok (.iload_n 1, 1) := by decide +kernel
theorem dX6_tube_52 : decode cX6_tube 52 = .ok (.invokestatic 178, 3) := by decide +kernel
theorem dX6_tube_55 : decode cX6_tube 55 = .ok (.ireturn, 1) := by decide +kernel
set_option maxRecDepth 20000 in
theorem ggX6_room_X6_isPlace : GoodIn wsX6_room wsX6_isPlace := goodIn_r _ [9, 3, 10, 11, 12, 8, 13, 14, 15, 16, 29, 30, 31, 32, 33, 34, 35, 36, 37, 38, 39, 40, 41, 42, 43, 44, 45, 46, 47, 48, 49, 50, 51, 52] (by decide +kernel) (by decide +kernel)
set_option maxRecDepth 20000 in
theorem gX6_room_X6_isPlace : GoodIn wsX6_room (wsV RX6 201 RX6 yX6_isPlace wsX6_isPlace) := goodIn_app (goodIn_of _ (by decide +kernel)) ggX6_room_X6_isPlace
set_option maxRecDepth 20000 in
theorem ggX6_room_X6_in : GoodIn wsX6_room wsX6_in := goodIn_r _ [16] (by decide +kernel) (by decide +kernel)
set_option maxRecDepth 20000 in
theorem gX6_room_X6_in : GoodIn wsX6_room (va_wsS RX6 57 yX6_in wsX6_in) := goodIn_app (goodIn_of _ (by decide +kernel)) ggX6_room_X6_in
theorem dX6_room_0 : decode cX6_room 0 = .ok (.aload_n 0, 1) := by decide +kernel
theorem dX6_room_1 : decode cX6_room 1 = .ok (.iconst 0, 1) := by decide +kernel
theorem dX6_room_2 : decode cX6_room 2 = .ok (.putfield 47, 3) := by decide +kernel
theorem dX6_room_5 : decode cX6_room 5 = .ok (.aload_n 0, 1) := by decide +kernel
theorem dX6_room_6 : decode cX6_room 6 = .ok (.iload_n 1, 1) := by decide +kernel
theorem dX6_room_7 : decode cX6_room 7 = .ok (.invokevirtual 201, 3) := by decide +kernel
theorem dX6_room_10 : decode cX6_room 10 = .ok (.ifCond .eq 30, 3) := by decide +kernel
theorem dX6_room_13 : decode cX6_room 13 = .ok (.iload_n 2, 1) := by decide +kernel
theorem dX6_room_14 : decode cX6_room 14 = .ok (.i2l, 1) := by decide +kernel
theorem dX6_room_15 : decode cX6_room 15 = .ok (.lconst 0, 1) := by decide +kernel
theorem dX6_room_16 : decode cX6_room 16 = .ok (.ldc2_w 220, 3) := by decide +kernel
theorem dX6_room_19 : decode cX6_room 19 = .ok (.invokestatic 57, 3) := by decide +kernel
theorem dX6_room_22 : decode cX6_room 22 = .ok (.ifCond .eq 18, 3) := by decide +kernel
theorem dX6_room_25 : decode cX6_room 25 = .ok (.iload_n 1, 1) := by decide +kernel
theorem dX6_room_26 : decode cX6_room 26 = .ok (.aload_n 0, 1) := by decide +kernel
theorem dX6_room_27 : decode cX6_room 27 = .ok (.getfield 19, 3) := by decide +kernel
theorem dX6_room_30 : decode cX6_room 30 = .ok (.iconst 0, 1) := by decide +kernel
theorem dX6_room_31 : decode cX6_room 31 = .ok (.iaload, 1) := by decide +kernel
theorem dX6_room_32 : decode cX6_room 32 = .ok (.if_icmp .ne 11, 3) := by decide +kernel
theorem dX6_room_35 : decode cX6_room 35 = .ok (.iload_n 2, 1) := by decide +kernel
theorem dX6_room_36 : decode cX6_room 36 = .ok (.iconst 3, 1) := by decide +kernel
theorem dX6_room_37 : decode cX6_room 37 = .ok (.if_icmp .ge 6, 3) := by decide +kernel
theorem dX6_room_40 : decode cX6_room 40 = .ok (.ldc 67, 2) := by decide +kernel
theorem dX6_room_42 : decode cX6_room 42 = .ok (.ireturn, 1) := by decide +kernel
theorem dX6_room_43 : decode cX6_room 43 = .ok (.iload_n 2, 1) := by decide +kernel
theorem dX6_room_44 : decode cX6_room 44 = .ok (.iconst 2, 1) := by decide +kernel
theorem dX6_room_45 : decode cX6_room 45 = .ok (.if_icmp .ge 18, 3) := by decide +kernel
theorem dX6_room_48 : decode cX6_room 48 = .ok (.aload_n 0, 1) := by decide +kernel
theorem dX6_room_49 : decode cX6_room 49 = .ok (.getfield 19, 3) := by decide +kernel
theorem dX6_room_52 : decode cX6_room 52 = .ok (.iconst 5, 1) := by decide +kernel
theorem dX6_room_53 : decode cX6_room 53 = .ok (.iconst 2, 1) := by decide +kernel
theorem dX6_room_54 : decode cX6_room 54 = .ok (.iload_n 1, 1) := by decide +kernel
theorem dX6_room_55 : decode cX6_room 55 = .ok (.imul, 1) := by decide +kernel
theorem dX6_room_56 : decode cX6_room 56 = .ok (.iadd, 1) := by decide +kernel
theorem dX6_room_57 : decode cX6_room 57 = .ok (.iload_n 2, 1) := by decide +kernel
theorem dX6_room_58 : decode cX6_room 58 = .ok (.iadd, 1) := by decide +kernel
theorem dX6_room_59 : decode cX6_room 59 = .ok (.iaload, 1) := by decide +kernel
theorem dX6_room_60 : decode cX6_room 60 = .ok (.goto 35, 3) := by decide +kernel
theorem dX6_room_63 : decode cX6_room 63 = .ok (.iload_n 2, 1) := by decide +kernel
theorem dX6_room_64 : decode cX6_room 64 = .ok (.iconst 2, 1) := by decide +kernel
theorem dX6_room_65 : decode cX6_room 65 = .ok (.if_icmp .ne 22, 3) := by decide +kernel
theorem dX6_room_68 : decode cX6_room 68 = .ok (.aload_n 0, 1) := by decide +kernel
theorem dX6_room_69 : decode cX6_room 69 = .ok (.getfield 19, 3) := by decide +kernel
theorem dX6_room_72 : decode cX6_room 72 = .ok (.iload_n 1, 1) := by decide +kernel
theorem dX6_room_73 : decode cX6_room 73 = .ok (.invokestatic 167, 3) := by decide +kernel
theorem dX6_room_76 : decode cX6_room 76 = .ok (.ifCond .eq 7, 3) := by decide +kernel
theorem dX6_room_79 : decode cX6_room 79 = .ok (.iconst 1, 1) := by decide +kernel
theorem dX6_room_80 : decode cX6_room 80 = .ok (.goto 15, 3) := by decide +kernel
theorem dX6_room_83 : decode cX6_room 83 = .ok (.iconst 0, 1) := by decide +kernel
theorem dX6_room_84 : decode cX6_room 84 = .ok (.goto 11, 3) := by decide +kernel
theorem dX6_room_87 : decode cX6_room 87 = .ok (.aload_n 0, 1) := by decide +kernel
theorem dX6_room_88 : decode cX6_room 88 = .ok (.getfield 19, 3) := by decide +kernel
theorem dX6_room_91 : decode cX6_room 91 = .ok (.iload_n 1, 1) := by decide +kernel
theorem dX6_room_92 : decode cX6_room 92 = .ok (.invokestatic 222, 3) := by decide +kernel
theorem dX6_room_95 : decode cX6_room 95 = .ok (.ireturn, 1) := by decide +kernel
set_option maxRecDepth 20000 in
theorem ggX6_ahead_X6_isRoom : GoodIn wsX6_ahead wsX6_isRoom := goodIn_r _ [9, 10, 11, 12, 8, 13, 45, 46, 47, 48, 49, 50, 51, 52, 53, 54, 55, 56, 57, 58, 59, 60, 61, 62, 63, 64, 65, 66, 67, 68] (by decide +kernel) (by decide +kernel)
set_option maxRecDepth 20000 in
theorem gX6_ahead_X6_isRoom : GoodIn wsX6_ahead (wsV RX6 213 RX6 yX6_isRoom wsX6_isRoom) := goodIn_app (goodIn_of _ (by decide +kernel)) ggX6_ahead_X6_isRoom
set_option maxRecDepth 20000 in
theorem ggX6_ahead_X6_in : GoodIn wsX6_ahead wsX6_in := goodIn_r _ [13] (by decide +kernel) (by decide +kernel)
set_option maxRecDepth 20000 in
theorem gX6_ahead_X6_in : GoodIn wsX6_ahead (va_wsS RX6 57 yX6_in wsX6_in) := goodIn_app (goodIn_of _ (by decide +kernel)) ggX6_ahead_X6_in
theorem dX6_ahead_0 : decode cX6_ahead 0 = .ok (.aload_n 0, 1) := by decide +kernel
theorem dX6_ahead_1 : decode cX6_ahead 1 = .ok (.iconst 0, 1) := by decide +kernel
theorem dX6_ahead_2 : decode cX6_ahead 2 = .ok (.putfield 47, 3) := by decide +kernel
theorem dX6_ahead_5 : decode cX6_ahead 5 = .ok (.aload_n 0, 1) := by decide +kernel
theorem dX6_ahead_6 : decode cX6_ahead 6 = .ok (.iload_n 1, 1) := by decide +kernel
theorem dX6_ahead_7 : decode cX6_ahead 7 = .ok (.invokevirtual 213, 3) := by decide +kernel
theorem dX6_ahead_10 : decode cX6_ahead 10 = .ok (.ifCond .eq 15, 3) := by decide +kernel
theorem dX6_ahead_13 : decode cX6_ahead 13 = .ok (.iload_n 2, 1) := by decide +kernel
theorem dX6_ahead_14 : decode cX6_ahead 14 = .ok (.i2l, 1) := by decide +kernel
theorem dX6_ahead_15 : decode cX6_ahead 15 = .ok (.lconst 0, 1) := by decide +kernel
theorem dX6_ahead_16 : decode cX6_ahead 16 = .ok (.ldc2_w 225, 3) := by decide +kernel
theorem dX6_ahead_19 : decode cX6_ahead 19 = .ok (.invokestatic 57, 3) := by decide +kernel
theorem dX6_ahead_22 : decode cX6_ahead 22 = .ok (.ifCond .ne 6, 3) := by decide +kernel
theorem dX6_ahead_25 : decode cX6_ahead 25 = .ok (.ldc 67, 2) := by decide +kernel
theorem dX6_ahead_27 : decode cX6_ahead 27 = .ok (.ireturn, 1) := by decide +kernel
theorem dX6_ahead_28 : decode cX6_ahead 28 = .ok (.aload_n 0, 1) := by decide +kernel
theorem dX6_ahead_29 : decode cX6_ahead 29 = .ok (.invokevirtual 207, 3) := by decide +kernel
theorem dX6_ahead_32 : decode cX6_ahead 32 = .ok (.aload_n 0, 1) := by decide +kernel
theorem dX6_ahead_33 : decode cX6_ahead 33 = .ok (.getfield 25, 3) := by decide +kernel
theorem dX6_ahead_36 : decode cX6_ahead 36 = .ok (.iload_n 2, 1) := by decide +kernel
theorem dX6_ahead_37 : decode cX6_ahead 37 = .ok (.invokestatic 227, 3) := by decide +kernel
theorem dX6_ahead_40 : decode cX6_ahead 40 = .ok (.aload_n 0, 1) := by decide +kernel
theorem dX6_ahead_41 : decode cX6_ahead 41 = .ok (.getfield 25, 3) := by decide +kernel
theorem dX6_ahead_44 : decode cX6_ahead 44 = .ok (.iload_n 1, 1) := by decide +kernel
theorem dX6_ahead_45 : decode cX6_ahead 45 = .ok (.invokestatic 159, 3) := by decide +kernel
theorem dX6_ahead_48 : decode cX6_ahead 48 = .ok (.ireturn, 1) := by decide +kernel
set_option maxRecDepth 20000 in
theorem ggX6_upAhead_X6_isTube : GoodIn wsX6_upAhead wsX6_isTube := goodIn_r _ [9, 10, 11, 12, 8, 13, 45, 46, 47, 48, 49, 50, 51, 52, 53, 54, 55, 56, 57, 58, 59, 60, 61, 62, 63, 64, 65, 66, 67, 68] (by decide +kernel) (by decide +kernel)
set_option maxRecDepth 20000 in
theorem gX6_upAhead_X6_isTube : GoodIn wsX6_upAhead (wsV RX6 198 RX6 yX6_isTube wsX6_isTube) := goodIn_app (goodIn_of _ (by decide +kernel)) ggX6_upAhead_X6_isTube
set_option maxRecDepth 20000 in
theorem ggX6_upAhead_X6_in : GoodIn wsX6_upAhead wsX6_in := goodIn_r _ [13] (by decide +kernel) (by decide +kernel)
set_option maxRecDepth 20000 in
theorem gX6_upAhead_X6_in : GoodIn wsX6_upAhead (va_wsS RX6 57 yX6_in wsX6_in) := goodIn_app (goodIn_of _ (by decide +kernel)) ggX6_upAhead_X6_in
theorem dX6_upAhead_0 : decode cX6_upAhead 0 = .ok (.aload_n 0, 1) := by decide +kernel
theorem dX6_upAhead_1 : decode cX6_upAhead 1 = .ok (.iconst 0, 1) := by decide +kernel
theorem dX6_upAhead_2 : decode cX6_upAhead 2 = .ok (.putfield 47, 3) := by decide +kernel
theorem dX6_upAhead_5 : decode cX6_upAhead 5 = .ok (.aload_n 0, 1) := by decide +kernel
theorem dX6_upAhead_6 : decode cX6_upAhead 6 = .ok (.iload_n 1, 1) := by decide +kernel
theorem dX6_upAhead_7 : decode cX6_upAhead 7 = .ok (.invokevirtual 198, 3) := by decide +kernel
theorem dX6_upAhead_10 : decode cX6_upAhead 10 = .ok (.ifCond .eq 15, 3) := by decide +kernel
theorem dX6_upAhead_13 : decode cX6_upAhead 13 = .ok (.iload_n 2, 1) := by decide +kernel
theorem dX6_upAhead_14 : decode cX6_upAhead 14 = .ok (.i2l, 1) := by decide +kernel
theorem dX6_upAhead_15 : decode cX6_upAhead 15 = .ok (.lconst 0, 1) := by decide +kernel
theorem dX6_upAhead_16 : decode cX6_upAhead 16 = .ok (.ldc2_w 225, 3) := by decide +kernel
theorem dX6_upAhead_19 : decode cX6_upAhead 19 = .ok (.invokestatic 57, 3) := by decide +kernel
theorem dX6_upAhead_22 : decode cX6_upAhead 22 = .ok (.ifCond .ne 6, 3) := by decide +kernel
theorem dX6_upAhead_25 : decode cX6_upAhead 25 = .ok (.ldc 67, 2) := by decide +kernel
theorem dX6_upAhead_27 : decode cX6_upAhead 27 = .ok (.ireturn, 1) := by decide +kernel
theorem dX6_upAhead_28 : decode cX6_upAhead 28 = .ok (.aload_n 0, 1) := by decide +kernel
theorem dX6_upAhead_29 : decode cX6_upAhead 29 = .ok (.invokevirtual 207, 3) := by decide +kernel
theorem dX6_upAhead_32 : decode cX6_upAhead 32 = .ok (.aload_n 0, 1) := by decide +kernel
theorem dX6_upAhead_33 : decode cX6_upAhead 33 = .ok (.getfield 25, 3) := by decide +kernel
theorem dX6_upAhead_36 : decode cX6_upAhead 36 = .ok (.iload_n 2, 1) := by decide +kernel
theorem dX6_upAhead_37 : decode cX6_upAhead 37 = .ok (.invokestatic 227, 3) := by decide +kernel
theorem dX6_upAhead_40 : decode cX6_upAhead 40 = .ok (.aload_n 0, 1) := by decide +kernel
theorem dX6_upAhead_41 : decode cX6_upAhead 41 = .ok (.getfield 25, 3) := by decide +kernel
theorem dX6_upAhead_44 : decode cX6_upAhead 44 = .ok (.iload_n 1, 1) := by decide +kernel
theorem dX6_upAhead_45 : decode cX6_upAhead 45 = .ok (.iconst 4, 1) := by decide +kernel
theorem dX6_upAhead_46 : decode cX6_upAhead 46 = .ok (.invokestatic 155, 3) := by decide +kernel
theorem dX6_upAhead_49 : decode cX6_upAhead 49 = .ok (.ireturn, 1) := by decide +kernel
set_option maxRecDepth 20000 in
theorem ggX6_chill_X6_isRoom : GoodIn wsX6_chill wsX6_isRoom := goodIn_r _ [9, 10, 11, 12, 8, 13, 42, 43, 44, 45, 46, 47, 48, 49, 50, 51, 52, 53, 54, 55, 56, 57, 58, 59, 60, 61, 62, 63, 64, 65] (by decide +kernel) (by decide +kernel)
set_option maxRecDepth 20000 in
theorem gX6_chill_X6_isRoom : GoodIn wsX6_chill (wsV RX6 213 RX6 yX6_isRoom wsX6_isRoom) := goodIn_app (goodIn_of _ (by decide +kernel)) ggX6_chill_X6_isRoom
theorem dX6_chill_0 : decode cX6_chill 0 = .ok (.aload_n 0, 1) := by decide +kernel
theorem dX6_chill_1 : decode cX6_chill 1 = .ok (.iconst 0, 1) := by decide +kernel
theorem dX6_chill_2 : decode cX6_chill 2 = .ok (.putfield 47, 3) := by decide +kernel
theorem dX6_chill_5 : decode cX6_chill 5 = .ok (.aload_n 0, 1) := by decide +kernel
theorem dX6_chill_6 : decode cX6_chill 6 = .ok (.iload_n 1, 1) := by decide +kernel
theorem dX6_chill_7 : decode cX6_chill 7 = .ok (.invokevirtual 213, 3) := by decide +kernel
theorem dX6_chill_10 : decode cX6_chill 10 = .ok (.ifCond .ne 6, 3) := by decide +kernel
theorem dX6_chill_13 : decode cX6_chill 13 = .ok (.ldc 67, 2) := by decide +kernel
theorem dX6_chill_15 : decode cX6_chill 15 = .ok (.ireturn, 1) := by decide +kernel
theorem dX6_chill_16 : decode cX6_chill 16 = .ok (.aload_n 0, 1) := by decide +kernel
theorem dX6_chill_17 : decode cX6_chill 17 = .ok (.invokevirtual 207, 3) := by decide +kernel
theorem dX6_chill_20 : decode cX6_chill 20 = .ok (.iconst 0, 1) := by decide +kernel
theorem dX6_chill_21 : decode cX6_chill 21 = .ok (.istore_n 2, 1) := by decide +kernel
theorem dX6_chill_22 : decode cX6_chill 22 = .ok (.iload_n 2, 1) := by decide +kernel
theorem dX6_chill_23 : decode cX6_chill 23 = .ok (.bipush 60, 2) := by decide +kernel
theorem dX6_chill_25 : decode cX6_chill 25 = .ok (.if_icmp .gt 29, 3) := by decide +kernel
theorem dX6_chill_28 : decode cX6_chill 28 = .ok (.aload_n 0, 1) := by decide +kernel
theorem dX6_chill_29 : decode cX6_chill 29 = .ok (.getfield 25, 3) := by decide +kernel
theorem dX6_chill_32 : decode cX6_chill 32 = .ok (.iload_n 1, 1) := by decide +kernel
theorem dX6_chill_33 : decode cX6_chill 33 = .ok (.invokestatic 167, 3) := by decide +kernel
theorem dX6_chill_36 : decode cX6_chill 36 = .ok (.ifCond .eq 5, 3) := by decide +kernel
theorem dX6_chill_39 : decode cX6_chill 39 = .ok (.iload_n 2, 1) := by decide +kernel
theorem dX6_chill_40 : decode cX6_chill 40 = .ok (.ireturn, 1) := by decide +kernel
theorem dX6_chill_41 : decode cX6_chill 41 = .ok (.aload_n 0, 1) := by decide +kernel
theorem dX6_chill_42 : decode cX6_chill 42 = .ok (.getfield 25, 3) := by decide +kernel
theorem dX6_chill_45 : decode cX6_chill 45 = .ok (.invokestatic 181, 3) := by decide +kernel
theorem dX6_chill_48 : decode cX6_chill 48 = .ok (.iinc 2 1, 3) := by decide +kernel
theorem dX6_chill_51 : decode cX6_chill 51 = .ok (.goto (-29), 3) := by decide +kernel
theorem dX6_chill_54 : decode cX6_chill 54 = .ok (.ldc 90, 2) := by decide +kernel
theorem dX6_chill_56 : decode cX6_chill 56 = .ok (.ireturn, 1) := by decide +kernel
set_option maxRecDepth 20000 in
theorem ggX6_first_X6_isThere : GoodIn wsX6_first wsX6_isThere := goodIn_r _ [11, 4, 43, 44, 45, 46, 47, 48, 49, 50, 51, 52, 53, 54, 55, 56, 57, 58, 59, 60, 61, 62, 63, 64, 65, 66] (by decide +kernel) (by decide +kernel)
set_option maxRecDepth 20000 in
theorem gX6_first_X6_isThere : GoodIn wsX6_first (wsV RX6 152 RX6 yX6_isThere wsX6_isThere) := goodIn_app (goodIn_of _ (by decide +kernel)) ggX6_first_X6_isThere
set_option maxRecDepth 20000 in
theorem ggX6_first_X6_in : GoodIn wsX6_first wsX6_in := goodIn_r _ [14] (by decide +kernel) (by decide +kernel)
set_option maxRecDepth 20000 in
theorem gX6_first_X6_in : GoodIn wsX6_first (va_wsS RX6 57 yX6_in wsX6_in) := goodIn_app (goodIn_of _ (by decide +kernel)) ggX6_first_X6_in
theorem dX6_first_0 : decode cX6_first 0 = .ok (.aload_n 0, 1) := by decide +kernel
theorem dX6_first_1 : decode cX6_first 1 = .ok (.iconst 0, 1) := by decide +kernel
theorem dX6_first_2 : decode cX6_first 2 = .ok (.putfield 47, 3) := by decide +kernel
theorem dX6_first_5 : decode cX6_first 5 = .ok (.aload_n 0, 1) := by decide +kernel
theorem dX6_first_6 : decode cX6_first 6 = .ok (.invokevirtual 152, 3) := by decide +kernel
theorem dX6_first_9 : decode cX6_first 9 = .ok (.ifCond .ne 6, 3) := by decide +kernel
theorem dX6_first_12 : decode cX6_first 12 = .ok (.ldc 189, 2) := by decide +kernel
theorem dX6_first_14 : decode cX6_first 14 = .ok (.ireturn, 1) := by decide +kernel
theorem dX6_first_15 : decode cX6_first 15 = .ok (.iload_n 1, 1) := by decide +kernel
theorem dX6_first_16 : decode cX6_first 16 = .ok (.i2l, 1) := by decide +kernel
theorem dX6_first_17 : decode cX6_first 17 = .ok (.lconst 0, 1) := by decide +kernel
theorem dX6_first_18 : decode cX6_first 18 = .ok (.lconst 1, 1) := by decide +kernel
theorem dX6_first_19 : decode cX6_first 19 = .ok (.invokestatic 57, 3) := by decide +kernel
theorem dX6_first_22 : decode cX6_first 22 = .ok (.ifCond .ne 6, 3) := by decide +kernel
theorem dX6_first_25 : decode cX6_first 25 = .ok (.ldc 67, 2) := by decide +kernel
theorem dX6_first_27 : decode cX6_first 27 = .ok (.ireturn, 1) := by decide +kernel
theorem dX6_first_28 : decode cX6_first 28 = .ok (.aload_n 0, 1) := by decide +kernel
theorem dX6_first_29 : decode cX6_first 29 = .ok (.invokevirtual 207, 3) := by decide +kernel
theorem dX6_first_32 : decode cX6_first 32 = .ok (.iconst 0, 1) := by decide +kernel
theorem dX6_first_33 : decode cX6_first 33 = .ok (.istore_n 2, 1) := by decide +kernel
theorem dX6_first_34 : decode cX6_first 34 = .ok (.iload_n 2, 1) := by decide +kernel
theorem dX6_first_35 : decode cX6_first 35 = .ok (.bipush 60, 2) := by decide +kernel
theorem dX6_first_37 : decode cX6_first 37 = .ok (.if_icmp .gt 55, 3) := by decide +kernel
theorem dX6_first_40 : decode cX6_first 40 = .ok (.iconst 0, 1) := by decide +kernel
theorem dX6_first_41 : decode cX6_first 41 = .ok (.istore_n 3, 1) := by decide +kernel
theorem dX6_first_42 : decode cX6_first 42 = .ok (.iload_n 3, 1) := by decide +kernel
theorem dX6_first_43 : decode cX6_first 43 = .ok (.aload_n 0, 1) := by decide +kernel
theorem dX6_first_44 : decode cX6_first 44 = .ok (.getfield 19, 3) := by decide +kernel
theorem dX6_first_47 : decode cX6_first 47 = .ok (.iconst 0, 1) := by decide +kernel
theorem dX6_first_48 : decode cX6_first 48 = .ok (.iaload, 1) := by decide +kernel
theorem dX6_first_49 : decode cX6_first 49 = .ok (.if_icmp .ge 30, 3) := by decide +kernel
theorem dX6_first_52 : decode cX6_first 52 = .ok (.aload_n 0, 1) := by decide +kernel
theorem dX6_first_53 : decode cX6_first 53 = .ok (.getfield 25, 3) := by decide +kernel
theorem dX6_first_56 : decode cX6_first 56 = .ok (.iload_n 3, 1) := by decide +kernel
theorem dX6_first_57 : decode cX6_first 57 = .ok (.invokestatic 167, 3) := by decide +kernel
theorem dX6_first_60 : decode cX6_first 60 = .ok (.ifCond .eq 13, 3) := by decide +kernel
theorem dX6_first_63 : decode cX6_first 63 = .ok (.iload_n 1, 1) := by decide +kernel
theorem dX6_first_64 : decode cX6_first 64 = .ok (.ifCond .ne 7, 3) := by decide +kernel
theorem dX6_first_67 : decode cX6_first 67 = .ok (.iload_n 3, 1) := by decide +kernel
theorem dX6_first_68 : decode cX6_first 68 = .ok (.goto 4, 3) := by decide +kernel
theorem dX6_first_71 : decode cX6_first 71 = .ok (.iload_n 2, 1) := by decide +kernel
theorem dX6_first_72 : decode cX6_first 72 = .ok (.ireturn, 1) := by decide +kernel
theorem dX6_first_73 : decode cX6_first 73 = .ok (.iinc 3 1, 3) := by decide +kernel
theorem dX6_first_76 : decode cX6_first 76 = .ok (.goto (-34), 3) := by decide +kernel
theorem dX6_first_79 : decode cX6_first 79 = .ok (.aload_n 0, 1) := by decide +kernel
theorem dX6_first_80 : decode cX6_first 80 = .ok (.getfield 25, 3) := by decide +kernel
theorem dX6_first_83 : decode cX6_first 83 = .ok (.invokestatic 181, 3) := by decide +kernel
theorem dX6_first_86 : decode cX6_first 86 = .ok (.iinc 2 1, 3) := by decide +kernel
theorem dX6_first_89 : decode cX6_first 89 = .ok (.goto (-55), 3) := by decide +kernel
theorem dX6_first_92 : decode cX6_first 92 = .ok (.ldc 90, 2) := by decide +kernel
theorem dX6_first_94 : decode cX6_first 94 = .ok (.ireturn, 1) := by decide +kernel
set_option maxRecDepth 20000 in
theorem ggX6_filled_X6_isTube : GoodIn wsX6_filled wsX6_isTube := goodIn_r _ [9, 10, 11, 12, 8, 13, 42, 43, 44, 45, 46, 47, 48, 49, 50, 51, 52, 53, 54, 55, 56, 57, 58, 59, 60, 61, 62, 63, 64, 65] (by decide +kernel) (by decide +kernel)
set_option maxRecDepth 20000 in
theorem gX6_filled_X6_isTube : GoodIn wsX6_filled (wsV RX6 198 RX6 yX6_isTube wsX6_isTube) := goodIn_app (goodIn_of _ (by decide +kernel)) ggX6_filled_X6_isTube
theorem dX6_filled_0 : decode cX6_filled 0 = .ok (.aload_n 0, 1) := by decide +kernel
theorem dX6_filled_1 : decode cX6_filled 1 = .ok (.iconst 0, 1) := by decide +kernel
theorem dX6_filled_2 : decode cX6_filled 2 = .ok (.putfield 47, 3) := by decide +kernel
theorem dX6_filled_5 : decode cX6_filled 5 = .ok (.aload_n 0, 1) := by decide +kernel
theorem dX6_filled_6 : decode cX6_filled 6 = .ok (.iload_n 1, 1) := by decide +kernel
theorem dX6_filled_7 : decode cX6_filled 7 = .ok (.invokevirtual 198, 3) := by decide +kernel
theorem dX6_filled_10 : decode cX6_filled 10 = .ok (.ifCond .ne 6, 3) := by decide +kernel
theorem dX6_filled_13 : decode cX6_filled 13 = .ok (.ldc 67, 2) := by decide +kernel
theorem dX6_filled_15 : decode cX6_filled 15 = .ok (.ireturn, 1) := by decide +kernel
theorem dX6_filled_16 : decode cX6_filled 16 = .ok (.aload_n 0, 1) := by decide +kernel
theorem dX6_filled_17 : decode cX6_filled 17 = .ok (.invokevirtual 207, 3) := by decide +kernel
theorem dX6_filled_20 : decode cX6_filled 20 = .ok (.iconst 0, 1) := by decide +kernel
theorem dX6_filled_21 : decode cX6_filled 21 = .ok (.istore_n 2, 1) := by decide +kernel
theorem dX6_filled_22 : decode cX6_filled 22 = .ok (.iload_n 2, 1) := by decide +kernel
theorem dX6_filled_23 : decode cX6_filled 23 = .ok (.bipush 60, 2) := by decide +kernel
theorem dX6_filled_25 : decode cX6_filled 25 = .ok (.if_icmp .gt 39, 3) := by decide +kernel
theorem dX6_filled_28 : decode cX6_filled 28 = .ok (.aload_n 0, 1) := by decide +kernel
theorem dX6_filled_29 : decode cX6_filled 29 = .ok (.getfield 25, 3) := by decide +kernel
theorem dX6_filled_32 : decode cX6_filled 32 = .ok (.iload_n 1, 1) := by decide +kernel
theorem dX6_filled_33 : decode cX6_filled 33 = .ok (.iconst 4, 1) := by decide +kernel
theorem dX6_filled_34 : decode cX6_filled 34 = .ok (.invokestatic 155, 3) := by decide +kernel
theorem dX6_filled_37 : decode cX6_filled 37 = .ok (.aload_n 0, 1) := by decide +kernel
theorem dX6_filled_38 : decode cX6_filled 38 = .ok (.getfield 25, 3) := by decide +kernel
theorem dX6_filled_41 : decode cX6_filled 41 = .ok (.iload_n 1, 1) := by decide +kernel
theorem dX6_filled_42 : decode cX6_filled 42 = .ok (.iconst 3, 1) := by decide +kernel
theorem dX6_filled_43 : decode cX6_filled 43 = .ok (.invokestatic 155, 3) := by decide +kernel
theorem dX6_filled_46 : decode cX6_filled 46 = .ok (.if_icmp .ne 5, 3) := by decide +kernel
theorem dX6_filled_49 : decode cX6_filled 49 = .ok (.iload_n 2, 1) := by decide +kernel
theorem dX6_filled_50 : decode cX6_filled 50 = .ok (.ireturn, 1) := by decide +kernel
theorem dX6_filled_51 : decode cX6_filled 51 = .ok (.aload_n 0, 1) := by decide +kernel
theorem dX6_filled_52 : decode cX6_filled 52 = .ok (.getfield 25, 3) := by decide +kernel
theorem dX6_filled_55 : decode cX6_filled 55 = .ok (.invokestatic 181, 3) := by decide +kernel
theorem dX6_filled_58 : decode cX6_filled 58 = .ok (.iinc 2 1, 3) := by decide +kernel
theorem dX6_filled_61 : decode cX6_filled 61 = .ok (.goto (-39), 3) := by decide +kernel
theorem dX6_filled_64 : decode cX6_filled 64 = .ok (.ldc 90, 2) := by decide +kernel
theorem dX6_filled_66 : decode cX6_filled 66 = .ok (.ireturn, 1) := by decide +kernel
set_option maxRecDepth 20000 in
theorem ggX6_outs_X6_isRoom : GoodIn wsX6_outs wsX6_isRoom := goodIn_r _ [10, 11, 12, 13, 9, 14, 60, 61, 62, 63, 64, 65, 66, 67, 68, 69, 70, 71, 72, 73, 74, 75, 76, 77, 78, 79, 80, 81, 82, 83] (by decide +kernel) (by decide +kernel)
set_option maxRecDepth 20000 in
theorem gX6_outs_X6_isRoom : GoodIn wsX6_outs (wsV RX6 213 RX6 yX6_isRoom wsX6_isRoom) := goodIn_app (goodIn_of _ (by decide +kernel)) ggX6_outs_X6_isRoom
set_option maxRecDepth 20000 in
theorem ggX6_outs_X6_in : GoodIn wsX6_outs wsX6_in := goodIn_r _ [14] (by decide +kernel) (by decide +kernel)
set_option maxRecDepth 20000 in
theorem gX6_outs_X6_in : GoodIn wsX6_outs (va_wsS RX6 57 yX6_in wsX6_in) := goodIn_app (goodIn_of _ (by decide +kernel)) ggX6_outs_X6_in
theorem dX6_outs_0 : decode cX6_outs 0 = .ok (.aload_n 0, 1) := by decide +kernel
theorem dX6_outs_1 : decode cX6_outs 1 = .ok (.iconst 0, 1) := by decide +kernel
theorem dX6_outs_2 : decode cX6_outs 2 = .ok (.putfield 47, 3) := by decide +kernel
theorem dX6_outs_5 : decode cX6_outs 5 = .ok (.aload_n 0, 1) := by decide +kernel
theorem dX6_outs_6 : decode cX6_outs 6 = .ok (.iload_n 1, 1) := by decide +kernel
theorem dX6_outs_7 : decode cX6_outs 7 = .ok (.invokevirtual 213, 3) := by decide +kernel
theorem dX6_outs_10 : decode cX6_outs 10 = .ok (.ifCond .eq 25, 3) := by decide +kernel
theorem dX6_outs_13 : decode cX6_outs 13 = .ok (.iload_n 2, 1) := by decide +kernel
theorem dX6_outs_14 : decode cX6_outs 14 = .ok (.i2l, 1) := by decide +kernel
theorem dX6_outs_15 : decode cX6_outs 15 = .ok (.lconst 1, 1) := by decide +kernel
theorem dX6_outs_16 : decode cX6_outs 16 = .ok (.ldc2_w 235, 3) := by decide +kernel
theorem dX6_outs_19 : decode cX6_outs 19 = .ok (.invokestatic 57, 3) := by decide +kernel
theorem dX6_outs_22 : decode cX6_outs 22 = .ok (.ifCond .eq 13, 3) := by decide +kernel
theorem dX6_outs_25 : decode cX6_outs 25 = .ok (.iload_n 3, 1) := by decide +kernel
theorem dX6_outs_26 : decode cX6_outs 26 = .ok (.i2l, 1) := by decide +kernel
theorem dX6_outs_27 : decode cX6_outs 27 = .ok (.lconst 0, 1) := by decide +kernel
theorem dX6_outs_28 : decode cX6_outs 28 = .ok (.lconst 1, 1) := by decide +kernel
theorem dX6_outs_29 : decode cX6_outs 29 = .ok (.invokestatic 57, 3) := by decide +kernel
theorem dX6_outs_32 : decode cX6_outs 32 = .ok (.ifCond .ne 6, 3) := by decide +kernel
theorem dX6_outs_35 : decode cX6_outs 35 = .ok (.ldc 67, 2) := by decide +kernel
theorem dX6_outs_37 : decode cX6_outs 37 = .ok (.ireturn, 1) := by decide +kernel
theorem dX6_outs_38 : decode cX6_outs 38 = .ok (.ldc 90, 2) := by decide +kernel
theorem dX6_outs_40 : decode cX6_outs 40 = .ok (.istore 4, 2) := by decide +kernel
theorem dX6_outs_42 : decode cX6_outs 42 = .ok (.iconst 0, 1) := by decide +kernel
theorem dX6_outs_43 : decode cX6_outs 43 = .ok (.istore 5, 2) := by decide +kernel
theorem dX6_outs_45 : decode cX6_outs 45 = .ok (.iload 5, 2) := by decide +kernel
theorem dX6_outs_47 : decode cX6_outs 47 = .ok (.aload_n 0, 1) := by decide +kernel
theorem dX6_outs_48 : decode cX6_outs 48 = .ok (.invokevirtual 237, 3) := by decide +kernel
theorem dX6_outs_51 : decode cX6_outs 51 = .ok (.if_icmp .gt 109, 3) := by decide +kernel
theorem dX6_outs_54 : decode cX6_outs 54 = .ok (.iload 5, 2) := by decide +kernel
theorem dX6_outs_56 : decode cX6_outs 56 = .ok (.aload_n 0, 1) := by decide +kernel
theorem dX6_outs_57 : decode cX6_outs 57 = .ok (.invokevirtual 237, 3) := by decide +kernel
theorem dX6_outs_60 : decode cX6_outs 60 = .ok (.iconst (-1), 1) := by decide +kernel
theorem dX6_outs_61 : decode cX6_outs 61 = .ok (.ixor, 1) := by decide +kernel
theorem dX6_outs_62 : decode cX6_outs 62 = .ok (.iand, 1) := by decide +kernel
theorem dX6_outs_63 : decode cX6_outs 63 = .ok (.ifCond .ne 91, 3) := by decide +kernel
theorem dX6_outs_66 : decode cX6_outs 66 = .ok (.iload 4, 2) := by decide +kernel
theorem dX6_outs_68 : decode cX6_outs 68 = .ok (.ldc 90, 2) := by decide +kernel
theorem dX6_outs_70 : decode cX6_outs 70 = .ok (.if_icmp .eq 16, 3) := by decide +kernel
theorem dX6_outs_73 : decode cX6_outs 73 = .ok (.iload 5, 2) := by decide +kernel
theorem dX6_outs_75 : decode cX6_outs 75 = .ok (.invokestatic 241, 3) := by decide +kernel
theorem dX6_outs_78 : decode cX6_outs 78 = .ok (.iload 4, 2) := by decide +kernel
theorem dX6_outs_80 : decode cX6_outs 80 = .ok (.invokestatic 241, 3) := by decide +kernel
theorem dX6_outs_83 : decode cX6_outs 83 = .ok (.if_icmp .ge 71, 3) := by decide +kernel
theorem dX6_outs_86 : decode cX6_outs 86 = .ok (.aload_n 0, 1) := by decide +kernel
theorem dX6_outs_87 : decode cX6_outs 87 = .ok (.iload 5, 2) := by decide +kernel
theorem dX6_outs_89 : decode cX6_outs 89 = .ok (.invokevirtual 244, 3) := by decide +kernel
theorem dX6_outs_92 : decode cX6_outs 92 = .ok (.iconst 1, 1) := by decide +kernel
theorem dX6_outs_93 : decode cX6_outs 93 = .ok (.istore 6, 2) := by decide +kernel
theorem dX6_outs_95 : decode cX6_outs 95 = .ok (.iconst 0, 1) := by decide +kernel
theorem dX6_outs_96 : decode cX6_outs 96 = .ok (.istore 7, 2) := by decide +kernel
theorem dX6_outs_98 : decode cX6_outs 98 = .ok (.iload 7, 2) := by decide +kernel
theorem dX6_outs_100 : decode cX6_outs 100 = .ok (.iload_n 2, 1) := by decide +kernel
theorem dX6_outs_101 : decode cX6_outs 101 = .ok (.if_icmp .ge 39, 3) := by decide +kernel
theorem dX6_outs_104 : decode cX6_outs 104 = .ok (.iload 6, 2) := by decide +kernel
theorem dX6_outs_106 : decode cX6_outs 106 = .ok (.ifCond .eq 34, 3) := by decide +kernel
theorem dX6_outs_109 : decode cX6_outs 109 = .ok (.aload_n 0, 1) := by decide +kernel
theorem dX6_outs_110 : decode cX6_outs 110 = .ok (.getfield 25, 3) := by decide +kernel
theorem dX6_outs_113 : decode cX6_outs 113 = .ok (.invokestatic 181, 3) := by decide +kernel
theorem dX6_outs_116 : decode cX6_outs 116 = .ok (.aload_n 0, 1) := by decide +kernel
theorem dX6_outs_117 : decode cX6_outs 117 = .ok (.getfield 25, 3) := by decide +kernel
theorem dX6_outs_120 : decode cX6_outs 120 = .ok (.iload_n 1, 1) := by decide +kernel
theorem dX6_outs_121 : decode cX6_outs 121 = .ok (.invokestatic 167, 3) := by decide +kernel
theorem dX6_outs_124 : decode cX6_outs 124 = .ok (.ifCond .ne 7, 3) := by decide +kernel
theorem dX6_outs_127 : decode cX6_outs 127 = .ok (.iconst 1, 1) := by decide +kernel
theorem dX6_outs_128 : decode cX6_outs 128 = .ok (.goto 4, 3) := by decide +kernel
theorem dX6_outs_131 : decode cX6_outs 131 = .ok (.iconst 0, 1) := by decide +kernel
theorem dX6_outs_132 : decode cX6_outs 132 = .ok (.istore 6, 2) := by decide +kernel
theorem dX6_outs_134 : decode cX6_outs 134 = .ok (.iinc 7 1, 3) := by decide +kernel
theorem dX6_outs_137 : decode cX6_outs 137 = .ok (.goto (-39), 3) := by decide +kernel
theorem dX6_outs_140 : decode cX6_outs 140 = .ok (.iload 6, 2) := by decide +kernel
theorem dX6_outs_142 : decode cX6_outs 142 = .ok (.ifCond .eq 8, 3) := by decide +kernel
theorem dX6_outs_145 : decode cX6_outs 145 = .ok (.iload 5, 2) := by decide +kernel
theorem dX6_outs_147 : decode cX6_outs 147 = .ok (.goto 5, 3) := by decide +kernel
theorem dX6_outs_150 : decode cX6_outs 150 = .ok (.iload 4, 2) := by decide +kernel
theorem dX6_outs_152 : decode cX6_outs 152 = .ok (.istore 4, 2) := by decide +kernel
theorem dX6_outs_154 : decode cX6_outs 154 = .ok (.iinc 5 1, 3) := by decide +kernel
theorem dX6_outs_157 : decode cX6_outs 157 = .ok (.goto (-112), 3) := by decide +kernel
theorem dX6_outs_160 : decode cX6_outs 160 = .ok (.iload 4, 2) := by decide +kernel
theorem dX6_outs_162 : decode cX6_outs 162 = .ok (.ldc 90, 2) := by decide +kernel
theorem dX6_outs_164 : decode cX6_outs 164 = .ok (.if_icmp .eq 8, 3) := by decide +kernel
theorem dX6_outs_167 : decode cX6_outs 167 = .ok (.iload_n 3, 1) := by decide +kernel
theorem dX6_outs_168 : decode cX6_outs 168 = .ok (.iconst 1, 1) := by decide +kernel
theorem dX6_outs_169 : decode cX6_outs 169 = .ok (.if_icmp .ne 8, 3) := by decide +kernel
theorem dX6_outs_172 : decode cX6_outs 172 = .ok (.iload 4, 2) := by decide +kernel
theorem dX6_outs_174 : decode cX6_outs 174 = .ok (.goto 8, 3) := by decide +kernel
theorem dX6_outs_177 : decode cX6_outs 177 = .ok (.iload 4, 2) := by decide +kernel
theorem dX6_outs_179 : decode cX6_outs 179 = .ok (.invokestatic 241, 3) := by decide +kernel
theorem dX6_outs_182 : decode cX6_outs 182 = .ok (.ireturn, 1) := by decide +kernel
set_option maxRecDepth 20000 in
theorem ggX6_shakes_X6_isRoom : GoodIn wsX6_shakes wsX6_isRoom := goodIn_r _ [11, 4, 12, 13, 10, 14, 62, 63, 64, 65, 66, 67, 68, 69, 70, 71, 72, 73, 74, 75, 76, 77, 78, 79, 80, 81, 82, 83, 84, 85] (by decide +kernel) (by decide +kernel)
set_option maxRecDepth 20000 in
theorem gX6_shakes_X6_isRoom : GoodIn wsX6_shakes (wsV RX6 213 RX6 yX6_isRoom wsX6_isRoom) := goodIn_app (goodIn_of _ (by decide +kernel)) ggX6_shakes_X6_isRoom
set_option maxRecDepth 20000 in
theorem ggX6_shakes_X6_in : GoodIn wsX6_shakes wsX6_in := goodIn_r _ [14] (by decide +kernel) (by decide +kernel)
set_option maxRecDepth 20000 in
theorem gX6_shakes_X6_in : GoodIn wsX6_shakes (va_wsS RX6 57 yX6_in wsX6_in) := goodIn_app (goodIn_of _ (by decide +kernel)) ggX6_shakes_X6_in
theorem dX6_shakes_0 : decode cX6_shakes 0 = .ok (.aload_n 0, 1) := by decide +kernel
theorem dX6_shakes_1 : decode cX6_shakes 1 = .ok (.iconst 0, 1) := by decide +kernel
theorem dX6_shakes_2 : decode cX6_shakes 2 = .ok (.putfield 47, 3) := by decide +kernel
theorem dX6_shakes_5 : decode cX6_shakes 5 = .ok (.aload_n 0, 1) := by decide +kernel
theorem dX6_shakes_6 : decode cX6_shakes 6 = .ok (.iload_n 1, 1) := by decide +kernel
theorem dX6_shakes_7 : decode cX6_shakes 7 = .ok (.invokevirtual 213, 3) := by decide +kernel
theorem dX6_shakes_10 : decode cX6_shakes 10 = .ok (.ifCond .eq 25, 3) := by decide +kernel
theorem dX6_shakes_13 : decode cX6_shakes 13 = .ok (.iload_n 2, 1) := by decide +kernel
theorem dX6_shakes_14 : decode cX6_shakes 14 = .ok (.i2l, 1) := by decide +kernel
theorem dX6_shakes_15 : decode cX6_shakes 15 = .ok (.lconst 1, 1) := by decide +kernel
theorem dX6_shakes_16 : decode cX6_shakes 16 = .ok (.ldc2_w 235, 3) := by decide +kernel
theorem dX6_shakes_19 : decode cX6_shakes 19 = .ok (.invokestatic 57, 3) := by decide +kernel
theorem dX6_shakes_22 : decode cX6_shakes 22 = .ok (.ifCond .eq 13, 3) := by decide +kernel
theorem dX6_shakes_25 : decode cX6_shakes 25 = .ok (.iload_n 3, 1) := by decide +kernel
theorem dX6_shakes_26 : decode cX6_shakes 26 = .ok (.i2l, 1) := by decide +kernel
theorem dX6_shakes_27 : decode cX6_shakes 27 = .ok (.lconst 0, 1) := by decide +kernel
theorem dX6_shakes_28 : decode cX6_shakes 28 = .ok (.lconst 1, 1) := by decide +kernel
theorem dX6_shakes_29 : decode cX6_shakes 29 = .ok (.invokestatic 57, 3) := by decide +kernel
theorem dX6_shakes_32 : decode cX6_shakes 32 = .ok (.ifCond .ne 6, 3) := by decide +kernel
theorem dX6_shakes_35 : decode cX6_shakes 35 = .ok (.ldc 67, 2) := by decide +kernel
theorem dX6_shakes_37 : decode cX6_shakes 37 = .ok (.ireturn, 1) := by decide +kernel
theorem dX6_shakes_38 : decode cX6_shakes 38 = .ok (.aload_n 0, 1) := by decide +kernel
theorem dX6_shakes_39 : decode cX6_shakes 39 = .ok (.getfield 19, 3) := by decide +kernel
theorem dX6_shakes_42 : decode cX6_shakes 42 = .ok (.iload_n 1, 1) := by decide +kernel
theorem dX6_shakes_43 : decode cX6_shakes 43 = .ok (.invokestatic 222, 3) := by decide +kernel
theorem dX6_shakes_46 : decode cX6_shakes 46 = .ok (.istore 4, 2) := by decide +kernel
theorem dX6_shakes_48 : decode cX6_shakes 48 = .ok (.ldc 90, 2) := by decide +kernel
theorem dX6_shakes_50 : decode cX6_shakes 50 = .ok (.istore 5, 2) := by decide +kernel
theorem dX6_shakes_52 : decode cX6_shakes 52 = .ok (.iconst 0, 1) := by decide +kernel
theorem dX6_shakes_53 : decode cX6_shakes 53 = .ok (.istore 6, 2) := by decide +kernel
theorem dX6_shakes_55 : decode cX6_shakes 55 = .ok (.iload 6, 2) := by decide +kernel
theorem dX6_shakes_57 : decode cX6_shakes 57 = .ok (.iload 4, 2) := by decide +kernel
theorem dX6_shakes_59 : decode cX6_shakes 59 = .ok (.if_icmp .gt 73, 3) := by decide +kernel
theorem dX6_shakes_62 : decode cX6_shakes 62 = .ok (.iload 6, 2) := by decide +kernel
theorem dX6_shakes_64 : decode cX6_shakes 64 = .ok (.iload 4, 2) := by decide +kernel
theorem dX6_shakes_66 : decode cX6_shakes 66 = .ok (.iconst (-1), 1) := by decide +kernel
theorem dX6_shakes_67 : decode cX6_shakes 67 = .ok (.ixor, 1) := by decide +kernel
theorem dX6_shakes_68 : decode cX6_shakes 68 = .ok (.iand, 1) := by decide +kernel
theorem dX6_shakes_69 : decode cX6_shakes 69 = .ok (.ifCond .ne 57, 3) := by decide +kernel
theorem dX6_shakes_72 : decode cX6_shakes 72 = .ok (.iload 5, 2) := by decide +kernel
theorem dX6_shakes_74 : decode cX6_shakes 74 = .ok (.ldc 90, 2) := by decide +kernel
theorem dX6_shakes_76 : decode cX6_shakes 76 = .ok (.if_icmp .eq 16, 3) := by decide +kernel
theorem dX6_shakes_79 : decode cX6_shakes 79 = .ok (.iload 6, 2) := by decide +kernel
theorem dX6_shakes_81 : decode cX6_shakes 81 = .ok (.invokestatic 241, 3) := by decide +kernel
theorem dX6_shakes_84 : decode cX6_shakes 84 = .ok (.iload 5, 2) := by decide +kernel
theorem dX6_shakes_86 : decode cX6_shakes 86 = .ok (.invokestatic 241, 3) := by decide +kernel
theorem dX6_shakes_89 : decode cX6_shakes 89 = .ok (.if_icmp .ge 37, 3) := by decide +kernel
theorem dX6_shakes_92 : decode cX6_shakes 92 = .ok (.aload_n 0, 1) := by decide +kernel
theorem dX6_shakes_93 : decode cX6_shakes 93 = .ok (.iload 6, 2) := by decide +kernel
theorem dX6_shakes_95 : decode cX6_shakes 95 = .ok (.invokevirtual 247, 3) := by decide +kernel
theorem dX6_shakes_98 : decode cX6_shakes 98 = .ok (.aload_n 0, 1) := by decide +kernel
theorem dX6_shakes_99 : decode cX6_shakes 99 = .ok (.getfield 25, 3) := by decide +kernel
theorem dX6_shakes_102 : decode cX6_shakes 102 = .ok (.iload_n 2, 1) := by decide +kernel
theorem dX6_shakes_103 : decode cX6_shakes 103 = .ok (.invokestatic 227, 3) := by decide +kernel
theorem dX6_shakes_106 : decode cX6_shakes 106 = .ok (.aload_n 0, 1) := by decide +kernel
theorem dX6_shakes_107 : decode cX6_shakes 107 = .ok (.getfield 25, 3) := by decide +kernel
theorem dX6_shakes_110 : decode cX6_shakes 110 = .ok (.iload_n 1, 1) := by decide +kernel
theorem dX6_shakes_111 : decode cX6_shakes 111 = .ok (.invokestatic 167, 3) := by decide +kernel
theorem dX6_shakes_114 : decode cX6_shakes 114 = .ok (.ifCond .eq 8, 3) := by decide +kernel
theorem dX6_shakes_117 : decode cX6_shakes 117 = .ok (.iload 5, 2) := by decide +kernel
theorem dX6_shakes_119 : decode cX6_shakes 119 = .ok (.goto 5, 3) := by decide +kernel
theorem dX6_shakes_122 : decode cX6_shakes 122 = .ok (.iload 6, 2) := by decide +kernel
theorem dX6_shakes_124 : decode cX6_shakes 124 = .ok (.istore 5, 2) := by decide +kernel
theorem dX6_shakes_126 : decode cX6_shakes 126 = .ok (.iinc 6 1, 3) := by decide +kernel
theorem dX6_shakes_129 : decode cX6_shakes 129 = .ok (.goto (-74), 3) := by decide +kernel
theorem dX6_shakes_132 : decode cX6_shakes 132 = .ok (.iload 5, 2) := by decide +kernel
theorem dX6_shakes_134 : decode cX6_shakes 134 = .ok (.ldc 90, 2) := by decide +kernel
theorem dX6_shakes_136 : decode cX6_shakes 136 = .ok (.if_icmp .eq 8, 3) := by decide +kernel
theorem dX6_shakes_139 : decode cX6_shakes 139 = .ok (.iload_n 3, 1) := by decide +kernel
theorem dX6_shakes_140 : decode cX6_shakes 140 = .ok (.iconst 1, 1) := by decide +kernel
theorem dX6_shakes_141 : decode cX6_shakes 141 = .ok (.if_icmp .ne 8, 3) := by decide +kernel
theorem dX6_shakes_144 : decode cX6_shakes 144 = .ok (.iload 5, 2) := by decide +kernel
theorem dX6_shakes_146 : decode cX6_shakes 146 = .ok (.goto 8, 3) := by decide +kernel
theorem dX6_shakes_149 : decode cX6_shakes 149 = .ok (.iload 5, 2) := by decide +kernel
theorem dX6_shakes_151 : decode cX6_shakes 151 = .ok (.invokestatic 241, 3) := by decide +kernel
theorem dX6_shakes_154 : decode cX6_shakes 154 = .ok (.ireturn, 1) := by decide +kernel
set_option maxRecDepth 20000 in
theorem ggX6_hang_X6_isTube : GoodIn wsX6_hang wsX6_isTube := goodIn_r _ [11, 5, 12, 13, 10, 14, 46, 47, 48, 49, 50, 51, 52, 53, 54, 55, 56, 57, 58, 59, 60, 61, 62, 63, 64, 65, 66, 67, 68, 69] (by decide +kernel) (by decide +kernel)
set_option maxRecDepth 20000 in
theorem gX6_hang_X6_isTube : GoodIn wsX6_hang (wsV RX6 198 RX6 yX6_isTube wsX6_isTube) := goodIn_app (goodIn_of _ (by decide +kernel)) ggX6_hang_X6_isTube
set_option maxRecDepth 20000 in
theorem ggX6_hang_X6_in : GoodIn wsX6_hang wsX6_in := goodIn_r _ [14] (by decide +kernel) (by decide +kernel)
set_option maxRecDepth 20000 in
theorem gX6_hang_X6_in : GoodIn wsX6_hang (va_wsS RX6 57 yX6_in wsX6_in) := goodIn_app (goodIn_of _ (by decide +kernel)) ggX6_hang_X6_in
theorem dX6_hang_0 : decode cX6_hang 0 = .ok (.aload_n 0, 1) := by decide +kernel
theorem dX6_hang_1 : decode cX6_hang 1 = .ok (.iconst 0, 1) := by decide +kernel
theorem dX6_hang_2 : decode cX6_hang 2 = .ok (.putfield 47, 3) := by decide +kernel
theorem dX6_hang_5 : decode cX6_hang 5 = .ok (.aload_n 0, 1) := by decide +kernel
theorem dX6_hang_6 : decode cX6_hang 6 = .ok (.iload_n 1, 1) := by decide +kernel
theorem dX6_hang_7 : decode cX6_hang 7 = .ok (.invokevirtual 198, 3) := by decide +kernel
theorem dX6_hang_10 : decode cX6_hang 10 = .ok (.ifCond .eq 25, 3) := by decide +kernel
theorem dX6_hang_13 : decode cX6_hang 13 = .ok (.iload_n 2, 1) := by decide +kernel
theorem dX6_hang_14 : decode cX6_hang 14 = .ok (.i2l, 1) := by decide +kernel
theorem dX6_hang_15 : decode cX6_hang 15 = .ok (.lconst 1, 1) := by decide +kernel
theorem dX6_hang_16 : decode cX6_hang 16 = .ok (.ldc2_w 235, 3) := by decide +kernel
theorem dX6_hang_19 : decode cX6_hang 19 = .ok (.invokestatic 57, 3) := by decide +kernel
theorem dX6_hang_22 : decode cX6_hang 22 = .ok (.ifCond .eq 13, 3) := by decide +kernel
theorem dX6_hang_25 : decode cX6_hang 25 = .ok (.iload_n 3, 1) := by decide +kernel
theorem dX6_hang_26 : decode cX6_hang 26 = .ok (.i2l, 1) := by decide +kernel
theorem dX6_hang_27 : decode cX6_hang 27 = .ok (.lconst 0, 1) := by decide +kernel
theorem dX6_hang_28 : decode cX6_hang 28 = .ok (.lconst 1, 1) := by decide +kernel
theorem dX6_hang_29 : decode cX6_hang 29 = .ok (.invokestatic 57, 3) := by decide +kernel
theorem dX6_hang_32 : decode cX6_hang 32 = .ok (.ifCond .ne 6, 3) := by decide +kernel
theorem dX6_hang_35 : decode cX6_hang 35 = .ok (.ldc 67, 2) := by decide +kernel
theorem dX6_hang_37 : decode cX6_hang 37 = .ok (.ireturn, 1) := by decide +kernel
theorem dX6_hang_38 : decode cX6_hang 38 = .ok (.ldc 90, 2) := by decide +kernel
theorem dX6_hang_40 : decode cX6_hang 40 = .ok (.istore 4, 2) := by decide +kernel
theorem dX6_hang_42 : decode cX6_hang 42 = .ok (.ldc 90, 2) := by decide +kernel
theorem dX6_hang_44 : decode cX6_hang 44 = .ok (.istore 5, 2) := by decide +kernel
theorem dX6_hang_46 : decode cX6_hang 46 = .ok (.iconst 0, 1) := by decide +kernel
theorem dX6_hang_47 : decode cX6_hang 47 = .ok (.istore 6, 2) := by decide +kernel
theorem dX6_hang_49 : decode cX6_hang 49 = .ok (.iload 6, 2) := by decide +kernel
theorem dX6_hang_51 : decode cX6_hang 51 = .ok (.aload_n 0, 1) := by decide +kernel
theorem dX6_hang_52 : decode cX6_hang 52 = .ok (.getfield 19, 3) := by decide +kernel
theorem dX6_hang_55 : decode cX6_hang 55 = .ok (.iconst 0, 1) := by decide +kernel
theorem dX6_hang_56 : decode cX6_hang 56 = .ok (.iaload, 1) := by decide +kernel
theorem dX6_hang_57 : decode cX6_hang 57 = .ok (.if_icmp .gt 88, 3) := by decide +kernel
theorem dX6_hang_60 : decode cX6_hang 60 = .ok (.aload_n 0, 1) := by decide +kernel
theorem dX6_hang_61 : decode cX6_hang 61 = .ok (.invokevirtual 207, 3) := by decide +kernel
theorem dX6_hang_64 : decode cX6_hang 64 = .ok (.aload_n 0, 1) := by decide +kernel
theorem dX6_hang_65 : decode cX6_hang 65 = .ok (.getfield 25, 3) := by decide +kernel
theorem dX6_hang_68 : decode cX6_hang 68 = .ok (.iload_n 1, 1) := by decide +kernel
theorem dX6_hang_69 : decode cX6_hang 69 = .ok (.iconst 1, 1) := by decide +kernel
theorem dX6_hang_70 : decode cX6_hang 70 = .ok (.iload 6, 2) := by decide +kernel
theorem dX6_hang_72 : decode cX6_hang 72 = .ok (.invokestatic 170, 3) := by decide +kernel
theorem dX6_hang_75 : decode cX6_hang 75 = .ok (.aload_n 0, 1) := by decide +kernel
theorem dX6_hang_76 : decode cX6_hang 76 = .ok (.getfield 25, 3) := by decide +kernel
theorem dX6_hang_79 : decode cX6_hang 79 = .ok (.iload_n 2, 1) := by decide +kernel
theorem dX6_hang_80 : decode cX6_hang 80 = .ok (.invokestatic 227, 3) := by decide +kernel
theorem dX6_hang_83 : decode cX6_hang 83 = .ok (.aload_n 0, 1) := by decide +kernel
theorem dX6_hang_84 : decode cX6_hang 84 = .ok (.getfield 25, 3) := by decide +kernel
theorem dX6_hang_87 : decode cX6_hang 87 = .ok (.iload_n 1, 1) := by decide +kernel
theorem dX6_hang_88 : decode cX6_hang 88 = .ok (.iconst 4, 1) := by decide +kernel
theorem dX6_hang_89 : decode cX6_hang 89 = .ok (.invokestatic 155, 3) := by decide +kernel
theorem dX6_hang_92 : decode cX6_hang 92 = .ok (.iload 5, 2) := by decide +kernel
theorem dX6_hang_94 : decode cX6_hang 94 = .ok (.if_icmp .le 7, 3) := by decide +kernel
theorem dX6_hang_97 : decode cX6_hang 97 = .ok (.iconst 1, 1) := by decide +kernel
theorem dX6_hang_98 : decode cX6_hang 98 = .ok (.goto 4, 3) := by decide +kernel
theorem dX6_hang_101 : decode cX6_hang 101 = .ok (.iconst 0, 1) := by decide +kernel
theorem dX6_hang_102 : decode cX6_hang 102 = .ok (.istore 7, 2) := by decide +kernel
theorem dX6_hang_104 : decode cX6_hang 104 = .ok (.iload 7, 2) := by decide +kernel
theorem dX6_hang_106 : decode cX6_hang 106 = .ok (.ifCond .eq 8, 3) := by decide +kernel
theorem dX6_hang_109 : decode cX6_hang 109 = .ok (.iload 6, 2) := by decide +kernel
theorem dX6_hang_111 : decode cX6_hang 111 = .ok (.goto 5, 3) := by decide +kernel
theorem dX6_hang_114 : decode cX6_hang 114 = .ok (.iload 4, 2) := by decide +kernel
theorem dX6_hang_116 : decode cX6_hang 116 = .ok (.istore 4, 2) := by decide +kernel
theorem dX6_hang_118 : decode cX6_hang 118 = .ok (.iload 7, 2) := by decide +kernel
theorem dX6_hang_120 : decode cX6_hang 120 = .ok (.ifCond .eq 15, 3) := by decide +kernel
theorem dX6_hang_123 : decode cX6_hang 123 = .ok (.aload_n 0, 1) := by decide +kernel
theorem dX6_hang_124 : decode cX6_hang 124 = .ok (.getfield 25, 3) := by decide +kernel
theorem dX6_hang_127 : decode cX6_hang 127 = .ok (.iload_n 1, 1) := by decide +kernel
theorem dX6_hang_128 : decode cX6_hang 128 = .ok (.iconst 4, 1) := by decide +kernel
theorem dX6_hang_129 : decode cX6_hang 129 = .ok (.invokestatic 155, 3) := by decide +kernel
theorem dX6_hang_132 : decode cX6_hang 132 = .ok (.goto 5, 3) := by decide +kernel
theorem dX6_hang_135 : decode cX6_hang 135 = .ok (.iload 5, 2) := by decide +kernel
theorem dX6_hang_137 : decode cX6_hang 137 = .ok (.istore 5, 2) := by decide +kernel
theorem dX6_hang_139 : decode cX6_hang 139 = .ok (.iinc 6 1, 3) := by decide +kernel
theorem dX6_hang_142 : decode cX6_hang 142 = .ok (.goto (-93), 3) := by decide +kernel
theorem dX6_hang_145 : decode cX6_hang 145 = .ok (.iload_n 3, 1) := by decide +kernel
theorem dX6_hang_146 : decode cX6_hang 146 = .ok (.ifCond .ne 8, 3) := by decide +kernel
theorem dX6_hang_149 : decode cX6_hang 149 = .ok (.iload 4, 2) := by decide +kernel
theorem dX6_hang_151 : decode cX6_hang 151 = .ok (.goto 5, 3) := by decide +kernel
theorem dX6_hang_154 : decode cX6_hang 154 = .ok (.iload 5, 2) := by decide +kernel
theorem dX6_hang_156 : decode cX6_hang 156 = .ok (.ireturn, 1) := by decide +kernel
set_option maxRecDepth 20000 in
theorem ggX6_fire_X6_isRoom : GoodIn wsX6_fire wsX6_isRoom := goodIn_r _ [10, 11, 12, 13, 9, 14, 46, 47, 48, 49, 50, 51, 52, 53, 54, 55, 56, 57, 58, 59, 60, 61, 62, 63, 64, 65, 66, 67, 68, 69] (by decide +kernel) (by decide +kernel)
set_option maxRecDepth 20000 in
theorem gX6_fire_X6_isRoom : GoodIn wsX6_fire (wsV RX6 213 RX6 yX6_isRoom wsX6_isRoom) := goodIn_app (goodIn_of _ (by decide +kernel)) ggX6_fire_X6_isRoom
set_option maxRecDepth 20000 in
theorem ggX6_fire_X6_in : GoodIn wsX6_fire wsX6_in := goodIn_r _ [14] (by decide +kernel) (by decide +kernel)
set_option maxRecDepth 20000 in
theorem gX6_fire_X6_in : GoodIn wsX6_fire (va_wsS RX6 57 yX6_in wsX6_in) := goodIn_app (goodIn_of _ (by decide +kernel)) ggX6_fire_X6_in
theorem dX6_fire_0 : decode cX6_fire 0 = .ok (.aload_n 0, 1) := by decide +kernel
theorem dX6_fire_1 : decode cX6_fire 1 = .ok (.iconst 0, 1) := by decide +kernel
theorem dX6_fire_2 : decode cX6_fire 2 = .ok (.putfield 47, 3) := by decide +kernel
theorem dX6_fire_5 : decode cX6_fire 5 = .ok (.aload_n 0, 1) := by decide +kernel
theorem dX6_fire_6 : decode cX6_fire 6 = .ok (.iload_n 1, 1) := by decide +kernel
theorem dX6_fire_7 : decode cX6_fire 7 = .ok (.invokevirtual 213, 3) := by decide +kernel
theorem dX6_fire_10 : decode cX6_fire 10 = .ok (.ifCond .eq 15, 3) := by decide +kernel
theorem dX6_fire_13 : decode cX6_fire 13 = .ok (.iload_n 2, 1) := by decide +kernel
theorem dX6_fire_14 : decode cX6_fire 14 = .ok (.i2l, 1) := by decide +kernel
theorem dX6_fire_15 : decode cX6_fire 15 = .ok (.lconst 1, 1) := by decide +kernel
theorem dX6_fire_16 : decode cX6_fire 16 = .ok (.ldc2_w 235, 3) := by decide +kernel
theorem dX6_fire_19 : decode cX6_fire 19 = .ok (.invokestatic 57, 3) := by decide +kernel
theorem dX6_fire_22 : decode cX6_fire 22 = .ok (.ifCond .ne 6, 3) := by decide +kernel
theorem dX6_fire_25 : decode cX6_fire 25 = .ok (.ldc 67, 2) := by decide +kernel
theorem dX6_fire_27 : decode cX6_fire 27 = .ok (.ireturn, 1) := by decide +kernel
theorem dX6_fire_28 : decode cX6_fire 28 = .ok (.iconst 0, 1) := by decide +kernel
theorem dX6_fire_29 : decode cX6_fire 29 = .ok (.istore_n 3, 1) := by decide +kernel
theorem dX6_fire_30 : decode cX6_fire 30 = .ok (.iload_n 3, 1) := by decide +kernel
theorem dX6_fire_31 : decode cX6_fire 31 = .ok (.bipush 20, 2) := by decide +kernel
theorem dX6_fire_33 : decode cX6_fire 33 = .ok (.if_icmp .gt 47, 3) := by decide +kernel
theorem dX6_fire_36 : decode cX6_fire 36 = .ok (.aload_n 0, 1) := by decide +kernel
theorem dX6_fire_37 : decode cX6_fire 37 = .ok (.invokevirtual 207, 3) := by decide +kernel
theorem dX6_fire_40 : decode cX6_fire 40 = .ok (.aload_n 0, 1) := by decide +kernel
theorem dX6_fire_41 : decode cX6_fire 41 = .ok (.getfield 25, 3) := by decide +kernel
theorem dX6_fire_44 : decode cX6_fire 44 = .ok (.iconst 5, 1) := by decide +kernel
theorem dX6_fire_45 : decode cX6_fire 45 = .ok (.iconst 2, 1) := by decide +kernel
theorem dX6_fire_46 : decode cX6_fire 46 = .ok (.iload_n 1, 1) := by decide +kernel
theorem dX6_fire_47 : decode cX6_fire 47 = .ok (.imul, 1) := by decide +kernel
theorem dX6_fire_48 : decode cX6_fire 48 = .ok (.iadd, 1) := by decide +kernel
theorem dX6_fire_49 : decode cX6_fire 49 = .ok (.iconst 1, 1) := by decide +kernel
theorem dX6_fire_50 : decode cX6_fire 50 = .ok (.iadd, 1) := by decide +kernel
theorem dX6_fire_51 : decode cX6_fire 51 = .ok (.iload_n 3, 1) := by decide +kernel
theorem dX6_fire_52 : decode cX6_fire 52 = .ok (.iastore, 1) := by decide +kernel
theorem dX6_fire_53 : decode cX6_fire 53 = .ok (.aload_n 0, 1) := by decide +kernel
theorem dX6_fire_54 : decode cX6_fire 54 = .ok (.getfield 25, 3) := by decide +kernel
theorem dX6_fire_57 : decode cX6_fire 57 = .ok (.iload_n 2, 1) := by decide +kernel
theorem dX6_fire_58 : decode cX6_fire 58 = .ok (.invokestatic 227, 3) := by decide +kernel
theorem dX6_fire_61 : decode cX6_fire 61 = .ok (.aload_n 0, 1) := by decide +kernel
theorem dX6_fire_62 : decode cX6_fire 62 = .ok (.getfield 25, 3) := by decide +kernel
theorem dX6_fire_65 : decode cX6_fire 65 = .ok (.iload_n 1, 1) := by decide +kernel
theorem dX6_fire_66 : decode cX6_fire 66 = .ok (.invokestatic 167, 3) := by decide +kernel
theorem dX6_fire_69 : decode cX6_fire 69 = .ok (.ifCond .ne 5, 3) := by decide +kernel
theorem dX6_fire_72 : decode cX6_fire 72 = .ok (.iload_n 3, 1) := by decide +kernel
theorem dX6_fire_73 : decode cX6_fire 73 = .ok (.ireturn, 1) := by decide +kernel
theorem dX6_fire_74 : decode cX6_fire 74 = .ok (.iinc 3 1, 3) := by decide +kernel
theorem dX6_fire_77 : decode cX6_fire 77 = .ok (.goto (-47), 3) := by decide +kernel
theorem dX6_fire_80 : decode cX6_fire 80 = .ok (.ldc 90, 2) := by decide +kernel
theorem dX6_fire_82 : decode cX6_fire 82 = .ok (.ireturn, 1) := by decide +kernel
set_option maxRecDepth 20000 in
theorem ggX6_pours_X6_isTube : GoodIn wsX6_pours wsX6_isTube := goodIn_r _ [10, 11, 12, 13, 9, 14, 33, 34, 35, 36, 37, 38, 39, 40, 41, 42, 43, 44, 45, 46, 47, 48, 49, 50, 51, 52, 53, 54, 55, 56] (by decide +kernel) (by decide +kernel)
set_option maxRecDepth 20000 in
theorem gX6_pours_X6_isTube : GoodIn wsX6_pours (wsV RX6 198 RX6 yX6_isTube wsX6_isTube) := goodIn_app (goodIn_of _ (by decide +kernel)) ggX6_pours_X6_isTube
set_option maxRecDepth 20000 in
theorem ggX6_pours_X6_in : GoodIn wsX6_pours wsX6_in := goodIn_r _ [14] (by decide +kernel) (by decide +kernel)
set_option maxRecDepth 20000 in
theorem gX6_pours_X6_in : GoodIn wsX6_pours (va_wsS RX6 57 yX6_in wsX6_in) := goodIn_app (goodIn_of _ (by decide +kernel)) ggX6_pours_X6_in
theorem dX6_pours_0 : decode cX6_pours 0 = .ok (.aload_n 0, 1) := by decide +kernel
theorem dX6_pours_1 : decode cX6_pours 1 = .ok (.iconst 0, 1) := by decide +kernel
theorem dX6_pours_2 : decode cX6_pours 2 = .ok (.putfield 47, 3) := by decide +kernel
theorem dX6_pours_5 : decode cX6_pours 5 = .ok (.aload_n 0, 1) := by decide +kernel
theorem dX6_pours_6 : decode cX6_pours 6 = .ok (.iload_n 1, 1) := by decide +kernel
theorem dX6_pours_7 : decode cX6_pours 7 = .ok (.invokevirtual 198, 3) := by decide +kernel
theorem dX6_pours_10 : decode cX6_pours 10 = .ok (.ifCond .eq 20, 3) := by decide +kernel
theorem dX6_pours_13 : decode cX6_pours 13 = .ok (.iload_n 2, 1) := by decide +kernel
theorem dX6_pours_14 : decode cX6_pours 14 = .ok (.i2l, 1) := by decide +kernel
theorem dX6_pours_15 : decode cX6_pours 15 = .ok (.lconst 0, 1) := by decide +kernel
theorem dX6_pours_16 : decode cX6_pours 16 = .ok (.ldc2_w 250, 3) := by decide +kernel
theorem dX6_pours_19 : decode cX6_pours 19 = .ok (.invokestatic 57, 3) := by decide +kernel
theorem dX6_pours_22 : decode cX6_pours 22 = .ok (.ifCond .eq 8, 3) := by decide +kernel
theorem dX6_pours_25 : decode cX6_pours 25 = .ok (.iload_n 3, 1) := by decide +kernel
theorem dX6_pours_26 : decode cX6_pours 26 = .ok (.iconst (-1), 1) := by decide +kernel
theorem dX6_pours_27 : decode cX6_pours 27 = .ok (.if_icmp .ge 6, 3) := by decide +kernel
theorem dX6_pours_30 : decode cX6_pours 30 = .ok (.ldc 67, 2) := by decide +kernel
theorem dX6_pours_32 : decode cX6_pours 32 = .ok (.ireturn, 1) := by decide +kernel
theorem dX6_pours_33 : decode cX6_pours 33 = .ok (.iconst 1, 1) := by decide +kernel
theorem dX6_pours_34 : decode cX6_pours 34 = .ok (.istore 4, 2) := by decide +kernel
theorem dX6_pours_36 : decode cX6_pours 36 = .ok (.iconst 0, 1) := by decide +kernel
theorem dX6_pours_37 : decode cX6_pours 37 = .ok (.istore 5, 2) := by decide +kernel
theorem dX6_pours_39 : decode cX6_pours 39 = .ok (.iload 5, 2) := by decide +kernel
theorem dX6_pours_41 : decode cX6_pours 41 = .ok (.iconst 3, 1) := by decide +kernel
theorem dX6_pours_42 : decode cX6_pours 42 = .ok (.if_icmp .gt 127, 3) := by decide +kernel
theorem dX6_pours_45 : decode cX6_pours 45 = .ok (.iconst 0, 1) := by decide +kernel
theorem dX6_pours_46 : decode cX6_pours 46 = .ok (.istore 6, 2) := by decide +kernel
theorem dX6_pours_48 : decode cX6_pours 48 = .ok (.iload 6, 2) := by decide +kernel
theorem dX6_pours_50 : decode cX6_pours 50 = .ok (.iload 4, 2) := by decide +kernel
theorem dX6_pours_52 : decode cX6_pours 52 = .ok (.if_icmp .ge 104, 3) := by decide +kernel
theorem dX6_pours_55 : decode cX6_pours 55 = .ok (.iload 6, 2) := by decide +kernel
theorem dX6_pours_57 : decode cX6_pours 57 = .ok (.istore 7, 2) := by decide +kernel
theorem dX6_pours_59 : decode cX6_pours 59 = .ok (.iload 5, 2) := by decide +kernel
theorem dX6_pours_61 : decode cX6_pours 61 = .ok (.iconst 1, 1) := by decide +kernel
theorem dX6_pours_62 : decode cX6_pours 62 = .ok (.isub, 1) := by decide +kernel
theorem dX6_pours_63 : decode cX6_pours 63 = .ok (.istore 8, 2) := by decide +kernel
theorem dX6_pours_65 : decode cX6_pours 65 = .ok (.iload 8, 2) := by decide +kernel
theorem dX6_pours_67 : decode cX6_pours 67 = .ok (.ifCond .lt 28, 3) := by decide +kernel
theorem dX6_pours_70 : decode cX6_pours 70 = .ok (.aload_n 0, 1) := by decide +kernel
theorem dX6_pours_71 : decode cX6_pours 71 = .ok (.getfield 34, 3) := by decide +kernel
theorem dX6_pours_74 : decode cX6_pours 74 = .ok (.iload 8, 2) := by decide +kernel
theorem dX6_pours_76 : decode cX6_pours 76 = .ok (.iload 7, 2) := by decide +kernel
theorem dX6_pours_78 : decode cX6_pours 78 = .ok (.bipush 36, 2) := by decide +kernel
theorem dX6_pours_80 : decode cX6_pours 80 = .ok (.irem, 1) := by decide +kernel
theorem dX6_pours_81 : decode cX6_pours 81 = .ok (.iastore, 1) := by decide +kernel
theorem dX6_pours_82 : decode cX6_pours 82 = .ok (.iload 7, 2) := by decide +kernel
theorem dX6_pours_84 : decode cX6_pours 84 = .ok (.bipush 36, 2) := by decide +kernel
theorem dX6_pours_86 : decode cX6_pours 86 = .ok (.idiv, 1) := by decide +kernel
theorem dX6_pours_87 : decode cX6_pours 87 = .ok (.istore 7, 2) := by decide +kernel
theorem dX6_pours_89 : decode cX6_pours 89 = .ok (.iinc 8 (-1), 3) := by decide +kernel
theorem dX6_pours_92 : decode cX6_pours 92 = .ok (.goto (-27), 3) := by decide +kernel
theorem dX6_pours_95 : decode cX6_pours 95 = .ok (.aload_n 0, 1) := by decide +kernel
theorem dX6_pours_96 : decode cX6_pours 96 = .ok (.iload_n 1, 1) := by decide +kernel
theorem dX6_pours_97 : decode cX6_pours 97 = .ok (.iload_n 2, 1) := by decide +kernel
theorem dX6_pours_98 : decode cX6_pours 98 = .ok (.iload 5, 2) := by decide +kernel
theorem dX6_pours_100 : decode cX6_pours 100 = .ok (.invokevirtual 252, 3) := by decide +kernel
theorem dX6_pours_103 : decode cX6_pours 103 = .ok (.ifCond .eq 47, 3) := by decide +kernel
theorem dX6_pours_106 : decode cX6_pours 106 = .ok (.iload_n 3, 1) := by decide +kernel
theorem dX6_pours_107 : decode cX6_pours 107 = .ok (.iconst (-1), 1) := by decide +kernel
theorem dX6_pours_108 : decode cX6_pours 108 = .ok (.if_icmp .ne 8, 3) := by decide +kernel
theorem dX6_pours_111 : decode cX6_pours 111 = .ok (.iload 5, 2) := by decide +kernel
theorem dX6_pours_113 : decode cX6_pours 113 = .ok (.goto 36, 3) := by decide +kernel
theorem dX6_pours_116 : decode cX6_pours 116 = .ok (.iload_n 3, 1) := by decide +kernel
theorem dX6_pours_117 : decode cX6_pours 117 = .ok (.iload 5, 2) := by decide +kernel
theorem dX6_pours_119 : decode cX6_pours 119 = .ok (.if_icmp .ge 28, 3) := by decide +kernel
theorem dX6_pours_122 : decode cX6_pours 122 = .ok (.bipush 10, 2) := by decide +kernel
theorem dX6_pours_124 : decode cX6_pours 124 = .ok (.aload_n 0, 1) := by decide +kernel
theorem dX6_pours_125 : decode cX6_pours 125 = .ok (.getfield 34, 3) := by decide +kernel
theorem dX6_pours_128 : decode cX6_pours 128 = .ok (.iload_n 3, 1) := by decide +kernel
theorem dX6_pours_129 : decode cX6_pours 129 = .ok (.iaload, 1) := by decide +kernel
theorem dX6_pours_130 : decode cX6_pours 130 = .ok (.bipush 6, 2) := by decide +kernel
theorem dX6_pours_132 : decode cX6_pours 132 = .ok (.idiv, 1) := by decide +kernel
theorem dX6_pours_133 : decode cX6_pours 133 = .ok (.imul, 1) := by decide +kernel
theorem dX6_pours_134 : decode cX6_pours 134 = .ok (.aload_n 0, 1) := by decide +kernel
theorem dX6_pours_135 : decode cX6_pours 135 = .ok (.getfield 34, 3) := by decide +kernel
theorem dX6_pours_138 : decode cX6_pours 138 = .ok (.iload_n 3, 1) := by decide +kernel
theorem dX6_pours_139 : decode cX6_pours 139 = .ok (.iaload, 1) := by decide +kernel
theorem dX6_pours_140 : decode cX6_pours 140 = .ok (.bipush 6, 2) := by decide +kernel
theorem dX6_pours_142 : decode cX6_pours 142 = .ok (.irem, 1) := by decide +kernel
theorem dX6_pours_143 : decode cX6_pours 143 = .ok (.iadd, 1) := by decide +kernel
theorem dX6_pours_144 : decode cX6_pours 144 = .ok (.goto 5, 3) := by decide +kernel
theorem dX6_pours_147 : decode cX6_pours 147 = .ok (.ldc 90, 2) := by decide +kernel
theorem dX6_pours_149 : decode cX6_pours 149 = .ok (.ireturn, 1) := by decide +kernel
theorem dX6_pours_150 : decode cX6_pours 150 = .ok (.iinc 6 1, 3) := by decide +kernel
theorem dX6_pours_153 : decode cX6_pours 153 = .ok (.goto (-105), 3) := by decide +kernel
theorem dX6_pours_156 : decode cX6_pours 156 = .ok (.iload 4, 2) := by decide +kernel
theorem dX6_pours_158 : decode cX6_pours 158 = .ok (.bipush 36, 2) := by decide +kernel
theorem dX6_pours_160 : decode cX6_pours 160 = .ok (.imul, 1) := by decide +kernel
theorem dX6_pours_161 : decode cX6_pours 161 = .ok (.istore 4, 2) := by decide +kernel
theorem dX6_pours_163 : decode cX6_pours 163 = .ok (.iinc 5 1, 3) := by decide +kernel
theorem dX6_pours_166 : decode cX6_pours 166 = .ok (.goto (-127), 3) := by decide +kernel
theorem dX6_pours_169 : decode cX6_pours 169 = .ok (.ldc 90, 2) := by decide +kernel
theorem dX6_pours_171 : decode cX6_pours 171 = .ok (.ireturn, 1) := by decide +kernel
set_option maxRecDepth 20000 in
theorem ggX6_mix_X6_isRoom : GoodIn wsX6_mix wsX6_isRoom := goodIn_r _ [11, 4, 12, 13, 10, 14, 44, 45, 46, 47, 48, 49, 50, 51, 52, 53, 54, 55, 56, 57, 58, 59, 60, 61, 62, 63, 64, 65, 66, 67] (by decide +kernel) (by decide +kernel)
set_option maxRecDepth 20000 in
theorem gX6_mix_X6_isRoom : GoodIn wsX6_mix (wsV RX6 213 RX6 yX6_isRoom wsX6_isRoom) := goodIn_app (goodIn_of _ (by decide +kernel)) ggX6_mix_X6_isRoom
set_option maxRecDepth 20000 in
theorem ggX6_mix_X6_in : GoodIn wsX6_mix wsX6_in := goodIn_r _ [14] (by decide +kernel) (by decide +kernel)
set_option maxRecDepth 20000 in
theorem gX6_mix_X6_in : GoodIn wsX6_mix (va_wsS RX6 57 yX6_in wsX6_in) := goodIn_app (goodIn_of _ (by decide +kernel)) ggX6_mix_X6_in
theorem dX6_mix_0 : decode cX6_mix 0 = .ok (.aload_n 0, 1) := by decide +kernel
theorem dX6_mix_1 : decode cX6_mix 1 = .ok (.iconst 0, 1) := by decide +kernel
theorem dX6_mix_2 : decode cX6_mix 2 = .ok (.putfield 47, 3) := by decide +kernel
theorem dX6_mix_5 : decode cX6_mix 5 = .ok (.aload_n 0, 1) := by decide +kernel
theorem dX6_mix_6 : decode cX6_mix 6 = .ok (.iload_n 1, 1) := by decide +kernel
theorem dX6_mix_7 : decode cX6_mix 7 = .ok (.invokevirtual 213, 3) := by decide +kernel
theorem dX6_mix_10 : decode cX6_mix 10 = .ok (.ifCond .eq 25, 3) := by decide +kernel
theorem dX6_mix_13 : decode cX6_mix 13 = .ok (.iload_n 2, 1) := by decide +kernel
theorem dX6_mix_14 : decode cX6_mix 14 = .ok (.i2l, 1) := by decide +kernel
theorem dX6_mix_15 : decode cX6_mix 15 = .ok (.lconst 0, 1) := by decide +kernel
theorem dX6_mix_16 : decode cX6_mix 16 = .ok (.ldc2_w 256, 3) := by decide +kernel
theorem dX6_mix_19 : decode cX6_mix 19 = .ok (.invokestatic 57, 3) := by decide +kernel
theorem dX6_mix_22 : decode cX6_mix 22 = .ok (.ifCond .eq 13, 3) := by decide +kernel
theorem dX6_mix_25 : decode cX6_mix 25 = .ok (.iload_n 3, 1) := by decide +kernel
theorem dX6_mix_26 : decode cX6_mix 26 = .ok (.i2l, 1) := by decide +kernel
theorem dX6_mix_27 : decode cX6_mix 27 = .ok (.lconst 0, 1) := by decide +kernel
theorem dX6_mix_28 : decode cX6_mix 28 = .ok (.lconst 1, 1) := by decide +kernel
theorem dX6_mix_29 : decode cX6_mix 29 = .ok (.invokestatic 57, 3) := by decide +kernel
theorem dX6_mix_32 : decode cX6_mix 32 = .ok (.ifCond .ne 6, 3) := by decide +kernel
theorem dX6_mix_35 : decode cX6_mix 35 = .ok (.ldc 67, 2) := by decide +kernel
theorem dX6_mix_37 : decode cX6_mix 37 = .ok (.ireturn, 1) := by decide +kernel
theorem dX6_mix_38 : decode cX6_mix 38 = .ok (.aload_n 0, 1) := by decide +kernel
theorem dX6_mix_39 : decode cX6_mix 39 = .ok (.getfield 19, 3) := by decide +kernel
theorem dX6_mix_42 : decode cX6_mix 42 = .ok (.iload_n 1, 1) := by decide +kernel
theorem dX6_mix_43 : decode cX6_mix 43 = .ok (.invokestatic 222, 3) := by decide +kernel
theorem dX6_mix_46 : decode cX6_mix 46 = .ok (.istore 4, 2) := by decide +kernel
theorem dX6_mix_48 : decode cX6_mix 48 = .ok (.iconst 0, 1) := by decide +kernel
theorem dX6_mix_49 : decode cX6_mix 49 = .ok (.istore 5, 2) := by decide +kernel
theorem dX6_mix_51 : decode cX6_mix 51 = .ok (.ldc 90, 2) := by decide +kernel
theorem dX6_mix_53 : decode cX6_mix 53 = .ok (.istore 6, 2) := by decide +kernel
theorem dX6_mix_55 : decode cX6_mix 55 = .ok (.iload 4, 2) := by decide +kernel
theorem dX6_mix_57 : decode cX6_mix 57 = .ok (.istore 7, 2) := by decide +kernel
theorem dX6_mix_59 : decode cX6_mix 59 = .ok (.iload 7, 2) := by decide +kernel
theorem dX6_mix_61 : decode cX6_mix 61 = .ok (.ifCond .lt 73, 3) := by decide +kernel
theorem dX6_mix_64 : decode cX6_mix 64 = .ok (.iload 7, 2) := by decide +kernel
theorem dX6_mix_66 : decode cX6_mix 66 = .ok (.iload 4, 2) := by decide +kernel
theorem dX6_mix_68 : decode cX6_mix 68 = .ok (.iconst (-1), 1) := by decide +kernel
theorem dX6_mix_69 : decode cX6_mix 69 = .ok (.ixor, 1) := by decide +kernel
theorem dX6_mix_70 : decode cX6_mix 70 = .ok (.iand, 1) := by decide +kernel
theorem dX6_mix_71 : decode cX6_mix 71 = .ok (.ifCond .ne 57, 3) := by decide +kernel
theorem dX6_mix_74 : decode cX6_mix 74 = .ok (.aload_n 0, 1) := by decide +kernel
theorem dX6_mix_75 : decode cX6_mix 75 = .ok (.iload 7, 2) := by decide +kernel
theorem dX6_mix_77 : decode cX6_mix 77 = .ok (.invokevirtual 247, 3) := by decide +kernel
theorem dX6_mix_80 : decode cX6_mix 80 = .ok (.aload_n 0, 1) := by decide +kernel
theorem dX6_mix_81 : decode cX6_mix 81 = .ok (.getfield 25, 3) := by decide +kernel
theorem dX6_mix_84 : decode cX6_mix 84 = .ok (.iload_n 1, 1) := by decide +kernel
theorem dX6_mix_85 : decode cX6_mix 85 = .ok (.invokestatic 159, 3) := by decide +kernel
theorem dX6_mix_88 : decode cX6_mix 88 = .ok (.iload_n 2, 1) := by decide +kernel
theorem dX6_mix_89 : decode cX6_mix 89 = .ok (.if_icmp .ne 7, 3) := by decide +kernel
theorem dX6_mix_92 : decode cX6_mix 92 = .ok (.iconst 1, 1) := by decide +kernel
theorem dX6_mix_93 : decode cX6_mix 93 = .ok (.goto 4, 3) := by decide +kernel
theorem dX6_mix_96 : decode cX6_mix 96 = .ok (.iconst 0, 1) := by decide +kernel
theorem dX6_mix_97 : decode cX6_mix 97 = .ok (.istore 8, 2) := by decide +kernel
theorem dX6_mix_99 : decode cX6_mix 99 = .ok (.iload 5, 2) := by decide +kernel
theorem dX6_mix_101 : decode cX6_mix 101 = .ok (.iload 8, 2) := by decide +kernel
theorem dX6_mix_103 : decode cX6_mix 103 = .ok (.ifCond .eq 7, 3) := by decide +kernel
theorem dX6_mix_106 : decode cX6_mix 106 = .ok (.iconst 1, 1) := by decide +kernel
theorem dX6_mix_107 : decode cX6_mix 107 = .ok (.goto 4, 3) := by decide +kernel
theorem dX6_mix_110 : decode cX6_mix 110 = .ok (.iconst 0, 1) := by decide +kernel
theorem dX6_mix_111 : decode cX6_mix 111 = .ok (.iadd, 1) := by decide +kernel
theorem dX6_mix_112 : decode cX6_mix 112 = .ok (.istore 5, 2) := by decide +kernel
theorem dX6_mix_114 : decode cX6_mix 114 = .ok (.iload 8, 2) := by decide +kernel
theorem dX6_mix_116 : decode cX6_mix 116 = .ok (.ifCond .eq 8, 3) := by decide +kernel
theorem dX6_mix_119 : decode cX6_mix 119 = .ok (.iload 7, 2) := by decide +kernel
theorem dX6_mix_121 : decode cX6_mix 121 = .ok (.goto 5, 3) := by decide +kernel
theorem dX6_mix_124 : decode cX6_mix 124 = .ok (.iload 6, 2) := by decide +kernel
theorem dX6_mix_126 : decode cX6_mix 126 = .ok (.istore 6, 2) := by decide +kernel
theorem dX6_mix_128 : decode cX6_mix 128 = .ok (.iinc 7 (-1), 3) := by decide +kernel
theorem dX6_mix_131 : decode cX6_mix 131 = .ok (.goto (-72), 3) := by decide +kernel
theorem dX6_mix_134 : decode cX6_mix 134 = .ok (.iload_n 3, 1) := by decide +kernel
theorem dX6_mix_135 : decode cX6_mix 135 = .ok (.ifCond .ne 8, 3) := by decide +kernel
theorem dX6_mix_138 : decode cX6_mix 138 = .ok (.iload 5, 2) := by decide +kernel
theorem dX6_mix_140 : decode cX6_mix 140 = .ok (.goto 5, 3) := by decide +kernel
theorem dX6_mix_143 : decode cX6_mix 143 = .ok (.iload 6, 2) := by decide +kernel
theorem dX6_mix_145 : decode cX6_mix 145 = .ok (.ireturn, 1) := by decide +kernel
set_option maxRecDepth 20000 in
theorem ggX6_degrees_X6_isThere : GoodIn wsX6_degrees wsX6_isThere := goodIn_r _ [8, 2, 21, 22, 23, 24, 25, 26, 27, 28, 29, 30, 31, 32, 33, 34, 35, 36, 37, 38, 39, 40, 41, 42, 43, 44] (by decide +kernel) (by decide +kernel)
set_option maxRecDepth 20000 in
theorem gX6_degrees_X6_isThere : GoodIn wsX6_degrees (wsV RX6 152 RX6 yX6_isThere wsX6_isThere) := goodIn_app (goodIn_of _ (by decide +kernel)) ggX6_degrees_X6_isThere
theorem dX6_degrees_0 : decode cX6_degrees 0 = .ok (.aload_n 0, 1) := by decide +kernel
theorem dX6_degrees_1 : decode cX6_degrees 1 = .ok (.iconst 0, 1) := by decide +kernel
theorem dX6_degrees_2 : decode cX6_degrees 2 = .ok (.putfield 47, 3) := by decide +kernel
theorem dX6_degrees_5 : decode cX6_degrees 5 = .ok (.aload_n 0, 1) := by decide +kernel
theorem dX6_degrees_6 : decode cX6_degrees 6 = .ok (.invokevirtual 152, 3) := by decide +kernel
theorem dX6_degrees_9 : decode cX6_degrees 9 = .ok (.ifCond .eq 13, 3) := by decide +kernel
theorem dX6_degrees_12 : decode cX6_degrees 12 = .ok (.aload_n 0, 1) := by decide +kernel
theorem dX6_degrees_13 : decode cX6_degrees 13 = .ok (.getfield 19, 3) := by decide +kernel
theorem dX6_degrees_16 : decode cX6_degrees 16 = .ok (.invokestatic 258, 3) := by decide +kernel
theorem dX6_degrees_19 : decode cX6_degrees 19 = .ok (.goto 5, 3) := by decide +kernel
theorem dX6_degrees_22 : decode cX6_degrees 22 = .ok (.ldc 189, 2) := by decide +kernel
theorem dX6_degrees_24 : decode cX6_degrees 24 = .ok (.ireturn, 1) := by decide +kernel
set_option maxRecDepth 20000 in
theorem ggX6_sale_X6_isTube : GoodIn wsX6_sale wsX6_isTube := goodIn_r _ [12, 13, 14, 15, 11, 16, 45, 46, 47, 48, 49, 50, 51, 52, 53, 54, 55, 56, 57, 58, 59, 60, 61, 62, 63, 64, 65, 66, 67, 68] (by decide +kernel) (by decide +kernel)
set_option maxRecDepth 20000 in
theorem gX6_sale_X6_isTube : GoodIn wsX6_sale (wsV RX6 198 RX6 yX6_isTube wsX6_isTube) := goodIn_app (goodIn_of _ (by decide +kernel)) ggX6_sale_X6_isTube
set_option maxRecDepth 20000 in
theorem ggX6_sale_X6_in : GoodIn wsX6_sale wsX6_in := goodIn_r _ [16] (by decide +kernel) (by decide +kernel)
set_option maxRecDepth 20000 in
theorem gX6_sale_X6_in : GoodIn wsX6_sale (va_wsS RX6 57 yX6_in wsX6_in) := goodIn_app (goodIn_of _ (by decide +kernel)) ggX6_sale_X6_in
theorem dX6_sale_0 : decode cX6_sale 0 = .ok (.aload_n 0, 1) := by decide +kernel
theorem dX6_sale_1 : decode cX6_sale 1 = .ok (.iconst 0, 1) := by decide +kernel
theorem dX6_sale_2 : decode cX6_sale 2 = .ok (.putfield 47, 3) := by decide +kernel
theorem dX6_sale_5 : decode cX6_sale 5 = .ok (.aload_n 0, 1) := by decide +kernel
theorem dX6_sale_6 : decode cX6_sale 6 = .ok (.iload_n 1, 1) := by decide +kernel
theorem dX6_sale_7 : decode cX6_sale 7 = .ok (.invokevirtual 198, 3) := by decide +kernel
theorem dX6_sale_10 : decode cX6_sale 10 = .ok (.ifCond .eq 51, 3) := by decide +kernel
theorem dX6_sale_13 : decode cX6_sale 13 = .ok (.iload_n 2, 1) := by decide +kernel
theorem dX6_sale_14 : decode cX6_sale 14 = .ok (.i2l, 1) := by decide +kernel
theorem dX6_sale_15 : decode cX6_sale 15 = .ok (.lconst 1, 1) := by decide +kernel
theorem dX6_sale_16 : decode cX6_sale 16 = .ok (.ldc2_w 235, 3) := by decide +kernel
theorem dX6_sale_19 : decode cX6_sale 19 = .ok (.invokestatic 57, 3) := by decide +kernel
theorem dX6_sale_22 : decode cX6_sale 22 = .ok (.ifCond .eq 39, 3) := by decide +kernel
theorem dX6_sale_25 : decode cX6_sale 25 = .ok (.iload_n 3, 1) := by decide +kernel
theorem dX6_sale_26 : decode cX6_sale 26 = .ok (.i2l, 1) := by decide +kernel
theorem dX6_sale_27 : decode cX6_sale 27 = .ok (.lconst 1, 1) := by decide +kernel
theorem dX6_sale_28 : decode cX6_sale 28 = .ok (.ldc2_w 261, 3) := by decide +kernel
theorem dX6_sale_31 : decode cX6_sale 31 = .ok (.invokestatic 57, 3) := by decide +kernel
theorem dX6_sale_34 : decode cX6_sale 34 = .ok (.ifCond .eq 27, 3) := by decide +kernel
theorem dX6_sale_37 : decode cX6_sale 37 = .ok (.iload 4, 2) := by decide +kernel
theorem dX6_sale_39 : decode cX6_sale 39 = .ok (.i2l, 1) := by decide +kernel
theorem dX6_sale_40 : decode cX6_sale 40 = .ok (.lconst 0, 1) := by decide +kernel
theorem dX6_sale_41 : decode cX6_sale 41 = .ok (.ldc2_w 263, 3) := by decide +kernel
theorem dX6_sale_44 : decode cX6_sale 44 = .ok (.invokestatic 57, 3) := by decide +kernel
theorem dX6_sale_47 : decode cX6_sale 47 = .ok (.ifCond .eq 14, 3) := by decide +kernel
theorem dX6_sale_50 : decode cX6_sale 50 = .ok (.iload 5, 2) := by decide +kernel
theorem dX6_sale_52 : decode cX6_sale 52 = .ok (.i2l, 1) := by decide +kernel
theorem dX6_sale_53 : decode cX6_sale 53 = .ok (.lconst 0, 1) := by decide +kernel
theorem dX6_sale_54 : decode cX6_sale 54 = .ok (.lconst 1, 1) := by decide +kernel
theorem dX6_sale_55 : decode cX6_sale 55 = .ok (.invokestatic 57, 3) := by decide +kernel
theorem dX6_sale_58 : decode cX6_sale 58 = .ok (.ifCond .ne 6, 3) := by decide +kernel
theorem dX6_sale_61 : decode cX6_sale 61 = .ok (.ldc 67, 2) := by decide +kernel
theorem dX6_sale_63 : decode cX6_sale 63 = .ok (.ireturn, 1) := by decide +kernel
theorem dX6_sale_64 : decode cX6_sale 64 = .ok (.aload_n 0, 1) := by decide +kernel
theorem dX6_sale_65 : decode cX6_sale 65 = .ok (.invokevirtual 207, 3) := by decide +kernel
theorem dX6_sale_68 : decode cX6_sale 68 = .ok (.ldc 90, 2) := by decide +kernel
theorem dX6_sale_70 : decode cX6_sale 70 = .ok (.istore 6, 2) := by decide +kernel
theorem dX6_sale_72 : decode cX6_sale 72 = .ok (.ldc 90, 2) := by decide +kernel
theorem dX6_sale_74 : decode cX6_sale 74 = .ok (.istore 7, 2) := by decide +kernel
theorem dX6_sale_76 : decode cX6_sale 76 = .ok (.iconst 0, 1) := by decide +kernel
theorem dX6_sale_77 : decode cX6_sale 77 = .ok (.istore 8, 2) := by decide +kernel
theorem dX6_sale_79 : decode cX6_sale 79 = .ok (.iload 8, 2) := by decide +kernel
theorem dX6_sale_81 : decode cX6_sale 81 = .ok (.iload_n 2, 1) := by decide +kernel
theorem dX6_sale_82 : decode cX6_sale 82 = .ok (.if_icmp .gt 80, 3) := by decide +kernel
theorem dX6_sale_85 : decode cX6_sale 85 = .ok (.iload_n 3, 1) := by decide +kernel
theorem dX6_sale_86 : decode cX6_sale 86 = .ok (.iload 4, 2) := by decide +kernel
theorem dX6_sale_88 : decode cX6_sale 88 = .ok (.iload 8, 2) := by decide +kernel
theorem dX6_sale_90 : decode cX6_sale 90 = .ok (.imul, 1) := by decide +kernel
theorem dX6_sale_91 : decode cX6_sale 91 = .ok (.isub, 1) := by decide +kernel
theorem dX6_sale_92 : decode cX6_sale 92 = .ok (.istore 9, 2) := by decide +kernel
theorem dX6_sale_94 : decode cX6_sale 94 = .ok (.iload 9, 2) := by decide +kernel
theorem dX6_sale_96 : decode cX6_sale 96 = .ok (.ifCond .le 18, 3) := by decide +kernel
theorem dX6_sale_99 : decode cX6_sale 99 = .ok (.iload 9, 2) := by decide +kernel
theorem dX6_sale_101 : decode cX6_sale 101 = .ok (.aload_n 0, 1) := by decide +kernel
theorem dX6_sale_102 : decode cX6_sale 102 = .ok (.getfield 25, 3) := by decide +kernel
theorem dX6_sale_105 : decode cX6_sale 105 = .ok (.iload_n 1, 1) := by decide +kernel
theorem dX6_sale_106 : decode cX6_sale 106 = .ok (.iconst 4, 1) := by decide +kernel
theorem dX6_sale_107 : decode cX6_sale 107 = .ok (.invokestatic 155, 3) := by decide +kernel
theorem dX6_sale_110 : decode cX6_sale 110 = .ok (.imul, 1) := by decide +kernel
theorem dX6_sale_111 : decode cX6_sale 111 = .ok (.goto 4, 3) := by decide +kernel
theorem dX6_sale_114 : decode cX6_sale 114 = .ok (.iconst 0, 1) := by decide +kernel
theorem dX6_sale_115 : decode cX6_sale 115 = .ok (.istore 10, 2) := by decide +kernel
theorem dX6_sale_117 : decode cX6_sale 117 = .ok (.iload 10, 2) := by decide +kernel
theorem dX6_sale_119 : decode cX6_sale 119 = .ok (.iload 7, 2) := by decide +kernel
theorem dX6_sale_121 : decode cX6_sale 121 = .ok (.if_icmp .le 8, 3) := by decide +kernel
theorem dX6_sale_124 : decode cX6_sale 124 = .ok (.iload 8, 2) := by decide +kernel
theorem dX6_sale_126 : decode cX6_sale 126 = .ok (.goto 5, 3) := by decide +kernel
theorem dX6_sale_129 : decode cX6_sale 129 = .ok (.iload 6, 2) := by decide +kernel
theorem dX6_sale_131 : decode cX6_sale 131 = .ok (.istore 6, 2) := by decide +kernel
theorem dX6_sale_133 : decode cX6_sale 133 = .ok (.iload 10, 2) := by decide +kernel
theorem dX6_sale_135 : decode cX6_sale 135 = .ok (.iload 7, 2) := by decide +kernel
theorem dX6_sale_137 : decode cX6_sale 137 = .ok (.if_icmp .le 8, 3) := by decide +kernel
theorem dX6_sale_140 : decode cX6_sale 140 = .ok (.iload 10, 2) := by decide +kernel
theorem dX6_sale_142 : decode cX6_sale 142 = .ok (.goto 5, 3) := by decide +kernel
theorem dX6_sale_145 : decode cX6_sale 145 = .ok (.iload 7, 2) := by decide +kernel
theorem dX6_sale_147 : decode cX6_sale 147 = .ok (.istore 7, 2) := by decide +kernel
theorem dX6_sale_149 : decode cX6_sale 149 = .ok (.aload_n 0, 1) := by decide +kernel
theorem dX6_sale_150 : decode cX6_sale 150 = .ok (.getfield 25, 3) := by decide +kernel
theorem dX6_sale_153 : decode cX6_sale 153 = .ok (.invokestatic 181, 3) := by decide +kernel
theorem dX6_sale_156 : decode cX6_sale 156 = .ok (.iinc 8 1, 3) := by decide +kernel
theorem dX6_sale_159 : decode cX6_sale 159 = .ok (.goto (-80), 3) := by decide +kernel
theorem dX6_sale_162 : decode cX6_sale 162 = .ok (.iload 5, 2) := by decide +kernel
theorem dX6_sale_164 : decode cX6_sale 164 = .ok (.ifCond .ne 8, 3) := by decide +kernel
theorem dX6_sale_167 : decode cX6_sale 167 = .ok (.iload 6, 2) := by decide +kernel
theorem dX6_sale_169 : decode cX6_sale 169 = .ok (.goto 5, 3) := by decide +kernel
theorem dX6_sale_172 : decode cX6_sale 172 = .ok (.iload 7, 2) := by decide +kernel
theorem dX6_sale_174 : decode cX6_sale 174 = .ok (.ireturn, 1) := by decide +kernel
set_option maxRecDepth 20000 in
theorem ggX6_who_X6_isTube : GoodIn wsX6_who wsX6_isTube := goodIn_r _ [11, 5, 12, 13, 10, 14, 68, 69, 70, 71, 72, 73, 74, 75, 76, 77, 78, 79, 80, 81, 82, 83, 84, 85, 86, 87, 88, 89, 90, 91] (by decide +kernel) (by decide +kernel)
set_option maxRecDepth 20000 in
theorem gX6_who_X6_isTube : GoodIn wsX6_who (wsV RX6 198 RX6 yX6_isTube wsX6_isTube) := goodIn_app (goodIn_of _ (by decide +kernel)) ggX6_who_X6_isTube
set_option maxRecDepth 20000 in
theorem ggX6_who_X6_in : GoodIn wsX6_who wsX6_in := goodIn_r _ [14] (by decide +kernel) (by decide +kernel)
set_option maxRecDepth 20000 in
theorem gX6_who_X6_in : GoodIn wsX6_who (va_wsS RX6 57 yX6_in wsX6_in) := goodIn_app (goodIn_of _ (by decide +kernel)) ggX6_who_X6_in
set_option maxRecDepth 20000 in
theorem ggX6_who_X6_isRoom : GoodIn wsX6_who wsX6_isRoom := goodIn_r _ [18, 5, 12, 13, 10, 14, 68, 69, 70, 71, 72, 73, 74, 75, 76, 77, 78, 79, 80, 81, 82, 83, 84, 85, 86, 87, 88, 89, 90, 91] (by decide +kernel) (by decide +kernel)
set_option maxRecDepth 20000 in
theorem gX6_who_X6_isRoom : GoodIn wsX6_who (wsV RX6 213 RX6 yX6_isRoom wsX6_isRoom) := goodIn_app (goodIn_of _ (by decide +kernel)) ggX6_who_X6_isRoom
set_option maxRecDepth 20000 in
theorem ggX6_who_X6_isRow : GoodIn wsX6_who wsX6_isRow := goodIn_r _ [21, 22, 12, 13, 10, 14] (by decide +kernel) (by decide +kernel)
set_option maxRecDepth 20000 in
theorem gX6_who_X6_isRow : GoodIn wsX6_who (va_wsS RX6 61 yX6_isRow wsX6_isRow) := goodIn_app (goodIn_of _ (by decide +kernel)) ggX6_who_X6_isRow
theorem dX6_who_0 : decode cX6_who 0 = .ok (.aload_n 0, 1) := by decide +kernel
theorem dX6_who_1 : decode cX6_who 1 = .ok (.iconst 0, 1) := by decide +kernel
theorem dX6_who_2 : decode cX6_who 2 = .ok (.putfield 47, 3) := by decide +kernel
theorem dX6_who_5 : decode cX6_who 5 = .ok (.aload_n 0, 1) := by decide +kernel
theorem dX6_who_6 : decode cX6_who 6 = .ok (.iload_n 1, 1) := by decide +kernel
theorem dX6_who_7 : decode cX6_who 7 = .ok (.invokevirtual 198, 3) := by decide +kernel
theorem dX6_who_10 : decode cX6_who 10 = .ok (.ifCond .eq 44, 3) := by decide +kernel
theorem dX6_who_13 : decode cX6_who 13 = .ok (.iload_n 2, 1) := by decide +kernel
theorem dX6_who_14 : decode cX6_who 14 = .ok (.i2l, 1) := by decide +kernel
theorem dX6_who_15 : decode cX6_who 15 = .ok (.lconst 0, 1) := by decide +kernel
theorem dX6_who_16 : decode cX6_who 16 = .ok (.ldc2_w 65, 3) := by decide +kernel
theorem dX6_who_19 : decode cX6_who 19 = .ok (.invokestatic 57, 3) := by decide +kernel
theorem dX6_who_22 : decode cX6_who 22 = .ok (.ifCond .eq 32, 3) := by decide +kernel
theorem dX6_who_25 : decode cX6_who 25 = .ok (.aload_n 0, 1) := by decide +kernel
theorem dX6_who_26 : decode cX6_who 26 = .ok (.iload_n 3, 1) := by decide +kernel
theorem dX6_who_27 : decode cX6_who 27 = .ok (.invokevirtual 213, 3) := by decide +kernel
theorem dX6_who_30 : decode cX6_who 30 = .ok (.ifCond .eq 24, 3) := by decide +kernel
theorem dX6_who_33 : decode cX6_who 33 = .ok (.iload 4, 2) := by decide +kernel
theorem dX6_who_35 : decode cX6_who 35 = .ok (.invokestatic 61, 3) := by decide +kernel
theorem dX6_who_38 : decode cX6_who 38 = .ok (.ifCond .eq 16, 3) := by decide +kernel
theorem dX6_who_41 : decode cX6_who 41 = .ok (.iload 6, 2) := by decide +kernel
theorem dX6_who_43 : decode cX6_who 43 = .ok (.i2l, 1) := by decide +kernel
theorem dX6_who_44 : decode cX6_who 44 = .ok (.lconst 1, 1) := by decide +kernel
theorem dX6_who_45 : decode cX6_who 45 = .ok (.ldc2_w 265, 3) := by decide +kernel
theorem dX6_who_48 : decode cX6_who 48 = .ok (.invokestatic 57, 3) := by decide +kernel
theorem dX6_who_51 : decode cX6_who 51 = .ok (.ifCond .ne 6, 3) := by decide +kernel
theorem dX6_who_54 : decode cX6_who 54 = .ok (.ldc 67, 2) := by decide +kernel
theorem dX6_who_56 : decode cX6_who 56 = .ok (.ireturn, 1) := by decide +kernel
theorem dX6_who_57 : decode cX6_who 57 = .ok (.aload_n 0, 1) := by decide +kernel
theorem dX6_who_58 : decode cX6_who 58 = .ok (.iload 4, 2) := by decide +kernel
theorem dX6_who_60 : decode cX6_who 60 = .ok (.iload 5, 2) := by decide +kernel
theorem dX6_who_62 : decode cX6_who 62 = .ok (.iload 6, 2) := by decide +kernel
theorem dX6_who_64 : decode cX6_who 64 = .ok (.invokevirtual 267, 3) := by decide +kernel
theorem dX6_who_67 : decode cX6_who 67 = .ok (.istore 7, 2) := by decide +kernel
theorem dX6_who_69 : decode cX6_who 69 = .ok (.iload 7, 2) := by decide +kernel
theorem dX6_who_71 : decode cX6_who 71 = .ok (.ifCond .eq 6, 3) := by decide +kernel
theorem dX6_who_74 : decode cX6_who 74 = .ok (.iload 7, 2) := by decide +kernel
theorem dX6_who_76 : decode cX6_who 76 = .ok (.ireturn, 1) := by decide +kernel
theorem dX6_who_77 : decode cX6_who 77 = .ok (.iconst 0, 1) := by decide +kernel
theorem dX6_who_78 : decode cX6_who 78 = .ok (.istore 8, 2) := by decide +kernel
theorem dX6_who_80 : decode cX6_who 80 = .ok (.iload_n 2, 1) := by decide +kernel
theorem dX6_who_81 : decode cX6_who 81 = .ok (.ifCond .ne 7, 3) := by decide +kernel
theorem dX6_who_84 : decode cX6_who 84 = .ok (.iconst 0, 1) := by decide +kernel
theorem dX6_who_85 : decode cX6_who 85 = .ok (.goto 13, 3) := by decide +kernel
theorem dX6_who_88 : decode cX6_who 88 = .ok (.iload_n 2, 1) := by decide +kernel
theorem dX6_who_89 : decode cX6_who 89 = .ok (.iconst 1, 1) := by decide +kernel
theorem dX6_who_90 : decode cX6_who 90 = .ok (.if_icmp .ne 7, 3) := by decide +kernel
theorem dX6_who_93 : decode cX6_who 93 = .ok (.iconst 2, 1) := by decide +kernel
theorem dX6_who_94 : decode cX6_who 94 = .ok (.goto 4, 3) := by decide +kernel
theorem dX6_who_97 : decode cX6_who 97 = .ok (.iconst 1, 1) := by decide +kernel
theorem dX6_who_98 : decode cX6_who 98 = .ok (.istore 9, 2) := by decide +kernel
theorem dX6_who_100 : decode cX6_who 100 = .ok (.iload_n 2, 1) := by decide +kernel
theorem dX6_who_101 : decode cX6_who 101 = .ok (.iconst 2, 1) := by decide +kernel
theorem dX6_who_102 : decode cX6_who 102 = .ok (.if_icmp .ne 7, 3) := by decide +kernel
theorem dX6_who_105 : decode cX6_who 105 = .ok (.iconst 0, 1) := by decide +kernel
theorem dX6_who_106 : decode cX6_who 106 = .ok (.goto 4, 3) := by decide +kernel
theorem dX6_who_109 : decode cX6_who 109 = .ok (.iconst 1, 1) := by decide +kernel
theorem dX6_who_110 : decode cX6_who 110 = .ok (.istore 10, 2) := by decide +kernel
theorem dX6_who_112 : decode cX6_who 112 = .ok (.iload 10, 2) := by decide +kernel
theorem dX6_who_114 : decode cX6_who 114 = .ok (.iload_n 2, 1) := by decide +kernel
theorem dX6_who_115 : decode cX6_who 115 = .ok (.ifCond .ne 7, 3) := by decide +kernel
theorem dX6_who_118 : decode cX6_who 118 = .ok (.iconst 5, 1) := by decide +kernel
theorem dX6_who_119 : decode cX6_who 119 = .ok (.goto 19, 3) := by decide +kernel
theorem dX6_who_122 : decode cX6_who 122 = .ok (.iload_n 2, 1) := by decide +kernel
theorem dX6_who_123 : decode cX6_who 123 = .ok (.iconst 1, 1) := by decide +kernel
theorem dX6_who_124 : decode cX6_who 124 = .ok (.if_icmp .ne 8, 3) := by decide +kernel
theorem dX6_who_127 : decode cX6_who 127 = .ok (.bipush 9, 2) := by decide +kernel
theorem dX6_who_129 : decode cX6_who 129 = .ok (.goto 9, 3) := by decide +kernel
theorem dX6_who_132 : decode cX6_who 132 = .ok (.aload_n 0, 1) := by decide +kernel
theorem dX6_who_133 : decode cX6_who 133 = .ok (.getfield 19, 3) := by decide +kernel
theorem dX6_who_136 : decode cX6_who 136 = .ok (.iconst 0, 1) := by decide +kernel
theorem dX6_who_137 : decode cX6_who 137 = .ok (.iaload, 1) := by decide +kernel
theorem dX6_who_138 : decode cX6_who 138 = .ok (.if_icmp .gt 56, 3) := by decide +kernel
theorem dX6_who_141 : decode cX6_who 141 = .ok (.aload_n 0, 1) := by decide +kernel
theorem dX6_who_142 : decode cX6_who 142 = .ok (.invokevirtual 207, 3) := by decide +kernel
theorem dX6_who_145 : decode cX6_who 145 = .ok (.aload_n 0, 1) := by decide +kernel
theorem dX6_who_146 : decode cX6_who 146 = .ok (.getfield 25, 3) := by decide +kernel
theorem dX6_who_149 : decode cX6_who 149 = .ok (.iload_n 1, 1) := by decide +kernel
theorem dX6_who_150 : decode cX6_who 150 = .ok (.iload 9, 2) := by decide +kernel
theorem dX6_who_152 : decode cX6_who 152 = .ok (.iload 10, 2) := by decide +kernel
theorem dX6_who_154 : decode cX6_who 154 = .ok (.invokestatic 170, 3) := by decide +kernel
theorem dX6_who_157 : decode cX6_who 157 = .ok (.iload 8, 2) := by decide +kernel
theorem dX6_who_159 : decode cX6_who 159 = .ok (.aload_n 0, 1) := by decide +kernel
theorem dX6_who_160 : decode cX6_who 160 = .ok (.iload_n 3, 1) := by decide +kernel
theorem dX6_who_161 : decode cX6_who 161 = .ok (.bipush 40, 2) := by decide +kernel
theorem dX6_who_163 : decode cX6_who 163 = .ok (.iload 4, 2) := by decide +kernel
theorem dX6_who_165 : decode cX6_who 165 = .ok (.imul, 1) := by decide +kernel
theorem dX6_who_166 : decode cX6_who 166 = .ok (.iload 5, 2) := by decide +kernel
theorem dX6_who_168 : decode cX6_who 168 = .ok (.iadd, 1) := by decide +kernel
theorem dX6_who_169 : decode cX6_who 169 = .ok (.iload 6, 2) := by decide +kernel
theorem dX6_who_171 : decode cX6_who 171 = .ok (.invokevirtual 271, 3) := by decide +kernel
theorem dX6_who_174 : decode cX6_who 174 = .ok (.ifCond .eq 10, 3) := by decide +kernel
theorem dX6_who_177 : decode cX6_who 177 = .ok (.iconst 1, 1) := by decide +kernel
theorem dX6_who_178 : decode cX6_who 178 = .ok (.iload 10, 2) := by decide +kernel
theorem dX6_who_180 : decode cX6_who 180 = .ok (.ishl, 1) := by decide +kernel
theorem dX6_who_181 : decode cX6_who 181 = .ok (.goto 4, 3) := by decide +kernel
theorem dX6_who_184 : decode cX6_who 184 = .ok (.iconst 0, 1) := by decide +kernel
theorem dX6_who_185 : decode cX6_who 185 = .ok (.ior, 1) := by decide +kernel
theorem dX6_who_186 : decode cX6_who 186 = .ok (.istore 8, 2) := by decide +kernel
theorem dX6_who_188 : decode cX6_who 188 = .ok (.iinc 10 1, 3) := by decide +kernel
theorem dX6_who_191 : decode cX6_who 191 = .ok (.goto (-79), 3) := by decide +kernel
theorem dX6_who_194 : decode cX6_who 194 = .ok (.iload 8, 2) := by decide +kernel
theorem dX6_who_196 : decode cX6_who 196 = .ok (.ireturn, 1) := by decide +kernel
set_option maxRecDepth 20000 in
theorem ggX6_frosts_X6_isRoom : GoodIn wsX6_frosts wsX6_isRoom := goodIn_r _ [10, 5, 11, 12, 9, 13, 73, 74, 75, 76, 77, 78, 79, 80, 81, 82, 83, 84, 85, 86, 87, 88, 89, 90, 91, 92, 93, 94, 95, 96] (by decide +kernel) (by decide +kernel)
set_option maxRecDepth 20000 in
theorem gX6_frosts_X6_isRoom : GoodIn wsX6_frosts (wsV RX6 213 RX6 yX6_isRoom wsX6_isRoom) := goodIn_app (goodIn_of _ (by decide +kernel)) ggX6_frosts_X6_isRoom
set_option maxRecDepth 20000 in
theorem ggX6_frosts_X6_in : GoodIn wsX6_frosts wsX6_in := goodIn_r _ [13] (by decide +kernel) (by decide +kernel)
set_option maxRecDepth 20000 in
theorem gX6_frosts_X6_in : GoodIn wsX6_frosts (va_wsS RX6 57 yX6_in wsX6_in) := goodIn_app (goodIn_of _ (by decide +kernel)) ggX6_frosts_X6_in
set_option maxRecDepth 20000 in
theorem ggX6_frosts_X6_isRow : GoodIn wsX6_frosts wsX6_isRow := goodIn_r _ [16, 17, 11, 12, 9, 13] (by decide +kernel) (by decide +kernel)
set_option maxRecDepth 20000 in
theorem gX6_frosts_X6_isRow : GoodIn wsX6_frosts (va_wsS RX6 61 yX6_isRow wsX6_isRow) := goodIn_app (goodIn_of _ (by decide +kernel)) ggX6_frosts_X6_isRow
theorem dX6_frosts_0 : decode cX6_frosts 0 = .ok (.aload_n 0, 1) := by decide +kernel
theorem dX6_frosts_1 : decode cX6_frosts 1 = .ok (.iconst 0, 1) := by decide +kernel
theorem dX6_frosts_2 : decode cX6_frosts 2 = .ok (.putfield 47, 3) := by decide +kernel
theorem dX6_frosts_5 : decode cX6_frosts 5 = .ok (.aload_n 0, 1) := by decide +kernel
theorem dX6_frosts_6 : decode cX6_frosts 6 = .ok (.iload_n 1, 1) := by decide +kernel
theorem dX6_frosts_7 : decode cX6_frosts 7 = .ok (.invokevirtual 213, 3) := by decide +kernel
theorem dX6_frosts_10 : decode cX6_frosts 10 = .ok (.ifCond .eq 33, 3) := by decide +kernel
theorem dX6_frosts_13 : decode cX6_frosts 13 = .ok (.iload_n 2, 1) := by decide +kernel
theorem dX6_frosts_14 : decode cX6_frosts 14 = .ok (.i2l, 1) := by decide +kernel
theorem dX6_frosts_15 : decode cX6_frosts 15 = .ok (.lconst 0, 1) := by decide +kernel
theorem dX6_frosts_16 : decode cX6_frosts 16 = .ok (.lconst 1, 1) := by decide +kernel
theorem dX6_frosts_17 : decode cX6_frosts 17 = .ok (.invokestatic 57, 3) := by decide +kernel
theorem dX6_frosts_20 : decode cX6_frosts 20 = .ok (.ifCond .eq 23, 3) := by decide +kernel
theorem dX6_frosts_23 : decode cX6_frosts 23 = .ok (.iload_n 3, 1) := by decide +kernel
theorem dX6_frosts_24 : decode cX6_frosts 24 = .ok (.invokestatic 61, 3) := by decide +kernel
theorem dX6_frosts_27 : decode cX6_frosts 27 = .ok (.ifCond .eq 16, 3) := by decide +kernel
theorem dX6_frosts_30 : decode cX6_frosts 30 = .ok (.iload 5, 2) := by decide +kernel
theorem dX6_frosts_32 : decode cX6_frosts 32 = .ok (.i2l, 1) := by decide +kernel
theorem dX6_frosts_33 : decode cX6_frosts 33 = .ok (.lconst 1, 1) := by decide +kernel
theorem dX6_frosts_34 : decode cX6_frosts 34 = .ok (.ldc2_w 265, 3) := by decide +kernel
theorem dX6_frosts_37 : decode cX6_frosts 37 = .ok (.invokestatic 57, 3) := by decide +kernel
theorem dX6_frosts_40 : decode cX6_frosts 40 = .ok (.ifCond .ne 6, 3) := by decide +kernel
theorem dX6_frosts_43 : decode cX6_frosts 43 = .ok (.ldc 67, 2) := by decide +kernel
theorem dX6_frosts_45 : decode cX6_frosts 45 = .ok (.ireturn, 1) := by decide +kernel
theorem dX6_frosts_46 : decode cX6_frosts 46 = .ok (.aload_n 0, 1) := by decide +kernel
theorem dX6_frosts_47 : decode cX6_frosts 47 = .ok (.iload_n 3, 1) := by decide +kernel
theorem dX6_frosts_48 : decode cX6_frosts 48 = .ok (.iload 4, 2) := by decide +kernel
theorem dX6_frosts_50 : decode cX6_frosts 50 = .ok (.iload 5, 2) := by decide +kernel
theorem dX6_frosts_52 : decode cX6_frosts 52 = .ok (.invokevirtual 267, 3) := by decide +kernel
theorem dX6_frosts_55 : decode cX6_frosts 55 = .ok (.istore 6, 2) := by decide +kernel
theorem dX6_frosts_57 : decode cX6_frosts 57 = .ok (.iload 6, 2) := by decide +kernel
theorem dX6_frosts_59 : decode cX6_frosts 59 = .ok (.ifCond .eq 6, 3) := by decide +kernel
theorem dX6_frosts_62 : decode cX6_frosts 62 = .ok (.iload 6, 2) := by decide +kernel
theorem dX6_frosts_64 : decode cX6_frosts 64 = .ok (.ireturn, 1) := by decide +kernel
theorem dX6_frosts_65 : decode cX6_frosts 65 = .ok (.iconst 0, 1) := by decide +kernel
theorem dX6_frosts_66 : decode cX6_frosts 66 = .ok (.istore 7, 2) := by decide +kernel
theorem dX6_frosts_68 : decode cX6_frosts 68 = .ok (.iconst 0, 1) := by decide +kernel
theorem dX6_frosts_69 : decode cX6_frosts 69 = .ok (.istore 8, 2) := by decide +kernel
theorem dX6_frosts_71 : decode cX6_frosts 71 = .ok (.iload 8, 2) := by decide +kernel
theorem dX6_frosts_73 : decode cX6_frosts 73 = .ok (.bipush 10, 2) := by decide +kernel
theorem dX6_frosts_75 : decode cX6_frosts 75 = .ok (.if_icmp .ge 55, 3) := by decide +kernel
theorem dX6_frosts_78 : decode cX6_frosts 78 = .ok (.iload_n 2, 1) := by decide +kernel
theorem dX6_frosts_79 : decode cX6_frosts 79 = .ok (.ifCond .ne 51, 3) := by decide +kernel
theorem dX6_frosts_82 : decode cX6_frosts 82 = .ok (.aload_n 0, 1) := by decide +kernel
theorem dX6_frosts_83 : decode cX6_frosts 83 = .ok (.invokevirtual 207, 3) := by decide +kernel
theorem dX6_frosts_86 : decode cX6_frosts 86 = .ok (.aload_n 0, 1) := by decide +kernel
theorem dX6_frosts_87 : decode cX6_frosts 87 = .ok (.getfield 25, 3) := by decide +kernel
theorem dX6_frosts_90 : decode cX6_frosts 90 = .ok (.iconst 2, 1) := by decide +kernel
theorem dX6_frosts_91 : decode cX6_frosts 91 = .ok (.iload 8, 2) := by decide +kernel
theorem dX6_frosts_93 : decode cX6_frosts 93 = .ok (.iastore, 1) := by decide +kernel
theorem dX6_frosts_94 : decode cX6_frosts 94 = .ok (.iload 7, 2) := by decide +kernel
theorem dX6_frosts_96 : decode cX6_frosts 96 = .ok (.aload_n 0, 1) := by decide +kernel
theorem dX6_frosts_97 : decode cX6_frosts 97 = .ok (.iload_n 1, 1) := by decide +kernel
theorem dX6_frosts_98 : decode cX6_frosts 98 = .ok (.bipush 40, 2) := by decide +kernel
theorem dX6_frosts_100 : decode cX6_frosts 100 = .ok (.iload_n 3, 1) := by decide +kernel
theorem dX6_frosts_101 : decode cX6_frosts 101 = .ok (.imul, 1) := by decide +kernel
theorem dX6_frosts_102 : decode cX6_frosts 102 = .ok (.iload 4, 2) := by decide +kernel
theorem dX6_frosts_104 : decode cX6_frosts 104 = .ok (.iadd, 1) := by decide +kernel
theorem dX6_frosts_105 : decode cX6_frosts 105 = .ok (.iload 5, 2) := by decide +kernel
theorem dX6_frosts_107 : decode cX6_frosts 107 = .ok (.invokevirtual 271, 3) := by decide +kernel
theorem dX6_frosts_110 : decode cX6_frosts 110 = .ok (.ifCond .eq 10, 3) := by decide +kernel
theorem dX6_frosts_113 : decode cX6_frosts 113 = .ok (.iconst 1, 1) := by decide +kernel
theorem dX6_frosts_114 : decode cX6_frosts 114 = .ok (.iload 8, 2) := by decide +kernel
theorem dX6_frosts_116 : decode cX6_frosts 116 = .ok (.ishl, 1) := by decide +kernel
theorem dX6_frosts_117 : decode cX6_frosts 117 = .ok (.goto 4, 3) := by decide +kernel
theorem dX6_frosts_120 : decode cX6_frosts 120 = .ok (.iconst 0, 1) := by decide +kernel
theorem dX6_frosts_121 : decode cX6_frosts 121 = .ok (.ior, 1) := by decide +kernel
theorem dX6_frosts_122 : decode cX6_frosts 122 = .ok (.istore 7, 2) := by decide +kernel
theorem dX6_frosts_124 : decode cX6_frosts 124 = .ok (.iinc 8 1, 3) := by decide +kernel
theorem dX6_frosts_127 : decode cX6_frosts 127 = .ok (.goto (-56), 3) := by decide +kernel
theorem dX6_frosts_130 : decode cX6_frosts 130 = .ok (.iconst 0, 1) := by decide +kernel
theorem dX6_frosts_131 : decode cX6_frosts 131 = .ok (.istore 8, 2) := by decide +kernel
theorem dX6_frosts_133 : decode cX6_frosts 133 = .ok (.iload 8, 2) := by decide +kernel
theorem dX6_frosts_135 : decode cX6_frosts 135 = .ok (.aload_n 0, 1) := by decide +kernel
theorem dX6_frosts_136 : decode cX6_frosts 136 = .ok (.getfield 19, 3) := by decide +kernel
theorem dX6_frosts_139 : decode cX6_frosts 139 = .ok (.iconst 1, 1) := by decide +kernel
theorem dX6_frosts_140 : decode cX6_frosts 140 = .ok (.iaload, 1) := by decide +kernel
theorem dX6_frosts_141 : decode cX6_frosts 141 = .ok (.if_icmp .gt 83, 3) := by decide +kernel
theorem dX6_frosts_144 : decode cX6_frosts 144 = .ok (.iload_n 2, 1) := by decide +kernel
theorem dX6_frosts_145 : decode cX6_frosts 145 = .ok (.iconst 1, 1) := by decide +kernel
theorem dX6_frosts_146 : decode cX6_frosts 146 = .ok (.if_icmp .ne 78, 3) := by decide +kernel
theorem dX6_frosts_149 : decode cX6_frosts 149 = .ok (.aload_n 0, 1) := by decide +kernel
theorem dX6_frosts_150 : decode cX6_frosts 150 = .ok (.iload 8, 2) := by decide +kernel
theorem dX6_frosts_152 : decode cX6_frosts 152 = .ok (.aload_n 0, 1) := by decide +kernel
theorem dX6_frosts_153 : decode cX6_frosts 153 = .ok (.getfield 19, 3) := by decide +kernel
theorem dX6_frosts_156 : decode cX6_frosts 156 = .ok (.iconst 1, 1) := by decide +kernel
theorem dX6_frosts_157 : decode cX6_frosts 157 = .ok (.iaload, 1) := by decide +kernel
theorem dX6_frosts_158 : decode cX6_frosts 158 = .ok (.if_icmp .ge 10, 3) := by decide +kernel
theorem dX6_frosts_161 : decode cX6_frosts 161 = .ok (.iconst 1, 1) := by decide +kernel
theorem dX6_frosts_162 : decode cX6_frosts 162 = .ok (.iload 8, 2) := by decide +kernel
theorem dX6_frosts_164 : decode cX6_frosts 164 = .ok (.ishl, 1) := by decide +kernel
theorem dX6_frosts_165 : decode cX6_frosts 165 = .ok (.goto 4, 3) := by decide +kernel
theorem dX6_frosts_168 : decode cX6_frosts 168 = .ok (.iconst 0, 1) := by decide +kernel
theorem dX6_frosts_169 : decode cX6_frosts 169 = .ok (.invokevirtual 247, 3) := by decide +kernel
theorem dX6_frosts_172 : decode cX6_frosts 172 = .ok (.iload 7, 2) := by decide +kernel
theorem dX6_frosts_174 : decode cX6_frosts 174 = .ok (.aload_n 0, 1) := by decide +kernel
theorem dX6_frosts_175 : decode cX6_frosts 175 = .ok (.iload_n 1, 1) := by decide +kernel
theorem dX6_frosts_176 : decode cX6_frosts 176 = .ok (.bipush 40, 2) := by decide +kernel
theorem dX6_frosts_178 : decode cX6_frosts 178 = .ok (.iload_n 3, 1) := by decide +kernel
theorem dX6_frosts_179 : decode cX6_frosts 179 = .ok (.imul, 1) := by decide +kernel
theorem dX6_frosts_180 : decode cX6_frosts 180 = .ok (.iload 4, 2) := by decide +kernel
theorem dX6_frosts_182 : decode cX6_frosts 182 = .ok (.iadd, 1) := by decide +kernel
theorem dX6_frosts_183 : decode cX6_frosts 183 = .ok (.iload 5, 2) := by decide +kernel
theorem dX6_frosts_185 : decode cX6_frosts 185 = .ok (.invokevirtual 271, 3) := by decide +kernel
theorem dX6_frosts_188 : decode cX6_frosts 188 = .ok (.ifCond .eq 26, 3) := by decide +kernel
theorem dX6_frosts_191 : decode cX6_frosts 191 = .ok (.iload 8, 2) := by decide +kernel
theorem dX6_frosts_193 : decode cX6_frosts 193 = .ok (.aload_n 0, 1) := by decide +kernel
theorem dX6_frosts_194 : decode cX6_frosts 194 = .ok (.getfield 19, 3) := by decide +kernel
theorem dX6_frosts_197 : decode cX6_frosts 197 = .ok (.iconst 1, 1) := by decide +kernel
theorem dX6_frosts_198 : decode cX6_frosts 198 = .ok (.iaload, 1) := by decide +kernel
theorem dX6_frosts_199 : decode cX6_frosts 199 = .ok (.if_icmp .ge 10, 3) := by decide +kernel
theorem dX6_frosts_202 : decode cX6_frosts 202 = .ok (.iconst 1, 1) := by decide +kernel
theorem dX6_frosts_203 : decode cX6_frosts 203 = .ok (.iload 8, 2) := by decide +kernel
theorem dX6_frosts_205 : decode cX6_frosts 205 = .ok (.ishl, 1) := by decide +kernel
theorem dX6_frosts_206 : decode cX6_frosts 206 = .ok (.goto 9, 3) := by decide +kernel
theorem dX6_frosts_209 : decode cX6_frosts 209 = .ok (.bipush 64, 2) := by decide +kernel
theorem dX6_frosts_211 : decode cX6_frosts 211 = .ok (.goto 4, 3) := by decide +kernel
theorem dX6_frosts_214 : decode cX6_frosts 214 = .ok (.iconst 0, 1) := by decide +kernel
theorem dX6_frosts_215 : decode cX6_frosts 215 = .ok (.ior, 1) := by decide +kernel
theorem dX6_frosts_216 : decode cX6_frosts 216 = .ok (.istore 7, 2) := by decide +kernel
theorem dX6_frosts_218 : decode cX6_frosts 218 = .ok (.iinc 8 1, 3) := by decide +kernel
theorem dX6_frosts_221 : decode cX6_frosts 221 = .ok (.goto (-88), 3) := by decide +kernel
theorem dX6_frosts_224 : decode cX6_frosts 224 = .ok (.iload 7, 2) := by decide +kernel
theorem dX6_frosts_226 : decode cX6_frosts 226 = .ok (.ireturn, 1) := by decide +kernel
set_option maxRecDepth 20000 in
theorem ggX6_forgotten_X6_isRoom : GoodIn wsX6_forgotten wsX6_isRoom := goodIn_r _ [11, 5, 12, 13, 10, 14, 60, 61, 62, 63, 64, 65, 66, 67, 68, 69, 70, 71, 72, 73, 74, 75, 76, 77, 78, 79, 80, 81, 82, 83] (by decide +kernel) (by decide +kernel)
set_option maxRecDepth 20000 in
theorem gX6_forgotten_X6_isRoom : GoodIn wsX6_forgotten (wsV RX6 213 RX6 yX6_isRoom wsX6_isRoom) := goodIn_app (goodIn_of _ (by decide +kernel)) ggX6_forgotten_X6_isRoom
set_option maxRecDepth 20000 in
theorem ggX6_forgotten_X6_in : GoodIn wsX6_forgotten wsX6_in := goodIn_r _ [14] (by decide +kernel) (by decide +kernel)
set_option maxRecDepth 20000 in
theorem gX6_forgotten_X6_in : GoodIn wsX6_forgotten (va_wsS RX6 57 yX6_in wsX6_in) := goodIn_app (goodIn_of _ (by decide +kernel)) ggX6_forgotten_X6_in
theorem dX6_forgotten_0 : decode cX6_forgotten 0 = .ok (.aload_n 0, 1) := by decide +kernel
theorem dX6_forgotten_1 : decode cX6_forgotten 1 = .ok (.iconst 0, 1) := by decide +kernel
theorem dX6_forgotten_2 : decode cX6_forgotten 2 = .ok (.putfield 47, 3) := by decide +kernel
theorem dX6_forgotten_5 : decode cX6_forgotten 5 = .ok (.aload_n 0, 1) := by decide +kernel
theorem dX6_forgotten_6 : decode cX6_forgotten 6 = .ok (.iload_n 1, 1) := by decide +kernel
theorem dX6_forgotten_7 : decode cX6_forgotten 7 = .ok (.invokevirtual 213, 3) := by decide +kernel
theorem dX6_forgotten_10 : decode cX6_forgotten 10 = .ok (.ifCond .eq 38, 3) := by decide +kernel
theorem dX6_forgotten_13 : decode cX6_forgotten 13 = .ok (.iload_n 2, 1) := by decide +kernel
theorem dX6_forgotten_14 : decode cX6_forgotten 14 = .ok (.i2l, 1) := by decide +kernel
theorem dX6_forgotten_15 : decode cX6_forgotten 15 = .ok (.lconst 0, 1) := by decide +kernel
theorem dX6_forgotten_16 : decode cX6_forgotten 16 = .ok (.ldc2_w 235, 3) := by decide +kernel
theorem dX6_forgotten_19 : decode cX6_forgotten 19 = .ok (.invokestatic 57, 3) := by decide +kernel
theorem dX6_forgotten_22 : decode cX6_forgotten 22 = .ok (.ifCond .eq 26, 3) := by decide +kernel
theorem dX6_forgotten_25 : decode cX6_forgotten 25 = .ok (.iload_n 3, 1) := by decide +kernel
theorem dX6_forgotten_26 : decode cX6_forgotten 26 = .ok (.i2l, 1) := by decide +kernel
theorem dX6_forgotten_27 : decode cX6_forgotten 27 = .ok (.lconst 0, 1) := by decide +kernel
theorem dX6_forgotten_28 : decode cX6_forgotten 28 = .ok (.ldc2_w 274, 3) := by decide +kernel
theorem dX6_forgotten_31 : decode cX6_forgotten 31 = .ok (.invokestatic 57, 3) := by decide +kernel
theorem dX6_forgotten_34 : decode cX6_forgotten 34 = .ok (.ifCond .eq 14, 3) := by decide +kernel
theorem dX6_forgotten_37 : decode cX6_forgotten 37 = .ok (.iload 4, 2) := by decide +kernel
theorem dX6_forgotten_39 : decode cX6_forgotten 39 = .ok (.i2l, 1) := by decide +kernel
theorem dX6_forgotten_40 : decode cX6_forgotten 40 = .ok (.lconst 0, 1) := by decide +kernel
theorem dX6_forgotten_41 : decode cX6_forgotten 41 = .ok (.lconst 1, 1) := by decide +kernel
theorem dX6_forgotten_42 : decode cX6_forgotten 42 = .ok (.invokestatic 57, 3) := by decide +kernel
theorem dX6_forgotten_45 : decode cX6_forgotten 45 = .ok (.ifCond .ne 7, 3) := by decide +kernel
theorem dX6_forgotten_48 : decode cX6_forgotten 48 = .ok (.ldc2_w 276, 3) := by decide +kernel
theorem dX6_forgotten_51 : decode cX6_forgotten 51 = .ok (.lreturn, 1) := by decide +kernel
theorem dX6_forgotten_52 : decode cX6_forgotten 52 = .ok (.aload_n 0, 1) := by decide +kernel
theorem dX6_forgotten_53 : decode cX6_forgotten 53 = .ok (.invokevirtual 237, 3) := by decide +kernel
theorem dX6_forgotten_56 : decode cX6_forgotten 56 = .ok (.istore 5, 2) := by decide +kernel
theorem dX6_forgotten_58 : decode cX6_forgotten 58 = .ok (.lconst 0, 1) := by decide +kernel
theorem dX6_forgotten_59 : decode cX6_forgotten 59 = .ok (.lstore 6, 2) := by decide +kernel
theorem dX6_forgotten_61 : decode cX6_forgotten 61 = .ok (.lconst 0, 1) := by decide +kernel
theorem dX6_forgotten_62 : decode cX6_forgotten 62 = .ok (.lstore 8, 2) := by decide +kernel
theorem dX6_forgotten_64 : decode cX6_forgotten 64 = .ok (.iconst 0, 1) := by decide +kernel
theorem dX6_forgotten_65 : decode cX6_forgotten 65 = .ok (.istore 10, 2) := by decide +kernel
theorem dX6_forgotten_67 : decode cX6_forgotten 67 = .ok (.iload 10, 2) := by decide +kernel
theorem dX6_forgotten_69 : decode cX6_forgotten 69 = .ok (.iload 5, 2) := by decide +kernel
theorem dX6_forgotten_71 : decode cX6_forgotten 71 = .ok (.if_icmp .gt 125, 3) := by decide +kernel
theorem dX6_forgotten_74 : decode cX6_forgotten 74 = .ok (.iload 10, 2) := by decide +kernel
theorem dX6_forgotten_76 : decode cX6_forgotten 76 = .ok (.iload 5, 2) := by decide +kernel
theorem dX6_forgotten_78 : decode cX6_forgotten 78 = .ok (.iconst (-1), 1) := by decide +kernel
theorem dX6_forgotten_79 : decode cX6_forgotten 79 = .ok (.ixor, 1) := by decide +kernel
theorem dX6_forgotten_80 : decode cX6_forgotten 80 = .ok (.iand, 1) := by decide +kernel
theorem dX6_forgotten_81 : decode cX6_forgotten 81 = .ok (.ifCond .ne 109, 3) := by decide +kernel
theorem dX6_forgotten_84 : decode cX6_forgotten 84 = .ok (.lconst 1, 1) := by decide +kernel
theorem dX6_forgotten_85 : decode cX6_forgotten 85 = .ok (.lstore 11, 2) := by decide +kernel
theorem dX6_forgotten_87 : decode cX6_forgotten 87 = .ok (.iconst 0, 1) := by decide +kernel
theorem dX6_forgotten_88 : decode cX6_forgotten 88 = .ok (.istore 13, 2) := by decide +kernel
theorem dX6_forgotten_90 : decode cX6_forgotten 90 = .ok (.iload 13, 2) := by decide +kernel
theorem dX6_forgotten_92 : decode cX6_forgotten 92 = .ok (.aload_n 0, 1) := by decide +kernel
theorem dX6_forgotten_93 : decode cX6_forgotten 93 = .ok (.getfield 19, 3) := by decide +kernel
theorem dX6_forgotten_96 : decode cX6_forgotten 96 = .ok (.iconst 1, 1) := by decide +kernel
theorem dX6_forgotten_97 : decode cX6_forgotten 97 = .ok (.iaload, 1) := by decide +kernel
theorem dX6_forgotten_98 : decode cX6_forgotten 98 = .ok (.if_icmp .ge 49, 3) := by decide +kernel
theorem dX6_forgotten_101 : decode cX6_forgotten 101 = .ok (.lload 11, 2) := by decide +kernel
theorem dX6_forgotten_103 : decode cX6_forgotten 103 = .ok (.iload 5, 2) := by decide +kernel
theorem dX6_forgotten_105 : decode cX6_forgotten 105 = .ok (.iload 13, 2) := by decide +kernel
theorem dX6_forgotten_107 : decode cX6_forgotten 107 = .ok (.invokestatic 231, 3) := by decide +kernel
theorem dX6_forgotten_110 : decode cX6_forgotten 110 = .ok (.ifCond .ne 7, 3) := by decide +kernel
theorem dX6_forgotten_113 : decode cX6_forgotten 113 = .ok (.lconst 1, 1) := by decide +kernel
theorem dX6_forgotten_114 : decode cX6_forgotten 114 = .ok (.goto 24, 3) := by decide +kernel
theorem dX6_forgotten_117 : decode cX6_forgotten 117 = .ok (.iload 10, 2) := by decide +kernel
theorem dX6_forgotten_119 : decode cX6_forgotten 119 = .ok (.iload 13, 2) := by decide +kernel
theorem dX6_forgotten_121 : decode cX6_forgotten 121 = .ok (.invokestatic 231, 3) := by decide +kernel
theorem dX6_forgotten_124 : decode cX6_forgotten 124 = .ok (.ifCond .eq 12, 3) := by decide +kernel
theorem dX6_forgotten_127 : decode cX6_forgotten 127 = .ok (.ldc2_w 274, 3) := by decide +kernel
theorem dX6_forgotten_130 : decode cX6_forgotten 130 = .ok (.iload_n 3, 1) := by decide +kernel
theorem dX6_forgotten_131 : decode cX6_forgotten 131 = .ok (.i2l, 1) := by decide +kernel
theorem dX6_forgotten_132 : decode cX6_forgotten 132 = .ok (.lsub, 1) := by decide +kernel
theorem dX6_forgotten_133 : decode cX6_forgotten 133 = .ok (.goto 5, 3) := by decide +kernel
theorem dX6_forgotten_136 : decode cX6_forgotten 136 = .ok (.iload_n 3, 1) := by decide +kernel
theorem dX6_forgotten_137 : decode cX6_forgotten 137 = .ok (.i2l, 1) := by decide +kernel
theorem dX6_forgotten_138 : decode cX6_forgotten 138 = .ok (.lmul, 1) := by decide +kernel
theorem dX6_forgotten_139 : decode cX6_forgotten 139 = .ok (.lstore 11, 2) := by decide +kernel
theorem dX6_forgotten_141 : decode cX6_forgotten 141 = .ok (.iinc 13 1, 3) := by decide +kernel
theorem dX6_forgotten_144 : decode cX6_forgotten 144 = .ok (.goto (-54), 3) := by decide +kernel
theorem dX6_forgotten_147 : decode cX6_forgotten 147 = .ok (.aload_n 0, 1) := by decide +kernel
theorem dX6_forgotten_148 : decode cX6_forgotten 148 = .ok (.iload 10, 2) := by decide +kernel
theorem dX6_forgotten_150 : decode cX6_forgotten 150 = .ok (.invokevirtual 244, 3) := by decide +kernel
theorem dX6_forgotten_153 : decode cX6_forgotten 153 = .ok (.aload_n 0, 1) := by decide +kernel
theorem dX6_forgotten_154 : decode cX6_forgotten 154 = .ok (.getfield 25, 3) := by decide +kernel
theorem dX6_forgotten_157 : decode cX6_forgotten 157 = .ok (.iload_n 2, 1) := by decide +kernel
theorem dX6_forgotten_158 : decode cX6_forgotten 158 = .ok (.invokestatic 227, 3) := by decide +kernel
theorem dX6_forgotten_161 : decode cX6_forgotten 161 = .ok (.lload 8, 2) := by decide +kernel
theorem dX6_forgotten_163 : decode cX6_forgotten 163 = .ok (.lload 11, 2) := by decide +kernel
theorem dX6_forgotten_165 : decode cX6_forgotten 165 = .ok (.ladd, 1) := by decide +kernel
theorem dX6_forgotten_166 : decode cX6_forgotten 166 = .ok (.lstore 8, 2) := by decide +kernel
theorem dX6_forgotten_168 : decode cX6_forgotten 168 = .ok (.lload 6, 2) := by decide +kernel
theorem dX6_forgotten_170 : decode cX6_forgotten 170 = .ok (.aload_n 0, 1) := by decide +kernel
theorem dX6_forgotten_171 : decode cX6_forgotten 171 = .ok (.getfield 25, 3) := by decide +kernel
theorem dX6_forgotten_174 : decode cX6_forgotten 174 = .ok (.iload_n 1, 1) := by decide +kernel
theorem dX6_forgotten_175 : decode cX6_forgotten 175 = .ok (.invokestatic 167, 3) := by decide +kernel
theorem dX6_forgotten_178 : decode cX6_forgotten 178 = .ok (.ifCond .eq 7, 3) := by decide +kernel
theorem dX6_forgotten_181 : decode cX6_forgotten 181 = .ok (.lconst 0, 1) := by decide +kernel
theorem dX6_forgotten_182 : decode cX6_forgotten 182 = .ok (.goto 5, 3) := by decide +kernel
theorem dX6_forgotten_185 : decode cX6_forgotten 185 = .ok (.lload 11, 2) := by decide +kernel
theorem dX6_forgotten_187 : decode cX6_forgotten 187 = .ok (.ladd, 1) := by decide +kernel
theorem dX6_forgotten_188 : decode cX6_forgotten 188 = .ok (.lstore 6, 2) := by decide +kernel
theorem dX6_forgotten_190 : decode cX6_forgotten 190 = .ok (.iinc 10 1, 3) := by decide +kernel
theorem dX6_forgotten_193 : decode cX6_forgotten 193 = .ok (.goto (-126), 3) := by decide +kernel
theorem dX6_forgotten_196 : decode cX6_forgotten 196 = .ok (.lload 6, 2) := by decide +kernel
theorem dX6_forgotten_198 : decode cX6_forgotten 198 = .ok (.lstore 10, 2) := by decide +kernel
theorem dX6_forgotten_200 : decode cX6_forgotten 200 = .ok (.lload 8, 2) := by decide +kernel
theorem dX6_forgotten_202 : decode cX6_forgotten 202 = .ok (.lstore 12, 2) := by decide +kernel
theorem dX6_forgotten_204 : decode cX6_forgotten 204 = .ok (.lload 12, 2) := by decide +kernel
theorem dX6_forgotten_206 : decode cX6_forgotten 206 = .ok (.lconst 0, 1) := by decide +kernel
theorem dX6_forgotten_207 : decode cX6_forgotten 207 = .ok (.lcmp, 1) := by decide +kernel
theorem dX6_forgotten_208 : decode cX6_forgotten 208 = .ok (.ifCond .eq 21, 3) := by decide +kernel
theorem dX6_forgotten_211 : decode cX6_forgotten 211 = .ok (.lload 10, 2) := by decide +kernel
theorem dX6_forgotten_213 : decode cX6_forgotten 213 = .ok (.lload 12, 2) := by decide +kernel
theorem dX6_forgotten_215 : decode cX6_forgotten 215 = .ok (.lrem, 1) := by decide +kernel
theorem dX6_forgotten_216 : decode cX6_forgotten 216 = .ok (.lstore 14, 2) := by decide +kernel
theorem dX6_forgotten_218 : decode cX6_forgotten 218 = .ok (.lload 12, 2) := by decide +kernel
theorem dX6_forgotten_220 : decode cX6_forgotten 220 = .ok (.lstore 10, 2) := by decide +kernel
theorem dX6_forgotten_222 : decode cX6_forgotten 222 = .ok (.lload 14, 2) := by decide +kernel
theorem dX6_forgotten_224 : decode cX6_forgotten 224 = .ok (.lstore 12, 2) := by decide +kernel
theorem dX6_forgotten_226 : decode cX6_forgotten 226 = .ok (.goto (-22), 3) := by decide +kernel
theorem dX6_forgotten_229 : decode cX6_forgotten 229 = .ok (.iload 4, 2) := by decide +kernel
theorem dX6_forgotten_231 : decode cX6_forgotten 231 = .ok (.ifCond .ne 8, 3) := by decide +kernel
theorem dX6_forgotten_234 : decode cX6_forgotten 234 = .ok (.lload 6, 2) := by decide +kernel
theorem dX6_forgotten_236 : decode cX6_forgotten 236 = .ok (.goto 5, 3) := by decide +kernel
theorem dX6_forgotten_239 : decode cX6_forgotten 239 = .ok (.lload 8, 2) := by decide +kernel
theorem dX6_forgotten_241 : decode cX6_forgotten 241 = .ok (.lload 10, 2) := by decide +kernel
theorem dX6_forgotten_243 : decode cX6_forgotten 243 = .ok (.ldiv, 1) := by decide +kernel
theorem dX6_forgotten_244 : decode cX6_forgotten 244 = .ok (.lreturn, 1) := by decide +kernel
set_option maxRecDepth 20000 in
theorem ggX6_drawn_X6_isThere : GoodIn wsX6_drawn wsX6_isThere := goodIn_r _ [15, 16, 63, 64, 65, 66, 67, 68, 69, 70, 71, 72, 73, 74, 75, 76, 77, 78, 79, 80, 81, 82, 83, 84, 85, 86] (by decide +kernel) (by decide +kernel)
set_option maxRecDepth 20000 in
theorem gX6_drawn_X6_isThere : GoodIn wsX6_drawn (wsV RX6 152 RX6 yX6_isThere wsX6_isThere) := goodIn_app (goodIn_of _ (by decide +kernel)) ggX6_drawn_X6_isThere
set_option maxRecDepth 20000 in
theorem ggX6_drawn_X6_in : GoodIn wsX6_drawn wsX6_in := goodIn_r _ [19] (by decide +kernel) (by decide +kernel)
set_option maxRecDepth 20000 in
theorem gX6_drawn_X6_in : GoodIn wsX6_drawn (va_wsS RX6 57 yX6_in wsX6_in) := goodIn_app (goodIn_of _ (by decide +kernel)) ggX6_drawn_X6_in
set_option maxRecDepth 20000 in
theorem ggX6_drawn_X6_colds : GoodIn wsX6_drawn wsX6_colds := goodIn_r _ [53, 48, 49, 14, 50, 33, 34, 35] (by decide +kernel) (by decide +kernel)
set_option maxRecDepth 20000 in
theorem gX6_drawn_X6_colds : GoodIn wsX6_drawn (va_wsS RX6 195 yX6_colds wsX6_colds) := goodIn_app (goodIn_of _ (by decide +kernel)) ggX6_drawn_X6_colds
theorem dX6_drawn_0 : decode cX6_drawn 0 = .ok (.aload_n 0, 1) := by decide +kernel
theorem dX6_drawn_1 : decode cX6_drawn 1 = .ok (.iconst 0, 1) := by decide +kernel
theorem dX6_drawn_2 : decode cX6_drawn 2 = .ok (.putfield 47, 3) := by decide +kernel
theorem dX6_drawn_5 : decode cX6_drawn 5 = .ok (.aload_n 0, 1) := by decide +kernel
theorem dX6_drawn_6 : decode cX6_drawn 6 = .ok (.invokevirtual 152, 3) := by decide +kernel
theorem dX6_drawn_9 : decode cX6_drawn 9 = .ok (.ifCond .ne 6, 3) := by decide +kernel
theorem dX6_drawn_12 : decode cX6_drawn 12 = .ok (.ldc 189, 2) := by decide +kernel
theorem dX6_drawn_14 : decode cX6_drawn 14 = .ok (.ireturn, 1) := by decide +kernel
theorem dX6_drawn_15 : decode cX6_drawn 15 = .ok (.iload_n 1, 1) := by decide +kernel
theorem dX6_drawn_16 : decode cX6_drawn 16 = .ok (.i2l, 1) := by decide +kernel
theorem dX6_drawn_17 : decode cX6_drawn 17 = .ok (.lconst 0, 1) := by decide +kernel
theorem dX6_drawn_18 : decode cX6_drawn 18 = .ok (.ldc2_w 225, 3) := by decide +kernel
theorem dX6_drawn_21 : decode cX6_drawn 21 = .ok (.invokestatic 57, 3) := by decide +kernel
theorem dX6_drawn_24 : decode cX6_drawn 24 = .ok (.ifCond .eq 25, 3) := by decide +kernel
theorem dX6_drawn_27 : decode cX6_drawn 27 = .ok (.iload_n 2, 1) := by decide +kernel
theorem dX6_drawn_28 : decode cX6_drawn 28 = .ok (.i2l, 1) := by decide +kernel
theorem dX6_drawn_29 : decode cX6_drawn 29 = .ok (.lconst 1, 1) := by decide +kernel
theorem dX6_drawn_30 : decode cX6_drawn 30 = .ok (.ldc2_w 278, 3) := by decide +kernel
theorem dX6_drawn_33 : decode cX6_drawn 33 = .ok (.invokestatic 57, 3) := by decide +kernel
theorem dX6_drawn_36 : decode cX6_drawn 36 = .ok (.ifCond .eq 13, 3) := by decide +kernel
theorem dX6_drawn_39 : decode cX6_drawn 39 = .ok (.iload_n 3, 1) := by decide +kernel
theorem dX6_drawn_40 : decode cX6_drawn 40 = .ok (.i2l, 1) := by decide +kernel
theorem dX6_drawn_41 : decode cX6_drawn 41 = .ok (.lconst 0, 1) := by decide +kernel
theorem dX6_drawn_42 : decode cX6_drawn 42 = .ok (.lconst 1, 1) := by decide +kernel
theorem dX6_drawn_43 : decode cX6_drawn 43 = .ok (.invokestatic 57, 3) := by decide +kernel
theorem dX6_drawn_46 : decode cX6_drawn 46 = .ok (.ifCond .ne 6, 3) := by decide +kernel
theorem dX6_drawn_49 : decode cX6_drawn 49 = .ok (.ldc 67, 2) := by decide +kernel
theorem dX6_drawn_51 : decode cX6_drawn 51 = .ok (.ireturn, 1) := by decide +kernel
theorem dX6_drawn_52 : decode cX6_drawn 52 = .ok (.aload_n 0, 1) := by decide +kernel
theorem dX6_drawn_53 : decode cX6_drawn 53 = .ok (.invokevirtual 207, 3) := by decide +kernel
theorem dX6_drawn_56 : decode cX6_drawn 56 = .ok (.iload_n 2, 1) := by decide +kernel
theorem dX6_drawn_57 : decode cX6_drawn 57 = .ok (.i2l, 1) := by decide +kernel
theorem dX6_drawn_58 : decode cX6_drawn 58 = .ok (.lstore 4, 2) := by decide +kernel
theorem dX6_drawn_60 : decode cX6_drawn 60 = .ok (.iconst 0, 1) := by decide +kernel
theorem dX6_drawn_61 : decode cX6_drawn 61 = .ok (.istore 6, 2) := by decide +kernel
theorem dX6_drawn_63 : decode cX6_drawn 63 = .ok (.iload 6, 2) := by decide +kernel
theorem dX6_drawn_65 : decode cX6_drawn 65 = .ok (.iload_n 1, 1) := by decide +kernel
theorem dX6_drawn_66 : decode cX6_drawn 66 = .ok (.if_icmp .ge 95, 3) := by decide +kernel
theorem dX6_drawn_69 : decode cX6_drawn 69 = .ok (.lload 4, 2) := by decide +kernel
theorem dX6_drawn_71 : decode cX6_drawn 71 = .ok (.ldc2_w 280, 3) := by decide +kernel
theorem dX6_drawn_74 : decode cX6_drawn 74 = .ok (.lmul, 1) := by decide +kernel
theorem dX6_drawn_75 : decode cX6_drawn 75 = .ok (.ldc2_w 282, 3) := by decide +kernel
theorem dX6_drawn_78 : decode cX6_drawn 78 = .ok (.lrem, 1) := by decide +kernel
theorem dX6_drawn_79 : decode cX6_drawn 79 = .ok (.lstore 4, 2) := by decide +kernel
theorem dX6_drawn_81 : decode cX6_drawn 81 = .ok (.lload 4, 2) := by decide +kernel
theorem dX6_drawn_83 : decode cX6_drawn 83 = .ok (.aload_n 0, 1) := by decide +kernel
theorem dX6_drawn_84 : decode cX6_drawn 84 = .ok (.getfield 25, 3) := by decide +kernel
theorem dX6_drawn_87 : decode cX6_drawn 87 = .ok (.iconst 1, 1) := by decide +kernel
theorem dX6_drawn_88 : decode cX6_drawn 88 = .ok (.iaload, 1) := by decide +kernel
theorem dX6_drawn_89 : decode cX6_drawn 89 = .ok (.i2l, 1) := by decide +kernel
theorem dX6_drawn_90 : decode cX6_drawn 90 = .ok (.lrem, 1) := by decide +kernel
theorem dX6_drawn_91 : decode cX6_drawn 91 = .ok (.l2i, 1) := by decide +kernel
theorem dX6_drawn_92 : decode cX6_drawn 92 = .ok (.istore 7, 2) := by decide +kernel
theorem dX6_drawn_94 : decode cX6_drawn 94 = .ok (.lload 4, 2) := by decide +kernel
theorem dX6_drawn_96 : decode cX6_drawn 96 = .ok (.ldc2_w 218, 3) := by decide +kernel
theorem dX6_drawn_99 : decode cX6_drawn 99 = .ok (.lrem, 1) := by decide +kernel
theorem dX6_drawn_100 : decode cX6_drawn 100 = .ok (.lconst 0, 1) := by decide +kernel
theorem dX6_drawn_101 : decode cX6_drawn 101 = .ok (.lcmp, 1) := by decide +kernel
theorem dX6_drawn_102 : decode cX6_drawn 102 = .ok (.ifCond .ne 14, 3) := by decide +kernel
theorem dX6_drawn_105 : decode cX6_drawn 105 = .ok (.aload_n 0, 1) := by decide +kernel
theorem dX6_drawn_106 : decode cX6_drawn 106 = .ok (.getfield 25, 3) := by decide +kernel
theorem dX6_drawn_109 : decode cX6_drawn 109 = .ok (.iload 7, 2) := by decide +kernel
theorem dX6_drawn_111 : decode cX6_drawn 111 = .ok (.invokestatic 204, 3) := by decide +kernel
theorem dX6_drawn_114 : decode cX6_drawn 114 = .ok (.istore 8, 2) := by decide +kernel
theorem dX6_drawn_116 : decode cX6_drawn 116 = .ok (.lload 4, 2) := by decide +kernel
theorem dX6_drawn_118 : decode cX6_drawn 118 = .ok (.ldc2_w 284, 3) := by decide +kernel
theorem dX6_drawn_121 : decode cX6_drawn 121 = .ok (.lrem, 1) := by decide +kernel
theorem dX6_drawn_122 : decode cX6_drawn 122 = .ok (.lconst 0, 1) := by decide +kernel
theorem dX6_drawn_123 : decode cX6_drawn 123 = .ok (.lcmp, 1) := by decide +kernel
theorem dX6_drawn_124 : decode cX6_drawn 124 = .ok (.ifCond .ne 24, 3) := by decide +kernel
theorem dX6_drawn_127 : decode cX6_drawn 127 = .ok (.aload_n 0, 1) := by decide +kernel
theorem dX6_drawn_128 : decode cX6_drawn 128 = .ok (.getfield 25, 3) := by decide +kernel
theorem dX6_drawn_131 : decode cX6_drawn 131 = .ok (.iload 7, 2) := by decide +kernel
theorem dX6_drawn_133 : decode cX6_drawn 133 = .ok (.iconst 1, 1) := by decide +kernel
theorem dX6_drawn_134 : decode cX6_drawn 134 = .ok (.lload 4, 2) := by decide +kernel
theorem dX6_drawn_136 : decode cX6_drawn 136 = .ok (.aload_n 0, 1) := by decide +kernel
theorem dX6_drawn_137 : decode cX6_drawn 137 = .ok (.getfield 25, 3) := by decide +kernel
theorem dX6_drawn_140 : decode cX6_drawn 140 = .ok (.iconst 0, 1) := by decide +kernel
theorem dX6_drawn_141 : decode cX6_drawn 141 = .ok (.iaload, 1) := by decide +kernel
theorem dX6_drawn_142 : decode cX6_drawn 142 = .ok (.i2l, 1) := by decide +kernel
theorem dX6_drawn_143 : decode cX6_drawn 143 = .ok (.lrem, 1) := by decide +kernel
theorem dX6_drawn_144 : decode cX6_drawn 144 = .ok (.l2i, 1) := by decide +kernel
theorem dX6_drawn_145 : decode cX6_drawn 145 = .ok (.invokestatic 170, 3) := by decide +kernel
theorem dX6_drawn_148 : decode cX6_drawn 148 = .ok (.aload_n 0, 1) := by decide +kernel
theorem dX6_drawn_149 : decode cX6_drawn 149 = .ok (.getfield 25, 3) := by decide +kernel
theorem dX6_drawn_152 : decode cX6_drawn 152 = .ok (.invokestatic 181, 3) := by decide +kernel
theorem dX6_drawn_155 : decode cX6_drawn 155 = .ok (.iinc 6 1, 3) := by decide +kernel
theorem dX6_drawn_158 : decode cX6_drawn 158 = .ok (.goto (-95), 3) := by decide +kernel
theorem dX6_drawn_161 : decode cX6_drawn 161 = .ok (.iload_n 3, 1) := by decide +kernel
theorem dX6_drawn_162 : decode cX6_drawn 162 = .ok (.ifCond .ne 16, 3) := by decide +kernel
theorem dX6_drawn_165 : decode cX6_drawn 165 = .ok (.aload_n 0, 1) := by decide +kernel
theorem dX6_drawn_166 : decode cX6_drawn 166 = .ok (.getfield 25, 3) := by decide +kernel
theorem dX6_drawn_169 : decode cX6_drawn 169 = .ok (.invokestatic 195, 3) := by decide +kernel
theorem dX6_drawn_172 : decode cX6_drawn 172 = .ok (.invokestatic 241, 3) := by decide +kernel
theorem dX6_drawn_175 : decode cX6_drawn 175 = .ok (.goto 10, 3) := by decide +kernel
theorem dX6_drawn_178 : decode cX6_drawn 178 = .ok (.aload_n 0, 1) := by decide +kernel
theorem dX6_drawn_179 : decode cX6_drawn 179 = .ok (.getfield 25, 3) := by decide +kernel
theorem dX6_drawn_182 : decode cX6_drawn 182 = .ok (.invokestatic 258, 3) := by decide +kernel
theorem dX6_drawn_185 : decode cX6_drawn 185 = .ok (.ireturn, 1) := by decide +kernel
set_option maxRecDepth 20000 in
theorem ggX6_image_X6_in : GoodIn wsX6_image wsX6_in := goodIn_r _ [10] (by decide +kernel) (by decide +kernel)
set_option maxRecDepth 20000 in
theorem gX6_image_X6_in : GoodIn wsX6_image (va_wsS RX6 57 yX6_in wsX6_in) := goodIn_app (goodIn_of _ (by decide +kernel)) ggX6_image_X6_in
set_option maxRecDepth 20000 in
theorem ggX6_image_X6_isThere : GoodIn wsX6_image wsX6_isThere := goodIn_r _ [14, 5, 15, 16, 17, 18, 19, 20, 21, 22, 23, 24, 25, 26, 27, 28, 29, 30, 31, 32, 33, 34, 35, 36, 37, 38] (by decide +kernel) (by decide +kernel)
set_option maxRecDepth 20000 in
theorem gX6_image_X6_isThere : GoodIn wsX6_image (wsV RX6 152 RX6 yX6_isThere wsX6_isThere) := goodIn_app (goodIn_of _ (by decide +kernel)) ggX6_image_X6_isThere
theorem dX6_image_0 : decode cX6_image 0 = .ok (.aload_n 0, 1) := by decide +kernel
theorem dX6_image_1 : decode cX6_image 1 = .ok (.iconst 0, 1) := by decide +kernel
theorem dX6_image_2 : decode cX6_image 2 = .ok (.putfield 47, 3) := by decide +kernel
theorem dX6_image_5 : decode cX6_image 5 = .ok (.iload_n 1, 1) := by decide +kernel
theorem dX6_image_6 : decode cX6_image 6 = .ok (.i2l, 1) := by decide +kernel
theorem dX6_image_7 : decode cX6_image 7 = .ok (.lconst 0, 1) := by decide +kernel
theorem dX6_image_8 : decode cX6_image 8 = .ok (.lconst 1, 1) := by decide +kernel
theorem dX6_image_9 : decode cX6_image 9 = .ok (.invokestatic 57, 3) := by decide +kernel
theorem dX6_image_12 : decode cX6_image 12 = .ok (.ifCond .ne 6, 3) := by decide +kernel
theorem dX6_image_15 : decode cX6_image 15 = .ok (.ldc 67, 2) := by decide +kernel
theorem dX6_image_17 : decode cX6_image 17 = .ok (.ireturn, 1) := by decide +kernel
theorem dX6_image_18 : decode cX6_image 18 = .ok (.aload_n 0, 1) := by decide +kernel
theorem dX6_image_19 : decode cX6_image 19 = .ok (.invokevirtual 152, 3) := by decide +kernel
theorem dX6_image_22 : decode cX6_image 22 = .ok (.ifCond .ne 6, 3) := by decide +kernel
theorem dX6_image_25 : decode cX6_image 25 = .ok (.ldc 189, 2) := by decide +kernel
theorem dX6_image_27 : decode cX6_image 27 = .ok (.ireturn, 1) := by decide +kernel
theorem dX6_image_28 : decode cX6_image 28 = .ok (.iconst 0, 1) := by decide +kernel
theorem dX6_image_29 : decode cX6_image 29 = .ok (.istore_n 2, 1) := by decide +kernel
theorem dX6_image_30 : decode cX6_image 30 = .ok (.iload_n 2, 1) := by decide +kernel
theorem dX6_image_31 : decode cX6_image 31 = .ok (.bipush 45, 2) := by decide +kernel
theorem dX6_image_33 : decode cX6_image 33 = .ok (.if_icmp .ge 26, 3) := by decide +kernel
theorem dX6_image_36 : decode cX6_image 36 = .ok (.aload_n 0, 1) := by decide +kernel
theorem dX6_image_37 : decode cX6_image 37 = .ok (.getfield 41, 3) := by decide +kernel
theorem dX6_image_40 : decode cX6_image 40 = .ok (.bipush 45, 2) := by decide +kernel
theorem dX6_image_42 : decode cX6_image 42 = .ok (.iload_n 1, 1) := by decide +kernel
theorem dX6_image_43 : decode cX6_image 43 = .ok (.imul, 1) := by decide +kernel
theorem dX6_image_44 : decode cX6_image 44 = .ok (.iload_n 2, 1) := by decide +kernel
theorem dX6_image_45 : decode cX6_image 45 = .ok (.iadd, 1) := by decide +kernel
theorem dX6_image_46 : decode cX6_image 46 = .ok (.aload_n 0, 1) := by decide +kernel
theorem dX6_image_47 : decode cX6_image 47 = .ok (.getfield 19, 3) := by decide +kernel
theorem dX6_image_50 : decode cX6_image 50 = .ok (.iload_n 2, 1) := by decide +kernel
theorem dX6_image_51 : decode cX6_image 51 = .ok (.iaload, 1) := by decide +kernel
theorem dX6_image_52 : decode cX6_image 52 = .ok (.iastore, 1) := by decide +kernel
theorem dX6_image_53 : decode cX6_image 53 = .ok (.iinc 2 1, 3) := by decide +kernel
theorem dX6_image_56 : decode cX6_image 56 = .ok (.goto (-26), 3) := by decide +kernel
theorem dX6_image_59 : decode cX6_image 59 = .ok (.aload_n 0, 1) := by decide +kernel
theorem dX6_image_60 : decode cX6_image 60 = .ok (.getfield 37, 3) := by decide +kernel
theorem dX6_image_63 : decode cX6_image 63 = .ok (.iload_n 1, 1) := by decide +kernel
theorem dX6_image_64 : decode cX6_image 64 = .ok (.iconst 1, 1) := by decide +kernel
theorem dX6_image_65 : decode cX6_image 65 = .ok (.bastore, 1) := by decide +kernel
theorem dX6_image_66 : decode cX6_image 66 = .ok (.iconst 1, 1) := by decide +kernel
theorem dX6_image_67 : decode cX6_image 67 = .ok (.ireturn, 1) := by decide +kernel
set_option maxRecDepth 20000 in
theorem ggX6_restore_X6_in : GoodIn wsX6_restore wsX6_in := goodIn_r _ [11] (by decide +kernel) (by decide +kernel)
set_option maxRecDepth 20000 in
theorem gX6_restore_X6_in : GoodIn wsX6_restore (va_wsS RX6 57 yX6_in wsX6_in) := goodIn_app (goodIn_of _ (by decide +kernel)) ggX6_restore_X6_in
theorem dX6_restore_0 : decode cX6_restore 0 = .ok (.aload_n 0, 1) := by decide +kernel
theorem dX6_restore_1 : decode cX6_restore 1 = .ok (.iconst 0, 1) := by decide +kernel
theorem dX6_restore_2 : decode cX6_restore 2 = .ok (.putfield 47, 3) := by decide +kernel
theorem dX6_restore_5 : decode cX6_restore 5 = .ok (.iload_n 1, 1) := by decide +kernel
theorem dX6_restore_6 : decode cX6_restore 6 = .ok (.i2l, 1) := by decide +kernel
theorem dX6_restore_7 : decode cX6_restore 7 = .ok (.lconst 0, 1) := by decide +kernel
theorem dX6_restore_8 : decode cX6_restore 8 = .ok (.lconst 1, 1) := by decide +kernel
theorem dX6_restore_9 : decode cX6_restore 9 = .ok (.invokestatic 57, 3) := by decide +kernel
theorem dX6_restore_12 : decode cX6_restore 12 = .ok (.ifCond .ne 6, 3) := by decide +kernel
theorem dX6_restore_15 : decode cX6_restore 15 = .ok (.ldc 67, 2) := by decide +kernel
theorem dX6_restore_17 : decode cX6_restore 17 = .ok (.ireturn, 1) := by decide +kernel
theorem dX6_restore_18 : decode cX6_restore 18 = .ok (.aload_n 0, 1) := by decide +kernel
theorem dX6_restore_19 : decode cX6_restore 19 = .ok (.getfield 37, 3) := by decide +kernel
theorem dX6_restore_22 : decode cX6_restore 22 = .ok (.iload_n 1, 1) := by decide +kernel
theorem dX6_restore_23 : decode cX6_restore 23 = .ok (.baload, 1) := by decide +kernel
theorem dX6_restore_24 : decode cX6_restore 24 = .ok (.ifCond .ne 6, 3) := by decide +kernel
theorem dX6_restore_27 : decode cX6_restore 27 = .ok (.ldc 189, 2) := by decide +kernel
theorem dX6_restore_29 : decode cX6_restore 29 = .ok (.ireturn, 1) := by decide +kernel
theorem dX6_restore_30 : decode cX6_restore 30 = .ok (.iconst 0, 1) := by decide +kernel
theorem dX6_restore_31 : decode cX6_restore 31 = .ok (.istore_n 2, 1) := by decide +kernel
theorem dX6_restore_32 : decode cX6_restore 32 = .ok (.iload_n 2, 1) := by decide +kernel
theorem dX6_restore_33 : decode cX6_restore 33 = .ok (.bipush 45, 2) := by decide +kernel
theorem dX6_restore_35 : decode cX6_restore 35 = .ok (.if_icmp .ge 26, 3) := by decide +kernel
theorem dX6_restore_38 : decode cX6_restore 38 = .ok (.aload_n 0, 1) := by decide +kernel
theorem dX6_restore_39 : decode cX6_restore 39 = .ok (.getfield 19, 3) := by decide +kernel
theorem dX6_restore_42 : decode cX6_restore 42 = .ok (.iload_n 2, 1) := by decide +kernel
theorem dX6_restore_43 : decode cX6_restore 43 = .ok (.aload_n 0, 1) := by decide +kernel
theorem dX6_restore_44 : decode cX6_restore 44 = .ok (.getfield 41, 3) := by decide +kernel
theorem dX6_restore_47 : decode cX6_restore 47 = .ok (.bipush 45, 2) := by decide +kernel
theorem dX6_restore_49 : decode cX6_restore 49 = .ok (.iload_n 1, 1) := by decide +kernel
theorem dX6_restore_50 : decode cX6_restore 50 = .ok (.imul, 1) := by decide +kernel
theorem dX6_restore_51 : decode cX6_restore 51 = .ok (.iload_n 2, 1) := by decide +kernel
theorem dX6_restore_52 : decode cX6_restore 52 = .ok (.iadd, 1) := by decide +kernel
theorem dX6_restore_53 : decode cX6_restore 53 = .ok (.iaload, 1) := by decide +kernel
theorem dX6_restore_54 : decode cX6_restore 54 = .ok (.iastore, 1) := by decide +kernel
theorem dX6_restore_55 : decode cX6_restore 55 = .ok (.iinc 2 1, 3) := by decide +kernel
theorem dX6_restore_58 : decode cX6_restore 58 = .ok (.goto (-26), 3) := by decide +kernel
theorem dX6_restore_61 : decode cX6_restore 61 = .ok (.aload_n 0, 1) := by decide +kernel
theorem dX6_restore_62 : decode cX6_restore 62 = .ok (.iconst 0, 1) := by decide +kernel
theorem dX6_restore_63 : decode cX6_restore 63 = .ok (.putfield 149, 3) := by decide +kernel
theorem dX6_restore_66 : decode cX6_restore 66 = .ok (.iconst 1, 1) := by decide +kernel
theorem dX6_restore_67 : decode cX6_restore 67 = .ok (.ireturn, 1) := by decide +kernel
set_option maxRecDepth 20000 in
theorem ggX6_kind_X6_isTube : GoodIn wsX6_kind wsX6_isTube := goodIn_r _ [8, 2, 9, 10, 7, 11, 15, 16, 17, 18, 19, 20, 21, 22, 23, 24, 25, 26, 27, 28, 29, 30, 31, 32, 33, 34, 35, 36, 37, 38] (by decide +kernel) (by decide +kernel)
set_option maxRecDepth 20000 in
theorem gX6_kind_X6_isTube : GoodIn wsX6_kind (wsV RX6 198 RX6 yX6_isTube wsX6_isTube) := goodIn_app (goodIn_of _ (by decide +kernel)) ggX6_kind_X6_isTube
theorem dX6_kind_0 : decode cX6_kind 0 = .ok (.aload_n 0, 1) := by decide +kernel
theorem dX6_kind_1 : decode cX6_kind 1 = .ok (.iconst 0, 1) := by decide +kernel
theorem dX6_kind_2 : decode cX6_kind 2 = .ok (.putfield 47, 3) := by decide +kernel
theorem dX6_kind_5 : decode cX6_kind 5 = .ok (.aload_n 0, 1) := by decide +kernel
theorem dX6_kind_6 : decode cX6_kind 6 = .ok (.iload_n 1, 1) := by decide +kernel
theorem dX6_kind_7 : decode cX6_kind 7 = .ok (.invokevirtual 198, 3) := by decide +kernel
theorem dX6_kind_10 : decode cX6_kind 10 = .ok (.ifCond .eq 15, 3) := by decide +kernel
theorem dX6_kind_13 : decode cX6_kind 13 = .ok (.aload_n 0, 1) := by decide +kernel
theorem dX6_kind_14 : decode cX6_kind 14 = .ok (.getfield 19, 3) := by decide +kernel
theorem dX6_kind_17 : decode cX6_kind 17 = .ok (.iload_n 1, 1) := by decide +kernel
theorem dX6_kind_18 : decode cX6_kind 18 = .ok (.iconst 0, 1) := by decide +kernel
theorem dX6_kind_19 : decode cX6_kind 19 = .ok (.invokestatic 155, 3) := by decide +kernel
theorem dX6_kind_22 : decode cX6_kind 22 = .ok (.goto 5, 3) := by decide +kernel
theorem dX6_kind_25 : decode cX6_kind 25 = .ok (.ldc 67, 2) := by decide +kernel
theorem dX6_kind_27 : decode cX6_kind 27 = .ok (.ireturn, 1) := by decide +kernel
set_option maxRecDepth 20000 in
theorem ggX6_as_X6_isTube : GoodIn wsX6_as wsX6_isTube := goodIn_r _ [10, 5, 11, 12, 9, 13, 25, 26, 27, 28, 29, 30, 31, 32, 33, 34, 35, 36, 37, 38, 39, 40, 41, 42, 43, 44, 45, 46, 47, 48] (by decide +kernel) (by decide +kernel)
set_option maxRecDepth 20000 in
theorem gX6_as_X6_isTube : GoodIn wsX6_as (wsV RX6 198 RX6 yX6_isTube wsX6_isTube) := goodIn_app (goodIn_of _ (by decide +kernel)) ggX6_as_X6_isTube
set_option maxRecDepth 20000 in
theorem ggX6_as_X6_in : GoodIn wsX6_as wsX6_in := goodIn_r _ [13] (by decide +kernel) (by decide +kernel)
set_option maxRecDepth 20000 in
theorem gX6_as_X6_in : GoodIn wsX6_as (va_wsS RX6 57 yX6_in wsX6_in) := goodIn_app (goodIn_of _ (by decide +kernel)) ggX6_as_X6_in
set_option maxRecDepth 20000 in
theorem ggX6_as_X6_finding : GoodIn wsX6_as wsX6_finding := goodIn_r _ [23, 4, 24, 25, 26, 27, 28, 29, 30, 31, 32, 33, 34, 35, 36, 37, 38, 39, 40, 41, 42, 43, 44, 45, 46, 47, 48] (by decide +kernel) (by decide +kernel)
set_option maxRecDepth 20000 in
theorem gX6_as_X6_finding : GoodIn wsX6_as (wsV RX6 68 RX6 yX6_finding wsX6_finding) := goodIn_app (goodIn_of _ (by decide +kernel)) ggX6_as_X6_finding
theorem dX6_as_0 : decode cX6_as 0 = .ok (.aload_n 0, 1) := by decide +kernel
theorem dX6_as_1 : decode cX6_as 1 = .ok (.iconst 0, 1) := by decide +kernel
theorem dX6_as_2 : decode cX6_as 2 = .ok (.putfield 47, 3) := by decide +kernel
theorem dX6_as_5 : decode cX6_as 5 = .ok (.aload_n 0, 1) := by decide +kernel
theorem dX6_as_6 : decode cX6_as 6 = .ok (.iload_n 1, 1) := by decide +kernel
theorem dX6_as_7 : decode cX6_as 7 = .ok (.invokevirtual 198, 3) := by decide +kernel
theorem dX6_as_10 : decode cX6_as 10 = .ok (.ifCond .eq 15, 3) := by decide +kernel
theorem dX6_as_13 : decode cX6_as 13 = .ok (.iload_n 2, 1) := by decide +kernel
theorem dX6_as_14 : decode cX6_as 14 = .ok (.i2l, 1) := by decide +kernel
theorem dX6_as_15 : decode cX6_as 15 = .ok (.lconst 0, 1) := by decide +kernel
theorem dX6_as_16 : decode cX6_as 16 = .ok (.ldc2_w 284, 3) := by decide +kernel
theorem dX6_as_19 : decode cX6_as 19 = .ok (.invokestatic 57, 3) := by decide +kernel
theorem dX6_as_22 : decode cX6_as 22 = .ok (.ifCond .ne 6, 3) := by decide +kernel
theorem dX6_as_25 : decode cX6_as 25 = .ok (.ldc 67, 2) := by decide +kernel
theorem dX6_as_27 : decode cX6_as 27 = .ok (.ireturn, 1) := by decide +kernel
theorem dX6_as_28 : decode cX6_as 28 = .ok (.aload_n 0, 1) := by decide +kernel
theorem dX6_as_29 : decode cX6_as 29 = .ok (.iconst 0, 1) := by decide +kernel
theorem dX6_as_30 : decode cX6_as 30 = .ok (.putfield 51, 3) := by decide +kernel
theorem dX6_as_33 : decode cX6_as 33 = .ok (.aload_n 0, 1) := by decide +kernel
theorem dX6_as_34 : decode cX6_as 34 = .ok (.getfield 19, 3) := by decide +kernel
theorem dX6_as_37 : decode cX6_as 37 = .ok (.iload_n 1, 1) := by decide +kernel
theorem dX6_as_38 : decode cX6_as 38 = .ok (.iconst 0, 1) := by decide +kernel
theorem dX6_as_39 : decode cX6_as 39 = .ok (.invokestatic 155, 3) := by decide +kernel
theorem dX6_as_42 : decode cX6_as 42 = .ok (.iload_n 2, 1) := by decide +kernel
theorem dX6_as_43 : decode cX6_as 43 = .ok (.invokestatic 286, 3) := by decide +kernel
theorem dX6_as_46 : decode cX6_as 46 = .ok (.ifCond .eq 7, 3) := by decide +kernel
theorem dX6_as_49 : decode cX6_as 49 = .ok (.iload_n 1, 1) := by decide +kernel
theorem dX6_as_50 : decode cX6_as 50 = .ok (.goto 8, 3) := by decide +kernel
theorem dX6_as_53 : decode cX6_as 53 = .ok (.aload_n 0, 1) := by decide +kernel
theorem dX6_as_54 : decode cX6_as 54 = .ok (.iconst 3, 1) := by decide +kernel
theorem dX6_as_55 : decode cX6_as 55 = .ok (.invokevirtual 68, 3) := by decide +kernel
theorem dX6_as_58 : decode cX6_as 58 = .ok (.ireturn, 1) := by decide +kernel
set_option maxRecDepth 20000 in
theorem ggX6_ask_X6_isTube : GoodIn wsX6_ask wsX6_isTube := goodIn_r _ [8, 9, 10, 11, 7, 12, 37, 38, 39, 40, 41, 42, 43, 44, 45, 46, 47, 48, 49, 50, 51, 52, 53, 54, 55, 56, 57, 58, 59, 60] (by decide +kernel) (by decide +kernel)
set_option maxRecDepth 20000 in
theorem gX6_ask_X6_isTube : GoodIn wsX6_ask (wsV RX6 198 RX6 yX6_isTube wsX6_isTube) := goodIn_app (goodIn_of _ (by decide +kernel)) ggX6_ask_X6_isTube
set_option maxRecDepth 20000 in
theorem ggX6_ask_X6_in : GoodIn wsX6_ask wsX6_in := goodIn_r _ [12] (by decide +kernel) (by decide +kernel)
set_option maxRecDepth 20000 in
theorem gX6_ask_X6_in : GoodIn wsX6_ask (va_wsS RX6 57 yX6_in wsX6_in) := goodIn_app (goodIn_of _ (by decide +kernel)) ggX6_ask_X6_in
theorem dX6_ask_0 : decode cX6_ask 0 = .ok (.aload_n 0, 1) := by decide +kernel
theorem dX6_ask_1 : decode cX6_ask 1 = .ok (.iconst 0, 1) := by decide +kernel
theorem dX6_ask_2 : decode cX6_ask 2 = .ok (.putfield 47, 3) := by decide +kernel
theorem dX6_ask_5 : decode cX6_ask 5 = .ok (.aload_n 0, 1) := by decide +kernel
theorem dX6_ask_6 : decode cX6_ask 6 = .ok (.iload_n 1, 1) := by decide +kernel
theorem dX6_ask_7 : decode cX6_ask 7 = .ok (.invokevirtual 198, 3) := by decide +kernel
theorem dX6_ask_10 : decode cX6_ask 10 = .ok (.ifCond .eq 13, 3) := by decide +kernel
theorem dX6_ask_13 : decode cX6_ask 13 = .ok (.iload_n 2, 1) := by decide +kernel
theorem dX6_ask_14 : decode cX6_ask 14 = .ok (.i2l, 1) := by decide +kernel
theorem dX6_ask_15 : decode cX6_ask 15 = .ok (.lconst 0, 1) := by decide +kernel
theorem dX6_ask_16 : decode cX6_ask 16 = .ok (.lconst 1, 1) := by decide +kernel
theorem dX6_ask_17 : decode cX6_ask 17 = .ok (.invokestatic 57, 3) := by decide +kernel
theorem dX6_ask_20 : decode cX6_ask 20 = .ok (.ifCond .ne 6, 3) := by decide +kernel
theorem dX6_ask_23 : decode cX6_ask 23 = .ok (.ldc 67, 2) := by decide +kernel
theorem dX6_ask_25 : decode cX6_ask 25 = .ok (.ireturn, 1) := by decide +kernel
theorem dX6_ask_26 : decode cX6_ask 26 = .ok (.aload_n 0, 1) := by decide +kernel
theorem dX6_ask_27 : decode cX6_ask 27 = .ok (.iconst 0, 1) := by decide +kernel
theorem dX6_ask_28 : decode cX6_ask 28 = .ok (.putfield 289, 3) := by decide +kernel
theorem dX6_ask_31 : decode cX6_ask 31 = .ok (.iload_n 2, 1) := by decide +kernel
theorem dX6_ask_32 : decode cX6_ask 32 = .ok (.ifCond .ne 11, 3) := by decide +kernel
theorem dX6_ask_35 : decode cX6_ask 35 = .ok (.aload_n 0, 1) := by decide +kernel
theorem dX6_ask_36 : decode cX6_ask 36 = .ok (.iload_n 1, 1) := by decide +kernel
theorem dX6_ask_37 : decode cX6_ask 37 = .ok (.invokevirtual 304, 3) := by decide +kernel
theorem dX6_ask_40 : decode cX6_ask 40 = .ok (.goto 8, 3) := by decide +kernel
theorem dX6_ask_43 : decode cX6_ask 43 = .ok (.aload_n 0, 1) := by decide +kernel
theorem dX6_ask_44 : decode cX6_ask 44 = .ok (.iload_n 1, 1) := by decide +kernel
theorem dX6_ask_45 : decode cX6_ask 45 = .ok (.invokevirtual 301, 3) := by decide +kernel
theorem dX6_ask_48 : decode cX6_ask 48 = .ok (.ireturn, 1) := by decide +kernel
set_option maxRecDepth 20000 in
theorem ggX6_trace_X6_in : GoodIn wsX6_trace wsX6_in := goodIn_r _ [8] (by decide +kernel) (by decide +kernel)
set_option maxRecDepth 20000 in
theorem gX6_trace_X6_in : GoodIn wsX6_trace (va_wsS RX6 57 yX6_in wsX6_in) := goodIn_app (goodIn_of _ (by decide +kernel)) ggX6_trace_X6_in
theorem dX6_trace_0 : decode cX6_trace 0 = .ok (.aload_n 0, 1) := by decide +kernel
theorem dX6_trace_1 : decode cX6_trace 1 = .ok (.iconst 0, 1) := by decide +kernel
theorem dX6_trace_2 : decode cX6_trace 2 = .ok (.putfield 47, 3) := by decide +kernel
theorem dX6_trace_5 : decode cX6_trace 5 = .ok (.iload_n 1, 1) := by decide +kernel
theorem dX6_trace_6 : decode cX6_trace 6 = .ok (.i2l, 1) := by decide +kernel
theorem dX6_trace_7 : decode cX6_trace 7 = .ok (.lconst 0, 1) := by decide +kernel
theorem dX6_trace_8 : decode cX6_trace 8 = .ok (.aload_n 0, 1) := by decide +kernel
theorem dX6_trace_9 : decode cX6_trace 9 = .ok (.getfield 289, 3) := by decide +kernel
theorem dX6_trace_12 : decode cX6_trace 12 = .ok (.iconst 1, 1) := by decide +kernel
theorem dX6_trace_13 : decode cX6_trace 13 = .ok (.isub, 1) := by decide +kernel
theorem dX6_trace_14 : decode cX6_trace 14 = .ok (.i2l, 1) := by decide +kernel
theorem dX6_trace_15 : decode cX6_trace 15 = .ok (.invokestatic 57, 3) := by decide +kernel
theorem dX6_trace_18 : decode cX6_trace 18 = .ok (.ifCond .eq 12, 3) := by decide +kernel
theorem dX6_trace_21 : decode cX6_trace 21 = .ok (.aload_n 0, 1) := by decide +kernel
theorem dX6_trace_22 : decode cX6_trace 22 = .ok (.getfield 44, 3) := by decide +kernel
theorem dX6_trace_25 : decode cX6_trace 25 = .ok (.iload_n 1, 1) := by decide +kernel
theorem dX6_trace_26 : decode cX6_trace 26 = .ok (.iaload, 1) := by decide +kernel
theorem dX6_trace_27 : decode cX6_trace 27 = .ok (.goto 5, 3) := by decide +kernel
theorem dX6_trace_30 : decode cX6_trace 30 = .ok (.ldc 90, 2) := by decide +kernel
theorem dX6_trace_32 : decode cX6_trace 32 = .ok (.ireturn, 1) := by decide +kernel
set_option maxRecDepth 20000 in
theorem ggX6_count_X6_colds : GoodIn wsX6_count wsX6_colds := goodIn_r _ [10, 11, 12, 9, 13, 14, 15, 16] (by decide +kernel) (by decide +kernel)
set_option maxRecDepth 20000 in
theorem gX6_count_X6_colds : GoodIn wsX6_count (va_wsS RX6 195 yX6_colds wsX6_colds) := goodIn_app (goodIn_of _ (by decide +kernel)) ggX6_count_X6_colds
set_option maxRecDepth 20000 in
theorem ggX6_count_X6_upOf : GoodIn wsX6_count wsX6_upOf := goodIn_r _ [19, 20, 21, 9, 22] (by decide +kernel) (by decide +kernel)
set_option maxRecDepth 20000 in
theorem gX6_count_X6_upOf : GoodIn wsX6_count (va_wsS RX6 185 yX6_upOf wsX6_upOf) := goodIn_app (goodIn_of _ (by decide +kernel)) ggX6_count_X6_upOf
theorem dX6_count_0 : decode cX6_count 0 = .ok (.aload_n 0, 1) := by decide +kernel
theorem dX6_count_1 : decode cX6_count 1 = .ok (.iconst 0, 1) := by decide +kernel
theorem dX6_count_2 : decode cX6_count 2 = .ok (.putfield 47, 3) := by decide +kernel
theorem dX6_count_5 : decode cX6_count 5 = .ok (.iconst 0, 1) := by decide +kernel
theorem dX6_count_6 : decode cX6_count 6 = .ok (.istore_n 2, 1) := by decide +kernel
theorem dX6_count_7 : decode cX6_count 7 = .ok (.iload_n 1, 1) := by decide +kernel
theorem dX6_count_8 : decode cX6_count 8 = .ok (.tableswitch 128 0 7 #[48, 81, 88, 95, 102, 110, 118, 123], 48) := by decide +kernel
theorem dX6_count_56 : decode cX6_count 56 = .ok (.iconst 0, 1) := by decide +kernel
theorem dX6_count_57 : decode cX6_count 57 = .ok (.istore_n 3, 1) := by decide +kernel
theorem dX6_count_58 : decode cX6_count 58 = .ok (.iload_n 3, 1) := by decide +kernel
theorem dX6_count_59 : decode cX6_count 59 = .ok (.bipush 8, 2) := by decide +kernel
theorem dX6_count_61 : decode cX6_count 61 = .ok (.if_icmp .ge 26, 3) := by decide +kernel
theorem dX6_count_64 : decode cX6_count 64 = .ok (.iload_n 2, 1) := by decide +kernel
theorem dX6_count_65 : decode cX6_count 65 = .ok (.aload_n 0, 1) := by decide +kernel
theorem dX6_count_66 : decode cX6_count 66 = .ok (.getfield 7, 3) := by decide +kernel
theorem dX6_count_69 : decode cX6_count 69 = .ok (.iload_n 3, 1) := by decide +kernel
theorem dX6_count_70 : decode cX6_count 70 = .ok (.iaload, 1) := by decide +kernel
theorem dX6_count_71 : decode cX6_count 71 = .ok (.ifCond .lt 7, 3) := by decide +kernel
theorem dX6_count_74 : decode cX6_count 74 = .ok (.iconst 1, 1) := by decide +kernel
theorem dX6_count_75 : decode cX6_count 75 = .ok (.goto 4, 3) := by decide +kernel
theorem dX6_count_78 : decode cX6_count 78 = .ok (.iconst 0, 1) := by decide +kernel
theorem dX6_count_79 : decode cX6_count 79 = .ok (.iadd, 1) := by decide +kernel
theorem dX6_count_80 : decode cX6_count 80 = .ok (.istore_n 2, 1) := by decide +kernel
theorem dX6_count_81 : decode cX6_count 81 = .ok (.iinc 3 1, 3) := by decide +kernel
theorem dX6_count_84 : decode cX6_count 84 = .ok (.goto (-26), 3) := by decide +kernel
theorem dX6_count_87 : decode cX6_count 87 = .ok (.iload_n 2, 1) := by decide +kernel
theorem dX6_count_88 : decode cX6_count 88 = .ok (.ireturn, 1) := by decide +kernel
theorem dX6_count_89 : decode cX6_count 89 = .ok (.aload_n 0, 1) := by decide +kernel
theorem dX6_count_90 : decode cX6_count 90 = .ok (.getfield 19, 3) := by decide +kernel
theorem dX6_count_93 : decode cX6_count 93 = .ok (.iconst 0, 1) := by decide +kernel
theorem dX6_count_94 : decode cX6_count 94 = .ok (.iaload, 1) := by decide +kernel
theorem dX6_count_95 : decode cX6_count 95 = .ok (.ireturn, 1) := by decide +kernel
theorem dX6_count_96 : decode cX6_count 96 = .ok (.aload_n 0, 1) := by decide +kernel
theorem dX6_count_97 : decode cX6_count 97 = .ok (.getfield 19, 3) := by decide +kernel
theorem dX6_count_100 : decode cX6_count 100 = .ok (.iconst 1, 1) := by decide +kernel
theorem dX6_count_101 : decode cX6_count 101 = .ok (.iaload, 1) := by decide +kernel
theorem dX6_count_102 : decode cX6_count 102 = .ok (.ireturn, 1) := by decide +kernel
theorem dX6_count_103 : decode cX6_count 103 = .ok (.aload_n 0, 1) := by decide +kernel
theorem dX6_count_104 : decode cX6_count 104 = .ok (.getfield 19, 3) := by decide +kernel
theorem dX6_count_107 : decode cX6_count 107 = .ok (.iconst 4, 1) := by decide +kernel
theorem dX6_count_108 : decode cX6_count 108 = .ok (.iaload, 1) := by decide +kernel
theorem dX6_count_109 : decode cX6_count 109 = .ok (.ireturn, 1) := by decide +kernel
theorem dX6_count_110 : decode cX6_count 110 = .ok (.aload_n 0, 1) := by decide +kernel
theorem dX6_count_111 : decode cX6_count 111 = .ok (.getfield 19, 3) := by decide +kernel
theorem dX6_count_114 : decode cX6_count 114 = .ok (.invokestatic 195, 3) := by decide +kernel
theorem dX6_count_117 : decode cX6_count 117 = .ok (.ireturn, 1) := by decide +kernel
theorem dX6_count_118 : decode cX6_count 118 = .ok (.aload_n 0, 1) := by decide +kernel
theorem dX6_count_119 : decode cX6_count 119 = .ok (.getfield 19, 3) := by decide +kernel
theorem dX6_count_122 : decode cX6_count 122 = .ok (.invokestatic 185, 3) := by decide +kernel
theorem dX6_count_125 : decode cX6_count 125 = .ok (.ireturn, 1) := by decide +kernel
theorem dX6_count_126 : decode cX6_count 126 = .ok (.aload_n 0, 1) := by decide +kernel
theorem dX6_count_127 : decode cX6_count 127 = .ok (.getfield 149, 3) := by decide +kernel
theorem dX6_count_130 : decode cX6_count 130 = .ok (.ireturn, 1) := by decide +kernel
theorem dX6_count_131 : decode cX6_count 131 = .ok (.aload_n 0, 1) := by decide +kernel
theorem dX6_count_132 : decode cX6_count 132 = .ok (.getfield 74, 3) := by decide +kernel
theorem dX6_count_135 : decode cX6_count 135 = .ok (.ireturn, 1) := by decide +kernel
theorem dX6_count_136 : decode cX6_count 136 = .ok (.ldc 67, 2) := by decide +kernel
theorem dX6_count_138 : decode cX6_count 138 = .ok (.ireturn, 1) := by decide +kernel
theorem dX6_status_0 : decode cX6_status 0 = .ok (.aload_n 0, 1) := by decide +kernel
theorem dX6_status_1 : decode cX6_status 1 = .ok (.iconst 0, 1) := by decide +kernel
theorem dX6_status_2 : decode cX6_status 2 = .ok (.putfield 47, 3) := by decide +kernel
theorem dX6_status_5 : decode cX6_status 5 = .ok (.aload_n 0, 1) := by decide +kernel
theorem dX6_status_6 : decode cX6_status 6 = .ok (.getfield 51, 3) := by decide +kernel
theorem dX6_status_9 : decode cX6_status 9 = .ok (.ireturn, 1) := by decide +kernel
