theorem dX0_init_0 : decode cX0_init 0 = .ok (.aload_n 0, 1) := by decide +kernel
theorem dX0_init_1 : decode cX0_init 1 = .ok (.invokespecial 3, 3) := by decide +kernel
theorem dX0_init_4 : decode cX0_init 4 = .ok (.aload_n 0, 1) := by decide +kernel
theorem dX0_init_5 : decode cX0_init 5 = .ok (.iconst 0, 1) := by decide +kernel
theorem dX0_init_6 : decode cX0_init 6 = .ok (.putfield 9, 3) := by decide +kernel
theorem dX0_init_9 : decode cX0_init 9 = .ok (.aload_n 0, 1) := by decide +kernel
theorem dX0_init_10 : decode cX0_init 10 = .ok (.iconst 0, 1) := by decide +kernel
theorem dX0_init_11 : decode cX0_init 11 = .ok (.putfield 15, 3) := by decide +kernel
theorem dX0_init_14 : decode cX0_init 14 = .ok (.aload_n 0, 1) := by decide +kernel
theorem dX0_init_15 : decode cX0_init 15 = .ok (.iconst 0, 1) := by decide +kernel
theorem dX0_init_16 : decode cX0_init 16 = .ok (.putfield 18, 3) := by decide +kernel
theorem dX0_init_19 : decode cX0_init 19 = .ok (.aload_n 0, 1) := by decide +kernel
theorem dX0_init_20 : decode cX0_init 20 = .ok (.iconst 0, 1) := by decide +kernel
theorem dX0_init_21 : decode cX0_init 21 = .ok (.putfield 21, 3) := by decide +kernel
theorem dX0_init_24 : decode cX0_init 24 = .ok (.aload_n 0, 1) := by decide +kernel
theorem dX0_init_25 : decode cX0_init 25 = .ok (.iconst 0, 1) := by decide +kernel
theorem dX0_init_26 : decode cX0_init 26 = .ok (.putfield 24, 3) := by decide +kernel
theorem dX0_init_29 : decode cX0_init 29 = .ok (.aload_n 0, 1) := by decide +kernel
theorem dX0_init_30 : decode cX0_init 30 = .ok (.iconst 5, 1) := by decide +kernel
theorem dX0_init_31 : decode cX0_init 31 = .ok (.newarray .int, 2) := by decide +kernel
theorem dX0_init_33 : decode cX0_init 33 = .ok (.putfield 27, 3) := by decide +kernel
theorem dX0_init_36 : decode cX0_init 36 = .ok (.aload_n 0, 1) := by decide +kernel
theorem dX0_init_37 : decode cX0_init 37 = .ok (.iconst 5, 1) := by decide +kernel
theorem dX0_init_38 : decode cX0_init 38 = .ok (.newarray .int, 2) := by decide +kernel
theorem dX0_init_40 : decode cX0_init 40 = .ok (.putfield 31, 3) := by decide +kernel
theorem dX0_init_43 : decode cX0_init 43 = .ok (.aload_n 0, 1) := by decide +kernel
theorem dX0_init_44 : decode cX0_init 44 = .ok (.bipush 6, 2) := by decide +kernel
theorem dX0_init_46 : decode cX0_init 46 = .ok (.newarray .int, 2) := by decide +kernel
theorem dX0_init_48 : decode cX0_init 48 = .ok (.putfield 34, 3) := by decide +kernel
theorem dX0_init_51 : decode cX0_init 51 = .ok (.aload_n 0, 1) := by decide +kernel
theorem dX0_init_52 : decode cX0_init 52 = .ok (.bipush 6, 2) := by decide +kernel
theorem dX0_init_54 : decode cX0_init 54 = .ok (.newarray .int, 2) := by decide +kernel
theorem dX0_init_56 : decode cX0_init 56 = .ok (.putfield 37, 3) := by decide +kernel
theorem dX0_init_59 : decode cX0_init 59 = .ok (.aload_n 0, 1) := by decide +kernel
theorem dX0_init_60 : decode cX0_init 60 = .ok (.bipush 6, 2) := by decide +kernel
theorem dX0_init_62 : decode cX0_init 62 = .ok (.newarray .int, 2) := by decide +kernel
theorem dX0_init_64 : decode cX0_init 64 = .ok (.putfield 40, 3) := by decide +kernel
theorem dX0_init_67 : decode cX0_init 67 = .ok (.aload_n 0, 1) := by decide +kernel
theorem dX0_init_68 : decode cX0_init 68 = .ok (.bipush 6, 2) := by decide +kernel
theorem dX0_init_70 : decode cX0_init 70 = .ok (.newarray .int, 2) := by decide +kernel
theorem dX0_init_72 : decode cX0_init 72 = .ok (.putfield 43, 3) := by decide +kernel
theorem dX0_init_75 : decode cX0_init 75 = .ok (.aload_n 0, 1) := by decide +kernel
theorem dX0_init_76 : decode cX0_init 76 = .ok (.bipush 6, 2) := by decide +kernel
theorem dX0_init_78 : decode cX0_init 78 = .ok (.newarray .int, 2) := by decide +kernel
theorem dX0_init_80 : decode cX0_init 80 = .ok (.putfield 46, 3) := by decide +kernel
theorem dX0_init_83 : decode cX0_init 83 = .ok (.return_, 1) := by decide +kernel
theorem dX0_stands_0 : decode cX0_stands 0 = .ok (.aload_n 0, 1) := by decide +kernel
theorem dX0_stands_1 : decode cX0_stands 1 = .ok (.getfield 18, 3) := by decide +kernel
theorem dX0_stands_4 : decode cX0_stands 4 = .ok (.ifCond .le 7, 3) := by decide +kernel
theorem dX0_stands_7 : decode cX0_stands 7 = .ok (.iconst 1, 1) := by decide +kernel
theorem dX0_stands_8 : decode cX0_stands 8 = .ok (.goto 4, 3) := by decide +kernel
theorem dX0_stands_11 : decode cX0_stands 11 = .ok (.iconst 0, 1) := by decide +kernel
theorem dX0_stands_12 : decode cX0_stands 12 = .ok (.ireturn, 1) := by decide +kernel
theorem dX0_become_0 : decode cX0_become 0 = .ok (.aload_n 0, 1) := by decide +kernel
theorem dX0_become_1 : decode cX0_become 1 = .ok (.aload_n 1, 1) := by decide +kernel
theorem dX0_become_2 : decode cX0_become 2 = .ok (.getfield 9, 3) := by decide +kernel
theorem dX0_become_5 : decode cX0_become 5 = .ok (.putfield 9, 3) := by decide +kernel
theorem dX0_become_8 : decode cX0_become 8 = .ok (.aload_n 0, 1) := by decide +kernel
theorem dX0_become_9 : decode cX0_become 9 = .ok (.aload_n 1, 1) := by decide +kernel
theorem dX0_become_10 : decode cX0_become 10 = .ok (.getfield 15, 3) := by decide +kernel
theorem dX0_become_13 : decode cX0_become 13 = .ok (.putfield 15, 3) := by decide +kernel
theorem dX0_become_16 : decode cX0_become 16 = .ok (.aload_n 0, 1) := by decide +kernel
theorem dX0_become_17 : decode cX0_become 17 = .ok (.aload_n 1, 1) := by decide +kernel
theorem dX0_become_18 : decode cX0_become 18 = .ok (.getfield 18, 3) := by decide +kernel
theorem dX0_become_21 : decode cX0_become 21 = .ok (.putfield 18, 3) := by decide +kernel
theorem dX0_become_24 : decode cX0_become 24 = .ok (.aload_n 0, 1) := by decide +kernel
theorem dX0_become_25 : decode cX0_become 25 = .ok (.aload_n 1, 1) := by decide +kernel
theorem dX0_become_26 : decode cX0_become 26 = .ok (.getfield 21, 3) := by decide +kernel
theorem dX0_become_29 : decode cX0_become 29 = .ok (.putfield 21, 3) := by decide +kernel
theorem dX0_become_32 : decode cX0_become 32 = .ok (.aload_n 0, 1) := by decide +kernel
theorem dX0_become_33 : decode cX0_become 33 = .ok (.aload_n 1, 1) := by decide +kernel
theorem dX0_become_34 : decode cX0_become 34 = .ok (.getfield 24, 3) := by decide +kernel
theorem dX0_become_37 : decode cX0_become 37 = .ok (.putfield 24, 3) := by decide +kernel
theorem dX0_become_40 : decode cX0_become 40 = .ok (.aload_n 1, 1) := by decide +kernel
theorem dX0_become_41 : decode cX0_become 41 = .ok (.getfield 27, 3) := by decide +kernel
theorem dX0_become_44 : decode cX0_become 44 = .ok (.iconst 0, 1) := by decide +kernel
theorem dX0_become_45 : decode cX0_become 45 = .ok (.aload_n 0, 1) := by decide +kernel
theorem dX0_become_46 : decode cX0_become 46 = .ok (.getfield 27, 3) := by decide +kernel
theorem dX0_become_49 : decode cX0_become 49 = .ok (.iconst 0, 1) := by decide +kernel
theorem dX0_become_50 : decode cX0_become 50 = .ok (.iconst 5, 1) := by decide +kernel
theorem dX0_become_51 : decode cX0_become 51 = .ok (.invokestatic 49, 3) := by decide +kernel
theorem dX0_become_54 : decode cX0_become 54 = .ok (.aload_n 1, 1) := by decide +kernel
theorem dX0_become_55 : decode cX0_become 55 = .ok (.getfield 31, 3) := by decide +kernel
theorem dX0_become_58 : decode cX0_become 58 = .ok (.iconst 0, 1) := by decide +kernel
theorem dX0_become_59 : decode cX0_become 59 = .ok (.aload_n 0, 1) := by decide +kernel
theorem dX0_become_60 : decode cX0_become 60 = .ok (.getfield 31, 3) := by decide +kernel
theorem dX0_become_63 : decode cX0_become 63 = .ok (.iconst 0, 1) := by decide +kernel
theorem dX0_become_64 : decode cX0_become 64 = .ok (.iconst 5, 1) := by decide +kernel
theorem dX0_become_65 : decode cX0_become 65 = .ok (.invokestatic 49, 3) := by decide +kernel
theorem dX0_become_68 : decode cX0_become 68 = .ok (.aload_n 1, 1) := by decide +kernel
theorem dX0_become_69 : decode cX0_become 69 = .ok (.getfield 34, 3) := by decide +kernel
theorem dX0_become_72 : decode cX0_become 72 = .ok (.iconst 0, 1) := by decide +kernel
theorem dX0_become_73 : decode cX0_become 73 = .ok (.aload_n 0, 1) := by decide +kernel
theorem dX0_become_74 : decode cX0_become 74 = .ok (.getfield 34, 3) := by decide +kernel
theorem dX0_become_77 : decode cX0_become 77 = .ok (.iconst 0, 1) := by decide +kernel
theorem dX0_become_78 : decode cX0_become 78 = .ok (.bipush 6, 2) := by decide +kernel
theorem dX0_become_80 : decode cX0_become 80 = .ok (.invokestatic 49, 3) := by decide +kernel
theorem dX0_become_83 : decode cX0_become 83 = .ok (.aload_n 1, 1) := by decide +kernel
theorem dX0_become_84 : decode cX0_become 84 = .ok (.getfield 37, 3) := by decide +kernel
theorem dX0_become_87 : decode cX0_become 87 = .ok (.iconst 0, 1) := by decide +kernel
theorem dX0_become_88 : decode cX0_become 88 = .ok (.aload_n 0, 1) := by decide +kernel
theorem dX0_become_89 : decode cX0_become 89 = .ok (.getfield 37, 3) := by decide +kernel
theorem dX0_become_92 : decode cX0_become 92 = .ok (.iconst 0, 1) := by decide +kernel
theorem dX0_become_93 : decode cX0_become 93 = .ok (.bipush 6, 2) := by decide +kernel
theorem dX0_become_95 : decode cX0_become 95 = .ok (.invokestatic 49, 3) := by decide +kernel
theorem dX0_become_98 : decode cX0_become 98 = .ok (.aload_n 1, 1) := by decide +kernel
theorem dX0_become_99 : decode cX0_become 99 = .ok (.getfield 40, 3) := by decide +kernel
theorem dX0_become_102 : decode cX0_become 102 = .ok (.iconst 0, 1) := by decide +kernel
theorem dX0_become_103 : decode cX0_become 103 = .ok (.aload_n 0, 1) := by decide +kernel
theorem dX0_become_104 : decode cX0_become 104 = .ok (.getfield 40, 3) := by decide +kernel
theorem dX0_become_107 : decode cX0_become 107 = .ok (.iconst 0, 1) := by decide +kernel
theorem dX0_become_108 : decode cX0_become 108 = .ok (.bipush 6, 2) := by decide +kernel
theorem dX0_become_110 : decode cX0_become 110 = .ok (.invokestatic 49, 3) := by decide +kernel
theorem dX0_become_113 : decode cX0_become 113 = .ok (.aload_n 1, 1) := by decide +kernel
theorem dX0_become_114 : decode cX0_become 114 = .ok (.getfield 43, 3) := by decide +kernel
theorem dX0_become_117 : decode cX0_become 117 = .ok (.iconst 0, 1) := by decide +kernel
theorem dX0_become_118 : decode cX0_become 118 = .ok (.aload_n 0, 1) := by decide +kernel
theorem dX0_become_119 : decode cX0_become 119 = .ok (.getfield 43, 3) := by decide +kernel
theorem dX0_become_122 : decode cX0_become 122 = .ok (.iconst 0, 1) := by decide +kernel
theorem dX0_become_123 : decode cX0_become 123 = .ok (.bipush 6, 2) := by decide +kernel
theorem dX0_become_125 : decode cX0_become 125 = .ok (.invokestatic 49, 3) := by decide +kernel
theorem dX0_become_128 : decode cX0_become 128 = .ok (.aload_n 1, 1) := by decide +kernel
theorem dX0_become_129 : decode cX0_become 129 = .ok (.getfield 46, 3) := by decide +kernel
theorem dX0_become_132 : decode cX0_become 132 = .ok (.iconst 0, 1) := by decide +kernel
theorem dX0_become_133 : decode cX0_become 133 = .ok (.aload_n 0, 1) := by decide +kernel
theorem dX0_become_134 : decode cX0_become 134 = .ok (.getfield 46, 3) := by decide +kernel
theorem dX0_become_137 : decode cX0_become 137 = .ok (.iconst 0, 1) := by decide +kernel
theorem dX0_become_138 : decode cX0_become 138 = .ok (.bipush 6, 2) := by decide +kernel
theorem dX0_become_140 : decode cX0_become 140 = .ok (.invokestatic 49, 3) := by decide +kernel
theorem dX0_become_143 : decode cX0_become 143 = .ok (.return_, 1) := by decide +kernel
theorem dX0_writeChanging_0 : decode cX0_writeChanging 0 = .ok (.aload_n 1, 1) := by decide +kernel
theorem dX0_writeChanging_1 : decode cX0_writeChanging 1 = .ok (.iload_n 2, 1) := by decide +kernel
theorem dX0_writeChanging_2 : decode cX0_writeChanging 2 = .ok (.aload_n 0, 1) := by decide +kernel
theorem dX0_writeChanging_3 : decode cX0_writeChanging 3 = .ok (.getfield 24, 3) := by decide +kernel
theorem dX0_writeChanging_6 : decode cX0_writeChanging 6 = .ok (.iastore, 1) := by decide +kernel
theorem dX0_writeChanging_7 : decode cX0_writeChanging 7 = .ok (.aload_n 0, 1) := by decide +kernel
theorem dX0_writeChanging_8 : decode cX0_writeChanging 8 = .ok (.getfield 27, 3) := by decide +kernel
theorem dX0_writeChanging_11 : decode cX0_writeChanging 11 = .ok (.iconst 0, 1) := by decide +kernel
theorem dX0_writeChanging_12 : decode cX0_writeChanging 12 = .ok (.aload_n 1, 1) := by decide +kernel
theorem dX0_writeChanging_13 : decode cX0_writeChanging 13 = .ok (.iload_n 2, 1) := by decide +kernel
theorem dX0_writeChanging_14 : decode cX0_writeChanging 14 = .ok (.iconst 1, 1) := by decide +kernel
theorem dX0_writeChanging_15 : decode cX0_writeChanging 15 = .ok (.iadd, 1) := by decide +kernel
theorem dX0_writeChanging_16 : decode cX0_writeChanging 16 = .ok (.iconst 5, 1) := by decide +kernel
theorem dX0_writeChanging_17 : decode cX0_writeChanging 17 = .ok (.invokestatic 49, 3) := by decide +kernel
theorem dX0_writeChanging_20 : decode cX0_writeChanging 20 = .ok (.aload_n 0, 1) := by decide +kernel
theorem dX0_writeChanging_21 : decode cX0_writeChanging 21 = .ok (.getfield 31, 3) := by decide +kernel
theorem dX0_writeChanging_24 : decode cX0_writeChanging 24 = .ok (.iconst 0, 1) := by decide +kernel
theorem dX0_writeChanging_25 : decode cX0_writeChanging 25 = .ok (.aload_n 1, 1) := by decide +kernel
theorem dX0_writeChanging_26 : decode cX0_writeChanging 26 = .ok (.iload_n 2, 1) := by decide +kernel
theorem dX0_writeChanging_27 : decode cX0_writeChanging 27 = .ok (.iconst 1, 1) := by decide +kernel
theorem dX0_writeChanging_28 : decode cX0_writeChanging 28 = .ok (.iadd, 1) := by decide +kernel
theorem dX0_writeChanging_29 : decode cX0_writeChanging 29 = .ok (.iconst 5, 1) := by decide +kernel
theorem dX0_writeChanging_30 : decode cX0_writeChanging 30 = .ok (.iadd, 1) := by decide +kernel
theorem dX0_writeChanging_31 : decode cX0_writeChanging 31 = .ok (.iconst 5, 1) := by decide +kernel
theorem dX0_writeChanging_32 : decode cX0_writeChanging 32 = .ok (.invokestatic 49, 3) := by decide +kernel
theorem dX0_writeChanging_35 : decode cX0_writeChanging 35 = .ok (.aload_n 0, 1) := by decide +kernel
theorem dX0_writeChanging_36 : decode cX0_writeChanging 36 = .ok (.getfield 37, 3) := by decide +kernel
theorem dX0_writeChanging_39 : decode cX0_writeChanging 39 = .ok (.iconst 0, 1) := by decide +kernel
theorem dX0_writeChanging_40 : decode cX0_writeChanging 40 = .ok (.aload_n 1, 1) := by decide +kernel
theorem dX0_writeChanging_41 : decode cX0_writeChanging 41 = .ok (.iload_n 2, 1) := by decide +kernel
theorem dX0_writeChanging_42 : decode cX0_writeChanging 42 = .ok (.iconst 1, 1) := by decide +kernel
theorem dX0_writeChanging_43 : decode cX0_writeChanging 43 = .ok (.iadd, 1) := by decide +kernel
theorem dX0_writeChanging_44 : decode cX0_writeChanging 44 = .ok (.bipush 10, 2) := by decide +kernel
theorem dX0_writeChanging_46 : decode cX0_writeChanging 46 = .ok (.iadd, 1) := by decide +kernel
theorem dX0_writeChanging_47 : decode cX0_writeChanging 47 = .ok (.bipush 6, 2) := by decide +kernel
theorem dX0_writeChanging_49 : decode cX0_writeChanging 49 = .ok (.invokestatic 49, 3) := by decide +kernel
theorem dX0_writeChanging_52 : decode cX0_writeChanging 52 = .ok (.aload_n 0, 1) := by decide +kernel
theorem dX0_writeChanging_53 : decode cX0_writeChanging 53 = .ok (.getfield 46, 3) := by decide +kernel
theorem dX0_writeChanging_56 : decode cX0_writeChanging 56 = .ok (.iconst 0, 1) := by decide +kernel
theorem dX0_writeChanging_57 : decode cX0_writeChanging 57 = .ok (.aload_n 1, 1) := by decide +kernel
theorem dX0_writeChanging_58 : decode cX0_writeChanging 58 = .ok (.iload_n 2, 1) := by decide +kernel
theorem dX0_writeChanging_59 : decode cX0_writeChanging 59 = .ok (.iconst 1, 1) := by decide +kernel
theorem dX0_writeChanging_60 : decode cX0_writeChanging 60 = .ok (.iadd, 1) := by decide +kernel
theorem dX0_writeChanging_61 : decode cX0_writeChanging 61 = .ok (.bipush 10, 2) := by decide +kernel
theorem dX0_writeChanging_63 : decode cX0_writeChanging 63 = .ok (.iadd, 1) := by decide +kernel
theorem dX0_writeChanging_64 : decode cX0_writeChanging 64 = .ok (.bipush 6, 2) := by decide +kernel
theorem dX0_writeChanging_66 : decode cX0_writeChanging 66 = .ok (.iadd, 1) := by decide +kernel
theorem dX0_writeChanging_67 : decode cX0_writeChanging 67 = .ok (.bipush 6, 2) := by decide +kernel
theorem dX0_writeChanging_69 : decode cX0_writeChanging 69 = .ok (.invokestatic 49, 3) := by decide +kernel
theorem dX0_writeChanging_72 : decode cX0_writeChanging 72 = .ok (.return_, 1) := by decide +kernel
theorem dX0_readChanging_0 : decode cX0_readChanging 0 = .ok (.aload_n 0, 1) := by decide +kernel
theorem dX0_readChanging_1 : decode cX0_readChanging 1 = .ok (.aload_n 1, 1) := by decide +kernel
theorem dX0_readChanging_2 : decode cX0_readChanging 2 = .ok (.iload_n 2, 1) := by decide +kernel
theorem dX0_readChanging_3 : decode cX0_readChanging 3 = .ok (.iaload, 1) := by decide +kernel
theorem dX0_readChanging_4 : decode cX0_readChanging 4 = .ok (.putfield 24, 3) := by decide +kernel
theorem dX0_readChanging_7 : decode cX0_readChanging 7 = .ok (.aload_n 1, 1) := by decide +kernel
theorem dX0_readChanging_8 : decode cX0_readChanging 8 = .ok (.iload_n 2, 1) := by decide +kernel
theorem dX0_readChanging_9 : decode cX0_readChanging 9 = .ok (.iconst 1, 1) := by decide +kernel
theorem dX0_readChanging_10 : decode cX0_readChanging 10 = .ok (.iadd, 1) := by decide +kernel
theorem dX0_readChanging_11 : decode cX0_readChanging 11 = .ok (.aload_n 0, 1) := by decide +kernel
theorem dX0_readChanging_12 : decode cX0_readChanging 12 = .ok (.getfield 27, 3) := by decide +kernel
theorem dX0_readChanging_15 : decode cX0_readChanging 15 = .ok (.iconst 0, 1) := by decide +kernel
theorem dX0_readChanging_16 : decode cX0_readChanging 16 = .ok (.iconst 5, 1) := by decide +kernel
theorem dX0_readChanging_17 : decode cX0_readChanging 17 = .ok (.invokestatic 49, 3) := by decide +kernel
theorem dX0_readChanging_20 : decode cX0_readChanging 20 = .ok (.aload_n 1, 1) := by decide +kernel
theorem dX0_readChanging_21 : decode cX0_readChanging 21 = .ok (.iload_n 2, 1) := by decide +kernel
theorem dX0_readChanging_22 : decode cX0_readChanging 22 = .ok (.iconst 1, 1) := by decide +kernel
theorem dX0_readChanging_23 : decode cX0_readChanging 23 = .ok (.iadd, 1) := by decide +kernel
theorem dX0_readChanging_24 : decode cX0_readChanging 24 = .ok (.iconst 5, 1) := by decide +kernel
theorem dX0_readChanging_25 : decode cX0_readChanging 25 = .ok (.iadd, 1) := by decide +kernel
theorem dX0_readChanging_26 : decode cX0_readChanging 26 = .ok (.aload_n 0, 1) := by decide +kernel
theorem dX0_readChanging_27 : decode cX0_readChanging 27 = .ok (.getfield 31, 3) := by decide +kernel
theorem dX0_readChanging_30 : decode cX0_readChanging 30 = .ok (.iconst 0, 1) := by decide +kernel
theorem dX0_readChanging_31 : decode cX0_readChanging 31 = .ok (.iconst 5, 1) := by decide +kernel
theorem dX0_readChanging_32 : decode cX0_readChanging 32 = .ok (.invokestatic 49, 3) := by decide +kernel
theorem dX0_readChanging_35 : decode cX0_readChanging 35 = .ok (.aload_n 1, 1) := by decide +kernel
theorem dX0_readChanging_36 : decode cX0_readChanging 36 = .ok (.iload_n 2, 1) := by decide +kernel
theorem dX0_readChanging_37 : decode cX0_readChanging 37 = .ok (.iconst 1, 1) := by decide +kernel
theorem dX0_readChanging_38 : decode cX0_readChanging 38 = .ok (.iadd, 1) := by decide +kernel
theorem dX0_readChanging_39 : decode cX0_readChanging 39 = .ok (.bipush 10, 2) := by decide +kernel
theorem dX0_readChanging_41 : decode cX0_readChanging 41 = .ok (.iadd, 1) := by decide +kernel
theorem dX0_readChanging_42 : decode cX0_readChanging 42 = .ok (.aload_n 0, 1) := by decide +kernel
theorem dX0_readChanging_43 : decode cX0_readChanging 43 = .ok (.getfield 37, 3) := by decide +kernel
theorem dX0_readChanging_46 : decode cX0_readChanging 46 = .ok (.iconst 0, 1) := by decide +kernel
theorem dX0_readChanging_47 : decode cX0_readChanging 47 = .ok (.bipush 6, 2) := by decide +kernel
theorem dX0_readChanging_49 : decode cX0_readChanging 49 = .ok (.invokestatic 49, 3) := by decide +kernel
theorem dX0_readChanging_52 : decode cX0_readChanging 52 = .ok (.aload_n 1, 1) := by decide +kernel
theorem dX0_readChanging_53 : decode cX0_readChanging 53 = .ok (.iload_n 2, 1) := by decide +kernel
theorem dX0_readChanging_54 : decode cX0_readChanging 54 = .ok (.iconst 1, 1) := by decide +kernel
theorem dX0_readChanging_55 : decode cX0_readChanging 55 = .ok (.iadd, 1) := by decide +kernel
theorem dX0_readChanging_56 : decode cX0_readChanging 56 = .ok (.bipush 10, 2) := by decide +kernel
theorem dX0_readChanging_58 : decode cX0_readChanging 58 = .ok (.iadd, 1) := by decide +kernel
theorem dX0_readChanging_59 : decode cX0_readChanging 59 = .ok (.bipush 6, 2) := by decide +kernel
theorem dX0_readChanging_61 : decode cX0_readChanging 61 = .ok (.iadd, 1) := by decide +kernel
theorem dX0_readChanging_62 : decode cX0_readChanging 62 = .ok (.aload_n 0, 1) := by decide +kernel
theorem dX0_readChanging_63 : decode cX0_readChanging 63 = .ok (.getfield 46, 3) := by decide +kernel
theorem dX0_readChanging_66 : decode cX0_readChanging 66 = .ok (.iconst 0, 1) := by decide +kernel
theorem dX0_readChanging_67 : decode cX0_readChanging 67 = .ok (.bipush 6, 2) := by decide +kernel
theorem dX0_readChanging_69 : decode cX0_readChanging 69 = .ok (.invokestatic 49, 3) := by decide +kernel
theorem dX0_readChanging_72 : decode cX0_readChanging 72 = .ok (.return_, 1) := by decide +kernel
theorem dX0_isCold_0 : decode cX0_isCold 0 = .ok (.iload_n 1, 1) := by decide +kernel
theorem dX0_isCold_1 : decode cX0_isCold 1 = .ok (.aload_n 0, 1) := by decide +kernel
theorem dX0_isCold_2 : decode cX0_isCold 2 = .ok (.getfield 18, 3) := by decide +kernel
theorem dX0_isCold_5 : decode cX0_isCold 5 = .ok (.if_icmp .ge 16, 3) := by decide +kernel
theorem dX0_isCold_8 : decode cX0_isCold 8 = .ok (.aload_n 0, 1) := by decide +kernel
theorem dX0_isCold_9 : decode cX0_isCold 9 = .ok (.getfield 27, 3) := by decide +kernel
theorem dX0_isCold_12 : decode cX0_isCold 12 = .ok (.iload_n 1, 1) := by decide +kernel
theorem dX0_isCold_13 : decode cX0_isCold 13 = .ok (.iaload, 1) := by decide +kernel
theorem dX0_isCold_14 : decode cX0_isCold 14 = .ok (.aload_n 0, 1) := by decide +kernel
theorem dX0_isCold_15 : decode cX0_isCold 15 = .ok (.getfield 15, 3) := by decide +kernel
theorem dX0_isCold_18 : decode cX0_isCold 18 = .ok (.if_icmp .gt 7, 3) := by decide +kernel
theorem dX0_isCold_21 : decode cX0_isCold 21 = .ok (.iconst 1, 1) := by decide +kernel
theorem dX0_isCold_22 : decode cX0_isCold 22 = .ok (.goto 4, 3) := by decide +kernel
theorem dX0_isCold_25 : decode cX0_isCold 25 = .ok (.iconst 0, 1) := by decide +kernel
theorem dX0_isCold_26 : decode cX0_isCold 26 = .ok (.ireturn, 1) := by decide +kernel
theorem dX0_coldRooms_0 : decode cX0_coldRooms 0 = .ok (.iconst 0, 1) := by decide +kernel
theorem dX0_coldRooms_1 : decode cX0_coldRooms 1 = .ok (.istore_n 1, 1) := by decide +kernel
theorem dX0_coldRooms_2 : decode cX0_coldRooms 2 = .ok (.iconst 0, 1) := by decide +kernel
theorem dX0_coldRooms_3 : decode cX0_coldRooms 3 = .ok (.istore_n 2, 1) := by decide +kernel
theorem dX0_coldRooms_4 : decode cX0_coldRooms 4 = .ok (.iload_n 2, 1) := by decide +kernel
theorem dX0_coldRooms_5 : decode cX0_coldRooms 5 = .ok (.aload_n 0, 1) := by decide +kernel
theorem dX0_coldRooms_6 : decode cX0_coldRooms 6 = .ok (.getfield 18, 3) := by decide +kernel
theorem dX0_coldRooms_9 : decode cX0_coldRooms 9 = .ok (.if_icmp .ge 28, 3) := by decide +kernel
theorem dX0_coldRooms_12 : decode cX0_coldRooms 12 = .ok (.aload_n 0, 1) := by decide +kernel
theorem dX0_coldRooms_13 : decode cX0_coldRooms 13 = .ok (.getfield 27, 3) := by decide +kernel
theorem dX0_coldRooms_16 : decode cX0_coldRooms 16 = .ok (.iload_n 2, 1) := by decide +kernel
theorem dX0_coldRooms_17 : decode cX0_coldRooms 17 = .ok (.iaload, 1) := by decide +kernel
theorem dX0_coldRooms_18 : decode cX0_coldRooms 18 = .ok (.aload_n 0, 1) := by decide +kernel
theorem dX0_coldRooms_19 : decode cX0_coldRooms 19 = .ok (.getfield 15, 3) := by decide +kernel
theorem dX0_coldRooms_22 : decode cX0_coldRooms 22 = .ok (.if_icmp .gt 9, 3) := by decide +kernel
theorem dX0_coldRooms_25 : decode cX0_coldRooms 25 = .ok (.iload_n 1, 1) := by decide +kernel
theorem dX0_coldRooms_26 : decode cX0_coldRooms 26 = .ok (.iconst 1, 1) := by decide +kernel
theorem dX0_coldRooms_27 : decode cX0_coldRooms 27 = .ok (.iload_n 2, 1) := by decide +kernel
theorem dX0_coldRooms_28 : decode cX0_coldRooms 28 = .ok (.ishl, 1) := by decide +kernel
theorem dX0_coldRooms_29 : decode cX0_coldRooms 29 = .ok (.ior, 1) := by decide +kernel
theorem dX0_coldRooms_30 : decode cX0_coldRooms 30 = .ok (.istore_n 1, 1) := by decide +kernel
theorem dX0_coldRooms_31 : decode cX0_coldRooms 31 = .ok (.iinc 2 1, 3) := by decide +kernel
theorem dX0_coldRooms_34 : decode cX0_coldRooms 34 = .ok (.goto (-30), 3) := by decide +kernel
theorem dX0_coldRooms_37 : decode cX0_coldRooms 37 = .ok (.iload_n 1, 1) := by decide +kernel
theorem dX0_coldRooms_38 : decode cX0_coldRooms 38 = .ok (.ireturn, 1) := by decide +kernel
theorem dX0_tubesAt_0 : decode cX0_tubesAt 0 = .ok (.iconst 0, 1) := by decide +kernel
theorem dX0_tubesAt_1 : decode cX0_tubesAt 1 = .ok (.istore_n 2, 1) := by decide +kernel
theorem dX0_tubesAt_2 : decode cX0_tubesAt 2 = .ok (.iconst 0, 1) := by decide +kernel
theorem dX0_tubesAt_3 : decode cX0_tubesAt 3 = .ok (.istore_n 3, 1) := by decide +kernel
theorem dX0_tubesAt_4 : decode cX0_tubesAt 4 = .ok (.iload_n 3, 1) := by decide +kernel
theorem dX0_tubesAt_5 : decode cX0_tubesAt 5 = .ok (.aload_n 0, 1) := by decide +kernel
theorem dX0_tubesAt_6 : decode cX0_tubesAt 6 = .ok (.getfield 21, 3) := by decide +kernel
theorem dX0_tubesAt_9 : decode cX0_tubesAt 9 = .ok (.if_icmp .ge 25, 3) := by decide +kernel
theorem dX0_tubesAt_12 : decode cX0_tubesAt 12 = .ok (.aload_n 0, 1) := by decide +kernel
theorem dX0_tubesAt_13 : decode cX0_tubesAt 13 = .ok (.getfield 37, 3) := by decide +kernel
theorem dX0_tubesAt_16 : decode cX0_tubesAt 16 = .ok (.iload_n 3, 1) := by decide +kernel
theorem dX0_tubesAt_17 : decode cX0_tubesAt 17 = .ok (.iaload, 1) := by decide +kernel
theorem dX0_tubesAt_18 : decode cX0_tubesAt 18 = .ok (.iload_n 1, 1) := by decide +kernel
theorem dX0_tubesAt_19 : decode cX0_tubesAt 19 = .ok (.if_icmp .ne 9, 3) := by decide +kernel
theorem dX0_tubesAt_22 : decode cX0_tubesAt 22 = .ok (.iload_n 2, 1) := by decide +kernel
theorem dX0_tubesAt_23 : decode cX0_tubesAt 23 = .ok (.iconst 1, 1) := by decide +kernel
theorem dX0_tubesAt_24 : decode cX0_tubesAt 24 = .ok (.iload_n 3, 1) := by decide +kernel
theorem dX0_tubesAt_25 : decode cX0_tubesAt 25 = .ok (.ishl, 1) := by decide +kernel
theorem dX0_tubesAt_26 : decode cX0_tubesAt 26 = .ok (.ior, 1) := by decide +kernel
theorem dX0_tubesAt_27 : decode cX0_tubesAt 27 = .ok (.istore_n 2, 1) := by decide +kernel
theorem dX0_tubesAt_28 : decode cX0_tubesAt 28 = .ok (.iinc 3 1, 3) := by decide +kernel
theorem dX0_tubesAt_31 : decode cX0_tubesAt 31 = .ok (.goto (-27), 3) := by decide +kernel
theorem dX0_tubesAt_34 : decode cX0_tubesAt 34 = .ok (.iload_n 2, 1) := by decide +kernel
theorem dX0_tubesAt_35 : decode cX0_tubesAt 35 = .ok (.ireturn, 1) := by decide +kernel
theorem dX0_upIn_0 : decode cX0_upIn 0 = .ok (.iconst 0, 1) := by decide +kernel
theorem dX0_upIn_1 : decode cX0_upIn 1 = .ok (.istore_n 2, 1) := by decide +kernel
theorem dX0_upIn_2 : decode cX0_upIn 2 = .ok (.iconst 0, 1) := by decide +kernel
theorem dX0_upIn_3 : decode cX0_upIn 3 = .ok (.istore_n 3, 1) := by decide +kernel
theorem dX0_upIn_4 : decode cX0_upIn 4 = .ok (.iload_n 3, 1) := by decide +kernel
theorem dX0_upIn_5 : decode cX0_upIn 5 = .ok (.aload_n 0, 1) := by decide +kernel
theorem dX0_upIn_6 : decode cX0_upIn 6 = .ok (.getfield 21, 3) := by decide +kernel
theorem dX0_upIn_9 : decode cX0_upIn 9 = .ok (.if_icmp .ge 26, 3) := by decide +kernel
theorem dX0_upIn_12 : decode cX0_upIn 12 = .ok (.iload_n 1, 1) := by decide +kernel
theorem dX0_upIn_13 : decode cX0_upIn 13 = .ok (.iload_n 3, 1) := by decide +kernel
theorem dX0_upIn_14 : decode cX0_upIn 14 = .ok (.ishr, 1) := by decide +kernel
theorem dX0_upIn_15 : decode cX0_upIn 15 = .ok (.iconst 1, 1) := by decide +kernel
theorem dX0_upIn_16 : decode cX0_upIn 16 = .ok (.iand, 1) := by decide +kernel
theorem dX0_upIn_17 : decode cX0_upIn 17 = .ok (.ifCond .eq 12, 3) := by decide +kernel
theorem dX0_upIn_20 : decode cX0_upIn 20 = .ok (.iload_n 2, 1) := by decide +kernel
theorem dX0_upIn_21 : decode cX0_upIn 21 = .ok (.aload_n 0, 1) := by decide +kernel
theorem dX0_upIn_22 : decode cX0_upIn 22 = .ok (.getfield 46, 3) := by decide +kernel
theorem dX0_upIn_25 : decode cX0_upIn 25 = .ok (.iload_n 3, 1) := by decide +kernel
theorem dX0_upIn_26 : decode cX0_upIn 26 = .ok (.iaload, 1) := by decide +kernel
theorem dX0_upIn_27 : decode cX0_upIn 27 = .ok (.iadd, 1) := by decide +kernel
theorem dX0_upIn_28 : decode cX0_upIn 28 = .ok (.istore_n 2, 1) := by decide +kernel
theorem dX0_upIn_29 : decode cX0_upIn 29 = .ok (.iinc 3 1, 3) := by decide +kernel
theorem dX0_upIn_32 : decode cX0_upIn 32 = .ok (.goto (-28), 3) := by decide +kernel
theorem dX0_upIn_35 : decode cX0_upIn 35 = .ok (.iload_n 2, 1) := by decide +kernel
theorem dX0_upIn_36 : decode cX0_upIn 36 = .ok (.ireturn, 1) := by decide +kernel
set_option maxRecDepth 20000 in
theorem ggX0_all_X0_upIn : GoodIn wsX0_all wsX0_upIn := goodIn_r _ [7, 8, 9, 10, 11, 12, 13, 14, 15, 16, 17, 18, 19, 20, 21] rfl (by decide +kernel)
set_option maxRecDepth 20000 in
theorem gX0_all_X0_upIn : GoodIn wsX0_all (wsV RX0 55 RX0 yX0_upIn wsX0_upIn) := goodIn_app (goodIn_of _ (by decide +kernel)) ggX0_all_X0_upIn
theorem dX0_all_0 : decode cX0_all 0 = .ok (.aload_n 0, 1) := by decide +kernel
theorem dX0_all_1 : decode cX0_all 1 = .ok (.iconst (-1), 1) := by decide +kernel
theorem dX0_all_2 : decode cX0_all 2 = .ok (.invokevirtual 55, 3) := by decide +kernel
theorem dX0_all_5 : decode cX0_all 5 = .ok (.istore_n 1, 1) := by decide +kernel
theorem dX0_all_6 : decode cX0_all 6 = .ok (.iconst 0, 1) := by decide +kernel
theorem dX0_all_7 : decode cX0_all 7 = .ok (.istore_n 2, 1) := by decide +kernel
theorem dX0_all_8 : decode cX0_all 8 = .ok (.iload_n 2, 1) := by decide +kernel
theorem dX0_all_9 : decode cX0_all 9 = .ok (.aload_n 0, 1) := by decide +kernel
theorem dX0_all_10 : decode cX0_all 10 = .ok (.getfield 18, 3) := by decide +kernel
theorem dX0_all_13 : decode cX0_all 13 = .ok (.if_icmp .ge 18, 3) := by decide +kernel
theorem dX0_all_16 : decode cX0_all 16 = .ok (.iload_n 1, 1) := by decide +kernel
theorem dX0_all_17 : decode cX0_all 17 = .ok (.aload_n 0, 1) := by decide +kernel
theorem dX0_all_18 : decode cX0_all 18 = .ok (.getfield 27, 3) := by decide +kernel
theorem dX0_all_21 : decode cX0_all 21 = .ok (.iload_n 2, 1) := by decide +kernel
theorem dX0_all_22 : decode cX0_all 22 = .ok (.iaload, 1) := by decide +kernel
theorem dX0_all_23 : decode cX0_all 23 = .ok (.iadd, 1) := by decide +kernel
theorem dX0_all_24 : decode cX0_all 24 = .ok (.istore_n 1, 1) := by decide +kernel
theorem dX0_all_25 : decode cX0_all 25 = .ok (.iinc 2 1, 3) := by decide +kernel
theorem dX0_all_28 : decode cX0_all 28 = .ok (.goto (-20), 3) := by decide +kernel
theorem dX0_all_31 : decode cX0_all 31 = .ok (.iload_n 1, 1) := by decide +kernel
theorem dX0_all_32 : decode cX0_all 32 = .ok (.ireturn, 1) := by decide +kernel
set_option maxRecDepth 20000 in
theorem ggX0_wants_X0_isCold : GoodIn wsX0_wants wsX0_isCold := goodIn_r _ [10, 11, 12, 13, 14, 15, 16, 17, 18, 19, 20, 21, 22, 23, 24, 25] rfl (by decide +kernel)
set_option maxRecDepth 20000 in
theorem gX0_wants_X0_isCold : GoodIn wsX0_wants (wsV RX0 59 RX0 yX0_isCold wsX0_isCold) := goodIn_app (goodIn_of _ (by decide +kernel)) ggX0_wants_X0_isCold
theorem dX0_wants_0 : decode cX0_wants 0 = .ok (.aload_n 0, 1) := by decide +kernel
theorem dX0_wants_1 : decode cX0_wants 1 = .ok (.getfield 34, 3) := by decide +kernel
theorem dX0_wants_4 : decode cX0_wants 4 = .ok (.iload_n 1, 1) := by decide +kernel
theorem dX0_wants_5 : decode cX0_wants 5 = .ok (.iaload, 1) := by decide +kernel
theorem dX0_wants_6 : decode cX0_wants 6 = .ok (.tableswitch 91 2 5 #[30, 47, 67, 67], 30) := by decide +kernel
theorem dX0_wants_36 : decode cX0_wants 36 = .ok (.aload_n 0, 1) := by decide +kernel
theorem dX0_wants_37 : decode cX0_wants 37 = .ok (.getfield 40, 3) := by decide +kernel
theorem dX0_wants_40 : decode cX0_wants 40 = .ok (.iload_n 1, 1) := by decide +kernel
theorem dX0_wants_41 : decode cX0_wants 41 = .ok (.iaload, 1) := by decide +kernel
theorem dX0_wants_42 : decode cX0_wants 42 = .ok (.aload_n 0, 1) := by decide +kernel
theorem dX0_wants_43 : decode cX0_wants 43 = .ok (.getfield 46, 3) := by decide +kernel
theorem dX0_wants_46 : decode cX0_wants 46 = .ok (.iload_n 1, 1) := by decide +kernel
theorem dX0_wants_47 : decode cX0_wants 47 = .ok (.iaload, 1) := by decide +kernel
theorem dX0_wants_48 : decode cX0_wants 48 = .ok (.bipush 10, 2) := by decide +kernel
theorem dX0_wants_50 : decode cX0_wants 50 = .ok (.idiv, 1) := by decide +kernel
theorem dX0_wants_51 : decode cX0_wants 51 = .ok (.iadd, 1) := by decide +kernel
theorem dX0_wants_52 : decode cX0_wants 52 = .ok (.ireturn, 1) := by decide +kernel
theorem dX0_wants_53 : decode cX0_wants 53 = .ok (.aload_n 0, 1) := by decide +kernel
theorem dX0_wants_54 : decode cX0_wants 54 = .ok (.getfield 24, 3) := by decide +kernel
theorem dX0_wants_57 : decode cX0_wants 57 = .ok (.iconst 2, 1) := by decide +kernel
theorem dX0_wants_58 : decode cX0_wants 58 = .ok (.irem, 1) := by decide +kernel
theorem dX0_wants_59 : decode cX0_wants 59 = .ok (.ifCond .ne 12, 3) := by decide +kernel
theorem dX0_wants_62 : decode cX0_wants 62 = .ok (.aload_n 0, 1) := by decide +kernel
theorem dX0_wants_63 : decode cX0_wants 63 = .ok (.getfield 40, 3) := by decide +kernel
theorem dX0_wants_66 : decode cX0_wants 66 = .ok (.iload_n 1, 1) := by decide +kernel
theorem dX0_wants_67 : decode cX0_wants 67 = .ok (.iaload, 1) := by decide +kernel
theorem dX0_wants_68 : decode cX0_wants 68 = .ok (.goto 4, 3) := by decide +kernel
theorem dX0_wants_71 : decode cX0_wants 71 = .ok (.iconst 0, 1) := by decide +kernel
theorem dX0_wants_72 : decode cX0_wants 72 = .ok (.ireturn, 1) := by decide +kernel
theorem dX0_wants_73 : decode cX0_wants 73 = .ok (.aload_n 0, 1) := by decide +kernel
theorem dX0_wants_74 : decode cX0_wants 74 = .ok (.aload_n 0, 1) := by decide +kernel
theorem dX0_wants_75 : decode cX0_wants 75 = .ok (.getfield 37, 3) := by decide +kernel
theorem dX0_wants_78 : decode cX0_wants 78 = .ok (.iload_n 1, 1) := by decide +kernel
theorem dX0_wants_79 : decode cX0_wants 79 = .ok (.iaload, 1) := by decide +kernel
theorem dX0_wants_80 : decode cX0_wants 80 = .ok (.invokevirtual 59, 3) := by decide +kernel
theorem dX0_wants_83 : decode cX0_wants 83 = .ok (.ifCond .eq 7, 3) := by decide +kernel
theorem dX0_wants_86 : decode cX0_wants 86 = .ok (.iconst 0, 1) := by decide +kernel
theorem dX0_wants_87 : decode cX0_wants 87 = .ok (.goto 9, 3) := by decide +kernel
theorem dX0_wants_90 : decode cX0_wants 90 = .ok (.aload_n 0, 1) := by decide +kernel
theorem dX0_wants_91 : decode cX0_wants 91 = .ok (.getfield 40, 3) := by decide +kernel
theorem dX0_wants_94 : decode cX0_wants 94 = .ok (.iload_n 1, 1) := by decide +kernel
theorem dX0_wants_95 : decode cX0_wants 95 = .ok (.iaload, 1) := by decide +kernel
theorem dX0_wants_96 : decode cX0_wants 96 = .ok (.ireturn, 1) := by decide +kernel
theorem dX0_wants_97 : decode cX0_wants 97 = .ok (.aload_n 0, 1) := by decide +kernel
theorem dX0_wants_98 : decode cX0_wants 98 = .ok (.getfield 40, 3) := by decide +kernel
theorem dX0_wants_101 : decode cX0_wants 101 = .ok (.iload_n 1, 1) := by decide +kernel
theorem dX0_wants_102 : decode cX0_wants 102 = .ok (.iaload, 1) := by decide +kernel
theorem dX0_wants_103 : decode cX0_wants 103 = .ok (.ireturn, 1) := by decide +kernel
set_option maxRecDepth 20000 in
theorem ggX0_passMinute_X0_giveBack : GoodIn wsX0_passMinute wsX0_giveBack := goodIn_r _ [18, 19, 20, 21, 2, 3, 37, 38, 39, 40, 41, 42, 43, 44, 45, 46, 47, 48] rfl (by decide +kernel)
set_option maxRecDepth 20000 in
theorem gX0_passMinute_X0_giveBack : GoodIn wsX0_passMinute (wsV RX0 63 RX0 yX0_giveBack wsX0_giveBack) := goodIn_app (goodIn_of _ (by decide +kernel)) ggX0_passMinute_X0_giveBack
set_option maxRecDepth 20000 in
theorem ggX0_passMinute_X0_drawUp : GoodIn wsX0_passMinute wsX0_drawUp := goodIn_r _ [25, 21, 2, 3, 26, 20, 10, 11, 7, 12, 27, 28, 29, 17, 30, 19, 31, 13, 32, 33, 34, 35, 36, 37, 38, 39, 40, 41, 42, 43, 44, 45, 46, 47, 48] rfl (by decide +kernel)
set_option maxRecDepth 20000 in
theorem gX0_passMinute_X0_drawUp : GoodIn wsX0_passMinute (wsV RX0 67 RX0 yX0_drawUp wsX0_drawUp) := goodIn_app (goodIn_of _ (by decide +kernel)) ggX0_passMinute_X0_drawUp
theorem dX0_passMinute_0 : decode cX0_passMinute 0 = .ok (.iconst 0, 1) := by decide +kernel
theorem dX0_passMinute_1 : decode cX0_passMinute 1 = .ok (.istore_n 1, 1) := by decide +kernel
theorem dX0_passMinute_2 : decode cX0_passMinute 2 = .ok (.iload_n 1, 1) := by decide +kernel
theorem dX0_passMinute_3 : decode cX0_passMinute 3 = .ok (.aload_n 0, 1) := by decide +kernel
theorem dX0_passMinute_4 : decode cX0_passMinute 4 = .ok (.getfield 21, 3) := by decide +kernel
theorem dX0_passMinute_7 : decode cX0_passMinute 7 = .ok (.if_icmp .ge 19, 3) := by decide +kernel
theorem dX0_passMinute_10 : decode cX0_passMinute 10 = .ok (.aload_n 0, 1) := by decide +kernel
theorem dX0_passMinute_11 : decode cX0_passMinute 11 = .ok (.iload_n 1, 1) := by decide +kernel
theorem dX0_passMinute_12 : decode cX0_passMinute 12 = .ok (.invokevirtual 63, 3) := by decide +kernel
theorem dX0_passMinute_15 : decode cX0_passMinute 15 = .ok (.aload_n 0, 1) := by decide +kernel
theorem dX0_passMinute_16 : decode cX0_passMinute 16 = .ok (.iload_n 1, 1) := by decide +kernel
theorem dX0_passMinute_17 : decode cX0_passMinute 17 = .ok (.invokevirtual 67, 3) := by decide +kernel
theorem dX0_passMinute_20 : decode cX0_passMinute 20 = .ok (.iinc 1 1, 3) := by decide +kernel
theorem dX0_passMinute_23 : decode cX0_passMinute 23 = .ok (.goto (-21), 3) := by decide +kernel
theorem dX0_passMinute_26 : decode cX0_passMinute 26 = .ok (.iconst 0, 1) := by decide +kernel
theorem dX0_passMinute_27 : decode cX0_passMinute 27 = .ok (.istore_n 1, 1) := by decide +kernel
theorem dX0_passMinute_28 : decode cX0_passMinute 28 = .ok (.iload_n 1, 1) := by decide +kernel
theorem dX0_passMinute_29 : decode cX0_passMinute 29 = .ok (.aload_n 0, 1) := by decide +kernel
theorem dX0_passMinute_30 : decode cX0_passMinute 30 = .ok (.getfield 18, 3) := by decide +kernel
theorem dX0_passMinute_33 : decode cX0_passMinute 33 = .ok (.if_icmp .ge 43, 3) := by decide +kernel
theorem dX0_passMinute_36 : decode cX0_passMinute 36 = .ok (.aload_n 0, 1) := by decide +kernel
theorem dX0_passMinute_37 : decode cX0_passMinute 37 = .ok (.getfield 27, 3) := by decide +kernel
theorem dX0_passMinute_40 : decode cX0_passMinute 40 = .ok (.iload_n 1, 1) := by decide +kernel
theorem dX0_passMinute_41 : decode cX0_passMinute 41 = .ok (.sipush 999, 3) := by decide +kernel
theorem dX0_passMinute_44 : decode cX0_passMinute 44 = .ok (.iconst 0, 1) := by decide +kernel
theorem dX0_passMinute_45 : decode cX0_passMinute 45 = .ok (.aload_n 0, 1) := by decide +kernel
theorem dX0_passMinute_46 : decode cX0_passMinute 46 = .ok (.getfield 27, 3) := by decide +kernel
theorem dX0_passMinute_49 : decode cX0_passMinute 49 = .ok (.iload_n 1, 1) := by decide +kernel
theorem dX0_passMinute_50 : decode cX0_passMinute 50 = .ok (.iaload, 1) := by decide +kernel
theorem dX0_passMinute_51 : decode cX0_passMinute 51 = .ok (.aload_n 0, 1) := by decide +kernel
theorem dX0_passMinute_52 : decode cX0_passMinute 52 = .ok (.getfield 9, 3) := by decide +kernel
theorem dX0_passMinute_55 : decode cX0_passMinute 55 = .ok (.isub, 1) := by decide +kernel
theorem dX0_passMinute_56 : decode cX0_passMinute 56 = .ok (.invokestatic 70, 3) := by decide +kernel
theorem dX0_passMinute_59 : decode cX0_passMinute 59 = .ok (.aload_n 0, 1) := by decide +kernel
theorem dX0_passMinute_60 : decode cX0_passMinute 60 = .ok (.getfield 31, 3) := by decide +kernel
theorem dX0_passMinute_63 : decode cX0_passMinute 63 = .ok (.iload_n 1, 1) := by decide +kernel
theorem dX0_passMinute_64 : decode cX0_passMinute 64 = .ok (.iaload, 1) := by decide +kernel
theorem dX0_passMinute_65 : decode cX0_passMinute 65 = .ok (.iadd, 1) := by decide +kernel
theorem dX0_passMinute_66 : decode cX0_passMinute 66 = .ok (.invokestatic 76, 3) := by decide +kernel
theorem dX0_passMinute_69 : decode cX0_passMinute 69 = .ok (.iastore, 1) := by decide +kernel
theorem dX0_passMinute_70 : decode cX0_passMinute 70 = .ok (.iinc 1 1, 3) := by decide +kernel
theorem dX0_passMinute_73 : decode cX0_passMinute 73 = .ok (.goto (-45), 3) := by decide +kernel
theorem dX0_passMinute_76 : decode cX0_passMinute 76 = .ok (.aload_n 0, 1) := by decide +kernel
theorem dX0_passMinute_77 : decode cX0_passMinute 77 = .ok (.dup, 1) := by decide +kernel
theorem dX0_passMinute_78 : decode cX0_passMinute 78 = .ok (.getfield 24, 3) := by decide +kernel
theorem dX0_passMinute_81 : decode cX0_passMinute 81 = .ok (.iconst 1, 1) := by decide +kernel
theorem dX0_passMinute_82 : decode cX0_passMinute 82 = .ok (.iadd, 1) := by decide +kernel
theorem dX0_passMinute_83 : decode cX0_passMinute 83 = .ok (.putfield 24, 3) := by decide +kernel
theorem dX0_passMinute_86 : decode cX0_passMinute 86 = .ok (.return_, 1) := by decide +kernel
set_option maxRecDepth 20000 in
theorem ggX0_passMinutes_X0_passMinute : GoodIn wsX0_passMinutes wsX0_passMinute := goodIn_r _ [5, 6, 7, 8, 9, 10, 11, 12, 13, 14, 15, 16, 17, 18, 19, 20, 21, 4, 22, 23, 24, 25, 26, 27, 28, 29, 30, 31, 32, 33, 34, 35, 36, 37, 38, 39, 40, 41, 42, 43, 44, 45, 46, 47, 48, 49, 50, 51, 52] rfl (by decide +kernel)
set_option maxRecDepth 20000 in
theorem gX0_passMinutes_X0_passMinute : GoodIn wsX0_passMinutes (wsV RX0 79 RX0 yX0_passMinute wsX0_passMinute) := goodIn_app (goodIn_of _ (by decide +kernel)) ggX0_passMinutes_X0_passMinute
theorem dX0_passMinutes_0 : decode cX0_passMinutes 0 = .ok (.iconst 0, 1) := by decide +kernel
theorem dX0_passMinutes_1 : decode cX0_passMinutes 1 = .ok (.istore_n 2, 1) := by decide +kernel
theorem dX0_passMinutes_2 : decode cX0_passMinutes 2 = .ok (.iload_n 2, 1) := by decide +kernel
theorem dX0_passMinutes_3 : decode cX0_passMinutes 3 = .ok (.iload_n 1, 1) := by decide +kernel
theorem dX0_passMinutes_4 : decode cX0_passMinutes 4 = .ok (.if_icmp .ge 13, 3) := by decide +kernel
theorem dX0_passMinutes_7 : decode cX0_passMinutes 7 = .ok (.aload_n 0, 1) := by decide +kernel
theorem dX0_passMinutes_8 : decode cX0_passMinutes 8 = .ok (.invokevirtual 79, 3) := by decide +kernel
theorem dX0_passMinutes_11 : decode cX0_passMinutes 11 = .ok (.iinc 2 1, 3) := by decide +kernel
theorem dX0_passMinutes_14 : decode cX0_passMinutes 14 = .ok (.goto (-12), 3) := by decide +kernel
theorem dX0_passMinutes_17 : decode cX0_passMinutes 17 = .ok (.return_, 1) := by decide +kernel
theorem dX0_giveBack_0 : decode cX0_giveBack 0 = .ok (.aload_n 0, 1) := by decide +kernel
theorem dX0_giveBack_1 : decode cX0_giveBack 1 = .ok (.getfield 34, 3) := by decide +kernel
theorem dX0_giveBack_4 : decode cX0_giveBack 4 = .ok (.iload_n 1, 1) := by decide +kernel
theorem dX0_giveBack_5 : decode cX0_giveBack 5 = .ok (.iaload, 1) := by decide +kernel
theorem dX0_giveBack_6 : decode cX0_giveBack 6 = .ok (.iconst 5, 1) := by decide +kernel
theorem dX0_giveBack_7 : decode cX0_giveBack 7 = .ok (.if_icmp .ne 12, 3) := by decide +kernel
theorem dX0_giveBack_10 : decode cX0_giveBack 10 = .ok (.aload_n 0, 1) := by decide +kernel
theorem dX0_giveBack_11 : decode cX0_giveBack 11 = .ok (.getfield 46, 3) := by decide +kernel
theorem dX0_giveBack_14 : decode cX0_giveBack 14 = .ok (.iload_n 1, 1) := by decide +kernel
theorem dX0_giveBack_15 : decode cX0_giveBack 15 = .ok (.iaload, 1) := by decide +kernel
theorem dX0_giveBack_16 : decode cX0_giveBack 16 = .ok (.ifCond .ne 4, 3) := by decide +kernel
theorem dX0_giveBack_19 : decode cX0_giveBack 19 = .ok (.return_, 1) := by decide +kernel
theorem dX0_giveBack_20 : decode cX0_giveBack 20 = .ok (.aload_n 0, 1) := by decide +kernel
theorem dX0_giveBack_21 : decode cX0_giveBack 21 = .ok (.getfield 46, 3) := by decide +kernel
theorem dX0_giveBack_24 : decode cX0_giveBack 24 = .ok (.iload_n 1, 1) := by decide +kernel
theorem dX0_giveBack_25 : decode cX0_giveBack 25 = .ok (.dup2, 1) := by decide +kernel
theorem dX0_giveBack_26 : decode cX0_giveBack 26 = .ok (.iaload, 1) := by decide +kernel
theorem dX0_giveBack_27 : decode cX0_giveBack 27 = .ok (.iconst 1, 1) := by decide +kernel
theorem dX0_giveBack_28 : decode cX0_giveBack 28 = .ok (.isub, 1) := by decide +kernel
theorem dX0_giveBack_29 : decode cX0_giveBack 29 = .ok (.iastore, 1) := by decide +kernel
theorem dX0_giveBack_30 : decode cX0_giveBack 30 = .ok (.aload_n 0, 1) := by decide +kernel
theorem dX0_giveBack_31 : decode cX0_giveBack 31 = .ok (.getfield 37, 3) := by decide +kernel
theorem dX0_giveBack_34 : decode cX0_giveBack 34 = .ok (.iload_n 1, 1) := by decide +kernel
theorem dX0_giveBack_35 : decode cX0_giveBack 35 = .ok (.iaload, 1) := by decide +kernel
theorem dX0_giveBack_36 : decode cX0_giveBack 36 = .ok (.aload_n 0, 1) := by decide +kernel
theorem dX0_giveBack_37 : decode cX0_giveBack 37 = .ok (.getfield 18, 3) := by decide +kernel
theorem dX0_giveBack_40 : decode cX0_giveBack 40 = .ok (.if_icmp .ge 18, 3) := by decide +kernel
theorem dX0_giveBack_43 : decode cX0_giveBack 43 = .ok (.aload_n 0, 1) := by decide +kernel
theorem dX0_giveBack_44 : decode cX0_giveBack 44 = .ok (.getfield 27, 3) := by decide +kernel
theorem dX0_giveBack_47 : decode cX0_giveBack 47 = .ok (.aload_n 0, 1) := by decide +kernel
theorem dX0_giveBack_48 : decode cX0_giveBack 48 = .ok (.getfield 37, 3) := by decide +kernel
theorem dX0_giveBack_51 : decode cX0_giveBack 51 = .ok (.iload_n 1, 1) := by decide +kernel
theorem dX0_giveBack_52 : decode cX0_giveBack 52 = .ok (.iaload, 1) := by decide +kernel
theorem dX0_giveBack_53 : decode cX0_giveBack 53 = .ok (.dup2, 1) := by decide +kernel
theorem dX0_giveBack_54 : decode cX0_giveBack 54 = .ok (.iaload, 1) := by decide +kernel
theorem dX0_giveBack_55 : decode cX0_giveBack 55 = .ok (.iconst 1, 1) := by decide +kernel
theorem dX0_giveBack_56 : decode cX0_giveBack 56 = .ok (.iadd, 1) := by decide +kernel
theorem dX0_giveBack_57 : decode cX0_giveBack 57 = .ok (.iastore, 1) := by decide +kernel
theorem dX0_giveBack_58 : decode cX0_giveBack 58 = .ok (.return_, 1) := by decide +kernel
set_option maxRecDepth 20000 in
theorem ggX0_drawUp_X0_wants : GoodIn wsX0_drawUp wsX0_wants := goodIn_r _ [14, 15, 16, 5, 17, 1, 18, 19, 20, 13, 21, 2, 3, 22, 23, 24, 25, 26, 27, 28, 29, 30, 31, 32, 33, 34] rfl (by decide +kernel)
set_option maxRecDepth 20000 in
theorem gX0_drawUp_X0_wants : GoodIn wsX0_drawUp (wsV RX0 82 RX0 yX0_wants wsX0_wants) := goodIn_app (goodIn_of _ (by decide +kernel)) ggX0_drawUp_X0_wants
theorem dX0_drawUp_0 : decode cX0_drawUp 0 = .ok (.aload_n 0, 1) := by decide +kernel
theorem dX0_drawUp_1 : decode cX0_drawUp 1 = .ok (.getfield 37, 3) := by decide +kernel
theorem dX0_drawUp_4 : decode cX0_drawUp 4 = .ok (.iload_n 1, 1) := by decide +kernel
theorem dX0_drawUp_5 : decode cX0_drawUp 5 = .ok (.iaload, 1) := by decide +kernel
theorem dX0_drawUp_6 : decode cX0_drawUp 6 = .ok (.istore_n 2, 1) := by decide +kernel
theorem dX0_drawUp_7 : decode cX0_drawUp 7 = .ok (.iload_n 2, 1) := by decide +kernel
theorem dX0_drawUp_8 : decode cX0_drawUp 8 = .ok (.aload_n 0, 1) := by decide +kernel
theorem dX0_drawUp_9 : decode cX0_drawUp 9 = .ok (.getfield 18, 3) := by decide +kernel
theorem dX0_drawUp_12 : decode cX0_drawUp 12 = .ok (.if_icmp .lt 4, 3) := by decide +kernel
theorem dX0_drawUp_15 : decode cX0_drawUp 15 = .ok (.return_, 1) := by decide +kernel
theorem dX0_drawUp_16 : decode cX0_drawUp 16 = .ok (.aload_n 0, 1) := by decide +kernel
theorem dX0_drawUp_17 : decode cX0_drawUp 17 = .ok (.iload_n 1, 1) := by decide +kernel
theorem dX0_drawUp_18 : decode cX0_drawUp 18 = .ok (.invokevirtual 82, 3) := by decide +kernel
theorem dX0_drawUp_21 : decode cX0_drawUp 21 = .ok (.aload_n 0, 1) := by decide +kernel
theorem dX0_drawUp_22 : decode cX0_drawUp 22 = .ok (.getfield 27, 3) := by decide +kernel
theorem dX0_drawUp_25 : decode cX0_drawUp 25 = .ok (.iload_n 2, 1) := by decide +kernel
theorem dX0_drawUp_26 : decode cX0_drawUp 26 = .ok (.iaload, 1) := by decide +kernel
theorem dX0_drawUp_27 : decode cX0_drawUp 27 = .ok (.aload_n 0, 1) := by decide +kernel
theorem dX0_drawUp_28 : decode cX0_drawUp 28 = .ok (.getfield 43, 3) := by decide +kernel
theorem dX0_drawUp_31 : decode cX0_drawUp 31 = .ok (.iload_n 1, 1) := by decide +kernel
theorem dX0_drawUp_32 : decode cX0_drawUp 32 = .ok (.iaload, 1) := by decide +kernel
theorem dX0_drawUp_33 : decode cX0_drawUp 33 = .ok (.aload_n 0, 1) := by decide +kernel
theorem dX0_drawUp_34 : decode cX0_drawUp 34 = .ok (.getfield 46, 3) := by decide +kernel
theorem dX0_drawUp_37 : decode cX0_drawUp 37 = .ok (.iload_n 1, 1) := by decide +kernel
theorem dX0_drawUp_38 : decode cX0_drawUp 38 = .ok (.iaload, 1) := by decide +kernel
theorem dX0_drawUp_39 : decode cX0_drawUp 39 = .ok (.isub, 1) := by decide +kernel
theorem dX0_drawUp_40 : decode cX0_drawUp 40 = .ok (.invokestatic 76, 3) := by decide +kernel
theorem dX0_drawUp_43 : decode cX0_drawUp 43 = .ok (.invokestatic 76, 3) := by decide +kernel
theorem dX0_drawUp_46 : decode cX0_drawUp 46 = .ok (.istore_n 3, 1) := by decide +kernel
theorem dX0_drawUp_47 : decode cX0_drawUp 47 = .ok (.aload_n 0, 1) := by decide +kernel
theorem dX0_drawUp_48 : decode cX0_drawUp 48 = .ok (.getfield 46, 3) := by decide +kernel
theorem dX0_drawUp_51 : decode cX0_drawUp 51 = .ok (.iload_n 1, 1) := by decide +kernel
theorem dX0_drawUp_52 : decode cX0_drawUp 52 = .ok (.dup2, 1) := by decide +kernel
theorem dX0_drawUp_53 : decode cX0_drawUp 53 = .ok (.iaload, 1) := by decide +kernel
theorem dX0_drawUp_54 : decode cX0_drawUp 54 = .ok (.iload_n 3, 1) := by decide +kernel
theorem dX0_drawUp_55 : decode cX0_drawUp 55 = .ok (.iadd, 1) := by decide +kernel
theorem dX0_drawUp_56 : decode cX0_drawUp 56 = .ok (.iastore, 1) := by decide +kernel
theorem dX0_drawUp_57 : decode cX0_drawUp 57 = .ok (.aload_n 0, 1) := by decide +kernel
theorem dX0_drawUp_58 : decode cX0_drawUp 58 = .ok (.getfield 27, 3) := by decide +kernel
theorem dX0_drawUp_61 : decode cX0_drawUp 61 = .ok (.iload_n 2, 1) := by decide +kernel
theorem dX0_drawUp_62 : decode cX0_drawUp 62 = .ok (.dup2, 1) := by decide +kernel
theorem dX0_drawUp_63 : decode cX0_drawUp 63 = .ok (.iaload, 1) := by decide +kernel
theorem dX0_drawUp_64 : decode cX0_drawUp 64 = .ok (.iload_n 3, 1) := by decide +kernel
theorem dX0_drawUp_65 : decode cX0_drawUp 65 = .ok (.isub, 1) := by decide +kernel
theorem dX0_drawUp_66 : decode cX0_drawUp 66 = .ok (.iastore, 1) := by decide +kernel
theorem dX0_drawUp_67 : decode cX0_drawUp 67 = .ok (.return_, 1) := by decide +kernel
theorem dX0_letDown_0 : decode cX0_letDown 0 = .ok (.aload_n 0, 1) := by decide +kernel
theorem dX0_letDown_1 : decode cX0_letDown 1 = .ok (.getfield 37, 3) := by decide +kernel
theorem dX0_letDown_4 : decode cX0_letDown 4 = .ok (.iload_n 1, 1) := by decide +kernel
theorem dX0_letDown_5 : decode cX0_letDown 5 = .ok (.iaload, 1) := by decide +kernel
theorem dX0_letDown_6 : decode cX0_letDown 6 = .ok (.istore_n 2, 1) := by decide +kernel
theorem dX0_letDown_7 : decode cX0_letDown 7 = .ok (.iload_n 2, 1) := by decide +kernel
theorem dX0_letDown_8 : decode cX0_letDown 8 = .ok (.aload_n 0, 1) := by decide +kernel
theorem dX0_letDown_9 : decode cX0_letDown 9 = .ok (.getfield 18, 3) := by decide +kernel
theorem dX0_letDown_12 : decode cX0_letDown 12 = .ok (.if_icmp .ge 28, 3) := by decide +kernel
theorem dX0_letDown_15 : decode cX0_letDown 15 = .ok (.aload_n 0, 1) := by decide +kernel
theorem dX0_letDown_16 : decode cX0_letDown 16 = .ok (.getfield 27, 3) := by decide +kernel
theorem dX0_letDown_19 : decode cX0_letDown 19 = .ok (.iload_n 2, 1) := by decide +kernel
theorem dX0_letDown_20 : decode cX0_letDown 20 = .ok (.sipush 999, 3) := by decide +kernel
theorem dX0_letDown_23 : decode cX0_letDown 23 = .ok (.aload_n 0, 1) := by decide +kernel
theorem dX0_letDown_24 : decode cX0_letDown 24 = .ok (.getfield 27, 3) := by decide +kernel
theorem dX0_letDown_27 : decode cX0_letDown 27 = .ok (.iload_n 2, 1) := by decide +kernel
theorem dX0_letDown_28 : decode cX0_letDown 28 = .ok (.iaload, 1) := by decide +kernel
theorem dX0_letDown_29 : decode cX0_letDown 29 = .ok (.aload_n 0, 1) := by decide +kernel
theorem dX0_letDown_30 : decode cX0_letDown 30 = .ok (.getfield 46, 3) := by decide +kernel
theorem dX0_letDown_33 : decode cX0_letDown 33 = .ok (.iload_n 1, 1) := by decide +kernel
theorem dX0_letDown_34 : decode cX0_letDown 34 = .ok (.iaload, 1) := by decide +kernel
theorem dX0_letDown_35 : decode cX0_letDown 35 = .ok (.iadd, 1) := by decide +kernel
theorem dX0_letDown_36 : decode cX0_letDown 36 = .ok (.invokestatic 76, 3) := by decide +kernel
theorem dX0_letDown_39 : decode cX0_letDown 39 = .ok (.iastore, 1) := by decide +kernel
theorem dX0_letDown_40 : decode cX0_letDown 40 = .ok (.aload_n 0, 1) := by decide +kernel
theorem dX0_letDown_41 : decode cX0_letDown 41 = .ok (.getfield 46, 3) := by decide +kernel
theorem dX0_letDown_44 : decode cX0_letDown 44 = .ok (.iload_n 1, 1) := by decide +kernel
theorem dX0_letDown_45 : decode cX0_letDown 45 = .ok (.iconst 0, 1) := by decide +kernel
theorem dX0_letDown_46 : decode cX0_letDown 46 = .ok (.iastore, 1) := by decide +kernel
theorem dX0_letDown_47 : decode cX0_letDown 47 = .ok (.return_, 1) := by decide +kernel
set_option maxRecDepth 20000 in
theorem ggX0_letDownAll_X0_letDown : GoodIn wsX0_letDownAll wsX0_letDown := goodIn_r _ [6, 7, 8, 9, 10, 11, 12, 13, 14, 15, 16, 17, 18, 19, 20, 21, 22, 23, 24, 25, 26] rfl (by decide +kernel)
set_option maxRecDepth 20000 in
theorem gX0_letDownAll_X0_letDown : GoodIn wsX0_letDownAll (wsV RX0 85 RX0 yX0_letDown wsX0_letDown) := goodIn_app (goodIn_of _ (by decide +kernel)) ggX0_letDownAll_X0_letDown
theorem dX0_letDownAll_0 : decode cX0_letDownAll 0 = .ok (.iconst 0, 1) := by decide +kernel
theorem dX0_letDownAll_1 : decode cX0_letDownAll 1 = .ok (.istore_n 2, 1) := by decide +kernel
theorem dX0_letDownAll_2 : decode cX0_letDownAll 2 = .ok (.iload_n 2, 1) := by decide +kernel
theorem dX0_letDownAll_3 : decode cX0_letDownAll 3 = .ok (.aload_n 0, 1) := by decide +kernel
theorem dX0_letDownAll_4 : decode cX0_letDownAll 4 = .ok (.getfield 21, 3) := by decide +kernel
theorem dX0_letDownAll_7 : decode cX0_letDownAll 7 = .ok (.if_icmp .ge 22, 3) := by decide +kernel
theorem dX0_letDownAll_10 : decode cX0_letDownAll 10 = .ok (.iload_n 1, 1) := by decide +kernel
theorem dX0_letDownAll_11 : decode cX0_letDownAll 11 = .ok (.iload_n 2, 1) := by decide +kernel
theorem dX0_letDownAll_12 : decode cX0_letDownAll 12 = .ok (.ishr, 1) := by decide +kernel
theorem dX0_letDownAll_13 : decode cX0_letDownAll 13 = .ok (.iconst 1, 1) := by decide +kernel
theorem dX0_letDownAll_14 : decode cX0_letDownAll 14 = .ok (.iand, 1) := by decide +kernel
theorem dX0_letDownAll_15 : decode cX0_letDownAll 15 = .ok (.ifCond .eq 8, 3) := by decide +kernel
theorem dX0_letDownAll_18 : decode cX0_letDownAll 18 = .ok (.aload_n 0, 1) := by decide +kernel
theorem dX0_letDownAll_19 : decode cX0_letDownAll 19 = .ok (.iload_n 2, 1) := by decide +kernel
theorem dX0_letDownAll_20 : decode cX0_letDownAll 20 = .ok (.invokevirtual 85, 3) := by decide +kernel
theorem dX0_letDownAll_23 : decode cX0_letDownAll 23 = .ok (.iinc 2 1, 3) := by decide +kernel
theorem dX0_letDownAll_26 : decode cX0_letDownAll 26 = .ok (.goto (-24), 3) := by decide +kernel
theorem dX0_letDownAll_29 : decode cX0_letDownAll 29 = .ok (.return_, 1) := by decide +kernel
theorem dX0_carryOut_0 : decode cX0_carryOut 0 = .ok (.iconst 0, 1) := by decide +kernel
theorem dX0_carryOut_1 : decode cX0_carryOut 1 = .ok (.istore_n 2, 1) := by decide +kernel
theorem dX0_carryOut_2 : decode cX0_carryOut 2 = .ok (.iload_n 2, 1) := by decide +kernel
theorem dX0_carryOut_3 : decode cX0_carryOut 3 = .ok (.aload_n 0, 1) := by decide +kernel
theorem dX0_carryOut_4 : decode cX0_carryOut 4 = .ok (.getfield 21, 3) := by decide +kernel
theorem dX0_carryOut_7 : decode cX0_carryOut 7 = .ok (.if_icmp .ge 27, 3) := by decide +kernel
theorem dX0_carryOut_10 : decode cX0_carryOut 10 = .ok (.iload_n 1, 1) := by decide +kernel
theorem dX0_carryOut_11 : decode cX0_carryOut 11 = .ok (.iload_n 2, 1) := by decide +kernel
theorem dX0_carryOut_12 : decode cX0_carryOut 12 = .ok (.ishr, 1) := by decide +kernel
theorem dX0_carryOut_13 : decode cX0_carryOut 13 = .ok (.iconst 1, 1) := by decide +kernel
theorem dX0_carryOut_14 : decode cX0_carryOut 14 = .ok (.iand, 1) := by decide +kernel
theorem dX0_carryOut_15 : decode cX0_carryOut 15 = .ok (.ifCond .eq 13, 3) := by decide +kernel
theorem dX0_carryOut_18 : decode cX0_carryOut 18 = .ok (.aload_n 0, 1) := by decide +kernel
theorem dX0_carryOut_19 : decode cX0_carryOut 19 = .ok (.getfield 37, 3) := by decide +kernel
theorem dX0_carryOut_22 : decode cX0_carryOut 22 = .ok (.iload_n 2, 1) := by decide +kernel
theorem dX0_carryOut_23 : decode cX0_carryOut 23 = .ok (.aload_n 0, 1) := by decide +kernel
theorem dX0_carryOut_24 : decode cX0_carryOut 24 = .ok (.getfield 18, 3) := by decide +kernel
theorem dX0_carryOut_27 : decode cX0_carryOut 27 = .ok (.iastore, 1) := by decide +kernel
theorem dX0_carryOut_28 : decode cX0_carryOut 28 = .ok (.iinc 2 1, 3) := by decide +kernel
theorem dX0_carryOut_31 : decode cX0_carryOut 31 = .ok (.goto (-29), 3) := by decide +kernel
theorem dX0_carryOut_34 : decode cX0_carryOut 34 = .ok (.return_, 1) := by decide +kernel
theorem dX0_pourable_0 : decode cX0_pourable 0 = .ok (.iload_n 1, 1) := by decide +kernel
theorem dX0_pourable_1 : decode cX0_pourable 1 = .ok (.iload_n 2, 1) := by decide +kernel
theorem dX0_pourable_2 : decode cX0_pourable 2 = .ok (.if_icmp .eq 18, 3) := by decide +kernel
theorem dX0_pourable_5 : decode cX0_pourable 5 = .ok (.aload_n 0, 1) := by decide +kernel
theorem dX0_pourable_6 : decode cX0_pourable 6 = .ok (.getfield 37, 3) := by decide +kernel
theorem dX0_pourable_9 : decode cX0_pourable 9 = .ok (.iload_n 1, 1) := by decide +kernel
theorem dX0_pourable_10 : decode cX0_pourable 10 = .ok (.iaload, 1) := by decide +kernel
theorem dX0_pourable_11 : decode cX0_pourable 11 = .ok (.aload_n 0, 1) := by decide +kernel
theorem dX0_pourable_12 : decode cX0_pourable 12 = .ok (.getfield 37, 3) := by decide +kernel
theorem dX0_pourable_15 : decode cX0_pourable 15 = .ok (.iload_n 2, 1) := by decide +kernel
theorem dX0_pourable_16 : decode cX0_pourable 16 = .ok (.iaload, 1) := by decide +kernel
theorem dX0_pourable_17 : decode cX0_pourable 17 = .ok (.if_icmp .eq 5, 3) := by decide +kernel
theorem dX0_pourable_20 : decode cX0_pourable 20 = .ok (.iconst 0, 1) := by decide +kernel
theorem dX0_pourable_21 : decode cX0_pourable 21 = .ok (.ireturn, 1) := by decide +kernel
theorem dX0_pourable_22 : decode cX0_pourable 22 = .ok (.aload_n 0, 1) := by decide +kernel
theorem dX0_pourable_23 : decode cX0_pourable 23 = .ok (.getfield 46, 3) := by decide +kernel
theorem dX0_pourable_26 : decode cX0_pourable 26 = .ok (.iload_n 1, 1) := by decide +kernel
theorem dX0_pourable_27 : decode cX0_pourable 27 = .ok (.iaload, 1) := by decide +kernel
theorem dX0_pourable_28 : decode cX0_pourable 28 = .ok (.aload_n 0, 1) := by decide +kernel
theorem dX0_pourable_29 : decode cX0_pourable 29 = .ok (.getfield 43, 3) := by decide +kernel
theorem dX0_pourable_32 : decode cX0_pourable 32 = .ok (.iload_n 2, 1) := by decide +kernel
theorem dX0_pourable_33 : decode cX0_pourable 33 = .ok (.iaload, 1) := by decide +kernel
theorem dX0_pourable_34 : decode cX0_pourable 34 = .ok (.aload_n 0, 1) := by decide +kernel
theorem dX0_pourable_35 : decode cX0_pourable 35 = .ok (.getfield 46, 3) := by decide +kernel
theorem dX0_pourable_38 : decode cX0_pourable 38 = .ok (.iload_n 2, 1) := by decide +kernel
theorem dX0_pourable_39 : decode cX0_pourable 39 = .ok (.iaload, 1) := by decide +kernel
theorem dX0_pourable_40 : decode cX0_pourable 40 = .ok (.isub, 1) := by decide +kernel
theorem dX0_pourable_41 : decode cX0_pourable 41 = .ok (.invokestatic 76, 3) := by decide +kernel
theorem dX0_pourable_44 : decode cX0_pourable 44 = .ok (.ireturn, 1) := by decide +kernel
theorem dX0_shift_0 : decode cX0_shift 0 = .ok (.aload_n 0, 1) := by decide +kernel
theorem dX0_shift_1 : decode cX0_shift 1 = .ok (.getfield 46, 3) := by decide +kernel
theorem dX0_shift_4 : decode cX0_shift 4 = .ok (.iload_n 1, 1) := by decide +kernel
theorem dX0_shift_5 : decode cX0_shift 5 = .ok (.dup2, 1) := by decide +kernel
theorem dX0_shift_6 : decode cX0_shift 6 = .ok (.iaload, 1) := by decide +kernel
theorem dX0_shift_7 : decode cX0_shift 7 = .ok (.iload_n 3, 1) := by decide +kernel
theorem dX0_shift_8 : decode cX0_shift 8 = .ok (.isub, 1) := by decide +kernel
theorem dX0_shift_9 : decode cX0_shift 9 = .ok (.iastore, 1) := by decide +kernel
theorem dX0_shift_10 : decode cX0_shift 10 = .ok (.aload_n 0, 1) := by decide +kernel
theorem dX0_shift_11 : decode cX0_shift 11 = .ok (.getfield 46, 3) := by decide +kernel
theorem dX0_shift_14 : decode cX0_shift 14 = .ok (.iload_n 2, 1) := by decide +kernel
theorem dX0_shift_15 : decode cX0_shift 15 = .ok (.dup2, 1) := by decide +kernel
theorem dX0_shift_16 : decode cX0_shift 16 = .ok (.iaload, 1) := by decide +kernel
theorem dX0_shift_17 : decode cX0_shift 17 = .ok (.iload_n 3, 1) := by decide +kernel
theorem dX0_shift_18 : decode cX0_shift 18 = .ok (.iadd, 1) := by decide +kernel
theorem dX0_shift_19 : decode cX0_shift 19 = .ok (.iastore, 1) := by decide +kernel
theorem dX0_shift_20 : decode cX0_shift 20 = .ok (.return_, 1) := by decide +kernel
theorem dX0_suppose_0 : decode cX0_suppose 0 = .ok (.iload_n 2, 1) := by decide +kernel
theorem dX0_suppose_1 : decode cX0_suppose 1 = .ok (.lookupswitch 47 #[(0, 27), (1, 37)], 27) := by decide +kernel
theorem dX0_suppose_28 : decode cX0_suppose 28 = .ok (.aload_n 0, 1) := by decide +kernel
theorem dX0_suppose_29 : decode cX0_suppose 29 = .ok (.getfield 34, 3) := by decide +kernel
theorem dX0_suppose_32 : decode cX0_suppose 32 = .ok (.iload_n 1, 1) := by decide +kernel
theorem dX0_suppose_33 : decode cX0_suppose 33 = .ok (.iload_n 3, 1) := by decide +kernel
theorem dX0_suppose_34 : decode cX0_suppose 34 = .ok (.iastore, 1) := by decide +kernel
theorem dX0_suppose_35 : decode cX0_suppose 35 = .ok (.goto 20, 3) := by decide +kernel
theorem dX0_suppose_38 : decode cX0_suppose 38 = .ok (.aload_n 0, 1) := by decide +kernel
theorem dX0_suppose_39 : decode cX0_suppose 39 = .ok (.getfield 40, 3) := by decide +kernel
theorem dX0_suppose_42 : decode cX0_suppose 42 = .ok (.iload_n 1, 1) := by decide +kernel
theorem dX0_suppose_43 : decode cX0_suppose 43 = .ok (.iload_n 3, 1) := by decide +kernel
theorem dX0_suppose_44 : decode cX0_suppose 44 = .ok (.iastore, 1) := by decide +kernel
theorem dX0_suppose_45 : decode cX0_suppose 45 = .ok (.goto 10, 3) := by decide +kernel
theorem dX0_suppose_48 : decode cX0_suppose 48 = .ok (.aload_n 0, 1) := by decide +kernel
theorem dX0_suppose_49 : decode cX0_suppose 49 = .ok (.getfield 37, 3) := by decide +kernel
theorem dX0_suppose_52 : decode cX0_suppose 52 = .ok (.iload_n 1, 1) := by decide +kernel
theorem dX0_suppose_53 : decode cX0_suppose 53 = .ok (.iload_n 3, 1) := by decide +kernel
theorem dX0_suppose_54 : decode cX0_suppose 54 = .ok (.iastore, 1) := by decide +kernel
theorem dX0_suppose_55 : decode cX0_suppose 55 = .ok (.return_, 1) := by decide +kernel
set_option maxRecDepth 20000 in
theorem ggX0_obeyDraw_X0_letDown : GoodIn wsX0_obeyDraw wsX0_letDown := goodIn_r _ [10, 5, 2, 11, 12, 13, 14, 15, 16, 17, 18, 19, 20, 21, 22, 23, 24, 25, 26, 27, 28] rfl (by decide +kernel)
set_option maxRecDepth 20000 in
theorem gX0_obeyDraw_X0_letDown : GoodIn wsX0_obeyDraw (wsV RX0 85 RX0 yX0_letDown wsX0_letDown) := goodIn_app (goodIn_of _ (by decide +kernel)) ggX0_obeyDraw_X0_letDown
theorem dX0_obeyDraw_0 : decode cX0_obeyDraw 0 = .ok (.aload_n 0, 1) := by decide +kernel
theorem dX0_obeyDraw_1 : decode cX0_obeyDraw 1 = .ok (.getfield 21, 3) := by decide +kernel
theorem dX0_obeyDraw_4 : decode cX0_obeyDraw 4 = .ok (.iconst 1, 1) := by decide +kernel
theorem dX0_obeyDraw_5 : decode cX0_obeyDraw 5 = .ok (.if_icmp .lt 11, 3) := by decide +kernel
theorem dX0_obeyDraw_8 : decode cX0_obeyDraw 8 = .ok (.aload_n 0, 1) := by decide +kernel
theorem dX0_obeyDraw_9 : decode cX0_obeyDraw 9 = .ok (.getfield 18, 3) := by decide +kernel
theorem dX0_obeyDraw_12 : decode cX0_obeyDraw 12 = .ok (.iconst 1, 1) := by decide +kernel
theorem dX0_obeyDraw_13 : decode cX0_obeyDraw 13 = .ok (.if_icmp .ge 4, 3) := by decide +kernel
theorem dX0_obeyDraw_16 : decode cX0_obeyDraw 16 = .ok (.return_, 1) := by decide +kernel
theorem dX0_obeyDraw_17 : decode cX0_obeyDraw 17 = .ok (.lload_n 1, 1) := by decide +kernel
theorem dX0_obeyDraw_18 : decode cX0_obeyDraw 18 = .ok (.aload_n 0, 1) := by decide +kernel
theorem dX0_obeyDraw_19 : decode cX0_obeyDraw 19 = .ok (.getfield 21, 3) := by decide +kernel
theorem dX0_obeyDraw_22 : decode cX0_obeyDraw 22 = .ok (.i2l, 1) := by decide +kernel
theorem dX0_obeyDraw_23 : decode cX0_obeyDraw 23 = .ok (.lrem, 1) := by decide +kernel
theorem dX0_obeyDraw_24 : decode cX0_obeyDraw 24 = .ok (.l2i, 1) := by decide +kernel
theorem dX0_obeyDraw_25 : decode cX0_obeyDraw 25 = .ok (.istore_n 3, 1) := by decide +kernel
theorem dX0_obeyDraw_26 : decode cX0_obeyDraw 26 = .ok (.lload_n 1, 1) := by decide +kernel
theorem dX0_obeyDraw_27 : decode cX0_obeyDraw 27 = .ok (.ldc2_w 88, 3) := by decide +kernel
theorem dX0_obeyDraw_30 : decode cX0_obeyDraw 30 = .ok (.lrem, 1) := by decide +kernel
theorem dX0_obeyDraw_31 : decode cX0_obeyDraw 31 = .ok (.lconst 0, 1) := by decide +kernel
theorem dX0_obeyDraw_32 : decode cX0_obeyDraw 32 = .ok (.lcmp, 1) := by decide +kernel
theorem dX0_obeyDraw_33 : decode cX0_obeyDraw 33 = .ok (.ifCond .ne 8, 3) := by decide +kernel
theorem dX0_obeyDraw_36 : decode cX0_obeyDraw 36 = .ok (.aload_n 0, 1) := by decide +kernel
theorem dX0_obeyDraw_37 : decode cX0_obeyDraw 37 = .ok (.iload_n 3, 1) := by decide +kernel
theorem dX0_obeyDraw_38 : decode cX0_obeyDraw 38 = .ok (.invokevirtual 85, 3) := by decide +kernel
theorem dX0_obeyDraw_41 : decode cX0_obeyDraw 41 = .ok (.lload_n 1, 1) := by decide +kernel
theorem dX0_obeyDraw_42 : decode cX0_obeyDraw 42 = .ok (.ldc2_w 90, 3) := by decide +kernel
theorem dX0_obeyDraw_45 : decode cX0_obeyDraw 45 = .ok (.lrem, 1) := by decide +kernel
theorem dX0_obeyDraw_46 : decode cX0_obeyDraw 46 = .ok (.lconst 0, 1) := by decide +kernel
theorem dX0_obeyDraw_47 : decode cX0_obeyDraw 47 = .ok (.lcmp, 1) := by decide +kernel
theorem dX0_obeyDraw_48 : decode cX0_obeyDraw 48 = .ok (.ifCond .ne 17, 3) := by decide +kernel
theorem dX0_obeyDraw_51 : decode cX0_obeyDraw 51 = .ok (.aload_n 0, 1) := by decide +kernel
theorem dX0_obeyDraw_52 : decode cX0_obeyDraw 52 = .ok (.getfield 37, 3) := by decide +kernel
theorem dX0_obeyDraw_55 : decode cX0_obeyDraw 55 = .ok (.iload_n 3, 1) := by decide +kernel
theorem dX0_obeyDraw_56 : decode cX0_obeyDraw 56 = .ok (.lload_n 1, 1) := by decide +kernel
theorem dX0_obeyDraw_57 : decode cX0_obeyDraw 57 = .ok (.aload_n 0, 1) := by decide +kernel
theorem dX0_obeyDraw_58 : decode cX0_obeyDraw 58 = .ok (.getfield 18, 3) := by decide +kernel
theorem dX0_obeyDraw_61 : decode cX0_obeyDraw 61 = .ok (.i2l, 1) := by decide +kernel
theorem dX0_obeyDraw_62 : decode cX0_obeyDraw 62 = .ok (.lrem, 1) := by decide +kernel
theorem dX0_obeyDraw_63 : decode cX0_obeyDraw 63 = .ok (.l2i, 1) := by decide +kernel
theorem dX0_obeyDraw_64 : decode cX0_obeyDraw 64 = .ok (.iastore, 1) := by decide +kernel
theorem dX0_obeyDraw_65 : decode cX0_obeyDraw 65 = .ok (.return_, 1) := by decide +kernel
theorem dX1_init_0 : decode cX1_init 0 = .ok (.aload_n 0, 1) := by decide +kernel
theorem dX1_init_1 : decode cX1_init 1 = .ok (.invokespecial 1, 3) := by decide +kernel
theorem dX1_init_4 : decode cX1_init 4 = .ok (.aload_n 0, 1) := by decide +kernel
theorem dX1_init_5 : decode cX1_init 5 = .ok (.sipush 552, 3) := by decide +kernel
theorem dX1_init_8 : decode cX1_init 8 = .ok (.newarray .int, 2) := by decide +kernel
theorem dX1_init_10 : decode cX1_init 10 = .ok (.putfield 11, 3) := by decide +kernel
theorem dX1_init_13 : decode cX1_init 13 = .ok (.aload_n 0, 1) := by decide +kernel
theorem dX1_init_14 : decode cX1_init 14 = .ok (.iconst 0, 1) := by decide +kernel
theorem dX1_init_15 : decode cX1_init 15 = .ok (.putfield 15, 3) := by decide +kernel
theorem dX1_init_18 : decode cX1_init 18 = .ok (.aload_n 0, 1) := by decide +kernel
theorem dX1_init_19 : decode cX1_init 19 = .ok (.iconst 0, 1) := by decide +kernel
theorem dX1_init_20 : decode cX1_init 20 = .ok (.putfield 19, 3) := by decide +kernel
theorem dX1_init_23 : decode cX1_init 23 = .ok (.return_, 1) := by decide +kernel
theorem dX1_forget_0 : decode cX1_forget 0 = .ok (.aload_n 0, 1) := by decide +kernel
theorem dX1_forget_1 : decode cX1_forget 1 = .ok (.iconst 0, 1) := by decide +kernel
theorem dX1_forget_2 : decode cX1_forget 2 = .ok (.putfield 19, 3) := by decide +kernel
theorem dX1_forget_5 : decode cX1_forget 5 = .ok (.return_, 1) := by decide +kernel
set_option maxRecDepth 20000 in
theorem ggX1_keep_X0_writeChanging : GoodIn wsX1_keep wsX0_writeChanging := goodIn_r _ [12, 13, 14, 15, 16, 17, 18, 19, 20, 21, 25, 26, 27, 28, 29, 30, 31, 32, 33, 34, 35, 36] rfl (by decide +kernel)
set_option maxRecDepth 20000 in
theorem gX1_keep_X0_writeChanging : GoodIn wsX1_keep (wsV RX1 22 RX0 yX0_writeChanging wsX0_writeChanging) := goodIn_app (goodIn_of _ (by decide +kernel)) ggX1_keep_X0_writeChanging
theorem dX1_keep_0 : decode cX1_keep 0 = .ok (.aload_n 1, 1) := by decide +kernel
theorem dX1_keep_1 : decode cX1_keep 1 = .ok (.aload_n 0, 1) := by decide +kernel
theorem dX1_keep_2 : decode cX1_keep 2 = .ok (.getfield 11, 3) := by decide +kernel
theorem dX1_keep_5 : decode cX1_keep 5 = .ok (.aload_n 0, 1) := by decide +kernel
theorem dX1_keep_6 : decode cX1_keep 6 = .ok (.getfield 15, 3) := by decide +kernel
theorem dX1_keep_9 : decode cX1_keep 9 = .ok (.bipush 23, 2) := by decide +kernel
theorem dX1_keep_11 : decode cX1_keep 11 = .ok (.imul, 1) := by decide +kernel
theorem dX1_keep_12 : decode cX1_keep 12 = .ok (.invokevirtual 22, 3) := by decide +kernel
theorem dX1_keep_15 : decode cX1_keep 15 = .ok (.aload_n 0, 1) := by decide +kernel
theorem dX1_keep_16 : decode cX1_keep 16 = .ok (.aload_n 0, 1) := by decide +kernel
theorem dX1_keep_17 : decode cX1_keep 17 = .ok (.getfield 15, 3) := by decide +kernel
theorem dX1_keep_20 : decode cX1_keep 20 = .ok (.iconst 1, 1) := by decide +kernel
theorem dX1_keep_21 : decode cX1_keep 21 = .ok (.iadd, 1) := by decide +kernel
theorem dX1_keep_22 : decode cX1_keep 22 = .ok (.bipush 24, 2) := by decide +kernel
theorem dX1_keep_24 : decode cX1_keep 24 = .ok (.irem, 1) := by decide +kernel
theorem dX1_keep_25 : decode cX1_keep 25 = .ok (.putfield 15, 3) := by decide +kernel
theorem dX1_keep_28 : decode cX1_keep 28 = .ok (.aload_n 0, 1) := by decide +kernel
theorem dX1_keep_29 : decode cX1_keep 29 = .ok (.bipush 24, 2) := by decide +kernel
theorem dX1_keep_31 : decode cX1_keep 31 = .ok (.aload_n 0, 1) := by decide +kernel
theorem dX1_keep_32 : decode cX1_keep 32 = .ok (.getfield 19, 3) := by decide +kernel
theorem dX1_keep_35 : decode cX1_keep 35 = .ok (.iconst 1, 1) := by decide +kernel
theorem dX1_keep_36 : decode cX1_keep 36 = .ok (.iadd, 1) := by decide +kernel
theorem dX1_keep_37 : decode cX1_keep 37 = .ok (.invokestatic 26, 3) := by decide +kernel
theorem dX1_keep_40 : decode cX1_keep 40 = .ok (.putfield 19, 3) := by decide +kernel
theorem dX1_keep_43 : decode cX1_keep 43 = .ok (.return_, 1) := by decide +kernel
set_option maxRecDepth 20000 in
theorem ggX1_bringBack_X0_readChanging : GoodIn wsX1_bringBack wsX0_readChanging := goodIn_r _ [8, 9, 10, 11, 12, 13, 14, 15, 16, 17, 21, 22, 23, 24, 25, 26, 27, 28, 29, 30, 31, 32] rfl (by decide +kernel)
set_option maxRecDepth 20000 in
theorem gX1_bringBack_X0_readChanging : GoodIn wsX1_bringBack (wsV RX1 32 RX0 yX0_readChanging wsX0_readChanging) := goodIn_app (goodIn_of _ (by decide +kernel)) ggX1_bringBack_X0_readChanging
theorem dX1_bringBack_0 : decode cX1_bringBack 0 = .ok (.aload_n 0, 1) := by decide +kernel
theorem dX1_bringBack_1 : decode cX1_bringBack 1 = .ok (.getfield 19, 3) := by decide +kernel
theorem dX1_bringBack_4 : decode cX1_bringBack 4 = .ok (.ifCond .ne 4, 3) := by decide +kernel
theorem dX1_bringBack_8 : decode cX1_bringBack 8 = .ok (.aload_n 0, 1) := by decide +kernel
theorem dX1_bringBack_9 : decode cX1_bringBack 9 = .ok (.aload_n 0, 1) := by decide +kernel
theorem dX1_bringBack_10 : decode cX1_bringBack 10 = .ok (.getfield 15, 3) := by decide +kernel
theorem dX1_bringBack_13 : decode cX1_bringBack 13 = .ok (.bipush 24, 2) := by decide +kernel
theorem dX1_bringBack_15 : decode cX1_bringBack 15 = .ok (.iadd, 1) := by decide +kernel
theorem dX1_bringBack_16 : decode cX1_bringBack 16 = .ok (.iconst 1, 1) := by decide +kernel
theorem dX1_bringBack_17 : decode cX1_bringBack 17 = .ok (.isub, 1) := by decide +kernel
theorem dX1_bringBack_18 : decode cX1_bringBack 18 = .ok (.bipush 24, 2) := by decide +kernel
theorem dX1_bringBack_20 : decode cX1_bringBack 20 = .ok (.irem, 1) := by decide +kernel
theorem dX1_bringBack_21 : decode cX1_bringBack 21 = .ok (.putfield 15, 3) := by decide +kernel
theorem dX1_bringBack_24 : decode cX1_bringBack 24 = .ok (.aload_n 0, 1) := by decide +kernel
theorem dX1_bringBack_25 : decode cX1_bringBack 25 = .ok (.dup, 1) := by decide +kernel
theorem dX1_bringBack_26 : decode cX1_bringBack 26 = .ok (.getfield 19, 3) := by decide +kernel
theorem dX1_bringBack_29 : decode cX1_bringBack 29 = .ok (.iconst 1, 1) := by decide +kernel
theorem dX1_bringBack_30 : decode cX1_bringBack 30 = .ok (.isub, 1) := by decide +kernel
theorem dX1_bringBack_31 : decode cX1_bringBack 31 = .ok (.putfield 19, 3) := by decide +kernel
theorem dX1_bringBack_34 : decode cX1_bringBack 34 = .ok (.aload_n 1, 1) := by decide +kernel
theorem dX1_bringBack_35 : decode cX1_bringBack 35 = .ok (.aload_n 0, 1) := by decide +kernel
theorem dX1_bringBack_36 : decode cX1_bringBack 36 = .ok (.getfield 11, 3) := by decide +kernel
theorem dX1_bringBack_39 : decode cX1_bringBack 39 = .ok (.aload_n 0, 1) := by decide +kernel
theorem dX1_bringBack_40 : decode cX1_bringBack 40 = .ok (.getfield 15, 3) := by decide +kernel
theorem dX1_bringBack_43 : decode cX1_bringBack 43 = .ok (.bipush 23, 2) := by decide +kernel
theorem dX1_bringBack_45 : decode cX1_bringBack 45 = .ok (.imul, 1) := by decide +kernel
theorem dX1_bringBack_46 : decode cX1_bringBack 46 = .ok (.invokevirtual 32, 3) := by decide +kernel
theorem dX1_bringBack_49 : decode cX1_bringBack 49 = .ok (.return_, 1) := by decide +kernel
theorem dX2_init_0 : decode cX2_init 0 = .ok (.aload_n 0, 1) := by decide +kernel
theorem dX2_init_1 : decode cX2_init 1 = .ok (.invokespecial 3, 3) := by decide +kernel
theorem dX2_init_4 : decode cX2_init 4 = .ok (.aload_n 0, 1) := by decide +kernel
theorem dX2_init_5 : decode cX2_init 5 = .ok (.bipush 8, 2) := by decide +kernel
theorem dX2_init_7 : decode cX2_init 7 = .ok (.newarray .int, 2) := by decide +kernel
theorem dX2_init_9 : decode cX2_init 9 = .ok (.dup, 1) := by decide +kernel
theorem dX2_init_10 : decode cX2_init 10 = .ok (.iconst 0, 1) := by decide +kernel
theorem dX2_init_11 : decode cX2_init 11 = .ok (.iconst (-1), 1) := by decide +kernel
theorem dX2_init_12 : decode cX2_init 12 = .ok (.iastore, 1) := by decide +kernel
theorem dX2_init_13 : decode cX2_init 13 = .ok (.dup, 1) := by decide +kernel
theorem dX2_init_14 : decode cX2_init 14 = .ok (.iconst 1, 1) := by decide +kernel
theorem dX2_init_15 : decode cX2_init 15 = .ok (.iconst (-1), 1) := by decide +kernel
theorem dX2_init_16 : decode cX2_init 16 = .ok (.iastore, 1) := by decide +kernel
theorem dX2_init_17 : decode cX2_init 17 = .ok (.dup, 1) := by decide +kernel
theorem dX2_init_18 : decode cX2_init 18 = .ok (.iconst 2, 1) := by decide +kernel
theorem dX2_init_19 : decode cX2_init 19 = .ok (.iconst (-1), 1) := by decide +kernel
theorem dX2_init_20 : decode cX2_init 20 = .ok (.iastore, 1) := by decide +kernel
theorem dX2_init_21 : decode cX2_init 21 = .ok (.dup, 1) := by decide +kernel
theorem dX2_init_22 : decode cX2_init 22 = .ok (.iconst 3, 1) := by decide +kernel
theorem dX2_init_23 : decode cX2_init 23 = .ok (.iconst (-1), 1) := by decide +kernel
theorem dX2_init_24 : decode cX2_init 24 = .ok (.iastore, 1) := by decide +kernel
theorem dX2_init_25 : decode cX2_init 25 = .ok (.dup, 1) := by decide +kernel
theorem dX2_init_26 : decode cX2_init 26 = .ok (.iconst 4, 1) := by decide +kernel
theorem dX2_init_27 : decode cX2_init 27 = .ok (.iconst (-1), 1) := by decide +kernel
theorem dX2_init_28 : decode cX2_init 28 = .ok (.iastore, 1) := by decide +kernel
theorem dX2_init_29 : decode cX2_init 29 = .ok (.dup, 1) := by decide +kernel
theorem dX2_init_30 : decode cX2_init 30 = .ok (.iconst 5, 1) := by decide +kernel
theorem dX2_init_31 : decode cX2_init 31 = .ok (.iconst (-1), 1) := by decide +kernel
theorem dX2_init_32 : decode cX2_init 32 = .ok (.iastore, 1) := by decide +kernel
theorem dX2_init_33 : decode cX2_init 33 = .ok (.dup, 1) := by decide +kernel
theorem dX2_init_34 : decode cX2_init 34 = .ok (.bipush 6, 2) := by decide +kernel
theorem dX2_init_36 : decode cX2_init 36 = .ok (.iconst (-1), 1) := by decide +kernel
theorem dX2_init_37 : decode cX2_init 37 = .ok (.iastore, 1) := by decide +kernel
theorem dX2_init_38 : decode cX2_init 38 = .ok (.dup, 1) := by decide +kernel
theorem dX2_init_39 : decode cX2_init 39 = .ok (.bipush 7, 2) := by decide +kernel
theorem dX2_init_41 : decode cX2_init 41 = .ok (.iconst (-1), 1) := by decide +kernel
theorem dX2_init_42 : decode cX2_init 42 = .ok (.iastore, 1) := by decide +kernel
theorem dX2_init_43 : decode cX2_init 43 = .ok (.putfield 11, 3) := by decide +kernel
theorem dX2_init_46 : decode cX2_init 46 = .ok (.aload_n 0, 1) := by decide +kernel
theorem dX2_init_47 : decode cX2_init 47 = .ok (.bipush 8, 2) := by decide +kernel
theorem dX2_init_49 : decode cX2_init 49 = .ok (.newarray .int, 2) := by decide +kernel
theorem dX2_init_51 : decode cX2_init 51 = .ok (.putfield 15, 3) := by decide +kernel
theorem dX2_init_54 : decode cX2_init 54 = .ok (.aload_n 0, 1) := by decide +kernel
theorem dX2_init_55 : decode cX2_init 55 = .ok (.sipush 320, 3) := by decide +kernel
theorem dX2_init_58 : decode cX2_init 58 = .ok (.newarray .int, 2) := by decide +kernel
theorem dX2_init_60 : decode cX2_init 60 = .ok (.putfield 18, 3) := by decide +kernel
theorem dX2_init_63 : decode cX2_init 63 = .ok (.return_, 1) := by decide +kernel
theorem dX2_isMissing_0 : decode cX2_isMissing 0 = .ok (.aload_n 0, 1) := by decide +kernel
theorem dX2_isMissing_1 : decode cX2_isMissing 1 = .ok (.getfield 11, 3) := by decide +kernel
theorem dX2_isMissing_4 : decode cX2_isMissing 4 = .ok (.iload_n 1, 1) := by decide +kernel
theorem dX2_isMissing_5 : decode cX2_isMissing 5 = .ok (.iaload, 1) := by decide +kernel
theorem dX2_isMissing_6 : decode cX2_isMissing 6 = .ok (.iconst (-1), 1) := by decide +kernel
theorem dX2_isMissing_7 : decode cX2_isMissing 7 = .ok (.if_icmp .ne 7, 3) := by decide +kernel
theorem dX2_isMissing_10 : decode cX2_isMissing 10 = .ok (.iconst 1, 1) := by decide +kernel
theorem dX2_isMissing_11 : decode cX2_isMissing 11 = .ok (.goto 4, 3) := by decide +kernel
theorem dX2_isMissing_14 : decode cX2_isMissing 14 = .ok (.iconst 0, 1) := by decide +kernel
theorem dX2_isMissing_15 : decode cX2_isMissing 15 = .ok (.ireturn, 1) := by decide +kernel
theorem dX2_at_0 : decode cX2_at 0 = .ok (.iload_n 1, 1) := by decide +kernel
theorem dX2_at_1 : decode cX2_at 1 = .ok (.bipush 40, 2) := by decide +kernel
theorem dX2_at_3 : decode cX2_at 3 = .ok (.imul, 1) := by decide +kernel
theorem dX2_at_4 : decode cX2_at 4 = .ok (.iload_n 2, 1) := by decide +kernel
theorem dX2_at_5 : decode cX2_at 5 = .ok (.iadd, 1) := by decide +kernel
theorem dX2_at_6 : decode cX2_at 6 = .ok (.ireturn, 1) := by decide +kernel
set_option maxRecDepth 20000 in
theorem ggX2_lay_X2_at : GoodIn wsX2_lay wsX2_at := goodIn_r _ [8] rfl (by decide +kernel)
set_option maxRecDepth 20000 in
theorem gX2_lay_X2_at : GoodIn wsX2_lay (wsV RX2 21 RX2 yX2_at wsX2_at) := goodIn_app (goodIn_of _ (by decide +kernel)) ggX2_lay_X2_at
theorem dX2_lay_0 : decode cX2_lay 0 = .ok (.aload_n 0, 1) := by decide +kernel
theorem dX2_lay_1 : decode cX2_lay 1 = .ok (.getfield 11, 3) := by decide +kernel
theorem dX2_lay_4 : decode cX2_lay 4 = .ok (.iload_n 1, 1) := by decide +kernel
theorem dX2_lay_5 : decode cX2_lay 5 = .ok (.iload_n 2, 1) := by decide +kernel
theorem dX2_lay_6 : decode cX2_lay 6 = .ok (.iastore, 1) := by decide +kernel
theorem dX2_lay_7 : decode cX2_lay 7 = .ok (.aload_n 0, 1) := by decide +kernel
theorem dX2_lay_8 : decode cX2_lay 8 = .ok (.getfield 15, 3) := by decide +kernel
theorem dX2_lay_11 : decode cX2_lay 11 = .ok (.iload_n 1, 1) := by decide +kernel
theorem dX2_lay_12 : decode cX2_lay 12 = .ok (.iload_n 3, 1) := by decide +kernel
theorem dX2_lay_13 : decode cX2_lay 13 = .ok (.iastore, 1) := by decide +kernel
theorem dX2_lay_14 : decode cX2_lay 14 = .ok (.iconst 0, 1) := by decide +kernel
theorem dX2_lay_15 : decode cX2_lay 15 = .ok (.istore 4, 2) := by decide +kernel
theorem dX2_lay_17 : decode cX2_lay 17 = .ok (.iload 4, 2) := by decide +kernel
theorem dX2_lay_19 : decode cX2_lay 19 = .ok (.bipush 40, 2) := by decide +kernel
theorem dX2_lay_21 : decode cX2_lay 21 = .ok (.if_icmp .ge 22, 3) := by decide +kernel
theorem dX2_lay_24 : decode cX2_lay 24 = .ok (.aload_n 0, 1) := by decide +kernel
theorem dX2_lay_25 : decode cX2_lay 25 = .ok (.getfield 18, 3) := by decide +kernel
theorem dX2_lay_28 : decode cX2_lay 28 = .ok (.aload_n 0, 1) := by decide +kernel
theorem dX2_lay_29 : decode cX2_lay 29 = .ok (.iload_n 1, 1) := by decide +kernel
theorem dX2_lay_30 : decode cX2_lay 30 = .ok (.iload 4, 2) := by decide +kernel
theorem dX2_lay_32 : decode cX2_lay 32 = .ok (.invokevirtual 21, 3) := by decide +kernel
theorem dX2_lay_35 : decode cX2_lay 35 = .ok (.iconst 0, 1) := by decide +kernel
theorem dX2_lay_36 : decode cX2_lay 36 = .ok (.iastore, 1) := by decide +kernel
theorem dX2_lay_37 : decode cX2_lay 37 = .ok (.iinc 4 1, 3) := by decide +kernel
theorem dX2_lay_40 : decode cX2_lay 40 = .ok (.goto (-23), 3) := by decide +kernel
theorem dX2_lay_43 : decode cX2_lay 43 = .ok (.return_, 1) := by decide +kernel
theorem dX2_lose_0 : decode cX2_lose 0 = .ok (.aload_n 0, 1) := by decide +kernel
theorem dX2_lose_1 : decode cX2_lose 1 = .ok (.getfield 11, 3) := by decide +kernel
theorem dX2_lose_4 : decode cX2_lose 4 = .ok (.iload_n 1, 1) := by decide +kernel
theorem dX2_lose_5 : decode cX2_lose 5 = .ok (.iconst (-1), 1) := by decide +kernel
theorem dX2_lose_6 : decode cX2_lose 6 = .ok (.iastore, 1) := by decide +kernel
theorem dX2_lose_7 : decode cX2_lose 7 = .ok (.aload_n 0, 1) := by decide +kernel
theorem dX2_lose_8 : decode cX2_lose 8 = .ok (.getfield 15, 3) := by decide +kernel
theorem dX2_lose_11 : decode cX2_lose 11 = .ok (.iload_n 1, 1) := by decide +kernel
theorem dX2_lose_12 : decode cX2_lose 12 = .ok (.iconst 0, 1) := by decide +kernel
theorem dX2_lose_13 : decode cX2_lose 13 = .ok (.iastore, 1) := by decide +kernel
theorem dX2_lose_14 : decode cX2_lose 14 = .ok (.return_, 1) := by decide +kernel
set_option maxRecDepth 20000 in
theorem ggX2_present_X2_isMissing : GoodIn wsX2_present wsX2_isMissing := goodIn_r _ [5, 6, 7, 8, 9] rfl (by decide +kernel)
set_option maxRecDepth 20000 in
theorem gX2_present_X2_isMissing : GoodIn wsX2_present (wsV RX2 25 RX2 yX2_isMissing wsX2_isMissing) := goodIn_app (goodIn_of _ (by decide +kernel)) ggX2_present_X2_isMissing
theorem dX2_present_0 : decode cX2_present 0 = .ok (.iconst 0, 1) := by decide +kernel
theorem dX2_present_1 : decode cX2_present 1 = .ok (.istore_n 1, 1) := by decide +kernel
theorem dX2_present_2 : decode cX2_present 2 = .ok (.iconst 0, 1) := by decide +kernel
theorem dX2_present_3 : decode cX2_present 3 = .ok (.istore_n 2, 1) := by decide +kernel
theorem dX2_present_4 : decode cX2_present 4 = .ok (.iload_n 2, 1) := by decide +kernel
theorem dX2_present_5 : decode cX2_present 5 = .ok (.bipush 8, 2) := by decide +kernel
theorem dX2_present_7 : decode cX2_present 7 = .ok (.if_icmp .ge 20, 3) := by decide +kernel
theorem dX2_present_10 : decode cX2_present 10 = .ok (.aload_n 0, 1) := by decide +kernel
theorem dX2_present_11 : decode cX2_present 11 = .ok (.iload_n 2, 1) := by decide +kernel
theorem dX2_present_12 : decode cX2_present 12 = .ok (.invokevirtual 25, 3) := by decide +kernel
theorem dX2_present_15 : decode cX2_present 15 = .ok (.ifCond .ne 6, 3) := by decide +kernel
theorem dX2_present_18 : decode cX2_present 18 = .ok (.iinc 1 1, 3) := by decide +kernel
theorem dX2_present_21 : decode cX2_present 21 = .ok (.iinc 2 1, 3) := by decide +kernel
theorem dX2_present_24 : decode cX2_present 24 = .ok (.goto (-20), 3) := by decide +kernel
theorem dX2_present_27 : decode cX2_present 27 = .ok (.iload_n 1, 1) := by decide +kernel
theorem dX2_present_28 : decode cX2_present 28 = .ok (.ireturn, 1) := by decide +kernel
set_option maxRecDepth 20000 in
theorem ggX2_reach_X2_isMissing : GoodIn wsX2_reach wsX2_isMissing := goodIn_r _ [6, 7, 8, 9, 10] rfl (by decide +kernel)
set_option maxRecDepth 20000 in
theorem gX2_reach_X2_isMissing : GoodIn wsX2_reach (wsV RX2 25 RX2 yX2_isMissing wsX2_isMissing) := goodIn_app (goodIn_of _ (by decide +kernel)) ggX2_reach_X2_isMissing
theorem dX2_reach_0 : decode cX2_reach 0 = .ok (.aload_n 0, 1) := by decide +kernel
theorem dX2_reach_1 : decode cX2_reach 1 = .ok (.iload_n 1, 1) := by decide +kernel
theorem dX2_reach_2 : decode cX2_reach 2 = .ok (.invokevirtual 25, 3) := by decide +kernel
theorem dX2_reach_5 : decode cX2_reach 5 = .ok (.ifCond .eq 5, 3) := by decide +kernel
theorem dX2_reach_8 : decode cX2_reach 8 = .ok (.iconst 1, 1) := by decide +kernel
theorem dX2_reach_9 : decode cX2_reach 9 = .ok (.ireturn, 1) := by decide +kernel
theorem dX2_reach_10 : decode cX2_reach 10 = .ok (.iload_n 2, 1) := by decide +kernel
theorem dX2_reach_11 : decode cX2_reach 11 = .ok (.ifCond .lt 29, 3) := by decide +kernel
theorem dX2_reach_14 : decode cX2_reach 14 = .ok (.iload_n 3, 1) := by decide +kernel
theorem dX2_reach_15 : decode cX2_reach 15 = .ok (.ifCond .lt 25, 3) := by decide +kernel
theorem dX2_reach_18 : decode cX2_reach 18 = .ok (.iload_n 3, 1) := by decide +kernel
theorem dX2_reach_19 : decode cX2_reach 19 = .ok (.aload_n 0, 1) := by decide +kernel
theorem dX2_reach_20 : decode cX2_reach 20 = .ok (.getfield 15, 3) := by decide +kernel
theorem dX2_reach_23 : decode cX2_reach 23 = .ok (.iload_n 1, 1) := by decide +kernel
theorem dX2_reach_24 : decode cX2_reach 24 = .ok (.iaload, 1) := by decide +kernel
theorem dX2_reach_25 : decode cX2_reach 25 = .ok (.if_icmp .gt 15, 3) := by decide +kernel
theorem dX2_reach_28 : decode cX2_reach 28 = .ok (.iload_n 2, 1) := by decide +kernel
theorem dX2_reach_29 : decode cX2_reach 29 = .ok (.aload_n 0, 1) := by decide +kernel
theorem dX2_reach_30 : decode cX2_reach 30 = .ok (.getfield 15, 3) := by decide +kernel
theorem dX2_reach_33 : decode cX2_reach 33 = .ok (.iload_n 1, 1) := by decide +kernel
theorem dX2_reach_34 : decode cX2_reach 34 = .ok (.iaload, 1) := by decide +kernel
theorem dX2_reach_35 : decode cX2_reach 35 = .ok (.iload_n 3, 1) := by decide +kernel
theorem dX2_reach_36 : decode cX2_reach 36 = .ok (.isub, 1) := by decide +kernel
theorem dX2_reach_37 : decode cX2_reach 37 = .ok (.if_icmp .le 7, 3) := by decide +kernel
theorem dX2_reach_40 : decode cX2_reach 40 = .ok (.iconst 2, 1) := by decide +kernel
theorem dX2_reach_41 : decode cX2_reach 41 = .ok (.goto 4, 3) := by decide +kernel
theorem dX2_reach_44 : decode cX2_reach 44 = .ok (.iconst 0, 1) := by decide +kernel
theorem dX2_reach_45 : decode cX2_reach 45 = .ok (.ireturn, 1) := by decide +kernel
set_option maxRecDepth 20000 in
theorem ggX2_put_X2_at : GoodIn wsX2_put wsX2_at := goodIn_r _ [7] rfl (by decide +kernel)
set_option maxRecDepth 20000 in
theorem gX2_put_X2_at : GoodIn wsX2_put (wsV RX2 21 RX2 yX2_at wsX2_at) := goodIn_app (goodIn_of _ (by decide +kernel)) ggX2_put_X2_at
theorem dX2_put_0 : decode cX2_put 0 = .ok (.aload_n 0, 1) := by decide +kernel
theorem dX2_put_1 : decode cX2_put 1 = .ok (.getfield 11, 3) := by decide +kernel
theorem dX2_put_4 : decode cX2_put 4 = .ok (.iload_n 1, 1) := by decide +kernel
theorem dX2_put_5 : decode cX2_put 5 = .ok (.iaload, 1) := by decide +kernel
theorem dX2_put_6 : decode cX2_put 6 = .ok (.ifCond .ne 8, 3) := by decide +kernel
theorem dX2_put_9 : decode cX2_put 9 = .ok (.iload_n 3, 1) := by decide +kernel
theorem dX2_put_10 : decode cX2_put 10 = .ok (.i2b, 1) := by decide +kernel
theorem dX2_put_11 : decode cX2_put 11 = .ok (.goto 19, 3) := by decide +kernel
theorem dX2_put_14 : decode cX2_put 14 = .ok (.aload_n 0, 1) := by decide +kernel
theorem dX2_put_15 : decode cX2_put 15 = .ok (.getfield 11, 3) := by decide +kernel
theorem dX2_put_18 : decode cX2_put 18 = .ok (.iload_n 1, 1) := by decide +kernel
theorem dX2_put_19 : decode cX2_put 19 = .ok (.iaload, 1) := by decide +kernel
theorem dX2_put_20 : decode cX2_put 20 = .ok (.iconst 1, 1) := by decide +kernel
theorem dX2_put_21 : decode cX2_put 21 = .ok (.if_icmp .ne 8, 3) := by decide +kernel
theorem dX2_put_24 : decode cX2_put 24 = .ok (.iload_n 3, 1) := by decide +kernel
theorem dX2_put_25 : decode cX2_put 25 = .ok (.i2s, 1) := by decide +kernel
theorem dX2_put_26 : decode cX2_put 26 = .ok (.goto 4, 3) := by decide +kernel
theorem dX2_put_29 : decode cX2_put 29 = .ok (.iload_n 3, 1) := by decide +kernel
theorem dX2_put_30 : decode cX2_put 30 = .ok (.istore 4, 2) := by decide +kernel
theorem dX2_put_32 : decode cX2_put 32 = .ok (.aload_n 0, 1) := by decide +kernel
theorem dX2_put_33 : decode cX2_put 33 = .ok (.getfield 18, 3) := by decide +kernel
theorem dX2_put_36 : decode cX2_put 36 = .ok (.aload_n 0, 1) := by decide +kernel
theorem dX2_put_37 : decode cX2_put 37 = .ok (.iload_n 1, 1) := by decide +kernel
theorem dX2_put_38 : decode cX2_put 38 = .ok (.iload_n 2, 1) := by decide +kernel
theorem dX2_put_39 : decode cX2_put 39 = .ok (.invokevirtual 21, 3) := by decide +kernel
theorem dX2_put_42 : decode cX2_put 42 = .ok (.iload 4, 2) := by decide +kernel
theorem dX2_put_44 : decode cX2_put 44 = .ok (.iastore, 1) := by decide +kernel
theorem dX2_put_45 : decode cX2_put 45 = .ok (.iload 4, 2) := by decide +kernel
theorem dX2_put_47 : decode cX2_put 47 = .ok (.ireturn, 1) := by decide +kernel
theorem dX3_init_0 : decode cX3_init 0 = .ok (.aload_n 0, 1) := by decide +kernel
theorem dX3_init_1 : decode cX3_init 1 = .ok (.invokespecial 3, 3) := by decide +kernel
theorem dX3_init_4 : decode cX3_init 4 = .ok (.aload_n 0, 1) := by decide +kernel
theorem dX3_init_5 : decode cX3_init 5 = .ok (.bipush 120, 2) := by decide +kernel
theorem dX3_init_7 : decode cX3_init 7 = .ok (.newarray .int, 2) := by decide +kernel
theorem dX3_init_9 : decode cX3_init 9 = .ok (.putfield 11, 3) := by decide +kernel
theorem dX3_init_12 : decode cX3_init 12 = .ok (.aload_n 0, 1) := by decide +kernel
theorem dX3_init_13 : decode cX3_init 13 = .ok (.iconst 0, 1) := by decide +kernel
theorem dX3_init_14 : decode cX3_init 14 = .ok (.putfield 15, 3) := by decide +kernel
theorem dX3_init_17 : decode cX3_init 17 = .ok (.aload_n 0, 1) := by decide +kernel
theorem dX3_init_18 : decode cX3_init 18 = .ok (.iconst 0, 1) := by decide +kernel
theorem dX3_init_19 : decode cX3_init 19 = .ok (.putfield 19, 3) := by decide +kernel
theorem dX3_init_22 : decode cX3_init 22 = .ok (.aload_n 0, 1) := by decide +kernel
theorem dX3_init_23 : decode cX3_init 23 = .ok (.iconst 0, 1) := by decide +kernel
theorem dX3_init_24 : decode cX3_init 24 = .ok (.putfield 22, 3) := by decide +kernel
theorem dX3_init_27 : decode cX3_init 27 = .ok (.aload_n 0, 1) := by decide +kernel
theorem dX3_init_28 : decode cX3_init 28 = .ok (.iconst 0, 1) := by decide +kernel
theorem dX3_init_29 : decode cX3_init 29 = .ok (.putfield 25, 3) := by decide +kernel
theorem dX3_init_32 : decode cX3_init 32 = .ok (.return_, 1) := by decide +kernel
set_option maxRecDepth 20000 in
theorem ggX3_tell_X3_tellLaw : GoodIn wsX3_tell wsX3_tellLaw := goodIn_r _ [9, 10, 11, 12, 13, 14, 8, 15, 1, 16, 17, 18, 19, 20, 21, 22, 23, 24, 25, 26, 27, 28, 29, 30, 31, 32, 33, 34, 66, 67, 68, 69, 70, 71, 72, 73, 74, 75, 76, 77, 61, 62, 63, 64, 65] rfl (by decide +kernel)
set_option maxRecDepth 20000 in
theorem gX3_tell_X3_tellLaw : GoodIn wsX3_tell (wsV RX3 39 RX3 yX3_tellLaw wsX3_tellLaw) := goodIn_app (goodIn_of _ (by decide +kernel)) ggX3_tell_X3_tellLaw
set_option maxRecDepth 20000 in
theorem ggX3_tell_X3_tellRooms : GoodIn wsX3_tell wsX3_tellRooms := goodIn_r _ [38, 2, 16, 17, 18, 8, 19, 1, 20, 21, 22, 23, 24, 25, 26, 27, 39, 40, 41, 42, 43, 44, 12, 13, 14, 15, 28, 29, 30, 31, 32, 33, 34, 66, 67, 68, 69, 70, 71, 72, 73, 74, 75, 76, 77, 61, 62, 63, 64, 65] rfl (by decide +kernel)
set_option maxRecDepth 20000 in
theorem gX3_tell_X3_tellRooms : GoodIn wsX3_tell (wsV RX3 43 RX3 yX3_tellRooms wsX3_tellRooms) := goodIn_app (goodIn_of _ (by decide +kernel)) ggX3_tell_X3_tellRooms
set_option maxRecDepth 20000 in
theorem ggX3_tell_X3_tellTubes : GoodIn wsX3_tell wsX3_tellTubes := goodIn_r _ [48, 1, 20, 49, 3, 16, 17, 18, 8, 19, 21, 50, 51, 52, 22, 23, 24, 25, 26, 27, 53, 54, 55, 56, 57, 58, 2, 59, 60, 28, 29, 30, 31, 32, 33, 34, 12, 13, 14, 15, 61, 62, 63, 64, 65, 66, 67, 68, 69, 70, 71, 72, 73, 74, 75, 76, 77] rfl (by decide +kernel)
set_option maxRecDepth 20000 in
theorem gX3_tell_X3_tellTubes : GoodIn wsX3_tell (wsV RX3 46 RX3 yX3_tellTubes wsX3_tellTubes) := goodIn_app (goodIn_of _ (by decide +kernel)) ggX3_tell_X3_tellTubes
theorem dX3_tell_0 : decode cX3_tell 0 = .ok (.aload_n 0, 1) := by decide +kernel
theorem dX3_tell_1 : decode cX3_tell 1 = .ok (.iconst 0, 1) := by decide +kernel
theorem dX3_tell_2 : decode cX3_tell 2 = .ok (.putfield 25, 3) := by decide +kernel
theorem dX3_tell_5 : decode cX3_tell 5 = .ok (.aload_n 1, 1) := by decide +kernel
theorem dX3_tell_6 : decode cX3_tell 6 = .ok (.iconst 0, 1) := by decide +kernel
theorem dX3_tell_7 : decode cX3_tell 7 = .ok (.putfield 28, 3) := by decide +kernel
theorem dX3_tell_10 : decode cX3_tell 10 = .ok (.aload_n 1, 1) := by decide +kernel
theorem dX3_tell_11 : decode cX3_tell 11 = .ok (.iconst 0, 1) := by decide +kernel
theorem dX3_tell_12 : decode cX3_tell 12 = .ok (.putfield 33, 3) := by decide +kernel
theorem dX3_tell_15 : decode cX3_tell 15 = .ok (.aload_n 1, 1) := by decide +kernel
theorem dX3_tell_16 : decode cX3_tell 16 = .ok (.iconst 0, 1) := by decide +kernel
theorem dX3_tell_17 : decode cX3_tell 17 = .ok (.putfield 36, 3) := by decide +kernel
theorem dX3_tell_20 : decode cX3_tell 20 = .ok (.aload_n 0, 1) := by decide +kernel
theorem dX3_tell_21 : decode cX3_tell 21 = .ok (.aload_n 1, 1) := by decide +kernel
theorem dX3_tell_22 : decode cX3_tell 22 = .ok (.invokevirtual 39, 3) := by decide +kernel
theorem dX3_tell_25 : decode cX3_tell 25 = .ok (.ifCond .eq 23, 3) := by decide +kernel
theorem dX3_tell_28 : decode cX3_tell 28 = .ok (.aload_n 0, 1) := by decide +kernel
theorem dX3_tell_29 : decode cX3_tell 29 = .ok (.aload_n 1, 1) := by decide +kernel
theorem dX3_tell_30 : decode cX3_tell 30 = .ok (.invokevirtual 43, 3) := by decide +kernel
theorem dX3_tell_33 : decode cX3_tell 33 = .ok (.ifCond .eq 15, 3) := by decide +kernel
theorem dX3_tell_36 : decode cX3_tell 36 = .ok (.aload_n 0, 1) := by decide +kernel
theorem dX3_tell_37 : decode cX3_tell 37 = .ok (.aload_n 1, 1) := by decide +kernel
theorem dX3_tell_38 : decode cX3_tell 38 = .ok (.invokevirtual 46, 3) := by decide +kernel
theorem dX3_tell_41 : decode cX3_tell 41 = .ok (.ifCond .eq 7, 3) := by decide +kernel
theorem dX3_tell_44 : decode cX3_tell 44 = .ok (.iconst 1, 1) := by decide +kernel
theorem dX3_tell_45 : decode cX3_tell 45 = .ok (.goto 4, 3) := by decide +kernel
theorem dX3_tell_48 : decode cX3_tell 48 = .ok (.iconst 0, 1) := by decide +kernel
theorem dX3_tell_49 : decode cX3_tell 49 = .ok (.ireturn, 1) := by decide +kernel
set_option maxRecDepth 20000 in
theorem ggX3_tellLaw_X3_pass : GoodIn wsX3_tellLaw wsX3_pass := goodIn_r _ [7, 8, 9, 10, 11, 6, 12, 13, 14, 15, 16, 17, 18, 19, 20, 40, 41, 42, 43, 44] rfl (by decide +kernel)
set_option maxRecDepth 20000 in
theorem gX3_tellLaw_X3_pass : GoodIn wsX3_tellLaw (wsV RX3 49 RX3 yX3_pass wsX3_pass) := goodIn_app (goodIn_of _ (by decide +kernel)) ggX3_tellLaw_X3_pass
set_option maxRecDepth 20000 in
theorem ggX3_tellLaw_X3_number : GoodIn wsX3_tellLaw wsX3_number := goodIn_r _ [24, 8, 9, 10, 11, 6, 12, 13, 14, 25, 26, 27, 15, 16, 17, 18, 19, 20, 40, 41, 42, 43, 44] rfl (by decide +kernel)
set_option maxRecDepth 20000 in
theorem gX3_tellLaw_X3_number : GoodIn wsX3_tellLaw (wsV RX3 53 RX3 yX3_number wsX3_number) := goodIn_app (goodIn_of _ (by decide +kernel)) ggX3_tellLaw_X3_number
theorem dX3_tellLaw_0 : decode cX3_tellLaw 0 = .ok (.aload_n 0, 1) := by decide +kernel
theorem dX3_tellLaw_1 : decode cX3_tellLaw 1 = .ok (.bipush 104, 2) := by decide +kernel
theorem dX3_tellLaw_3 : decode cX3_tellLaw 3 = .ok (.invokevirtual 49, 3) := by decide +kernel
theorem dX3_tellLaw_6 : decode cX3_tellLaw 6 = .ok (.ifCond .ne 5, 3) := by decide +kernel
theorem dX3_tellLaw_9 : decode cX3_tellLaw 9 = .ok (.iconst 0, 1) := by decide +kernel
theorem dX3_tellLaw_10 : decode cX3_tellLaw 10 = .ok (.ireturn, 1) := by decide +kernel
theorem dX3_tellLaw_11 : decode cX3_tellLaw 11 = .ok (.aload_n 1, 1) := by decide +kernel
theorem dX3_tellLaw_12 : decode cX3_tellLaw 12 = .ok (.aload_n 0, 1) := by decide +kernel
theorem dX3_tellLaw_13 : decode cX3_tellLaw 13 = .ok (.iconst 0, 1) := by decide +kernel
theorem dX3_tellLaw_14 : decode cX3_tellLaw 14 = .ok (.bipush 9, 2) := by decide +kernel
theorem dX3_tellLaw_16 : decode cX3_tellLaw 16 = .ok (.invokevirtual 53, 3) := by decide +kernel
theorem dX3_tellLaw_19 : decode cX3_tellLaw 19 = .ok (.putfield 57, 3) := by decide +kernel
theorem dX3_tellLaw_22 : decode cX3_tellLaw 22 = .ok (.aload_n 1, 1) := by decide +kernel
theorem dX3_tellLaw_23 : decode cX3_tellLaw 23 = .ok (.getfield 57, 3) := by decide +kernel
theorem dX3_tellLaw_26 : decode cX3_tellLaw 26 = .ok (.ifCond .lt 12, 3) := by decide +kernel
theorem dX3_tellLaw_29 : decode cX3_tellLaw 29 = .ok (.aload_n 0, 1) := by decide +kernel
theorem dX3_tellLaw_30 : decode cX3_tellLaw 30 = .ok (.bipush 44, 2) := by decide +kernel
theorem dX3_tellLaw_32 : decode cX3_tellLaw 32 = .ok (.invokevirtual 49, 3) := by decide +kernel
theorem dX3_tellLaw_35 : decode cX3_tellLaw 35 = .ok (.ifCond .ne 5, 3) := by decide +kernel
theorem dX3_tellLaw_38 : decode cX3_tellLaw 38 = .ok (.iconst 0, 1) := by decide +kernel
theorem dX3_tellLaw_39 : decode cX3_tellLaw 39 = .ok (.ireturn, 1) := by decide +kernel
theorem dX3_tellLaw_40 : decode cX3_tellLaw 40 = .ok (.aload_n 1, 1) := by decide +kernel
theorem dX3_tellLaw_41 : decode cX3_tellLaw 41 = .ok (.aload_n 0, 1) := by decide +kernel
theorem dX3_tellLaw_42 : decode cX3_tellLaw 42 = .ok (.iconst 0, 1) := by decide +kernel
theorem dX3_tellLaw_43 : decode cX3_tellLaw 43 = .ok (.bipush 60, 2) := by decide +kernel
theorem dX3_tellLaw_45 : decode cX3_tellLaw 45 = .ok (.invokevirtual 53, 3) := by decide +kernel
theorem dX3_tellLaw_48 : decode cX3_tellLaw 48 = .ok (.putfield 60, 3) := by decide +kernel
theorem dX3_tellLaw_51 : decode cX3_tellLaw 51 = .ok (.aload_n 1, 1) := by decide +kernel
theorem dX3_tellLaw_52 : decode cX3_tellLaw 52 = .ok (.getfield 60, 3) := by decide +kernel
theorem dX3_tellLaw_55 : decode cX3_tellLaw 55 = .ok (.ifCond .lt 16, 3) := by decide +kernel
theorem dX3_tellLaw_58 : decode cX3_tellLaw 58 = .ok (.aload_n 0, 1) := by decide +kernel
theorem dX3_tellLaw_59 : decode cX3_tellLaw 59 = .ok (.bipush 59, 2) := by decide +kernel
theorem dX3_tellLaw_61 : decode cX3_tellLaw 61 = .ok (.invokevirtual 49, 3) := by decide +kernel
theorem dX3_tellLaw_64 : decode cX3_tellLaw 64 = .ok (.ifCond .eq 7, 3) := by decide +kernel
theorem dX3_tellLaw_67 : decode cX3_tellLaw 67 = .ok (.iconst 1, 1) := by decide +kernel
theorem dX3_tellLaw_68 : decode cX3_tellLaw 68 = .ok (.goto 4, 3) := by decide +kernel
theorem dX3_tellLaw_71 : decode cX3_tellLaw 71 = .ok (.iconst 0, 1) := by decide +kernel
theorem dX3_tellLaw_72 : decode cX3_tellLaw 72 = .ok (.ireturn, 1) := by decide +kernel
set_option maxRecDepth 20000 in
theorem ggX3_tellRooms_X3_peek : GoodIn wsX3_tellRooms wsX3_peek := goodIn_r _ [6, 7, 8, 9, 45, 46, 47, 48, 49] rfl (by decide +kernel)
set_option maxRecDepth 20000 in
theorem gX3_tellRooms_X3_peek : GoodIn wsX3_tellRooms (wsV RX3 63 RX3 yX3_peek wsX3_peek) := goodIn_app (goodIn_of _ (by decide +kernel)) ggX3_tellRooms_X3_peek
set_option maxRecDepth 20000 in
theorem ggX3_tellRooms_X3_fail : GoodIn wsX3_tellRooms wsX3_fail := goodIn_r _ [13, 14, 7, 15, 45, 46, 47, 48, 49] rfl (by decide +kernel)
set_option maxRecDepth 20000 in
theorem gX3_tellRooms_X3_fail : GoodIn wsX3_tellRooms (wsV RX3 67 RX3 yX3_fail wsX3_fail) := goodIn_app (goodIn_of _ (by decide +kernel)) ggX3_tellRooms_X3_fail
set_option maxRecDepth 20000 in
theorem ggX3_tellRooms_X3_tellRoom : GoodIn wsX3_tellRooms wsX3_tellRoom := goodIn_r _ [19, 20, 21, 22, 23, 24, 5, 25, 7, 2, 3, 4, 6, 8, 9, 10, 11, 12, 13, 14, 15, 26, 27, 28, 29, 30, 31, 32, 33, 34, 35, 36, 37, 38, 39, 40, 41, 42, 43, 44, 45, 46, 47, 48, 49] rfl (by decide +kernel)
set_option maxRecDepth 20000 in
theorem gX3_tellRooms_X3_tellRoom : GoodIn wsX3_tellRooms (wsV RX3 70 RX3 yX3_tellRoom wsX3_tellRoom) := goodIn_app (goodIn_of _ (by decide +kernel)) ggX3_tellRooms_X3_tellRoom
theorem dX3_tellRooms_0 : decode cX3_tellRooms 0 = .ok (.iconst 0, 1) := by decide +kernel
theorem dX3_tellRooms_1 : decode cX3_tellRooms 1 = .ok (.istore_n 2, 1) := by decide +kernel
theorem dX3_tellRooms_2 : decode cX3_tellRooms 2 = .ok (.iload_n 2, 1) := by decide +kernel
theorem dX3_tellRooms_3 : decode cX3_tellRooms 3 = .ok (.iconst 5, 1) := by decide +kernel
theorem dX3_tellRooms_4 : decode cX3_tellRooms 4 = .ok (.if_icmp .gt 53, 3) := by decide +kernel
theorem dX3_tellRooms_7 : decode cX3_tellRooms 7 = .ok (.iload_n 2, 1) := by decide +kernel
theorem dX3_tellRooms_8 : decode cX3_tellRooms 8 = .ok (.ifCond .le 14, 3) := by decide +kernel
theorem dX3_tellRooms_11 : decode cX3_tellRooms 11 = .ok (.aload_n 0, 1) := by decide +kernel
theorem dX3_tellRooms_12 : decode cX3_tellRooms 12 = .ok (.invokevirtual 63, 3) := by decide +kernel
theorem dX3_tellRooms_15 : decode cX3_tellRooms 15 = .ok (.bipush 109, 2) := by decide +kernel
theorem dX3_tellRooms_17 : decode cX3_tellRooms 17 = .ok (.if_icmp .eq 5, 3) := by decide +kernel
theorem dX3_tellRooms_20 : decode cX3_tellRooms 20 = .ok (.iconst 1, 1) := by decide +kernel
theorem dX3_tellRooms_21 : decode cX3_tellRooms 21 = .ok (.ireturn, 1) := by decide +kernel
theorem dX3_tellRooms_22 : decode cX3_tellRooms 22 = .ok (.iload_n 2, 1) := by decide +kernel
theorem dX3_tellRooms_23 : decode cX3_tellRooms 23 = .ok (.iconst 5, 1) := by decide +kernel
theorem dX3_tellRooms_24 : decode cX3_tellRooms 24 = .ok (.if_icmp .ne 9, 3) := by decide +kernel
theorem dX3_tellRooms_27 : decode cX3_tellRooms 27 = .ok (.aload_n 0, 1) := by decide +kernel
theorem dX3_tellRooms_28 : decode cX3_tellRooms 28 = .ok (.iconst 3, 1) := by decide +kernel
theorem dX3_tellRooms_29 : decode cX3_tellRooms 29 = .ok (.invokevirtual 67, 3) := by decide +kernel
theorem dX3_tellRooms_32 : decode cX3_tellRooms 32 = .ok (.ireturn, 1) := by decide +kernel
theorem dX3_tellRooms_33 : decode cX3_tellRooms 33 = .ok (.aload_n 0, 1) := by decide +kernel
theorem dX3_tellRooms_34 : decode cX3_tellRooms 34 = .ok (.aload_n 1, 1) := by decide +kernel
theorem dX3_tellRooms_35 : decode cX3_tellRooms 35 = .ok (.iload_n 2, 1) := by decide +kernel
theorem dX3_tellRooms_36 : decode cX3_tellRooms 36 = .ok (.invokevirtual 70, 3) := by decide +kernel
theorem dX3_tellRooms_39 : decode cX3_tellRooms 39 = .ok (.ifCond .ne 5, 3) := by decide +kernel
theorem dX3_tellRooms_42 : decode cX3_tellRooms 42 = .ok (.iconst 0, 1) := by decide +kernel
theorem dX3_tellRooms_43 : decode cX3_tellRooms 43 = .ok (.ireturn, 1) := by decide +kernel
theorem dX3_tellRooms_44 : decode cX3_tellRooms 44 = .ok (.aload_n 1, 1) := by decide +kernel
theorem dX3_tellRooms_45 : decode cX3_tellRooms 45 = .ok (.iload_n 2, 1) := by decide +kernel
theorem dX3_tellRooms_46 : decode cX3_tellRooms 46 = .ok (.iconst 1, 1) := by decide +kernel
theorem dX3_tellRooms_47 : decode cX3_tellRooms 47 = .ok (.iadd, 1) := by decide +kernel
theorem dX3_tellRooms_48 : decode cX3_tellRooms 48 = .ok (.putfield 28, 3) := by decide +kernel
theorem dX3_tellRooms_51 : decode cX3_tellRooms 51 = .ok (.iinc 2 1, 3) := by decide +kernel
theorem dX3_tellRooms_54 : decode cX3_tellRooms 54 = .ok (.goto (-52), 3) := by decide +kernel
theorem dX3_tellRooms_57 : decode cX3_tellRooms 57 = .ok (.iconst 1, 1) := by decide +kernel
theorem dX3_tellRooms_58 : decode cX3_tellRooms 58 = .ok (.ireturn, 1) := by decide +kernel
set_option maxRecDepth 20000 in
theorem ggX3_tellRoom_X3_pass : GoodIn wsX3_tellRoom wsX3_pass := goodIn_r _ [7, 8, 9, 10, 11, 6, 12, 13, 14, 15, 16, 17, 18, 19, 20, 40, 41, 42, 43, 44] rfl (by decide +kernel)
set_option maxRecDepth 20000 in
theorem gX3_tellRoom_X3_pass : GoodIn wsX3_tellRoom (wsV RX3 49 RX3 yX3_pass wsX3_pass) := goodIn_app (goodIn_of _ (by decide +kernel)) ggX3_tellRoom_X3_pass
set_option maxRecDepth 20000 in
theorem ggX3_tellRoom_X3_number : GoodIn wsX3_tellRoom wsX3_number := goodIn_r _ [24, 8, 9, 10, 11, 6, 12, 13, 14, 25, 26, 27, 15, 16, 17, 18, 19, 20, 40, 41, 42, 43, 44] rfl (by decide +kernel)
set_option maxRecDepth 20000 in
theorem gX3_tellRoom_X3_number : GoodIn wsX3_tellRoom (wsV RX3 53 RX3 yX3_number wsX3_number) := goodIn_app (goodIn_of _ (by decide +kernel)) ggX3_tellRoom_X3_number
theorem dX3_tellRoom_0 : decode cX3_tellRoom 0 = .ok (.aload_n 0, 1) := by decide +kernel
theorem dX3_tellRoom_1 : decode cX3_tellRoom 1 = .ok (.bipush 109, 2) := by decide +kernel
theorem dX3_tellRoom_3 : decode cX3_tellRoom 3 = .ok (.invokevirtual 49, 3) := by decide +kernel
theorem dX3_tellRoom_6 : decode cX3_tellRoom 6 = .ok (.ifCond .ne 5, 3) := by decide +kernel
theorem dX3_tellRoom_9 : decode cX3_tellRoom 9 = .ok (.iconst 0, 1) := by decide +kernel
theorem dX3_tellRoom_10 : decode cX3_tellRoom 10 = .ok (.ireturn, 1) := by decide +kernel
theorem dX3_tellRoom_11 : decode cX3_tellRoom 11 = .ok (.aload_n 1, 1) := by decide +kernel
theorem dX3_tellRoom_12 : decode cX3_tellRoom 12 = .ok (.getfield 74, 3) := by decide +kernel
theorem dX3_tellRoom_15 : decode cX3_tellRoom 15 = .ok (.iload_n 2, 1) := by decide +kernel
theorem dX3_tellRoom_16 : decode cX3_tellRoom 16 = .ok (.aload_n 0, 1) := by decide +kernel
theorem dX3_tellRoom_17 : decode cX3_tellRoom 17 = .ok (.iconst 0, 1) := by decide +kernel
theorem dX3_tellRoom_18 : decode cX3_tellRoom 18 = .ok (.bipush 99, 2) := by decide +kernel
theorem dX3_tellRoom_20 : decode cX3_tellRoom 20 = .ok (.invokevirtual 53, 3) := by decide +kernel
theorem dX3_tellRoom_23 : decode cX3_tellRoom 23 = .ok (.iastore, 1) := by decide +kernel
theorem dX3_tellRoom_24 : decode cX3_tellRoom 24 = .ok (.aload_n 1, 1) := by decide +kernel
theorem dX3_tellRoom_25 : decode cX3_tellRoom 25 = .ok (.getfield 74, 3) := by decide +kernel
theorem dX3_tellRoom_28 : decode cX3_tellRoom 28 = .ok (.iload_n 2, 1) := by decide +kernel
theorem dX3_tellRoom_29 : decode cX3_tellRoom 29 = .ok (.iaload, 1) := by decide +kernel
theorem dX3_tellRoom_30 : decode cX3_tellRoom 30 = .ok (.ifCond .lt 12, 3) := by decide +kernel
theorem dX3_tellRoom_33 : decode cX3_tellRoom 33 = .ok (.aload_n 0, 1) := by decide +kernel
theorem dX3_tellRoom_34 : decode cX3_tellRoom 34 = .ok (.bipush 44, 2) := by decide +kernel
theorem dX3_tellRoom_36 : decode cX3_tellRoom 36 = .ok (.invokevirtual 49, 3) := by decide +kernel
theorem dX3_tellRoom_39 : decode cX3_tellRoom 39 = .ok (.ifCond .ne 5, 3) := by decide +kernel
theorem dX3_tellRoom_42 : decode cX3_tellRoom 42 = .ok (.iconst 0, 1) := by decide +kernel
theorem dX3_tellRoom_43 : decode cX3_tellRoom 43 = .ok (.ireturn, 1) := by decide +kernel
theorem dX3_tellRoom_44 : decode cX3_tellRoom 44 = .ok (.aload_n 1, 1) := by decide +kernel
theorem dX3_tellRoom_45 : decode cX3_tellRoom 45 = .ok (.getfield 77, 3) := by decide +kernel
theorem dX3_tellRoom_48 : decode cX3_tellRoom 48 = .ok (.iload_n 2, 1) := by decide +kernel
theorem dX3_tellRoom_49 : decode cX3_tellRoom 49 = .ok (.aload_n 0, 1) := by decide +kernel
theorem dX3_tellRoom_50 : decode cX3_tellRoom 50 = .ok (.iconst 0, 1) := by decide +kernel
theorem dX3_tellRoom_51 : decode cX3_tellRoom 51 = .ok (.bipush 20, 2) := by decide +kernel
theorem dX3_tellRoom_53 : decode cX3_tellRoom 53 = .ok (.invokevirtual 53, 3) := by decide +kernel
theorem dX3_tellRoom_56 : decode cX3_tellRoom 56 = .ok (.iastore, 1) := by decide +kernel
theorem dX3_tellRoom_57 : decode cX3_tellRoom 57 = .ok (.aload_n 1, 1) := by decide +kernel
theorem dX3_tellRoom_58 : decode cX3_tellRoom 58 = .ok (.getfield 77, 3) := by decide +kernel
theorem dX3_tellRoom_61 : decode cX3_tellRoom 61 = .ok (.iload_n 2, 1) := by decide +kernel
theorem dX3_tellRoom_62 : decode cX3_tellRoom 62 = .ok (.iaload, 1) := by decide +kernel
theorem dX3_tellRoom_63 : decode cX3_tellRoom 63 = .ok (.ifCond .lt 16, 3) := by decide +kernel
theorem dX3_tellRoom_66 : decode cX3_tellRoom 66 = .ok (.aload_n 0, 1) := by decide +kernel
theorem dX3_tellRoom_67 : decode cX3_tellRoom 67 = .ok (.bipush 59, 2) := by decide +kernel
theorem dX3_tellRoom_69 : decode cX3_tellRoom 69 = .ok (.invokevirtual 49, 3) := by decide +kernel
theorem dX3_tellRoom_72 : decode cX3_tellRoom 72 = .ok (.ifCond .eq 7, 3) := by decide +kernel
theorem dX3_tellRoom_75 : decode cX3_tellRoom 75 = .ok (.iconst 1, 1) := by decide +kernel
theorem dX3_tellRoom_76 : decode cX3_tellRoom 76 = .ok (.goto 4, 3) := by decide +kernel
theorem dX3_tellRoom_79 : decode cX3_tellRoom 79 = .ok (.iconst 0, 1) := by decide +kernel
theorem dX3_tellRoom_80 : decode cX3_tellRoom 80 = .ok (.ireturn, 1) := by decide +kernel
set_option maxRecDepth 20000 in
theorem ggX3_tellTubes_X3_peek : GoodIn wsX3_tellTubes wsX3_peek := goodIn_r _ [9, 1, 2, 10, 40, 41, 42, 43, 44] rfl (by decide +kernel)
set_option maxRecDepth 20000 in
theorem gX3_tellTubes_X3_peek : GoodIn wsX3_tellTubes (wsV RX3 63 RX3 yX3_peek wsX3_peek) := goodIn_app (goodIn_of _ (by decide +kernel)) ggX3_tellTubes_X3_peek
set_option maxRecDepth 20000 in
theorem ggX3_tellTubes_X3_sortOf : GoodIn wsX3_tellTubes wsX3_sortOf := goodIn_r _ [13] rfl (by decide +kernel)
set_option maxRecDepth 20000 in
theorem gX3_tellTubes_X3_sortOf : GoodIn wsX3_tellTubes (va_wsS RX3 80 yX3_sortOf wsX3_sortOf) := goodIn_app (goodIn_of _ (by decide +kernel)) ggX3_tellTubes_X3_sortOf
set_option maxRecDepth 20000 in
theorem ggX3_tellTubes_X3_fail : GoodIn wsX3_tellTubes wsX3_fail := goodIn_r _ [17, 18, 1, 19, 40, 41, 42, 43, 44] rfl (by decide +kernel)
set_option maxRecDepth 20000 in
theorem gX3_tellTubes_X3_fail : GoodIn wsX3_tellTubes (wsV RX3 67 RX3 yX3_fail wsX3_fail) := goodIn_app (goodIn_of _ (by decide +kernel)) ggX3_tellTubes_X3_fail
set_option maxRecDepth 20000 in
theorem ggX3_tellTubes_X3_tellTube : GoodIn wsX3_tellTubes wsX3_tellTube := goodIn_r _ [23, 24, 25, 26, 27, 28, 29, 30, 31, 8, 32, 1, 5, 6, 7, 9, 2, 10, 33, 34, 35, 14, 15, 16, 17, 18, 19, 36, 37, 38, 39, 45, 46, 47, 48, 49, 50, 51, 52, 53, 54, 55, 56, 40, 41, 42, 43, 44] rfl (by decide +kernel)
set_option maxRecDepth 20000 in
theorem gX3_tellTubes_X3_tellTube : GoodIn wsX3_tellTubes (wsV RX3 87 RX3 yX3_tellTube wsX3_tellTube) := goodIn_app (goodIn_of _ (by decide +kernel)) ggX3_tellTubes_X3_tellTube
theorem dX3_tellTubes_0 : decode cX3_tellTubes 0 = .ok (.iconst 0, 1) := by decide +kernel
theorem dX3_tellTubes_1 : decode cX3_tellTubes 1 = .ok (.istore_n 2, 1) := by decide +kernel
theorem dX3_tellTubes_2 : decode cX3_tellTubes 2 = .ok (.iload_n 2, 1) := by decide +kernel
theorem dX3_tellTubes_3 : decode cX3_tellTubes 3 = .ok (.bipush 6, 2) := by decide +kernel
theorem dX3_tellTubes_5 : decode cX3_tellTubes 5 = .ok (.if_icmp .gt 91, 3) := by decide +kernel
theorem dX3_tellTubes_8 : decode cX3_tellTubes 8 = .ok (.iload_n 2, 1) := by decide +kernel
theorem dX3_tellTubes_9 : decode cX3_tellTubes 9 = .ok (.ifCond .le 16, 3) := by decide +kernel
theorem dX3_tellTubes_12 : decode cX3_tellTubes 12 = .ok (.aload_n 0, 1) := by decide +kernel
theorem dX3_tellTubes_13 : decode cX3_tellTubes 13 = .ok (.getfield 25, 3) := by decide +kernel
theorem dX3_tellTubes_16 : decode cX3_tellTubes 16 = .ok (.aload_n 0, 1) := by decide +kernel
theorem dX3_tellTubes_17 : decode cX3_tellTubes 17 = .ok (.getfield 15, 3) := by decide +kernel
theorem dX3_tellTubes_20 : decode cX3_tellTubes 20 = .ok (.if_icmp .lt 5, 3) := by decide +kernel
theorem dX3_tellTubes_23 : decode cX3_tellTubes 23 = .ok (.iconst 1, 1) := by decide +kernel
theorem dX3_tellTubes_24 : decode cX3_tellTubes 24 = .ok (.ireturn, 1) := by decide +kernel
theorem dX3_tellTubes_25 : decode cX3_tellTubes 25 = .ok (.aload_n 0, 1) := by decide +kernel
theorem dX3_tellTubes_26 : decode cX3_tellTubes 26 = .ok (.invokevirtual 63, 3) := by decide +kernel
theorem dX3_tellTubes_29 : decode cX3_tellTubes 29 = .ok (.invokestatic 80, 3) := by decide +kernel
theorem dX3_tellTubes_32 : decode cX3_tellTubes 32 = .ok (.istore_n 3, 1) := by decide +kernel
theorem dX3_tellTubes_33 : decode cX3_tellTubes 33 = .ok (.iload_n 3, 1) := by decide +kernel
theorem dX3_tellTubes_34 : decode cX3_tellTubes 34 = .ok (.ifCond .ne 9, 3) := by decide +kernel
theorem dX3_tellTubes_37 : decode cX3_tellTubes 37 = .ok (.aload_n 0, 1) := by decide +kernel
theorem dX3_tellTubes_38 : decode cX3_tellTubes 38 = .ok (.iconst 1, 1) := by decide +kernel
theorem dX3_tellTubes_39 : decode cX3_tellTubes 39 = .ok (.invokevirtual 67, 3) := by decide +kernel
theorem dX3_tellTubes_42 : decode cX3_tellTubes 42 = .ok (.ireturn, 1) := by decide +kernel
theorem dX3_tellTubes_43 : decode cX3_tellTubes 43 = .ok (.iload_n 2, 1) := by decide +kernel
theorem dX3_tellTubes_44 : decode cX3_tellTubes 44 = .ok (.bipush 6, 2) := by decide +kernel
theorem dX3_tellTubes_46 : decode cX3_tellTubes 46 = .ok (.if_icmp .ne 9, 3) := by decide +kernel
theorem dX3_tellTubes_49 : decode cX3_tellTubes 49 = .ok (.aload_n 0, 1) := by decide +kernel
theorem dX3_tellTubes_50 : decode cX3_tellTubes 50 = .ok (.iconst 3, 1) := by decide +kernel
theorem dX3_tellTubes_51 : decode cX3_tellTubes 51 = .ok (.invokevirtual 67, 3) := by decide +kernel
theorem dX3_tellTubes_54 : decode cX3_tellTubes 54 = .ok (.ireturn, 1) := by decide +kernel
theorem dX3_tellTubes_55 : decode cX3_tellTubes 55 = .ok (.aload_n 0, 1) := by decide +kernel
theorem dX3_tellTubes_56 : decode cX3_tellTubes 56 = .ok (.dup, 1) := by decide +kernel
theorem dX3_tellTubes_57 : decode cX3_tellTubes 57 = .ok (.getfield 25, 3) := by decide +kernel
theorem dX3_tellTubes_60 : decode cX3_tellTubes 60 = .ok (.iconst 1, 1) := by decide +kernel
theorem dX3_tellTubes_61 : decode cX3_tellTubes 61 = .ok (.iadd, 1) := by decide +kernel
theorem dX3_tellTubes_62 : decode cX3_tellTubes 62 = .ok (.putfield 25, 3) := by decide +kernel
theorem dX3_tellTubes_65 : decode cX3_tellTubes 65 = .ok (.aload_n 1, 1) := by decide +kernel
theorem dX3_tellTubes_66 : decode cX3_tellTubes 66 = .ok (.getfield 84, 3) := by decide +kernel
theorem dX3_tellTubes_69 : decode cX3_tellTubes 69 = .ok (.iload_n 2, 1) := by decide +kernel
theorem dX3_tellTubes_70 : decode cX3_tellTubes 70 = .ok (.iload_n 3, 1) := by decide +kernel
theorem dX3_tellTubes_71 : decode cX3_tellTubes 71 = .ok (.iastore, 1) := by decide +kernel
theorem dX3_tellTubes_72 : decode cX3_tellTubes 72 = .ok (.aload_n 0, 1) := by decide +kernel
theorem dX3_tellTubes_73 : decode cX3_tellTubes 73 = .ok (.aload_n 1, 1) := by decide +kernel
theorem dX3_tellTubes_74 : decode cX3_tellTubes 74 = .ok (.iload_n 2, 1) := by decide +kernel
theorem dX3_tellTubes_75 : decode cX3_tellTubes 75 = .ok (.invokevirtual 87, 3) := by decide +kernel
theorem dX3_tellTubes_78 : decode cX3_tellTubes 78 = .ok (.ifCond .ne 5, 3) := by decide +kernel
theorem dX3_tellTubes_81 : decode cX3_tellTubes 81 = .ok (.iconst 0, 1) := by decide +kernel
theorem dX3_tellTubes_82 : decode cX3_tellTubes 82 = .ok (.ireturn, 1) := by decide +kernel
theorem dX3_tellTubes_83 : decode cX3_tellTubes 83 = .ok (.aload_n 1, 1) := by decide +kernel
theorem dX3_tellTubes_84 : decode cX3_tellTubes 84 = .ok (.iload_n 2, 1) := by decide +kernel
theorem dX3_tellTubes_85 : decode cX3_tellTubes 85 = .ok (.iconst 1, 1) := by decide +kernel
theorem dX3_tellTubes_86 : decode cX3_tellTubes 86 = .ok (.iadd, 1) := by decide +kernel
theorem dX3_tellTubes_87 : decode cX3_tellTubes 87 = .ok (.putfield 33, 3) := by decide +kernel
theorem dX3_tellTubes_90 : decode cX3_tellTubes 90 = .ok (.iinc 2 1, 3) := by decide +kernel
theorem dX3_tellTubes_93 : decode cX3_tellTubes 93 = .ok (.goto (-91), 3) := by decide +kernel
theorem dX3_tellTubes_96 : decode cX3_tellTubes 96 = .ok (.iconst 1, 1) := by decide +kernel
theorem dX3_tellTubes_97 : decode cX3_tellTubes 97 = .ok (.ireturn, 1) := by decide +kernel
set_option maxRecDepth 20000 in
theorem ggX3_tellTube_X3_number : GoodIn wsX3_tellTube wsX3_number := goodIn_r _ [10, 11, 12, 13, 14, 9, 15, 16, 17, 18, 19, 20, 21, 22, 23, 24, 25, 26, 43, 44, 45, 46, 47] rfl (by decide +kernel)
set_option maxRecDepth 20000 in
theorem gX3_tellTube_X3_number : GoodIn wsX3_tellTube (wsV RX3 53 RX3 yX3_number wsX3_number) := goodIn_app (goodIn_of _ (by decide +kernel)) ggX3_tellTube_X3_number
set_option maxRecDepth 20000 in
theorem ggX3_tellTube_X3_pass : GoodIn wsX3_tellTube wsX3_pass := goodIn_r _ [30, 11, 12, 13, 14, 9, 15, 16, 17, 21, 22, 23, 24, 25, 26, 43, 44, 45, 46, 47] rfl (by decide +kernel)
set_option maxRecDepth 20000 in
theorem gX3_tellTube_X3_pass : GoodIn wsX3_tellTube (wsV RX3 49 RX3 yX3_pass wsX3_pass) := goodIn_app (goodIn_of _ (by decide +kernel)) ggX3_tellTube_X3_pass
theorem dX3_tellTube_0 : decode cX3_tellTube 0 = .ok (.aload_n 1, 1) := by decide +kernel
theorem dX3_tellTube_1 : decode cX3_tellTube 1 = .ok (.getfield 90, 3) := by decide +kernel
theorem dX3_tellTube_4 : decode cX3_tellTube 4 = .ok (.iload_n 2, 1) := by decide +kernel
theorem dX3_tellTube_5 : decode cX3_tellTube 5 = .ok (.iconst 0, 1) := by decide +kernel
theorem dX3_tellTube_6 : decode cX3_tellTube 6 = .ok (.iastore, 1) := by decide +kernel
theorem dX3_tellTube_7 : decode cX3_tellTube 7 = .ok (.aload_n 1, 1) := by decide +kernel
theorem dX3_tellTube_8 : decode cX3_tellTube 8 = .ok (.getfield 93, 3) := by decide +kernel
theorem dX3_tellTube_11 : decode cX3_tellTube 11 = .ok (.iload_n 2, 1) := by decide +kernel
theorem dX3_tellTube_12 : decode cX3_tellTube 12 = .ok (.aload_n 0, 1) := by decide +kernel
theorem dX3_tellTube_13 : decode cX3_tellTube 13 = .ok (.iconst 0, 1) := by decide +kernel
theorem dX3_tellTube_14 : decode cX3_tellTube 14 = .ok (.aload_n 1, 1) := by decide +kernel
theorem dX3_tellTube_15 : decode cX3_tellTube 15 = .ok (.getfield 28, 3) := by decide +kernel
theorem dX3_tellTube_18 : decode cX3_tellTube 18 = .ok (.invokevirtual 53, 3) := by decide +kernel
theorem dX3_tellTube_21 : decode cX3_tellTube 21 = .ok (.iastore, 1) := by decide +kernel
theorem dX3_tellTube_22 : decode cX3_tellTube 22 = .ok (.aload_n 1, 1) := by decide +kernel
theorem dX3_tellTube_23 : decode cX3_tellTube 23 = .ok (.getfield 93, 3) := by decide +kernel
theorem dX3_tellTube_26 : decode cX3_tellTube 26 = .ok (.iload_n 2, 1) := by decide +kernel
theorem dX3_tellTube_27 : decode cX3_tellTube 27 = .ok (.iaload, 1) := by decide +kernel
theorem dX3_tellTube_28 : decode cX3_tellTube 28 = .ok (.ifCond .lt 12, 3) := by decide +kernel
theorem dX3_tellTube_31 : decode cX3_tellTube 31 = .ok (.aload_n 0, 1) := by decide +kernel
theorem dX3_tellTube_32 : decode cX3_tellTube 32 = .ok (.bipush 44, 2) := by decide +kernel
theorem dX3_tellTube_34 : decode cX3_tellTube 34 = .ok (.invokevirtual 49, 3) := by decide +kernel
theorem dX3_tellTube_37 : decode cX3_tellTube 37 = .ok (.ifCond .ne 5, 3) := by decide +kernel
theorem dX3_tellTube_40 : decode cX3_tellTube 40 = .ok (.iconst 0, 1) := by decide +kernel
theorem dX3_tellTube_41 : decode cX3_tellTube 41 = .ok (.ireturn, 1) := by decide +kernel
theorem dX3_tellTube_42 : decode cX3_tellTube 42 = .ok (.aload_n 1, 1) := by decide +kernel
theorem dX3_tellTube_43 : decode cX3_tellTube 43 = .ok (.getfield 96, 3) := by decide +kernel
theorem dX3_tellTube_46 : decode cX3_tellTube 46 = .ok (.iload_n 2, 1) := by decide +kernel
theorem dX3_tellTube_47 : decode cX3_tellTube 47 = .ok (.aload_n 0, 1) := by decide +kernel
theorem dX3_tellTube_48 : decode cX3_tellTube 48 = .ok (.iconst 1, 1) := by decide +kernel
theorem dX3_tellTube_49 : decode cX3_tellTube 49 = .ok (.bipush 9, 2) := by decide +kernel
theorem dX3_tellTube_51 : decode cX3_tellTube 51 = .ok (.invokevirtual 53, 3) := by decide +kernel
theorem dX3_tellTube_54 : decode cX3_tellTube 54 = .ok (.iastore, 1) := by decide +kernel
theorem dX3_tellTube_55 : decode cX3_tellTube 55 = .ok (.aload_n 1, 1) := by decide +kernel
theorem dX3_tellTube_56 : decode cX3_tellTube 56 = .ok (.getfield 96, 3) := by decide +kernel
theorem dX3_tellTube_59 : decode cX3_tellTube 59 = .ok (.iload_n 2, 1) := by decide +kernel
theorem dX3_tellTube_60 : decode cX3_tellTube 60 = .ok (.iaload, 1) := by decide +kernel
theorem dX3_tellTube_61 : decode cX3_tellTube 61 = .ok (.ifCond .lt 12, 3) := by decide +kernel
theorem dX3_tellTube_64 : decode cX3_tellTube 64 = .ok (.aload_n 0, 1) := by decide +kernel
theorem dX3_tellTube_65 : decode cX3_tellTube 65 = .ok (.bipush 44, 2) := by decide +kernel
theorem dX3_tellTube_67 : decode cX3_tellTube 67 = .ok (.invokevirtual 49, 3) := by decide +kernel
theorem dX3_tellTube_70 : decode cX3_tellTube 70 = .ok (.ifCond .ne 5, 3) := by decide +kernel
theorem dX3_tellTube_73 : decode cX3_tellTube 73 = .ok (.iconst 0, 1) := by decide +kernel
theorem dX3_tellTube_74 : decode cX3_tellTube 74 = .ok (.ireturn, 1) := by decide +kernel
theorem dX3_tellTube_75 : decode cX3_tellTube 75 = .ok (.aload_n 1, 1) := by decide +kernel
theorem dX3_tellTube_76 : decode cX3_tellTube 76 = .ok (.getfield 99, 3) := by decide +kernel
theorem dX3_tellTube_79 : decode cX3_tellTube 79 = .ok (.iload_n 2, 1) := by decide +kernel
theorem dX3_tellTube_80 : decode cX3_tellTube 80 = .ok (.aload_n 0, 1) := by decide +kernel
theorem dX3_tellTube_81 : decode cX3_tellTube 81 = .ok (.iconst 1, 1) := by decide +kernel
theorem dX3_tellTube_82 : decode cX3_tellTube 82 = .ok (.bipush 40, 2) := by decide +kernel
theorem dX3_tellTube_84 : decode cX3_tellTube 84 = .ok (.invokevirtual 53, 3) := by decide +kernel
theorem dX3_tellTube_87 : decode cX3_tellTube 87 = .ok (.iastore, 1) := by decide +kernel
theorem dX3_tellTube_88 : decode cX3_tellTube 88 = .ok (.aload_n 1, 1) := by decide +kernel
theorem dX3_tellTube_89 : decode cX3_tellTube 89 = .ok (.getfield 99, 3) := by decide +kernel
theorem dX3_tellTube_92 : decode cX3_tellTube 92 = .ok (.iload_n 2, 1) := by decide +kernel
theorem dX3_tellTube_93 : decode cX3_tellTube 93 = .ok (.iaload, 1) := by decide +kernel
theorem dX3_tellTube_94 : decode cX3_tellTube 94 = .ok (.ifCond .lt 16, 3) := by decide +kernel
theorem dX3_tellTube_97 : decode cX3_tellTube 97 = .ok (.aload_n 0, 1) := by decide +kernel
theorem dX3_tellTube_98 : decode cX3_tellTube 98 = .ok (.bipush 59, 2) := by decide +kernel
theorem dX3_tellTube_100 : decode cX3_tellTube 100 = .ok (.invokevirtual 49, 3) := by decide +kernel
theorem dX3_tellTube_103 : decode cX3_tellTube 103 = .ok (.ifCond .eq 7, 3) := by decide +kernel
theorem dX3_tellTube_106 : decode cX3_tellTube 106 = .ok (.iconst 1, 1) := by decide +kernel
theorem dX3_tellTube_107 : decode cX3_tellTube 107 = .ok (.goto 4, 3) := by decide +kernel
theorem dX3_tellTube_110 : decode cX3_tellTube 110 = .ok (.iconst 0, 1) := by decide +kernel
theorem dX3_tellTube_111 : decode cX3_tellTube 111 = .ok (.ireturn, 1) := by decide +kernel
theorem dX3_sortOf_0 : decode cX3_sortOf 0 = .ok (.iload_n 0, 1) := by decide +kernel
theorem dX3_sortOf_1 : decode cX3_sortOf 1 = .ok (.lookupswitch 61 #[(103, 53), (108, 59), (112, 51), (115, 55), (119, 57)], 51) := by decide +kernel
theorem dX3_sortOf_52 : decode cX3_sortOf 52 = .ok (.iconst 1, 1) := by decide +kernel
theorem dX3_sortOf_53 : decode cX3_sortOf 53 = .ok (.ireturn, 1) := by decide +kernel
theorem dX3_sortOf_54 : decode cX3_sortOf 54 = .ok (.iconst 2, 1) := by decide +kernel
theorem dX3_sortOf_55 : decode cX3_sortOf 55 = .ok (.ireturn, 1) := by decide +kernel
theorem dX3_sortOf_56 : decode cX3_sortOf 56 = .ok (.iconst 3, 1) := by decide +kernel
theorem dX3_sortOf_57 : decode cX3_sortOf 57 = .ok (.ireturn, 1) := by decide +kernel
theorem dX3_sortOf_58 : decode cX3_sortOf 58 = .ok (.iconst 4, 1) := by decide +kernel
theorem dX3_sortOf_59 : decode cX3_sortOf 59 = .ok (.ireturn, 1) := by decide +kernel
theorem dX3_sortOf_60 : decode cX3_sortOf 60 = .ok (.iconst 5, 1) := by decide +kernel
theorem dX3_sortOf_61 : decode cX3_sortOf 61 = .ok (.ireturn, 1) := by decide +kernel
theorem dX3_sortOf_62 : decode cX3_sortOf 62 = .ok (.iconst 0, 1) := by decide +kernel
theorem dX3_sortOf_63 : decode cX3_sortOf 63 = .ok (.ireturn, 1) := by decide +kernel
theorem dX3_fail_0 : decode cX3_fail 0 = .ok (.aload_n 0, 1) := by decide +kernel
theorem dX3_fail_1 : decode cX3_fail 1 = .ok (.iload_n 1, 1) := by decide +kernel
theorem dX3_fail_2 : decode cX3_fail 2 = .ok (.putfield 19, 3) := by decide +kernel
theorem dX3_fail_5 : decode cX3_fail 5 = .ok (.aload_n 0, 1) := by decide +kernel
theorem dX3_fail_6 : decode cX3_fail 6 = .ok (.aload_n 0, 1) := by decide +kernel
theorem dX3_fail_7 : decode cX3_fail 7 = .ok (.getfield 25, 3) := by decide +kernel
theorem dX3_fail_10 : decode cX3_fail 10 = .ok (.putfield 22, 3) := by decide +kernel
theorem dX3_fail_13 : decode cX3_fail 13 = .ok (.iconst 0, 1) := by decide +kernel
theorem dX3_fail_14 : decode cX3_fail 14 = .ok (.ireturn, 1) := by decide +kernel
theorem dX3_peek_0 : decode cX3_peek 0 = .ok (.aload_n 0, 1) := by decide +kernel
theorem dX3_peek_1 : decode cX3_peek 1 = .ok (.getfield 25, 3) := by decide +kernel
theorem dX3_peek_4 : decode cX3_peek 4 = .ok (.aload_n 0, 1) := by decide +kernel
theorem dX3_peek_5 : decode cX3_peek 5 = .ok (.getfield 15, 3) := by decide +kernel
theorem dX3_peek_8 : decode cX3_peek 8 = .ok (.if_icmp .ge 24, 3) := by decide +kernel
theorem dX3_peek_11 : decode cX3_peek 11 = .ok (.aload_n 0, 1) := by decide +kernel
theorem dX3_peek_12 : decode cX3_peek 12 = .ok (.getfield 25, 3) := by decide +kernel
theorem dX3_peek_15 : decode cX3_peek 15 = .ok (.bipush 120, 2) := by decide +kernel
theorem dX3_peek_17 : decode cX3_peek 17 = .ok (.if_icmp .ge 15, 3) := by decide +kernel
theorem dX3_peek_20 : decode cX3_peek 20 = .ok (.aload_n 0, 1) := by decide +kernel
theorem dX3_peek_21 : decode cX3_peek 21 = .ok (.getfield 11, 3) := by decide +kernel
theorem dX3_peek_24 : decode cX3_peek 24 = .ok (.aload_n 0, 1) := by decide +kernel
theorem dX3_peek_25 : decode cX3_peek 25 = .ok (.getfield 25, 3) := by decide +kernel
theorem dX3_peek_28 : decode cX3_peek 28 = .ok (.iaload, 1) := by decide +kernel
theorem dX3_peek_29 : decode cX3_peek 29 = .ok (.goto 4, 3) := by decide +kernel
theorem dX3_peek_32 : decode cX3_peek 32 = .ok (.iconst (-1), 1) := by decide +kernel
theorem dX3_peek_33 : decode cX3_peek 33 = .ok (.ireturn, 1) := by decide +kernel
set_option maxRecDepth 20000 in
theorem ggX3_pass_X3_peek : GoodIn wsX3_pass wsX3_peek := goodIn_r _ [6, 1, 7, 8, 15, 16, 17, 18, 19] rfl (by decide +kernel)
set_option maxRecDepth 20000 in
theorem gX3_pass_X3_peek : GoodIn wsX3_pass (wsV RX3 63 RX3 yX3_peek wsX3_peek) := goodIn_app (goodIn_of _ (by decide +kernel)) ggX3_pass_X3_peek
set_option maxRecDepth 20000 in
theorem ggX3_pass_X3_fail : GoodIn wsX3_pass wsX3_fail := goodIn_r _ [12, 13, 1, 14, 15, 16, 17, 18, 19] rfl (by decide +kernel)
set_option maxRecDepth 20000 in
theorem gX3_pass_X3_fail : GoodIn wsX3_pass (wsV RX3 67 RX3 yX3_fail wsX3_fail) := goodIn_app (goodIn_of _ (by decide +kernel)) ggX3_pass_X3_fail
theorem dX3_pass_0 : decode cX3_pass 0 = .ok (.aload_n 0, 1) := by decide +kernel
theorem dX3_pass_1 : decode cX3_pass 1 = .ok (.invokevirtual 63, 3) := by decide +kernel
theorem dX3_pass_4 : decode cX3_pass 4 = .ok (.iload_n 1, 1) := by decide +kernel
theorem dX3_pass_5 : decode cX3_pass 5 = .ok (.if_icmp .eq 9, 3) := by decide +kernel
theorem dX3_pass_8 : decode cX3_pass 8 = .ok (.aload_n 0, 1) := by decide +kernel
theorem dX3_pass_9 : decode cX3_pass 9 = .ok (.iconst 1, 1) := by decide +kernel
theorem dX3_pass_10 : decode cX3_pass 10 = .ok (.invokevirtual 67, 3) := by decide +kernel
theorem dX3_pass_13 : decode cX3_pass 13 = .ok (.ireturn, 1) := by decide +kernel
theorem dX3_pass_14 : decode cX3_pass 14 = .ok (.aload_n 0, 1) := by decide +kernel
theorem dX3_pass_15 : decode cX3_pass 15 = .ok (.dup, 1) := by decide +kernel
theorem dX3_pass_16 : decode cX3_pass 16 = .ok (.getfield 25, 3) := by decide +kernel
theorem dX3_pass_19 : decode cX3_pass 19 = .ok (.iconst 1, 1) := by decide +kernel
theorem dX3_pass_20 : decode cX3_pass 20 = .ok (.iadd, 1) := by decide +kernel
theorem dX3_pass_21 : decode cX3_pass 21 = .ok (.putfield 25, 3) := by decide +kernel
theorem dX3_pass_24 : decode cX3_pass 24 = .ok (.iconst 1, 1) := by decide +kernel
theorem dX3_pass_25 : decode cX3_pass 25 = .ok (.ireturn, 1) := by decide +kernel
set_option maxRecDepth 20000 in
theorem ggX3_number_X3_peek : GoodIn wsX3_number wsX3_peek := goodIn_r _ [6, 1, 7, 8, 18, 19, 20, 21, 22] rfl (by decide +kernel)
set_option maxRecDepth 20000 in
theorem gX3_number_X3_peek : GoodIn wsX3_number (wsV RX3 63 RX3 yX3_peek wsX3_peek) := goodIn_app (goodIn_of _ (by decide +kernel)) ggX3_number_X3_peek
set_option maxRecDepth 20000 in
theorem ggX3_number_X5_within : GoodIn wsX3_number wsX5_within := goodIn_r _ [11] rfl (by decide +kernel)
set_option maxRecDepth 20000 in
theorem gX3_number_X5_within_n102 : GoodIn wsX3_number (wsX5_within) := ggX3_number_X5_within
set_option maxRecDepth 20000 in
theorem ggX3_number_X3_fail : GoodIn wsX3_number wsX3_fail := goodIn_r _ [15, 16, 1, 17, 18, 19, 20, 21, 22] rfl (by decide +kernel)
set_option maxRecDepth 20000 in
theorem gX3_number_X3_fail : GoodIn wsX3_number (wsV RX3 67 RX3 yX3_fail wsX3_fail) := goodIn_app (goodIn_of _ (by decide +kernel)) ggX3_number_X3_fail
theorem dX3_number_0 : decode cX3_number 0 = .ok (.iconst 0, 1) := by decide +kernel
theorem dX3_number_1 : decode cX3_number 1 = .ok (.istore_n 3, 1) := by decide +kernel
theorem dX3_number_2 : decode cX3_number 2 = .ok (.iconst 0, 1) := by decide +kernel
theorem dX3_number_3 : decode cX3_number 3 = .ok (.istore 4, 2) := by decide +kernel
theorem dX3_number_5 : decode cX3_number 5 = .ok (.aload_n 0, 1) := by decide +kernel
theorem dX3_number_6 : decode cX3_number 6 = .ok (.getfield 25, 3) := by decide +kernel
theorem dX3_number_9 : decode cX3_number 9 = .ok (.istore 5, 2) := by decide +kernel
theorem dX3_number_11 : decode cX3_number 11 = .ok (.iload_n 3, 1) := by decide +kernel
theorem dX3_number_12 : decode cX3_number 12 = .ok (.iconst 3, 1) := by decide +kernel
theorem dX3_number_13 : decode cX3_number 13 = .ok (.if_icmp .ge 52, 3) := by decide +kernel
theorem dX3_number_16 : decode cX3_number 16 = .ok (.aload_n 0, 1) := by decide +kernel
theorem dX3_number_17 : decode cX3_number 17 = .ok (.invokevirtual 63, 3) := by decide +kernel
theorem dX3_number_20 : decode cX3_number 20 = .ok (.bipush 48, 2) := by decide +kernel
theorem dX3_number_22 : decode cX3_number 22 = .ok (.if_icmp .lt 43, 3) := by decide +kernel
theorem dX3_number_25 : decode cX3_number 25 = .ok (.aload_n 0, 1) := by decide +kernel
theorem dX3_number_26 : decode cX3_number 26 = .ok (.invokevirtual 63, 3) := by decide +kernel
theorem dX3_number_29 : decode cX3_number 29 = .ok (.bipush 57, 2) := by decide +kernel
theorem dX3_number_31 : decode cX3_number 31 = .ok (.if_icmp .gt 34, 3) := by decide +kernel
theorem dX3_number_34 : decode cX3_number 34 = .ok (.iload 4, 2) := by decide +kernel
theorem dX3_number_36 : decode cX3_number 36 = .ok (.bipush 10, 2) := by decide +kernel
theorem dX3_number_38 : decode cX3_number 38 = .ok (.imul, 1) := by decide +kernel
theorem dX3_number_39 : decode cX3_number 39 = .ok (.aload_n 0, 1) := by decide +kernel
theorem dX3_number_40 : decode cX3_number 40 = .ok (.invokevirtual 63, 3) := by decide +kernel
theorem dX3_number_43 : decode cX3_number 43 = .ok (.iadd, 1) := by decide +kernel
