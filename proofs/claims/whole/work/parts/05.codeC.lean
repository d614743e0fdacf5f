set_option maxRecDepth 20000 in
theorem ggX8_init_X8_at : GoodIn wsX8_init wsX8_at := goodIn_r _ [17] (by decide +kernel) (by decide +kernel)
set_option maxRecDepth 20000 in
theorem gX8_init_X8_at : GoodIn wsX8_init (va_wsS RX8 35 yX8_at wsX8_at) := goodIn_app (goodIn_of _ (by decide +kernel)) ggX8_init_X8_at
theorem dX8_init_0 : decode cX8_init 0 = .ok (.aload_n 0, 1) := by decide +kernel
theorem dX8_init_1 : decode cX8_init 1 = .ok (.invokespecial 1, 3) := by decide +kernel
theorem dX8_init_4 : decode cX8_init 4 = .ok (.aload_n 0, 1) := by decide +kernel
theorem dX8_init_5 : decode cX8_init 5 = .ok (.sipush 133, 3) := by decide +kernel
theorem dX8_init_8 : decode cX8_init 8 = .ok (.newarray .int, 2) := by decide +kernel
theorem dX8_init_10 : decode cX8_init 10 = .ok (.putfield 7, 3) := by decide +kernel
theorem dX8_init_13 : decode cX8_init 13 = .ok (.aload_n 0, 1) := by decide +kernel
theorem dX8_init_14 : decode cX8_init 14 = .ok (.sipush 798, 3) := by decide +kernel
theorem dX8_init_17 : decode cX8_init 17 = .ok (.newarray .int, 2) := by decide +kernel
theorem dX8_init_19 : decode cX8_init 19 = .ok (.putfield 13, 3) := by decide +kernel
theorem dX8_init_22 : decode cX8_init 22 = .ok (.aload_n 0, 1) := by decide +kernel
theorem dX8_init_23 : decode cX8_init 23 = .ok (.sipush 266, 3) := by decide +kernel
theorem dX8_init_26 : decode cX8_init 26 = .ok (.newarray .int, 2) := by decide +kernel
theorem dX8_init_28 : decode cX8_init 28 = .ok (.putfield 16, 3) := by decide +kernel
theorem dX8_init_31 : decode cX8_init 31 = .ok (.aload_n 0, 1) := by decide +kernel
theorem dX8_init_32 : decode cX8_init 32 = .ok (.iconst 2, 1) := by decide +kernel
theorem dX8_init_33 : decode cX8_init 33 = .ok (.newarray .boolean, 2) := by decide +kernel
theorem dX8_init_35 : decode cX8_init 35 = .ok (.putfield 19, 3) := by decide +kernel
theorem dX8_init_38 : decode cX8_init 38 = .ok (.aload_n 0, 1) := by decide +kernel
theorem dX8_init_39 : decode cX8_init 39 = .ok (.bipush 80, 2) := by decide +kernel
theorem dX8_init_41 : decode cX8_init 41 = .ok (.newarray .int, 2) := by decide +kernel
theorem dX8_init_43 : decode cX8_init 43 = .ok (.putfield 23, 3) := by decide +kernel
theorem dX8_init_46 : decode cX8_init 46 = .ok (.aload_n 0, 1) := by decide +kernel
theorem dX8_init_47 : decode cX8_init 47 = .ok (.bipush 20, 2) := by decide +kernel
theorem dX8_init_49 : decode cX8_init 49 = .ok (.newarray .int, 2) := by decide +kernel
theorem dX8_init_51 : decode cX8_init 51 = .ok (.putfield 26, 3) := by decide +kernel
theorem dX8_init_54 : decode cX8_init 54 = .ok (.aload_n 0, 1) := by decide +kernel
theorem dX8_init_55 : decode cX8_init 55 = .ok (.bipush 100, 2) := by decide +kernel
theorem dX8_init_57 : decode cX8_init 57 = .ok (.newarray .int, 2) := by decide +kernel
theorem dX8_init_59 : decode cX8_init 59 = .ok (.putfield 29, 3) := by decide +kernel
theorem dX8_init_62 : decode cX8_init 62 = .ok (.aload_n 0, 1) := by decide +kernel
theorem dX8_init_63 : decode cX8_init 63 = .ok (.sipush 300, 3) := by decide +kernel
theorem dX8_init_66 : decode cX8_init 66 = .ok (.newarray .int, 2) := by decide +kernel
theorem dX8_init_68 : decode cX8_init 68 = .ok (.putfield 32, 3) := by decide +kernel
theorem dX8_init_71 : decode cX8_init 71 = .ok (.aload_n 0, 1) := by decide +kernel
theorem dX8_init_72 : decode cX8_init 72 = .ok (.getfield 7, 3) := by decide +kernel
theorem dX8_init_75 : decode cX8_init 75 = .ok (.iconst 0, 1) := by decide +kernel
theorem dX8_init_76 : decode cX8_init 76 = .ok (.bipush 8, 2) := by decide +kernel
theorem dX8_init_78 : decode cX8_init 78 = .ok (.iastore, 1) := by decide +kernel
theorem dX8_init_79 : decode cX8_init 79 = .ok (.aload_n 0, 1) := by decide +kernel
theorem dX8_init_80 : decode cX8_init 80 = .ok (.getfield 7, 3) := by decide +kernel
theorem dX8_init_83 : decode cX8_init 83 = .ok (.iconst 1, 1) := by decide +kernel
theorem dX8_init_84 : decode cX8_init 84 = .ok (.bipush 20, 2) := by decide +kernel
theorem dX8_init_86 : decode cX8_init 86 = .ok (.iastore, 1) := by decide +kernel
theorem dX8_init_87 : decode cX8_init 87 = .ok (.aload_n 0, 1) := by decide +kernel
theorem dX8_init_88 : decode cX8_init 88 = .ok (.getfield 7, 3) := by decide +kernel
theorem dX8_init_91 : decode cX8_init 91 = .ok (.iconst 2, 1) := by decide +kernel
theorem dX8_init_92 : decode cX8_init 92 = .ok (.bipush 30, 2) := by decide +kernel
theorem dX8_init_94 : decode cX8_init 94 = .ok (.iastore, 1) := by decide +kernel
theorem dX8_init_95 : decode cX8_init 95 = .ok (.aload_n 0, 1) := by decide +kernel
theorem dX8_init_96 : decode cX8_init 96 = .ok (.getfield 7, 3) := by decide +kernel
theorem dX8_init_99 : decode cX8_init 99 = .ok (.iconst 3, 1) := by decide +kernel
theorem dX8_init_100 : decode cX8_init 100 = .ok (.bipush 12, 2) := by decide +kernel
theorem dX8_init_102 : decode cX8_init 102 = .ok (.iastore, 1) := by decide +kernel
theorem dX8_init_103 : decode cX8_init 103 = .ok (.aload_n 0, 1) := by decide +kernel
theorem dX8_init_104 : decode cX8_init 104 = .ok (.getfield 7, 3) := by decide +kernel
theorem dX8_init_107 : decode cX8_init 107 = .ok (.iconst 5, 1) := by decide +kernel
theorem dX8_init_108 : decode cX8_init 108 = .ok (.iconst 1, 1) := by decide +kernel
theorem dX8_init_109 : decode cX8_init 109 = .ok (.iastore, 1) := by decide +kernel
theorem dX8_init_110 : decode cX8_init 110 = .ok (.aload_n 0, 1) := by decide +kernel
theorem dX8_init_111 : decode cX8_init 111 = .ok (.getfield 7, 3) := by decide +kernel
theorem dX8_init_114 : decode cX8_init 114 = .ok (.iconst 0, 1) := by decide +kernel
theorem dX8_init_115 : decode cX8_init 115 = .ok (.iconst 0, 1) := by decide +kernel
theorem dX8_init_116 : decode cX8_init 116 = .ok (.invokestatic 35, 3) := by decide +kernel
theorem dX8_init_119 : decode cX8_init 119 = .ok (.iconst (-1), 1) := by decide +kernel
theorem dX8_init_120 : decode cX8_init 120 = .ok (.iastore, 1) := by decide +kernel
theorem dX8_init_121 : decode cX8_init 121 = .ok (.aload_n 0, 1) := by decide +kernel
theorem dX8_init_122 : decode cX8_init 122 = .ok (.getfield 7, 3) := by decide +kernel
theorem dX8_init_125 : decode cX8_init 125 = .ok (.iconst 0, 1) := by decide +kernel
theorem dX8_init_126 : decode cX8_init 126 = .ok (.iconst 1, 1) := by decide +kernel
theorem dX8_init_127 : decode cX8_init 127 = .ok (.invokestatic 35, 3) := by decide +kernel
theorem dX8_init_130 : decode cX8_init 130 = .ok (.iconst 1, 1) := by decide +kernel
theorem dX8_init_131 : decode cX8_init 131 = .ok (.iastore, 1) := by decide +kernel
theorem dX8_init_132 : decode cX8_init 132 = .ok (.return_, 1) := by decide +kernel
theorem dX8_in_0 : decode cX8_in 0 = .ok (.iload_n 0, 1) := by decide +kernel
theorem dX8_in_1 : decode cX8_in 1 = .ok (.iload_n 1, 1) := by decide +kernel
theorem dX8_in_2 : decode cX8_in 2 = .ok (.if_icmp .lt 12, 3) := by decide +kernel
theorem dX8_in_5 : decode cX8_in 5 = .ok (.iload_n 0, 1) := by decide +kernel
theorem dX8_in_6 : decode cX8_in 6 = .ok (.iload_n 2, 1) := by decide +kernel
theorem dX8_in_7 : decode cX8_in 7 = .ok (.if_icmp .gt 7, 3) := by decide +kernel
theorem dX8_in_10 : decode cX8_in 10 = .ok (.iconst 1, 1) := by decide +kernel
theorem dX8_in_11 : decode cX8_in 11 = .ok (.goto 4, 3) := by decide +kernel
theorem dX8_in_14 : decode cX8_in 14 = .ok (.iconst 0, 1) := by decide +kernel
theorem dX8_in_15 : decode cX8_in 15 = .ok (.ireturn, 1) := by decide +kernel
theorem dX8_less_0 : decode cX8_less 0 = .ok (.iload_n 0, 1) := by decide +kernel
theorem dX8_less_1 : decode cX8_less 1 = .ok (.iload_n 1, 1) := by decide +kernel
theorem dX8_less_2 : decode cX8_less 2 = .ok (.if_icmp .ge 7, 3) := by decide +kernel
theorem dX8_less_5 : decode cX8_less 5 = .ok (.iload_n 0, 1) := by decide +kernel
theorem dX8_less_6 : decode cX8_less 6 = .ok (.goto 4, 3) := by decide +kernel
theorem dX8_less_9 : decode cX8_less 9 = .ok (.iload_n 1, 1) := by decide +kernel
theorem dX8_less_10 : decode cX8_less 10 = .ok (.ireturn, 1) := by decide +kernel
theorem dX8_at_0 : decode cX8_at 0 = .ok (.bipush 33, 2) := by decide +kernel
theorem dX8_at_2 : decode cX8_at 2 = .ok (.iconst 5, 1) := by decide +kernel
theorem dX8_at_3 : decode cX8_at 3 = .ok (.iload_n 0, 1) := by decide +kernel
theorem dX8_at_4 : decode cX8_at 4 = .ok (.imul, 1) := by decide +kernel
theorem dX8_at_5 : decode cX8_at 5 = .ok (.iadd, 1) := by decide +kernel
theorem dX8_at_6 : decode cX8_at 6 = .ok (.iload_n 1, 1) := by decide +kernel
theorem dX8_at_7 : decode cX8_at 7 = .ok (.iadd, 1) := by decide +kernel
theorem dX8_at_8 : decode cX8_at 8 = .ok (.ireturn, 1) := by decide +kernel
set_option maxRecDepth 20000 in
theorem ggX8_its_X8_at : GoodIn wsX8_its wsX8_at := goodIn_r _ [5] (by decide +kernel) (by decide +kernel)
set_option maxRecDepth 20000 in
theorem gX8_its_X8_at : GoodIn wsX8_its (va_wsS RX8 35 yX8_at wsX8_at) := goodIn_app (goodIn_of _ (by decide +kernel)) ggX8_its_X8_at
theorem dX8_its_0 : decode cX8_its 0 = .ok (.aload_n 0, 1) := by decide +kernel
theorem dX8_its_1 : decode cX8_its 1 = .ok (.getfield 7, 3) := by decide +kernel
theorem dX8_its_4 : decode cX8_its 4 = .ok (.iload_n 1, 1) := by decide +kernel
theorem dX8_its_5 : decode cX8_its 5 = .ok (.iload_n 2, 1) := by decide +kernel
theorem dX8_its_6 : decode cX8_its 6 = .ok (.invokestatic 35, 3) := by decide +kernel
theorem dX8_its_9 : decode cX8_its 9 = .ok (.iaload, 1) := by decide +kernel
theorem dX8_its_10 : decode cX8_its 10 = .ok (.ireturn, 1) := by decide +kernel
set_option maxRecDepth 20000 in
theorem ggX8_isStreet_X8_in : GoodIn wsX8_isStreet wsX8_in := goodIn_r _ [5] (by decide +kernel) (by decide +kernel)
set_option maxRecDepth 20000 in
theorem gX8_isStreet_X8_in : GoodIn wsX8_isStreet (va_wsS RX8 39 yX8_in wsX8_in) := goodIn_app (goodIn_of _ (by decide +kernel)) ggX8_isStreet_X8_in
theorem dX8_isStreet_0 : decode cX8_isStreet 0 = .ok (.iload_n 1, 1) := by decide +kernel
theorem dX8_isStreet_1 : decode cX8_isStreet 1 = .ok (.iconst 0, 1) := by decide +kernel
theorem dX8_isStreet_2 : decode cX8_isStreet 2 = .ok (.aload_n 0, 1) := by decide +kernel
theorem dX8_isStreet_3 : decode cX8_isStreet 3 = .ok (.getfield 7, 3) := by decide +kernel
theorem dX8_isStreet_6 : decode cX8_isStreet 6 = .ok (.iconst 5, 1) := by decide +kernel
theorem dX8_isStreet_7 : decode cX8_isStreet 7 = .ok (.iaload, 1) := by decide +kernel
theorem dX8_isStreet_8 : decode cX8_isStreet 8 = .ok (.iconst 1, 1) := by decide +kernel
theorem dX8_isStreet_9 : decode cX8_isStreet 9 = .ok (.isub, 1) := by decide +kernel
theorem dX8_isStreet_10 : decode cX8_isStreet 10 = .ok (.invokestatic 39, 3) := by decide +kernel
theorem dX8_isStreet_13 : decode cX8_isStreet 13 = .ok (.ireturn, 1) := by decide +kernel
theorem dX8_remembers_0 : decode cX8_remembers 0 = .ok (.aload_n 0, 1) := by decide +kernel
theorem dX8_remembers_1 : decode cX8_remembers 1 = .ok (.getfield 43, 3) := by decide +kernel
theorem dX8_remembers_4 : decode cX8_remembers 4 = .ok (.bipush 6, 2) := by decide +kernel
theorem dX8_remembers_6 : decode cX8_remembers 6 = .ok (.if_icmp .ne 44, 3) := by decide +kernel
theorem dX8_remembers_9 : decode cX8_remembers 9 = .ok (.iconst 0, 1) := by decide +kernel
theorem dX8_remembers_10 : decode cX8_remembers 10 = .ok (.istore_n 1, 1) := by decide +kernel
theorem dX8_remembers_11 : decode cX8_remembers 11 = .ok (.iload_n 1, 1) := by decide +kernel
theorem dX8_remembers_12 : decode cX8_remembers 12 = .ok (.sipush 665, 3) := by decide +kernel
theorem dX8_remembers_15 : decode cX8_remembers 15 = .ok (.if_icmp .ge 25, 3) := by decide +kernel
theorem dX8_remembers_18 : decode cX8_remembers 18 = .ok (.aload_n 0, 1) := by decide +kernel
theorem dX8_remembers_19 : decode cX8_remembers 19 = .ok (.getfield 13, 3) := by decide +kernel
theorem dX8_remembers_22 : decode cX8_remembers 22 = .ok (.iload_n 1, 1) := by decide +kernel
theorem dX8_remembers_23 : decode cX8_remembers 23 = .ok (.aload_n 0, 1) := by decide +kernel
theorem dX8_remembers_24 : decode cX8_remembers 24 = .ok (.getfield 13, 3) := by decide +kernel
theorem dX8_remembers_27 : decode cX8_remembers 27 = .ok (.sipush 133, 3) := by decide +kernel
theorem dX8_remembers_30 : decode cX8_remembers 30 = .ok (.iload_n 1, 1) := by decide +kernel
theorem dX8_remembers_31 : decode cX8_remembers 31 = .ok (.iadd, 1) := by decide +kernel
theorem dX8_remembers_32 : decode cX8_remembers 32 = .ok (.iaload, 1) := by decide +kernel
theorem dX8_remembers_33 : decode cX8_remembers 33 = .ok (.iastore, 1) := by decide +kernel
theorem dX8_remembers_34 : decode cX8_remembers 34 = .ok (.iinc 1 1, 3) := by decide +kernel
theorem dX8_remembers_37 : decode cX8_remembers 37 = .ok (.goto (-26), 3) := by decide +kernel
theorem dX8_remembers_40 : decode cX8_remembers 40 = .ok (.aload_n 0, 1) := by decide +kernel
theorem dX8_remembers_41 : decode cX8_remembers 41 = .ok (.dup, 1) := by decide +kernel
theorem dX8_remembers_42 : decode cX8_remembers 42 = .ok (.getfield 43, 3) := by decide +kernel
theorem dX8_remembers_45 : decode cX8_remembers 45 = .ok (.iconst 1, 1) := by decide +kernel
theorem dX8_remembers_46 : decode cX8_remembers 46 = .ok (.isub, 1) := by decide +kernel
theorem dX8_remembers_47 : decode cX8_remembers 47 = .ok (.putfield 43, 3) := by decide +kernel
theorem dX8_remembers_50 : decode cX8_remembers 50 = .ok (.iconst 0, 1) := by decide +kernel
theorem dX8_remembers_51 : decode cX8_remembers 51 = .ok (.istore_n 1, 1) := by decide +kernel
theorem dX8_remembers_52 : decode cX8_remembers 52 = .ok (.iload_n 1, 1) := by decide +kernel
theorem dX8_remembers_53 : decode cX8_remembers 53 = .ok (.sipush 133, 3) := by decide +kernel
theorem dX8_remembers_56 : decode cX8_remembers 56 = .ok (.if_icmp .ge 30, 3) := by decide +kernel
theorem dX8_remembers_59 : decode cX8_remembers 59 = .ok (.aload_n 0, 1) := by decide +kernel
theorem dX8_remembers_60 : decode cX8_remembers 60 = .ok (.getfield 13, 3) := by decide +kernel
theorem dX8_remembers_63 : decode cX8_remembers 63 = .ok (.sipush 133, 3) := by decide +kernel
theorem dX8_remembers_66 : decode cX8_remembers 66 = .ok (.aload_n 0, 1) := by decide +kernel
theorem dX8_remembers_67 : decode cX8_remembers 67 = .ok (.getfield 43, 3) := by decide +kernel
theorem dX8_remembers_70 : decode cX8_remembers 70 = .ok (.imul, 1) := by decide +kernel
theorem dX8_remembers_71 : decode cX8_remembers 71 = .ok (.iload_n 1, 1) := by decide +kernel
theorem dX8_remembers_72 : decode cX8_remembers 72 = .ok (.iadd, 1) := by decide +kernel
theorem dX8_remembers_73 : decode cX8_remembers 73 = .ok (.aload_n 0, 1) := by decide +kernel
theorem dX8_remembers_74 : decode cX8_remembers 74 = .ok (.getfield 7, 3) := by decide +kernel
theorem dX8_remembers_77 : decode cX8_remembers 77 = .ok (.iload_n 1, 1) := by decide +kernel
theorem dX8_remembers_78 : decode cX8_remembers 78 = .ok (.iaload, 1) := by decide +kernel
theorem dX8_remembers_79 : decode cX8_remembers 79 = .ok (.iastore, 1) := by decide +kernel
theorem dX8_remembers_80 : decode cX8_remembers 80 = .ok (.iinc 1 1, 3) := by decide +kernel
theorem dX8_remembers_83 : decode cX8_remembers 83 = .ok (.goto (-31), 3) := by decide +kernel
theorem dX8_remembers_86 : decode cX8_remembers 86 = .ok (.aload_n 0, 1) := by decide +kernel
theorem dX8_remembers_87 : decode cX8_remembers 87 = .ok (.dup, 1) := by decide +kernel
theorem dX8_remembers_88 : decode cX8_remembers 88 = .ok (.getfield 43, 3) := by decide +kernel
theorem dX8_remembers_91 : decode cX8_remembers 91 = .ok (.iconst 1, 1) := by decide +kernel
theorem dX8_remembers_92 : decode cX8_remembers 92 = .ok (.iadd, 1) := by decide +kernel
theorem dX8_remembers_93 : decode cX8_remembers 93 = .ok (.putfield 43, 3) := by decide +kernel
theorem dX8_remembers_96 : decode cX8_remembers 96 = .ok (.return_, 1) := by decide +kernel
set_option maxRecDepth 20000 in
theorem ggX8_parted_X8_its : GoodIn wsX8_parted wsX8_its := goodIn_r _ [7, 1, 8, 9, 6, 10, 14, 15, 16, 17, 18, 19, 20, 21, 22, 23, 24, 25, 26, 27] (by decide +kernel) (by decide +kernel)
set_option maxRecDepth 20000 in
theorem gX8_parted_X8_its : GoodIn wsX8_parted (wsV RX8 47 RX8 yX8_its wsX8_its) := goodIn_app (goodIn_of _ (by decide +kernel)) ggX8_parted_X8_its
set_option maxRecDepth 20000 in
theorem ggX8_parted_X8_less : GoodIn wsX8_parted wsX8_less := goodIn_r _ [13] (by decide +kernel) (by decide +kernel)
set_option maxRecDepth 20000 in
theorem gX8_parted_X8_less : GoodIn wsX8_parted (va_wsS RX8 50 yX8_less wsX8_less) := goodIn_app (goodIn_of _ (by decide +kernel)) ggX8_parted_X8_less
theorem dX8_parted_0 : decode cX8_parted 0 = .ok (.aload_n 0, 1) := by decide +kernel
theorem dX8_parted_1 : decode cX8_parted 1 = .ok (.iload_n 1, 1) := by decide +kernel
theorem dX8_parted_2 : decode cX8_parted 2 = .ok (.iconst 0, 1) := by decide +kernel
theorem dX8_parted_3 : decode cX8_parted 3 = .ok (.invokevirtual 47, 3) := by decide +kernel
theorem dX8_parted_6 : decode cX8_parted 6 = .ok (.istore_n 3, 1) := by decide +kernel
theorem dX8_parted_7 : decode cX8_parted 7 = .ok (.aload_n 0, 1) := by decide +kernel
theorem dX8_parted_8 : decode cX8_parted 8 = .ok (.iload_n 1, 1) := by decide +kernel
theorem dX8_parted_9 : decode cX8_parted 9 = .ok (.iconst 1, 1) := by decide +kernel
theorem dX8_parted_10 : decode cX8_parted 10 = .ok (.invokevirtual 47, 3) := by decide +kernel
theorem dX8_parted_13 : decode cX8_parted 13 = .ok (.istore 4, 2) := by decide +kernel
theorem dX8_parted_15 : decode cX8_parted 15 = .ok (.iconst 0, 1) := by decide +kernel
theorem dX8_parted_16 : decode cX8_parted 16 = .ok (.istore 5, 2) := by decide +kernel
theorem dX8_parted_18 : decode cX8_parted 18 = .ok (.iconst 0, 1) := by decide +kernel
theorem dX8_parted_19 : decode cX8_parted 19 = .ok (.istore 6, 2) := by decide +kernel
theorem dX8_parted_21 : decode cX8_parted 21 = .ok (.iconst 1, 1) := by decide +kernel
theorem dX8_parted_22 : decode cX8_parted 22 = .ok (.istore 7, 2) := by decide +kernel
theorem dX8_parted_24 : decode cX8_parted 24 = .ok (.iload 7, 2) := by decide +kernel
theorem dX8_parted_26 : decode cX8_parted 26 = .ok (.aload_n 0, 1) := by decide +kernel
theorem dX8_parted_27 : decode cX8_parted 27 = .ok (.getfield 7, 3) := by decide +kernel
theorem dX8_parted_30 : decode cX8_parted 30 = .ok (.iconst 5, 1) := by decide +kernel
theorem dX8_parted_31 : decode cX8_parted 31 = .ok (.iaload, 1) := by decide +kernel
theorem dX8_parted_32 : decode cX8_parted 32 = .ok (.if_icmp .ge 60, 3) := by decide +kernel
theorem dX8_parted_35 : decode cX8_parted 35 = .ok (.aload_n 0, 1) := by decide +kernel
theorem dX8_parted_36 : decode cX8_parted 36 = .ok (.iload 7, 2) := by decide +kernel
theorem dX8_parted_38 : decode cX8_parted 38 = .ok (.iconst 0, 1) := by decide +kernel
theorem dX8_parted_39 : decode cX8_parted 39 = .ok (.invokevirtual 47, 3) := by decide +kernel
theorem dX8_parted_42 : decode cX8_parted 42 = .ok (.iload_n 3, 1) := by decide +kernel
theorem dX8_parted_43 : decode cX8_parted 43 = .ok (.if_icmp .ne 43, 3) := by decide +kernel
theorem dX8_parted_46 : decode cX8_parted 46 = .ok (.iload 7, 2) := by decide +kernel
theorem dX8_parted_48 : decode cX8_parted 48 = .ok (.iload_n 2, 1) := by decide +kernel
theorem dX8_parted_49 : decode cX8_parted 49 = .ok (.if_icmp .eq 37, 3) := by decide +kernel
theorem dX8_parted_52 : decode cX8_parted 52 = .ok (.iload 5, 2) := by decide +kernel
theorem dX8_parted_54 : decode cX8_parted 54 = .ok (.aload_n 0, 1) := by decide +kernel
theorem dX8_parted_55 : decode cX8_parted 55 = .ok (.iload 7, 2) := by decide +kernel
theorem dX8_parted_57 : decode cX8_parted 57 = .ok (.iconst 1, 1) := by decide +kernel
theorem dX8_parted_58 : decode cX8_parted 58 = .ok (.invokevirtual 47, 3) := by decide +kernel
theorem dX8_parted_61 : decode cX8_parted 61 = .ok (.iadd, 1) := by decide +kernel
theorem dX8_parted_62 : decode cX8_parted 62 = .ok (.istore 5, 2) := by decide +kernel
theorem dX8_parted_64 : decode cX8_parted 64 = .ok (.iload 6, 2) := by decide +kernel
theorem dX8_parted_66 : decode cX8_parted 66 = .ok (.aload_n 0, 1) := by decide +kernel
theorem dX8_parted_67 : decode cX8_parted 67 = .ok (.iload 7, 2) := by decide +kernel
theorem dX8_parted_69 : decode cX8_parted 69 = .ok (.iconst 1, 1) := by decide +kernel
theorem dX8_parted_70 : decode cX8_parted 70 = .ok (.invokevirtual 47, 3) := by decide +kernel
theorem dX8_parted_73 : decode cX8_parted 73 = .ok (.iload 4, 2) := by decide +kernel
theorem dX8_parted_75 : decode cX8_parted 75 = .ok (.if_icmp .ge 7, 3) := by decide +kernel
theorem dX8_parted_78 : decode cX8_parted 78 = .ok (.iconst 5, 1) := by decide +kernel
theorem dX8_parted_79 : decode cX8_parted 79 = .ok (.goto 4, 3) := by decide +kernel
theorem dX8_parted_82 : decode cX8_parted 82 = .ok (.iconst 0, 1) := by decide +kernel
theorem dX8_parted_83 : decode cX8_parted 83 = .ok (.iadd, 1) := by decide +kernel
theorem dX8_parted_84 : decode cX8_parted 84 = .ok (.istore 6, 2) := by decide +kernel
theorem dX8_parted_86 : decode cX8_parted 86 = .ok (.iinc 7 1, 3) := by decide +kernel
theorem dX8_parted_89 : decode cX8_parted 89 = .ok (.goto (-65), 3) := by decide +kernel
theorem dX8_parted_92 : decode cX8_parted 92 = .ok (.aload_n 0, 1) := by decide +kernel
theorem dX8_parted_93 : decode cX8_parted 93 = .ok (.getfield 26, 3) := by decide +kernel
theorem dX8_parted_96 : decode cX8_parted 96 = .ok (.iload_n 3, 1) := by decide +kernel
theorem dX8_parted_97 : decode cX8_parted 97 = .ok (.iaload, 1) := by decide +kernel
theorem dX8_parted_98 : decode cX8_parted 98 = .ok (.iload 4, 2) := by decide +kernel
theorem dX8_parted_100 : decode cX8_parted 100 = .ok (.imul, 1) := by decide +kernel
theorem dX8_parted_101 : decode cX8_parted 101 = .ok (.iload 5, 2) := by decide +kernel
theorem dX8_parted_103 : decode cX8_parted 103 = .ok (.idiv, 1) := by decide +kernel
theorem dX8_parted_104 : decode cX8_parted 104 = .ok (.iload 6, 2) := by decide +kernel
theorem dX8_parted_106 : decode cX8_parted 106 = .ok (.iadd, 1) := by decide +kernel
theorem dX8_parted_107 : decode cX8_parted 107 = .ok (.aload_n 0, 1) := by decide +kernel
theorem dX8_parted_108 : decode cX8_parted 108 = .ok (.getfield 26, 3) := by decide +kernel
theorem dX8_parted_111 : decode cX8_parted 111 = .ok (.iload_n 3, 1) := by decide +kernel
theorem dX8_parted_112 : decode cX8_parted 112 = .ok (.iaload, 1) := by decide +kernel
theorem dX8_parted_113 : decode cX8_parted 113 = .ok (.invokestatic 50, 3) := by decide +kernel
theorem dX8_parted_116 : decode cX8_parted 116 = .ok (.ireturn, 1) := by decide +kernel
set_option maxRecDepth 20000 in
theorem ggX8_blows_X8_parted : GoodIn wsX8_blows wsX8_parted := goodIn_r _ [7, 2, 1, 8, 9, 10, 6, 11, 12, 13, 14, 15, 16, 17, 18, 19, 20, 21, 22, 23, 24, 25, 26, 27, 28, 29, 30, 31] (by decide +kernel) (by decide +kernel)
set_option maxRecDepth 20000 in
theorem gX8_blows_X8_parted : GoodIn wsX8_blows (wsV RX8 53 RX8 yX8_parted wsX8_parted) := goodIn_app (goodIn_of _ (by decide +kernel)) ggX8_blows_X8_parted
theorem dX8_blows_0 : decode cX8_blows 0 = .ok (.aload_n 0, 1) := by decide +kernel
theorem dX8_blows_1 : decode cX8_blows 1 = .ok (.getfield 26, 3) := by decide +kernel
theorem dX8_blows_4 : decode cX8_blows 4 = .ok (.iconst 0, 1) := by decide +kernel
theorem dX8_blows_5 : decode cX8_blows 5 = .ok (.iload_n 1, 1) := by decide +kernel
theorem dX8_blows_6 : decode cX8_blows 6 = .ok (.iastore, 1) := by decide +kernel
theorem dX8_blows_7 : decode cX8_blows 7 = .ok (.iconst 1, 1) := by decide +kernel
theorem dX8_blows_8 : decode cX8_blows 8 = .ok (.istore_n 2, 1) := by decide +kernel
theorem dX8_blows_9 : decode cX8_blows 9 = .ok (.iload_n 2, 1) := by decide +kernel
theorem dX8_blows_10 : decode cX8_blows 10 = .ok (.aload_n 0, 1) := by decide +kernel
theorem dX8_blows_11 : decode cX8_blows 11 = .ok (.getfield 7, 3) := by decide +kernel
theorem dX8_blows_14 : decode cX8_blows 14 = .ok (.iconst 5, 1) := by decide +kernel
theorem dX8_blows_15 : decode cX8_blows 15 = .ok (.iaload, 1) := by decide +kernel
theorem dX8_blows_16 : decode cX8_blows 16 = .ok (.if_icmp .ge 22, 3) := by decide +kernel
theorem dX8_blows_19 : decode cX8_blows 19 = .ok (.aload_n 0, 1) := by decide +kernel
theorem dX8_blows_20 : decode cX8_blows 20 = .ok (.getfield 26, 3) := by decide +kernel
theorem dX8_blows_23 : decode cX8_blows 23 = .ok (.iload_n 2, 1) := by decide +kernel
theorem dX8_blows_24 : decode cX8_blows 24 = .ok (.aload_n 0, 1) := by decide +kernel
theorem dX8_blows_25 : decode cX8_blows 25 = .ok (.iload_n 2, 1) := by decide +kernel
theorem dX8_blows_26 : decode cX8_blows 26 = .ok (.bipush (-6), 2) := by decide +kernel
theorem dX8_blows_28 : decode cX8_blows 28 = .ok (.invokevirtual 53, 3) := by decide +kernel
theorem dX8_blows_31 : decode cX8_blows 31 = .ok (.iastore, 1) := by decide +kernel
theorem dX8_blows_32 : decode cX8_blows 32 = .ok (.iinc 2 1, 3) := by decide +kernel
theorem dX8_blows_35 : decode cX8_blows 35 = .ok (.goto (-26), 3) := by decide +kernel
theorem dX8_blows_38 : decode cX8_blows 38 = .ok (.return_, 1) := by decide +kernel
theorem dX8_gustOf_0 : decode cX8_gustOf 0 = .ok (.aload_n 0, 1) := by decide +kernel
theorem dX8_gustOf_1 : decode cX8_gustOf 1 = .ok (.getfield 26, 3) := by decide +kernel
theorem dX8_gustOf_4 : decode cX8_gustOf 4 = .ok (.iload_n 1, 1) := by decide +kernel
theorem dX8_gustOf_5 : decode cX8_gustOf 5 = .ok (.iaload, 1) := by decide +kernel
theorem dX8_gustOf_6 : decode cX8_gustOf 6 = .ok (.aload_n 0, 1) := by decide +kernel
theorem dX8_gustOf_7 : decode cX8_gustOf 7 = .ok (.getfield 26, 3) := by decide +kernel
theorem dX8_gustOf_10 : decode cX8_gustOf 10 = .ok (.iload_n 1, 1) := by decide +kernel
theorem dX8_gustOf_11 : decode cX8_gustOf 11 = .ok (.iaload, 1) := by decide +kernel
theorem dX8_gustOf_12 : decode cX8_gustOf 12 = .ok (.aload_n 0, 1) := by decide +kernel
theorem dX8_gustOf_13 : decode cX8_gustOf 13 = .ok (.getfield 7, 3) := by decide +kernel
theorem dX8_gustOf_16 : decode cX8_gustOf 16 = .ok (.iconst 2, 1) := by decide +kernel
theorem dX8_gustOf_17 : decode cX8_gustOf 17 = .ok (.iaload, 1) := by decide +kernel
theorem dX8_gustOf_18 : decode cX8_gustOf 18 = .ok (.imul, 1) := by decide +kernel
theorem dX8_gustOf_19 : decode cX8_gustOf 19 = .ok (.bipush 100, 2) := by decide +kernel
theorem dX8_gustOf_21 : decode cX8_gustOf 21 = .ok (.idiv, 1) := by decide +kernel
theorem dX8_gustOf_22 : decode cX8_gustOf 22 = .ok (.iadd, 1) := by decide +kernel
theorem dX8_gustOf_23 : decode cX8_gustOf 23 = .ok (.ireturn, 1) := by decide +kernel
set_option maxRecDepth 20000 in
theorem ggX8_hatsOf_X8_gustOf : GoodIn wsX8_hatsOf wsX8_gustOf := goodIn_r _ [6, 7, 1, 18, 19, 20, 21, 22, 23, 24, 25, 26, 27, 28, 29, 30, 31] (by decide +kernel) (by decide +kernel)
set_option maxRecDepth 20000 in
theorem gX8_hatsOf_X8_gustOf : GoodIn wsX8_hatsOf (wsV RX8 56 RX8 yX8_gustOf wsX8_gustOf) := goodIn_app (goodIn_of _ (by decide +kernel)) ggX8_hatsOf_X8_gustOf
set_option maxRecDepth 20000 in
theorem ggX8_hatsOf_X8_its : GoodIn wsX8_hatsOf wsX8_its := goodIn_r _ [11, 1, 12, 13, 5, 14, 18, 19, 20, 21, 22, 23, 24, 25, 26, 27, 28, 29, 30, 31] (by decide +kernel) (by decide +kernel)
set_option maxRecDepth 20000 in
theorem gX8_hatsOf_X8_its : GoodIn wsX8_hatsOf (wsV RX8 47 RX8 yX8_its wsX8_its) := goodIn_app (goodIn_of _ (by decide +kernel)) ggX8_hatsOf_X8_its
set_option maxRecDepth 20000 in
theorem ggX8_hatsOf_X8_less : GoodIn wsX8_hatsOf wsX8_less := goodIn_r _ [17] (by decide +kernel) (by decide +kernel)
set_option maxRecDepth 20000 in
theorem gX8_hatsOf_X8_less : GoodIn wsX8_hatsOf (va_wsS RX8 50 yX8_less wsX8_less) := goodIn_app (goodIn_of _ (by decide +kernel)) ggX8_hatsOf_X8_less
theorem dX8_hatsOf_0 : decode cX8_hatsOf 0 = .ok (.aload_n 0, 1) := by decide +kernel
theorem dX8_hatsOf_1 : decode cX8_hatsOf 1 = .ok (.iload_n 1, 1) := by decide +kernel
theorem dX8_hatsOf_2 : decode cX8_hatsOf 2 = .ok (.invokevirtual 56, 3) := by decide +kernel
theorem dX8_hatsOf_5 : decode cX8_hatsOf 5 = .ok (.aload_n 0, 1) := by decide +kernel
theorem dX8_hatsOf_6 : decode cX8_hatsOf 6 = .ok (.getfield 7, 3) := by decide +kernel
theorem dX8_hatsOf_9 : decode cX8_hatsOf 9 = .ok (.iconst 1, 1) := by decide +kernel
theorem dX8_hatsOf_10 : decode cX8_hatsOf 10 = .ok (.iaload, 1) := by decide +kernel
theorem dX8_hatsOf_11 : decode cX8_hatsOf 11 = .ok (.isub, 1) := by decide +kernel
theorem dX8_hatsOf_12 : decode cX8_hatsOf 12 = .ok (.istore_n 2, 1) := by decide +kernel
theorem dX8_hatsOf_13 : decode cX8_hatsOf 13 = .ok (.iload_n 2, 1) := by decide +kernel
theorem dX8_hatsOf_14 : decode cX8_hatsOf 14 = .ok (.ifCond .le 20, 3) := by decide +kernel
theorem dX8_hatsOf_17 : decode cX8_hatsOf 17 = .ok (.iload_n 2, 1) := by decide +kernel
theorem dX8_hatsOf_18 : decode cX8_hatsOf 18 = .ok (.iconst 4, 1) := by decide +kernel
theorem dX8_hatsOf_19 : decode cX8_hatsOf 19 = .ok (.idiv, 1) := by decide +kernel
theorem dX8_hatsOf_20 : decode cX8_hatsOf 20 = .ok (.iconst 1, 1) := by decide +kernel
theorem dX8_hatsOf_21 : decode cX8_hatsOf 21 = .ok (.iadd, 1) := by decide +kernel
theorem dX8_hatsOf_22 : decode cX8_hatsOf 22 = .ok (.aload_n 0, 1) := by decide +kernel
theorem dX8_hatsOf_23 : decode cX8_hatsOf 23 = .ok (.iload_n 1, 1) := by decide +kernel
theorem dX8_hatsOf_24 : decode cX8_hatsOf 24 = .ok (.iconst 4, 1) := by decide +kernel
theorem dX8_hatsOf_25 : decode cX8_hatsOf 25 = .ok (.invokevirtual 47, 3) := by decide +kernel
theorem dX8_hatsOf_28 : decode cX8_hatsOf 28 = .ok (.invokestatic 50, 3) := by decide +kernel
theorem dX8_hatsOf_31 : decode cX8_hatsOf 31 = .ok (.goto 4, 3) := by decide +kernel
theorem dX8_hatsOf_34 : decode cX8_hatsOf 34 = .ok (.iconst 0, 1) := by decide +kernel
theorem dX8_hatsOf_35 : decode cX8_hatsOf 35 = .ok (.ireturn, 1) := by decide +kernel
set_option maxRecDepth 20000 in
theorem ggX8_hatsBy_X8_blows : GoodIn wsX8_hatsBy wsX8_blows := goodIn_r _ [6, 7, 1, 8, 9, 10, 5, 11, 12, 13, 14, 15, 16, 17, 18, 19, 20, 21, 30, 31, 32, 33, 34, 35, 36, 37, 38, 39, 40, 41, 42, 43] (by decide +kernel) (by decide +kernel)
set_option maxRecDepth 20000 in
theorem gX8_hatsBy_X8_blows : GoodIn wsX8_hatsBy (wsV RX8 60 RX8 yX8_blows wsX8_blows) := goodIn_app (goodIn_of _ (by decide +kernel)) ggX8_hatsBy_X8_blows
set_option maxRecDepth 20000 in
theorem ggX8_hatsBy_X8_hatsOf : GoodIn wsX8_hatsBy wsX8_hatsOf := goodIn_r _ [25, 1, 26, 27, 28, 5, 29, 7, 12, 13, 14, 15, 16, 17, 18, 19, 20, 21, 30, 31, 32, 33, 34, 35, 36, 37, 38, 39, 40, 41, 42, 43] (by decide +kernel) (by decide +kernel)
set_option maxRecDepth 20000 in
theorem gX8_hatsBy_X8_hatsOf : GoodIn wsX8_hatsBy (wsV RX8 64 RX8 yX8_hatsOf wsX8_hatsOf) := goodIn_app (goodIn_of _ (by decide +kernel)) ggX8_hatsBy_X8_hatsOf
theorem dX8_hatsBy_0 : decode cX8_hatsBy 0 = .ok (.aload_n 0, 1) := by decide +kernel
theorem dX8_hatsBy_1 : decode cX8_hatsBy 1 = .ok (.iload_n 1, 1) := by decide +kernel
theorem dX8_hatsBy_2 : decode cX8_hatsBy 2 = .ok (.invokevirtual 60, 3) := by decide +kernel
theorem dX8_hatsBy_5 : decode cX8_hatsBy 5 = .ok (.iconst 0, 1) := by decide +kernel
theorem dX8_hatsBy_6 : decode cX8_hatsBy 6 = .ok (.istore_n 2, 1) := by decide +kernel
theorem dX8_hatsBy_7 : decode cX8_hatsBy 7 = .ok (.iconst 0, 1) := by decide +kernel
theorem dX8_hatsBy_8 : decode cX8_hatsBy 8 = .ok (.istore_n 3, 1) := by decide +kernel
theorem dX8_hatsBy_9 : decode cX8_hatsBy 9 = .ok (.iload_n 3, 1) := by decide +kernel
theorem dX8_hatsBy_10 : decode cX8_hatsBy 10 = .ok (.aload_n 0, 1) := by decide +kernel
theorem dX8_hatsBy_11 : decode cX8_hatsBy 11 = .ok (.getfield 7, 3) := by decide +kernel
theorem dX8_hatsBy_14 : decode cX8_hatsBy 14 = .ok (.iconst 5, 1) := by decide +kernel
theorem dX8_hatsBy_15 : decode cX8_hatsBy 15 = .ok (.iaload, 1) := by decide +kernel
theorem dX8_hatsBy_16 : decode cX8_hatsBy 16 = .ok (.if_icmp .ge 17, 3) := by decide +kernel
theorem dX8_hatsBy_19 : decode cX8_hatsBy 19 = .ok (.iload_n 2, 1) := by decide +kernel
theorem dX8_hatsBy_20 : decode cX8_hatsBy 20 = .ok (.aload_n 0, 1) := by decide +kernel
theorem dX8_hatsBy_21 : decode cX8_hatsBy 21 = .ok (.iload_n 3, 1) := by decide +kernel
theorem dX8_hatsBy_22 : decode cX8_hatsBy 22 = .ok (.invokevirtual 64, 3) := by decide +kernel
theorem dX8_hatsBy_25 : decode cX8_hatsBy 25 = .ok (.iadd, 1) := by decide +kernel
theorem dX8_hatsBy_26 : decode cX8_hatsBy 26 = .ok (.istore_n 2, 1) := by decide +kernel
theorem dX8_hatsBy_27 : decode cX8_hatsBy 27 = .ok (.iinc 3 1, 3) := by decide +kernel
theorem dX8_hatsBy_30 : decode cX8_hatsBy 30 = .ok (.goto (-21), 3) := by decide +kernel
theorem dX8_hatsBy_33 : decode cX8_hatsBy 33 = .ok (.iload_n 2, 1) := by decide +kernel
theorem dX8_hatsBy_34 : decode cX8_hatsBy 34 = .ok (.ireturn, 1) := by decide +kernel
set_option maxRecDepth 20000 in
theorem ggX8_stepsOf_X8_its : GoodIn wsX8_stepsOf wsX8_its := goodIn_r _ [7, 2, 8, 9, 6, 10, 14, 15, 16, 17, 18, 19, 20, 21, 22, 23, 24, 25, 26, 27] (by decide +kernel) (by decide +kernel)
set_option maxRecDepth 20000 in
theorem gX8_stepsOf_X8_its : GoodIn wsX8_stepsOf (wsV RX8 47 RX8 yX8_its wsX8_its) := goodIn_app (goodIn_of _ (by decide +kernel)) ggX8_stepsOf_X8_its
set_option maxRecDepth 20000 in
theorem ggX8_stepsOf_X8_less : GoodIn wsX8_stepsOf wsX8_less := goodIn_r _ [13] (by decide +kernel) (by decide +kernel)
set_option maxRecDepth 20000 in
theorem gX8_stepsOf_X8_less : GoodIn wsX8_stepsOf (va_wsS RX8 50 yX8_less wsX8_less) := goodIn_app (goodIn_of _ (by decide +kernel)) ggX8_stepsOf_X8_less
theorem dX8_stepsOf_0 : decode cX8_stepsOf 0 = .ok (.aload_n 0, 1) := by decide +kernel
theorem dX8_stepsOf_1 : decode cX8_stepsOf 1 = .ok (.getfield 26, 3) := by decide +kernel
theorem dX8_stepsOf_4 : decode cX8_stepsOf 4 = .ok (.iload_n 1, 1) := by decide +kernel
theorem dX8_stepsOf_5 : decode cX8_stepsOf 5 = .ok (.iaload, 1) := by decide +kernel
theorem dX8_stepsOf_6 : decode cX8_stepsOf 6 = .ok (.aload_n 0, 1) := by decide +kernel
theorem dX8_stepsOf_7 : decode cX8_stepsOf 7 = .ok (.getfield 7, 3) := by decide +kernel
theorem dX8_stepsOf_10 : decode cX8_stepsOf 10 = .ok (.iconst 0, 1) := by decide +kernel
theorem dX8_stepsOf_11 : decode cX8_stepsOf 11 = .ok (.iaload, 1) := by decide +kernel
theorem dX8_stepsOf_12 : decode cX8_stepsOf 12 = .ok (.aload_n 0, 1) := by decide +kernel
theorem dX8_stepsOf_13 : decode cX8_stepsOf 13 = .ok (.iload_n 1, 1) := by decide +kernel
theorem dX8_stepsOf_14 : decode cX8_stepsOf 14 = .ok (.iconst 2, 1) := by decide +kernel
theorem dX8_stepsOf_15 : decode cX8_stepsOf 15 = .ok (.invokevirtual 47, 3) := by decide +kernel
theorem dX8_stepsOf_18 : decode cX8_stepsOf 18 = .ok (.imul, 1) := by decide +kernel
theorem dX8_stepsOf_19 : decode cX8_stepsOf 19 = .ok (.idiv, 1) := by decide +kernel
theorem dX8_stepsOf_20 : decode cX8_stepsOf 20 = .ok (.bipush 12, 2) := by decide +kernel
theorem dX8_stepsOf_22 : decode cX8_stepsOf 22 = .ok (.invokestatic 50, 3) := by decide +kernel
theorem dX8_stepsOf_25 : decode cX8_stepsOf 25 = .ok (.ireturn, 1) := by decide +kernel
set_option maxRecDepth 20000 in
theorem ggX8_anHour_X8_hatsBy : GoodIn wsX8_anHour wsX8_hatsBy := goodIn_r _ [6, 1, 7, 8, 9, 5, 10, 11, 12, 13, 14, 15, 16, 17, 18, 19, 20, 21, 22, 23, 24, 25, 26, 27, 28, 29, 30, 31, 32, 33, 34, 35, 36, 37, 38, 39, 40, 41, 42, 43, 44, 45, 46, 47] (by decide +kernel) (by decide +kernel)
set_option maxRecDepth 20000 in
theorem gX8_anHour_X8_hatsBy : GoodIn wsX8_anHour (wsV RX8 67 RX8 yX8_hatsBy wsX8_hatsBy) := goodIn_app (goodIn_of _ (by decide +kernel)) ggX8_anHour_X8_hatsBy
set_option maxRecDepth 20000 in
theorem ggX8_anHour_X8_hatsOf : GoodIn wsX8_anHour wsX8_hatsOf := goodIn_r _ [29, 1, 30, 31, 32, 5, 33, 11, 16, 17, 18, 19, 20, 21, 22, 23, 24, 25, 34, 35, 36, 37, 38, 39, 40, 41, 42, 43, 44, 45, 46, 47] (by decide +kernel) (by decide +kernel)
set_option maxRecDepth 20000 in
theorem gX8_anHour_X8_hatsOf : GoodIn wsX8_anHour (wsV RX8 64 RX8 yX8_hatsOf wsX8_hatsOf) := goodIn_app (goodIn_of _ (by decide +kernel)) ggX8_anHour_X8_hatsOf
theorem dX8_anHour_0 : decode cX8_anHour 0 = .ok (.aload_n 0, 1) := by decide +kernel
theorem dX8_anHour_1 : decode cX8_anHour 1 = .ok (.aload_n 0, 1) := by decide +kernel
theorem dX8_anHour_2 : decode cX8_anHour 2 = .ok (.getfield 7, 3) := by decide +kernel
theorem dX8_anHour_5 : decode cX8_anHour 5 = .ok (.iconst 4, 1) := by decide +kernel
theorem dX8_anHour_6 : decode cX8_anHour 6 = .ok (.iaload, 1) := by decide +kernel
theorem dX8_anHour_7 : decode cX8_anHour 7 = .ok (.invokevirtual 67, 3) := by decide +kernel
theorem dX8_anHour_10 : decode cX8_anHour 10 = .ok (.istore_n 1, 1) := by decide +kernel
theorem dX8_anHour_11 : decode cX8_anHour 11 = .ok (.iconst 0, 1) := by decide +kernel
theorem dX8_anHour_12 : decode cX8_anHour 12 = .ok (.istore_n 2, 1) := by decide +kernel
theorem dX8_anHour_13 : decode cX8_anHour 13 = .ok (.bipush (-6), 2) := by decide +kernel
theorem dX8_anHour_15 : decode cX8_anHour 15 = .ok (.istore_n 3, 1) := by decide +kernel
theorem dX8_anHour_16 : decode cX8_anHour 16 = .ok (.iconst 0, 1) := by decide +kernel
theorem dX8_anHour_17 : decode cX8_anHour 17 = .ok (.istore 4, 2) := by decide +kernel
theorem dX8_anHour_19 : decode cX8_anHour 19 = .ok (.iload 4, 2) := by decide +kernel
theorem dX8_anHour_21 : decode cX8_anHour 21 = .ok (.aload_n 0, 1) := by decide +kernel
theorem dX8_anHour_22 : decode cX8_anHour 22 = .ok (.getfield 7, 3) := by decide +kernel
theorem dX8_anHour_25 : decode cX8_anHour 25 = .ok (.iconst 5, 1) := by decide +kernel
theorem dX8_anHour_26 : decode cX8_anHour 26 = .ok (.iaload, 1) := by decide +kernel
theorem dX8_anHour_27 : decode cX8_anHour 27 = .ok (.if_icmp .ge 47, 3) := by decide +kernel
theorem dX8_anHour_30 : decode cX8_anHour 30 = .ok (.aload_n 0, 1) := by decide +kernel
theorem dX8_anHour_31 : decode cX8_anHour 31 = .ok (.iload 4, 2) := by decide +kernel
theorem dX8_anHour_33 : decode cX8_anHour 33 = .ok (.invokevirtual 64, 3) := by decide +kernel
theorem dX8_anHour_36 : decode cX8_anHour 36 = .ok (.iload_n 2, 1) := by decide +kernel
theorem dX8_anHour_37 : decode cX8_anHour 37 = .ok (.if_icmp .le 8, 3) := by decide +kernel
theorem dX8_anHour_40 : decode cX8_anHour 40 = .ok (.iload 4, 2) := by decide +kernel
theorem dX8_anHour_42 : decode cX8_anHour 42 = .ok (.goto 4, 3) := by decide +kernel
theorem dX8_anHour_45 : decode cX8_anHour 45 = .ok (.iload_n 3, 1) := by decide +kernel
theorem dX8_anHour_46 : decode cX8_anHour 46 = .ok (.istore_n 3, 1) := by decide +kernel
theorem dX8_anHour_47 : decode cX8_anHour 47 = .ok (.aload_n 0, 1) := by decide +kernel
theorem dX8_anHour_48 : decode cX8_anHour 48 = .ok (.iload 4, 2) := by decide +kernel
theorem dX8_anHour_50 : decode cX8_anHour 50 = .ok (.invokevirtual 64, 3) := by decide +kernel
theorem dX8_anHour_53 : decode cX8_anHour 53 = .ok (.iload_n 2, 1) := by decide +kernel
theorem dX8_anHour_54 : decode cX8_anHour 54 = .ok (.if_icmp .le 12, 3) := by decide +kernel
theorem dX8_anHour_57 : decode cX8_anHour 57 = .ok (.aload_n 0, 1) := by decide +kernel
theorem dX8_anHour_58 : decode cX8_anHour 58 = .ok (.iload 4, 2) := by decide +kernel
theorem dX8_anHour_60 : decode cX8_anHour 60 = .ok (.invokevirtual 64, 3) := by decide +kernel
theorem dX8_anHour_63 : decode cX8_anHour 63 = .ok (.goto 4, 3) := by decide +kernel
theorem dX8_anHour_66 : decode cX8_anHour 66 = .ok (.iload_n 2, 1) := by decide +kernel
theorem dX8_anHour_67 : decode cX8_anHour 67 = .ok (.istore_n 2, 1) := by decide +kernel
theorem dX8_anHour_68 : decode cX8_anHour 68 = .ok (.iinc 4 1, 3) := by decide +kernel
theorem dX8_anHour_71 : decode cX8_anHour 71 = .ok (.goto (-52), 3) := by decide +kernel
theorem dX8_anHour_74 : decode cX8_anHour 74 = .ok (.bipush 23, 2) := by decide +kernel
theorem dX8_anHour_76 : decode cX8_anHour 76 = .ok (.istore 4, 2) := by decide +kernel
theorem dX8_anHour_78 : decode cX8_anHour 78 = .ok (.iload 4, 2) := by decide +kernel
theorem dX8_anHour_80 : decode cX8_anHour 80 = .ok (.iconst 3, 1) := by decide +kernel
theorem dX8_anHour_81 : decode cX8_anHour 81 = .ok (.if_icmp .lt 31, 3) := by decide +kernel
theorem dX8_anHour_84 : decode cX8_anHour 84 = .ok (.aload_n 0, 1) := by decide +kernel
theorem dX8_anHour_85 : decode cX8_anHour 85 = .ok (.getfield 7, 3) := by decide +kernel
theorem dX8_anHour_88 : decode cX8_anHour 88 = .ok (.bipush 9, 2) := by decide +kernel
theorem dX8_anHour_90 : decode cX8_anHour 90 = .ok (.iload 4, 2) := by decide +kernel
theorem dX8_anHour_92 : decode cX8_anHour 92 = .ok (.iadd, 1) := by decide +kernel
theorem dX8_anHour_93 : decode cX8_anHour 93 = .ok (.aload_n 0, 1) := by decide +kernel
theorem dX8_anHour_94 : decode cX8_anHour 94 = .ok (.getfield 7, 3) := by decide +kernel
theorem dX8_anHour_97 : decode cX8_anHour 97 = .ok (.bipush 9, 2) := by decide +kernel
theorem dX8_anHour_99 : decode cX8_anHour 99 = .ok (.iload 4, 2) := by decide +kernel
theorem dX8_anHour_101 : decode cX8_anHour 101 = .ok (.iadd, 1) := by decide +kernel
theorem dX8_anHour_102 : decode cX8_anHour 102 = .ok (.iconst 3, 1) := by decide +kernel
theorem dX8_anHour_103 : decode cX8_anHour 103 = .ok (.isub, 1) := by decide +kernel
theorem dX8_anHour_104 : decode cX8_anHour 104 = .ok (.iaload, 1) := by decide +kernel
theorem dX8_anHour_105 : decode cX8_anHour 105 = .ok (.iastore, 1) := by decide +kernel
theorem dX8_anHour_106 : decode cX8_anHour 106 = .ok (.iinc 4 (-1), 3) := by decide +kernel
theorem dX8_anHour_109 : decode cX8_anHour 109 = .ok (.goto (-31), 3) := by decide +kernel
theorem dX8_anHour_112 : decode cX8_anHour 112 = .ok (.aload_n 0, 1) := by decide +kernel
theorem dX8_anHour_113 : decode cX8_anHour 113 = .ok (.getfield 7, 3) := by decide +kernel
theorem dX8_anHour_116 : decode cX8_anHour 116 = .ok (.bipush 9, 2) := by decide +kernel
theorem dX8_anHour_118 : decode cX8_anHour 118 = .ok (.aload_n 0, 1) := by decide +kernel
theorem dX8_anHour_119 : decode cX8_anHour 119 = .ok (.getfield 7, 3) := by decide +kernel
theorem dX8_anHour_122 : decode cX8_anHour 122 = .ok (.iconst 4, 1) := by decide +kernel
theorem dX8_anHour_123 : decode cX8_anHour 123 = .ok (.iaload, 1) := by decide +kernel
theorem dX8_anHour_124 : decode cX8_anHour 124 = .ok (.iastore, 1) := by decide +kernel
theorem dX8_anHour_125 : decode cX8_anHour 125 = .ok (.aload_n 0, 1) := by decide +kernel
theorem dX8_anHour_126 : decode cX8_anHour 126 = .ok (.getfield 7, 3) := by decide +kernel
theorem dX8_anHour_129 : decode cX8_anHour 129 = .ok (.bipush 10, 2) := by decide +kernel
theorem dX8_anHour_131 : decode cX8_anHour 131 = .ok (.iload_n 1, 1) := by decide +kernel
theorem dX8_anHour_132 : decode cX8_anHour 132 = .ok (.iastore, 1) := by decide +kernel
theorem dX8_anHour_133 : decode cX8_anHour 133 = .ok (.aload_n 0, 1) := by decide +kernel
theorem dX8_anHour_134 : decode cX8_anHour 134 = .ok (.getfield 7, 3) := by decide +kernel
theorem dX8_anHour_137 : decode cX8_anHour 137 = .ok (.bipush 11, 2) := by decide +kernel
theorem dX8_anHour_139 : decode cX8_anHour 139 = .ok (.iload_n 3, 1) := by decide +kernel
theorem dX8_anHour_140 : decode cX8_anHour 140 = .ok (.iastore, 1) := by decide +kernel
theorem dX8_anHour_141 : decode cX8_anHour 141 = .ok (.aload_n 0, 1) := by decide +kernel
theorem dX8_anHour_142 : decode cX8_anHour 142 = .ok (.getfield 7, 3) := by decide +kernel
theorem dX8_anHour_145 : decode cX8_anHour 145 = .ok (.bipush 8, 2) := by decide +kernel
theorem dX8_anHour_147 : decode cX8_anHour 147 = .ok (.dup2, 1) := by decide +kernel
theorem dX8_anHour_148 : decode cX8_anHour 148 = .ok (.iaload, 1) := by decide +kernel
theorem dX8_anHour_149 : decode cX8_anHour 149 = .ok (.aload_n 0, 1) := by decide +kernel
theorem dX8_anHour_150 : decode cX8_anHour 150 = .ok (.getfield 7, 3) := by decide +kernel
theorem dX8_anHour_153 : decode cX8_anHour 153 = .ok (.bipush 8, 2) := by decide +kernel
theorem dX8_anHour_155 : decode cX8_anHour 155 = .ok (.iaload, 1) := by decide +kernel
theorem dX8_anHour_156 : decode cX8_anHour 156 = .ok (.bipush 8, 2) := by decide +kernel
theorem dX8_anHour_158 : decode cX8_anHour 158 = .ok (.if_icmp .ge 7, 3) := by decide +kernel
theorem dX8_anHour_161 : decode cX8_anHour 161 = .ok (.iconst 1, 1) := by decide +kernel
theorem dX8_anHour_162 : decode cX8_anHour 162 = .ok (.goto 4, 3) := by decide +kernel
theorem dX8_anHour_165 : decode cX8_anHour 165 = .ok (.iconst 0, 1) := by decide +kernel
theorem dX8_anHour_166 : decode cX8_anHour 166 = .ok (.iadd, 1) := by decide +kernel
theorem dX8_anHour_167 : decode cX8_anHour 167 = .ok (.iastore, 1) := by decide +kernel
theorem dX8_anHour_168 : decode cX8_anHour 168 = .ok (.aload_n 0, 1) := by decide +kernel
theorem dX8_anHour_169 : decode cX8_anHour 169 = .ok (.getfield 7, 3) := by decide +kernel
theorem dX8_anHour_172 : decode cX8_anHour 172 = .ok (.bipush 6, 2) := by decide +kernel
theorem dX8_anHour_174 : decode cX8_anHour 174 = .ok (.dup2, 1) := by decide +kernel
theorem dX8_anHour_175 : decode cX8_anHour 175 = .ok (.iaload, 1) := by decide +kernel
theorem dX8_anHour_176 : decode cX8_anHour 176 = .ok (.iconst 1, 1) := by decide +kernel
theorem dX8_anHour_177 : decode cX8_anHour 177 = .ok (.iadd, 1) := by decide +kernel
theorem dX8_anHour_178 : decode cX8_anHour 178 = .ok (.iastore, 1) := by decide +kernel
theorem dX8_anHour_179 : decode cX8_anHour 179 = .ok (.aload_n 0, 1) := by decide +kernel
theorem dX8_anHour_180 : decode cX8_anHour 180 = .ok (.getfield 7, 3) := by decide +kernel
theorem dX8_anHour_183 : decode cX8_anHour 183 = .ok (.bipush 7, 2) := by decide +kernel
theorem dX8_anHour_185 : decode cX8_anHour 185 = .ok (.dup2, 1) := by decide +kernel
theorem dX8_anHour_186 : decode cX8_anHour 186 = .ok (.iaload, 1) := by decide +kernel
theorem dX8_anHour_187 : decode cX8_anHour 187 = .ok (.iload_n 1, 1) := by decide +kernel
theorem dX8_anHour_188 : decode cX8_anHour 188 = .ok (.iadd, 1) := by decide +kernel
theorem dX8_anHour_189 : decode cX8_anHour 189 = .ok (.iastore, 1) := by decide +kernel
theorem dX8_anHour_190 : decode cX8_anHour 190 = .ok (.iload_n 1, 1) := by decide +kernel
theorem dX8_anHour_191 : decode cX8_anHour 191 = .ok (.ireturn, 1) := by decide +kernel
set_option maxRecDepth 20000 in
theorem ggX8_pass_X8_in : GoodIn wsX8_pass wsX8_in := goodIn_r _ [5] (by decide +kernel) (by decide +kernel)
set_option maxRecDepth 20000 in
theorem gX8_pass_X8_in : GoodIn wsX8_pass (va_wsS RX8 39 yX8_in wsX8_in) := goodIn_app (goodIn_of _ (by decide +kernel)) ggX8_pass_X8_in
set_option maxRecDepth 20000 in
theorem ggX8_pass_X8_remembers : GoodIn wsX8_pass wsX8_remembers := goodIn_r _ [9, 10, 11, 1, 47, 48, 49, 50, 51, 52, 53, 54, 55, 56, 57, 58, 59, 60] (by decide +kernel) (by decide +kernel)
set_option maxRecDepth 20000 in
theorem gX8_pass_X8_remembers : GoodIn wsX8_pass (wsV RX8 70 RX8 yX8_remembers wsX8_remembers) := goodIn_app (goodIn_of _ (by decide +kernel)) ggX8_pass_X8_remembers
set_option maxRecDepth 20000 in
theorem ggX8_pass_X8_anHour : GoodIn wsX8_pass wsX8_anHour := goodIn_r _ [15, 1, 16, 17, 18, 4, 19, 20, 21, 22, 23, 24, 25, 26, 27, 28, 29, 30, 31, 32, 33, 34, 35, 36, 37, 38, 39, 40, 41, 42, 43, 44, 45, 46, 47, 48, 49, 50, 51, 52, 53, 54, 55, 56, 57, 58, 59, 60] (by decide +kernel) (by decide +kernel)
set_option maxRecDepth 20000 in
theorem gX8_pass_X8_anHour : GoodIn wsX8_pass (wsV RX8 73 RX8 yX8_anHour wsX8_anHour) := goodIn_app (goodIn_of _ (by decide +kernel)) ggX8_pass_X8_anHour
theorem dX8_pass_0 : decode cX8_pass 0 = .ok (.iload_n 1, 1) := by decide +kernel
theorem dX8_pass_1 : decode cX8_pass 1 = .ok (.iconst 1, 1) := by decide +kernel
theorem dX8_pass_2 : decode cX8_pass 2 = .ok (.bipush 24, 2) := by decide +kernel
theorem dX8_pass_4 : decode cX8_pass 4 = .ok (.invokestatic 39, 3) := by decide +kernel
theorem dX8_pass_7 : decode cX8_pass 7 = .ok (.ifCond .ne 6, 3) := by decide +kernel
theorem dX8_pass_10 : decode cX8_pass 10 = .ok (.bipush (-2), 2) := by decide +kernel
theorem dX8_pass_12 : decode cX8_pass 12 = .ok (.ireturn, 1) := by decide +kernel
theorem dX8_pass_13 : decode cX8_pass 13 = .ok (.aload_n 0, 1) := by decide +kernel
theorem dX8_pass_14 : decode cX8_pass 14 = .ok (.getfield 7, 3) := by decide +kernel
theorem dX8_pass_17 : decode cX8_pass 17 = .ok (.bipush 6, 2) := by decide +kernel
theorem dX8_pass_19 : decode cX8_pass 19 = .ok (.iaload, 1) := by decide +kernel
theorem dX8_pass_20 : decode cX8_pass 20 = .ok (.iload_n 1, 1) := by decide +kernel
theorem dX8_pass_21 : decode cX8_pass 21 = .ok (.iadd, 1) := by decide +kernel
theorem dX8_pass_22 : decode cX8_pass 22 = .ok (.sipush 999, 3) := by decide +kernel
theorem dX8_pass_25 : decode cX8_pass 25 = .ok (.if_icmp .le 6, 3) := by decide +kernel
theorem dX8_pass_28 : decode cX8_pass 28 = .ok (.bipush (-5), 2) := by decide +kernel
theorem dX8_pass_30 : decode cX8_pass 30 = .ok (.ireturn, 1) := by decide +kernel
theorem dX8_pass_31 : decode cX8_pass 31 = .ok (.aload_n 0, 1) := by decide +kernel
theorem dX8_pass_32 : decode cX8_pass 32 = .ok (.invokevirtual 70, 3) := by decide +kernel
theorem dX8_pass_35 : decode cX8_pass 35 = .ok (.iconst 0, 1) := by decide +kernel
theorem dX8_pass_36 : decode cX8_pass 36 = .ok (.istore_n 2, 1) := by decide +kernel
theorem dX8_pass_37 : decode cX8_pass 37 = .ok (.iconst 0, 1) := by decide +kernel
theorem dX8_pass_38 : decode cX8_pass 38 = .ok (.istore_n 3, 1) := by decide +kernel
theorem dX8_pass_39 : decode cX8_pass 39 = .ok (.iload_n 3, 1) := by decide +kernel
theorem dX8_pass_40 : decode cX8_pass 40 = .ok (.iload_n 1, 1) := by decide +kernel
theorem dX8_pass_41 : decode cX8_pass 41 = .ok (.if_icmp .ge 16, 3) := by decide +kernel
theorem dX8_pass_44 : decode cX8_pass 44 = .ok (.iload_n 2, 1) := by decide +kernel
theorem dX8_pass_45 : decode cX8_pass 45 = .ok (.aload_n 0, 1) := by decide +kernel
theorem dX8_pass_46 : decode cX8_pass 46 = .ok (.invokevirtual 73, 3) := by decide +kernel
theorem dX8_pass_49 : decode cX8_pass 49 = .ok (.iadd, 1) := by decide +kernel
theorem dX8_pass_50 : decode cX8_pass 50 = .ok (.istore_n 2, 1) := by decide +kernel
theorem dX8_pass_51 : decode cX8_pass 51 = .ok (.iinc 3 1, 3) := by decide +kernel
theorem dX8_pass_54 : decode cX8_pass 54 = .ok (.goto (-15), 3) := by decide +kernel
theorem dX8_pass_57 : decode cX8_pass 57 = .ok (.iload_n 2, 1) := by decide +kernel
theorem dX8_pass_58 : decode cX8_pass 58 = .ok (.ireturn, 1) := by decide +kernel
set_option maxRecDepth 20000 in
theorem ggX8_canSet_X8_in : GoodIn wsX8_canSet wsX8_in := goodIn_r _ [4] (by decide +kernel) (by decide +kernel)
set_option maxRecDepth 20000 in
theorem gX8_canSet_X8_in : GoodIn wsX8_canSet (va_wsS RX8 39 yX8_in wsX8_in) := goodIn_app (goodIn_of _ (by decide +kernel)) ggX8_canSet_X8_in
theorem dX8_canSet_0 : decode cX8_canSet 0 = .ok (.iload_n 0, 1) := by decide +kernel
theorem dX8_canSet_1 : decode cX8_canSet 1 = .ok (.tableswitch 51 0 2 #[27, 35, 43], 27) := by decide +kernel
theorem dX8_canSet_28 : decode cX8_canSet 28 = .ok (.iload_n 1, 1) := by decide +kernel
theorem dX8_canSet_29 : decode cX8_canSet 29 = .ok (.iconst 1, 1) := by decide +kernel
theorem dX8_canSet_30 : decode cX8_canSet 30 = .ok (.bipush 20, 2) := by decide +kernel
theorem dX8_canSet_32 : decode cX8_canSet 32 = .ok (.invokestatic 39, 3) := by decide +kernel
theorem dX8_canSet_35 : decode cX8_canSet 35 = .ok (.ireturn, 1) := by decide +kernel
theorem dX8_canSet_36 : decode cX8_canSet 36 = .ok (.iload_n 1, 1) := by decide +kernel
theorem dX8_canSet_37 : decode cX8_canSet 37 = .ok (.iconst 1, 1) := by decide +kernel
theorem dX8_canSet_38 : decode cX8_canSet 38 = .ok (.bipush 60, 2) := by decide +kernel
theorem dX8_canSet_40 : decode cX8_canSet 40 = .ok (.invokestatic 39, 3) := by decide +kernel
theorem dX8_canSet_43 : decode cX8_canSet 43 = .ok (.ireturn, 1) := by decide +kernel
theorem dX8_canSet_44 : decode cX8_canSet 44 = .ok (.iload_n 1, 1) := by decide +kernel
theorem dX8_canSet_45 : decode cX8_canSet 45 = .ok (.iconst 0, 1) := by decide +kernel
theorem dX8_canSet_46 : decode cX8_canSet 46 = .ok (.bipush 100, 2) := by decide +kernel
theorem dX8_canSet_48 : decode cX8_canSet 48 = .ok (.invokestatic 39, 3) := by decide +kernel
theorem dX8_canSet_51 : decode cX8_canSet 51 = .ok (.ireturn, 1) := by decide +kernel
theorem dX8_canSet_52 : decode cX8_canSet 52 = .ok (.iload_n 0, 1) := by decide +kernel
theorem dX8_canSet_53 : decode cX8_canSet 53 = .ok (.iconst 3, 1) := by decide +kernel
theorem dX8_canSet_54 : decode cX8_canSet 54 = .ok (.if_icmp .ne 17, 3) := by decide +kernel
theorem dX8_canSet_57 : decode cX8_canSet 57 = .ok (.iload_n 1, 1) := by decide +kernel
theorem dX8_canSet_58 : decode cX8_canSet 58 = .ok (.iconst 1, 1) := by decide +kernel
theorem dX8_canSet_59 : decode cX8_canSet 59 = .ok (.bipush 30, 2) := by decide +kernel
theorem dX8_canSet_61 : decode cX8_canSet 61 = .ok (.invokestatic 39, 3) := by decide +kernel
theorem dX8_canSet_64 : decode cX8_canSet 64 = .ok (.ifCond .eq 7, 3) := by decide +kernel
theorem dX8_canSet_67 : decode cX8_canSet 67 = .ok (.iconst 1, 1) := by decide +kernel
theorem dX8_canSet_68 : decode cX8_canSet 68 = .ok (.goto 4, 3) := by decide +kernel
theorem dX8_canSet_71 : decode cX8_canSet 71 = .ok (.iconst 0, 1) := by decide +kernel
theorem dX8_canSet_72 : decode cX8_canSet 72 = .ok (.ireturn, 1) := by decide +kernel
set_option maxRecDepth 20000 in
theorem ggX8_set_X8_canSet : GoodIn wsX8_set wsX8_canSet := goodIn_r _ [5, 6, 7, 4, 8] (by decide +kernel) (by decide +kernel)
set_option maxRecDepth 20000 in
theorem gX8_set_X8_canSet : GoodIn wsX8_set (va_wsS RX8 77 yX8_canSet wsX8_canSet) := goodIn_app (goodIn_of _ (by decide +kernel)) ggX8_set_X8_canSet
set_option maxRecDepth 20000 in
theorem ggX8_set_X8_remembers : GoodIn wsX8_set wsX8_remembers := goodIn_r _ [12, 13, 14, 1, 15, 16, 17, 18, 19, 20, 21, 22, 23, 24, 25, 26, 27, 28] (by decide +kernel) (by decide +kernel)
set_option maxRecDepth 20000 in
theorem gX8_set_X8_remembers : GoodIn wsX8_set (wsV RX8 70 RX8 yX8_remembers wsX8_remembers) := goodIn_app (goodIn_of _ (by decide +kernel)) ggX8_set_X8_remembers
theorem dX8_set_0 : decode cX8_set 0 = .ok (.iload_n 1, 1) := by decide +kernel
theorem dX8_set_1 : decode cX8_set 1 = .ok (.iload_n 2, 1) := by decide +kernel
theorem dX8_set_2 : decode cX8_set 2 = .ok (.invokestatic 77, 3) := by decide +kernel
theorem dX8_set_5 : decode cX8_set 5 = .ok (.ifCond .ne 6, 3) := by decide +kernel
theorem dX8_set_8 : decode cX8_set 8 = .ok (.bipush (-2), 2) := by decide +kernel
theorem dX8_set_10 : decode cX8_set 10 = .ok (.ireturn, 1) := by decide +kernel
theorem dX8_set_11 : decode cX8_set 11 = .ok (.aload_n 0, 1) := by decide +kernel
theorem dX8_set_12 : decode cX8_set 12 = .ok (.invokevirtual 70, 3) := by decide +kernel
theorem dX8_set_15 : decode cX8_set 15 = .ok (.aload_n 0, 1) := by decide +kernel
theorem dX8_set_16 : decode cX8_set 16 = .ok (.getfield 7, 3) := by decide +kernel
theorem dX8_set_19 : decode cX8_set 19 = .ok (.iload_n 1, 1) := by decide +kernel
theorem dX8_set_20 : decode cX8_set 20 = .ok (.iaload, 1) := by decide +kernel
theorem dX8_set_21 : decode cX8_set 21 = .ok (.istore_n 3, 1) := by decide +kernel
theorem dX8_set_22 : decode cX8_set 22 = .ok (.aload_n 0, 1) := by decide +kernel
theorem dX8_set_23 : decode cX8_set 23 = .ok (.getfield 7, 3) := by decide +kernel
theorem dX8_set_26 : decode cX8_set 26 = .ok (.iload_n 1, 1) := by decide +kernel
theorem dX8_set_27 : decode cX8_set 27 = .ok (.iload_n 2, 1) := by decide +kernel
theorem dX8_set_28 : decode cX8_set 28 = .ok (.iastore, 1) := by decide +kernel
theorem dX8_set_29 : decode cX8_set 29 = .ok (.iload_n 3, 1) := by decide +kernel
theorem dX8_set_30 : decode cX8_set 30 = .ok (.ireturn, 1) := by decide +kernel
set_option maxRecDepth 20000 in
theorem ggX8_branches_X8_its : GoodIn wsX8_branches wsX8_its := goodIn_r _ [6, 1, 7, 8, 5, 9, 10, 11, 12, 13, 14, 15, 16, 17, 18, 19, 20, 21, 22, 23] (by decide +kernel) (by decide +kernel)
set_option maxRecDepth 20000 in
theorem gX8_branches_X8_its : GoodIn wsX8_branches (wsV RX8 47 RX8 yX8_its wsX8_its) := goodIn_app (goodIn_of _ (by decide +kernel)) ggX8_branches_X8_its
theorem dX8_branches_0 : decode cX8_branches 0 = .ok (.iconst 0, 1) := by decide +kernel
theorem dX8_branches_1 : decode cX8_branches 1 = .ok (.istore_n 2, 1) := by decide +kernel
theorem dX8_branches_2 : decode cX8_branches 2 = .ok (.iconst 1, 1) := by decide +kernel
theorem dX8_branches_3 : decode cX8_branches 3 = .ok (.istore_n 3, 1) := by decide +kernel
theorem dX8_branches_4 : decode cX8_branches 4 = .ok (.iload_n 3, 1) := by decide +kernel
theorem dX8_branches_5 : decode cX8_branches 5 = .ok (.aload_n 0, 1) := by decide +kernel
theorem dX8_branches_6 : decode cX8_branches 6 = .ok (.getfield 7, 3) := by decide +kernel
theorem dX8_branches_9 : decode cX8_branches 9 = .ok (.iconst 5, 1) := by decide +kernel
theorem dX8_branches_10 : decode cX8_branches 10 = .ok (.iaload, 1) := by decide +kernel
theorem dX8_branches_11 : decode cX8_branches 11 = .ok (.if_icmp .ge 27, 3) := by decide +kernel
theorem dX8_branches_14 : decode cX8_branches 14 = .ok (.iload_n 2, 1) := by decide +kernel
theorem dX8_branches_15 : decode cX8_branches 15 = .ok (.aload_n 0, 1) := by decide +kernel
theorem dX8_branches_16 : decode cX8_branches 16 = .ok (.iload_n 3, 1) := by decide +kernel
theorem dX8_branches_17 : decode cX8_branches 17 = .ok (.iconst 0, 1) := by decide +kernel
theorem dX8_branches_18 : decode cX8_branches 18 = .ok (.invokevirtual 47, 3) := by decide +kernel
theorem dX8_branches_21 : decode cX8_branches 21 = .ok (.iload_n 1, 1) := by decide +kernel
theorem dX8_branches_22 : decode cX8_branches 22 = .ok (.if_icmp .ne 7, 3) := by decide +kernel
theorem dX8_branches_25 : decode cX8_branches 25 = .ok (.iconst 1, 1) := by decide +kernel
theorem dX8_branches_26 : decode cX8_branches 26 = .ok (.goto 4, 3) := by decide +kernel
theorem dX8_branches_29 : decode cX8_branches 29 = .ok (.iconst 0, 1) := by decide +kernel
theorem dX8_branches_30 : decode cX8_branches 30 = .ok (.iadd, 1) := by decide +kernel
theorem dX8_branches_31 : decode cX8_branches 31 = .ok (.istore_n 2, 1) := by decide +kernel
theorem dX8_branches_32 : decode cX8_branches 32 = .ok (.iinc 3 1, 3) := by decide +kernel
theorem dX8_branches_35 : decode cX8_branches 35 = .ok (.goto (-31), 3) := by decide +kernel
theorem dX8_branches_38 : decode cX8_branches 38 = .ok (.iload_n 2, 1) := by decide +kernel
theorem dX8_branches_39 : decode cX8_branches 39 = .ok (.ireturn, 1) := by decide +kernel
set_option maxRecDepth 20000 in
theorem ggX8_street_X8_isStreet : GoodIn wsX8_street wsX8_isStreet := goodIn_r _ [6, 1, 7, 8, 5, 9, 27, 28, 29, 30, 31, 32, 33, 34, 35, 36, 37, 38, 39, 40] (by decide +kernel) (by decide +kernel)
set_option maxRecDepth 20000 in
theorem gX8_street_X8_isStreet : GoodIn wsX8_street (wsV RX8 81 RX8 yX8_isStreet wsX8_isStreet) := goodIn_app (goodIn_of _ (by decide +kernel)) ggX8_street_X8_isStreet
set_option maxRecDepth 20000 in
theorem ggX8_street_X8_in : GoodIn wsX8_street wsX8_in := goodIn_r _ [9] (by decide +kernel) (by decide +kernel)
set_option maxRecDepth 20000 in
theorem gX8_street_X8_in : GoodIn wsX8_street (va_wsS RX8 39 yX8_in wsX8_in) := goodIn_app (goodIn_of _ (by decide +kernel)) ggX8_street_X8_in
set_option maxRecDepth 20000 in
theorem ggX8_street_X8_branches : GoodIn wsX8_street wsX8_branches := goodIn_r _ [13, 1, 14, 15, 16, 5, 17, 18, 19, 20, 27, 28, 29, 30, 31, 32, 33, 34, 35, 36, 37, 38, 39, 40] (by decide +kernel) (by decide +kernel)
set_option maxRecDepth 20000 in
theorem gX8_street_X8_branches : GoodIn wsX8_street (wsV RX8 85 RX8 yX8_branches wsX8_branches) := goodIn_app (goodIn_of _ (by decide +kernel)) ggX8_street_X8_branches
set_option maxRecDepth 20000 in
theorem ggX8_street_X8_remembers : GoodIn wsX8_street wsX8_remembers := goodIn_r _ [24, 25, 26, 1, 27, 28, 29, 30, 31, 32, 33, 34, 35, 36, 37, 38, 39, 40] (by decide +kernel) (by decide +kernel)
set_option maxRecDepth 20000 in
theorem gX8_street_X8_remembers : GoodIn wsX8_street (wsV RX8 70 RX8 yX8_remembers wsX8_remembers) := goodIn_app (goodIn_of _ (by decide +kernel)) ggX8_street_X8_remembers
set_option maxRecDepth 20000 in
theorem ggX8_street_X8_at : GoodIn wsX8_street wsX8_at := goodIn_r _ [20] (by decide +kernel) (by decide +kernel)
set_option maxRecDepth 20000 in
theorem gX8_street_X8_at : GoodIn wsX8_street (va_wsS RX8 35 yX8_at wsX8_at) := goodIn_app (goodIn_of _ (by decide +kernel)) ggX8_street_X8_at
theorem dX8_street_0 : decode cX8_street 0 = .ok (.aload_n 0, 1) := by decide +kernel
theorem dX8_street_1 : decode cX8_street 1 = .ok (.iload_n 1, 1) := by decide +kernel
theorem dX8_street_2 : decode cX8_street 2 = .ok (.invokevirtual 81, 3) := by decide +kernel
theorem dX8_street_5 : decode cX8_street 5 = .ok (.ifCond .ne 5, 3) := by decide +kernel
theorem dX8_street_8 : decode cX8_street 8 = .ok (.iconst (-1), 1) := by decide +kernel
theorem dX8_street_9 : decode cX8_street 9 = .ok (.ireturn, 1) := by decide +kernel
theorem dX8_street_10 : decode cX8_street 10 = .ok (.iload_n 2, 1) := by decide +kernel
theorem dX8_street_11 : decode cX8_street 11 = .ok (.iconst 1, 1) := by decide +kernel
theorem dX8_street_12 : decode cX8_street 12 = .ok (.bipush 9, 2) := by decide +kernel
theorem dX8_street_14 : decode cX8_street 14 = .ok (.invokestatic 39, 3) := by decide +kernel
theorem dX8_street_17 : decode cX8_street 17 = .ok (.ifCond .ne 6, 3) := by decide +kernel
theorem dX8_street_20 : decode cX8_street 20 = .ok (.bipush (-2), 2) := by decide +kernel
theorem dX8_street_22 : decode cX8_street 22 = .ok (.ireturn, 1) := by decide +kernel
theorem dX8_street_23 : decode cX8_street 23 = .ok (.aload_n 0, 1) := by decide +kernel
theorem dX8_street_24 : decode cX8_street 24 = .ok (.getfield 7, 3) := by decide +kernel
theorem dX8_street_27 : decode cX8_street 27 = .ok (.iconst 5, 1) := by decide +kernel
theorem dX8_street_28 : decode cX8_street 28 = .ok (.iaload, 1) := by decide +kernel
theorem dX8_street_29 : decode cX8_street 29 = .ok (.bipush 20, 2) := by decide +kernel
theorem dX8_street_31 : decode cX8_street 31 = .ok (.if_icmp .eq 12, 3) := by decide +kernel
theorem dX8_street_34 : decode cX8_street 34 = .ok (.aload_n 0, 1) := by decide +kernel
theorem dX8_street_35 : decode cX8_street 35 = .ok (.iload_n 1, 1) := by decide +kernel
theorem dX8_street_36 : decode cX8_street 36 = .ok (.invokevirtual 85, 3) := by decide +kernel
theorem dX8_street_39 : decode cX8_street 39 = .ok (.iconst 4, 1) := by decide +kernel
theorem dX8_street_40 : decode cX8_street 40 = .ok (.if_icmp .ne 6, 3) := by decide +kernel
theorem dX8_street_43 : decode cX8_street 43 = .ok (.bipush (-4), 2) := by decide +kernel
theorem dX8_street_45 : decode cX8_street 45 = .ok (.ireturn, 1) := by decide +kernel
theorem dX8_street_46 : decode cX8_street 46 = .ok (.aload_n 0, 1) := by decide +kernel
theorem dX8_street_47 : decode cX8_street 47 = .ok (.invokevirtual 70, 3) := by decide +kernel
theorem dX8_street_50 : decode cX8_street 50 = .ok (.aload_n 0, 1) := by decide +kernel
theorem dX8_street_51 : decode cX8_street 51 = .ok (.getfield 7, 3) := by decide +kernel
theorem dX8_street_54 : decode cX8_street 54 = .ok (.iconst 5, 1) := by decide +kernel
theorem dX8_street_55 : decode cX8_street 55 = .ok (.iaload, 1) := by decide +kernel
theorem dX8_street_56 : decode cX8_street 56 = .ok (.istore_n 3, 1) := by decide +kernel
theorem dX8_street_57 : decode cX8_street 57 = .ok (.aload_n 0, 1) := by decide +kernel
theorem dX8_street_58 : decode cX8_street 58 = .ok (.getfield 7, 3) := by decide +kernel
theorem dX8_street_61 : decode cX8_street 61 = .ok (.iload_n 3, 1) := by decide +kernel
theorem dX8_street_62 : decode cX8_street 62 = .ok (.iconst 0, 1) := by decide +kernel
theorem dX8_street_63 : decode cX8_street 63 = .ok (.invokestatic 35, 3) := by decide +kernel
theorem dX8_street_66 : decode cX8_street 66 = .ok (.iload_n 1, 1) := by decide +kernel
theorem dX8_street_67 : decode cX8_street 67 = .ok (.iastore, 1) := by decide +kernel
theorem dX8_street_68 : decode cX8_street 68 = .ok (.aload_n 0, 1) := by decide +kernel
theorem dX8_street_69 : decode cX8_street 69 = .ok (.getfield 7, 3) := by decide +kernel
theorem dX8_street_72 : decode cX8_street 72 = .ok (.iload_n 3, 1) := by decide +kernel
theorem dX8_street_73 : decode cX8_street 73 = .ok (.iconst 1, 1) := by decide +kernel
theorem dX8_street_74 : decode cX8_street 74 = .ok (.invokestatic 35, 3) := by decide +kernel
theorem dX8_street_77 : decode cX8_street 77 = .ok (.iload_n 2, 1) := by decide +kernel
theorem dX8_street_78 : decode cX8_street 78 = .ok (.iastore, 1) := by decide +kernel
theorem dX8_street_79 : decode cX8_street 79 = .ok (.aload_n 0, 1) := by decide +kernel
theorem dX8_street_80 : decode cX8_street 80 = .ok (.getfield 7, 3) := by decide +kernel
theorem dX8_street_83 : decode cX8_street 83 = .ok (.iload_n 3, 1) := by decide +kernel
theorem dX8_street_84 : decode cX8_street 84 = .ok (.iconst 2, 1) := by decide +kernel
theorem dX8_street_85 : decode cX8_street 85 = .ok (.invokestatic 35, 3) := by decide +kernel
theorem dX8_street_88 : decode cX8_street 88 = .ok (.iconst 0, 1) := by decide +kernel
theorem dX8_street_89 : decode cX8_street 89 = .ok (.iastore, 1) := by decide +kernel
theorem dX8_street_90 : decode cX8_street 90 = .ok (.aload_n 0, 1) := by decide +kernel
theorem dX8_street_91 : decode cX8_street 91 = .ok (.getfield 7, 3) := by decide +kernel
theorem dX8_street_94 : decode cX8_street 94 = .ok (.iload_n 3, 1) := by decide +kernel
theorem dX8_street_95 : decode cX8_street 95 = .ok (.iconst 3, 1) := by decide +kernel
theorem dX8_street_96 : decode cX8_street 96 = .ok (.invokestatic 35, 3) := by decide +kernel
theorem dX8_street_99 : decode cX8_street 99 = .ok (.iconst 0, 1) := by decide +kernel
theorem dX8_street_100 : decode cX8_street 100 = .ok (.iastore, 1) := by decide +kernel
theorem dX8_street_101 : decode cX8_street 101 = .ok (.aload_n 0, 1) := by decide +kernel
theorem dX8_street_102 : decode cX8_street 102 = .ok (.getfield 7, 3) := by decide +kernel
theorem dX8_street_105 : decode cX8_street 105 = .ok (.iload_n 3, 1) := by decide +kernel
theorem dX8_street_106 : decode cX8_street 106 = .ok (.iconst 4, 1) := by decide +kernel
theorem dX8_street_107 : decode cX8_street 107 = .ok (.invokestatic 35, 3) := by decide +kernel
theorem dX8_street_110 : decode cX8_street 110 = .ok (.iconst 0, 1) := by decide +kernel
theorem dX8_street_111 : decode cX8_street 111 = .ok (.iastore, 1) := by decide +kernel
theorem dX8_street_112 : decode cX8_street 112 = .ok (.aload_n 0, 1) := by decide +kernel
theorem dX8_street_113 : decode cX8_street 113 = .ok (.getfield 7, 3) := by decide +kernel
theorem dX8_street_116 : decode cX8_street 116 = .ok (.iconst 5, 1) := by decide +kernel
theorem dX8_street_117 : decode cX8_street 117 = .ok (.dup2, 1) := by decide +kernel
theorem dX8_street_118 : decode cX8_street 118 = .ok (.iaload, 1) := by decide +kernel
theorem dX8_street_119 : decode cX8_street 119 = .ok (.iconst 1, 1) := by decide +kernel
theorem dX8_street_120 : decode cX8_street 120 = .ok (.iadd, 1) := by decide +kernel
theorem dX8_street_121 : decode cX8_street 121 = .ok (.iastore, 1) := by decide +kernel
theorem dX8_street_122 : decode cX8_street 122 = .ok (.iload_n 3, 1) := by decide +kernel
theorem dX8_street_123 : decode cX8_street 123 = .ok (.ireturn, 1) := by decide +kernel
theorem dX8_kept_0 : decode cX8_kept 0 = .ok (.iload_n 0, 1) := by decide +kernel
theorem dX8_kept_1 : decode cX8_kept 1 = .ok (.ifCond .ne 7, 3) := by decide +kernel
theorem dX8_kept_4 : decode cX8_kept 4 = .ok (.iconst 2, 1) := by decide +kernel
theorem dX8_kept_5 : decode cX8_kept 5 = .ok (.goto 22, 3) := by decide +kernel
theorem dX8_kept_8 : decode cX8_kept 8 = .ok (.iload_n 0, 1) := by decide +kernel
theorem dX8_kept_9 : decode cX8_kept 9 = .ok (.iconst 1, 1) := by decide +kernel
theorem dX8_kept_10 : decode cX8_kept 10 = .ok (.if_icmp .ne 7, 3) := by decide +kernel
theorem dX8_kept_13 : decode cX8_kept 13 = .ok (.iconst 3, 1) := by decide +kernel
theorem dX8_kept_14 : decode cX8_kept 14 = .ok (.goto 13, 3) := by decide +kernel
theorem dX8_kept_17 : decode cX8_kept 17 = .ok (.iload_n 0, 1) := by decide +kernel
theorem dX8_kept_18 : decode cX8_kept 18 = .ok (.iconst 2, 1) := by decide +kernel
theorem dX8_kept_19 : decode cX8_kept 19 = .ok (.if_icmp .ne 7, 3) := by decide +kernel
theorem dX8_kept_22 : decode cX8_kept 22 = .ok (.iconst 4, 1) := by decide +kernel
theorem dX8_kept_23 : decode cX8_kept 23 = .ok (.goto 4, 3) := by decide +kernel
theorem dX8_kept_26 : decode cX8_kept 26 = .ok (.iconst 1, 1) := by decide +kernel
theorem dX8_kept_27 : decode cX8_kept 27 = .ok (.ireturn, 1) := by decide +kernel
set_option maxRecDepth 20000 in
theorem ggX8_canChange_X8_in : GoodIn wsX8_canChange wsX8_in := goodIn_r _ [4] (by decide +kernel) (by decide +kernel)
set_option maxRecDepth 20000 in
theorem gX8_canChange_X8_in : GoodIn wsX8_canChange (va_wsS RX8 39 yX8_in wsX8_in) := goodIn_app (goodIn_of _ (by decide +kernel)) ggX8_canChange_X8_in
theorem dX8_canChange_0 : decode cX8_canChange 0 = .ok (.iload_n 0, 1) := by decide +kernel
theorem dX8_canChange_1 : decode cX8_canChange 1 = .ok (.tableswitch 49 0 2 #[27, 34, 41], 27) := by decide +kernel
theorem dX8_canChange_28 : decode cX8_canChange 28 = .ok (.iload_n 1, 1) := by decide +kernel
theorem dX8_canChange_29 : decode cX8_canChange 29 = .ok (.iconst 0, 1) := by decide +kernel
theorem dX8_canChange_30 : decode cX8_canChange 30 = .ok (.iconst 5, 1) := by decide +kernel
theorem dX8_canChange_31 : decode cX8_canChange 31 = .ok (.invokestatic 39, 3) := by decide +kernel
theorem dX8_canChange_34 : decode cX8_canChange 34 = .ok (.ireturn, 1) := by decide +kernel
theorem dX8_canChange_35 : decode cX8_canChange 35 = .ok (.iload_n 1, 1) := by decide +kernel
theorem dX8_canChange_36 : decode cX8_canChange 36 = .ok (.iconst 0, 1) := by decide +kernel
theorem dX8_canChange_37 : decode cX8_canChange 37 = .ok (.iconst 1, 1) := by decide +kernel
theorem dX8_canChange_38 : decode cX8_canChange 38 = .ok (.invokestatic 39, 3) := by decide +kernel
theorem dX8_canChange_41 : decode cX8_canChange 41 = .ok (.ireturn, 1) := by decide +kernel
theorem dX8_canChange_42 : decode cX8_canChange 42 = .ok (.iload_n 1, 1) := by decide +kernel
theorem dX8_canChange_43 : decode cX8_canChange 43 = .ok (.iconst 0, 1) := by decide +kernel
theorem dX8_canChange_44 : decode cX8_canChange 44 = .ok (.bipush 99, 2) := by decide +kernel
theorem dX8_canChange_46 : decode cX8_canChange 46 = .ok (.invokestatic 39, 3) := by decide +kernel
theorem dX8_canChange_49 : decode cX8_canChange 49 = .ok (.ireturn, 1) := by decide +kernel
theorem dX8_canChange_50 : decode cX8_canChange 50 = .ok (.iload_n 0, 1) := by decide +kernel
theorem dX8_canChange_51 : decode cX8_canChange 51 = .ok (.iconst 3, 1) := by decide +kernel
theorem dX8_canChange_52 : decode cX8_canChange 52 = .ok (.if_icmp .ne 17, 3) := by decide +kernel
theorem dX8_canChange_55 : decode cX8_canChange 55 = .ok (.iload_n 1, 1) := by decide +kernel
theorem dX8_canChange_56 : decode cX8_canChange 56 = .ok (.iconst 1, 1) := by decide +kernel
theorem dX8_canChange_57 : decode cX8_canChange 57 = .ok (.bipush 9, 2) := by decide +kernel
theorem dX8_canChange_59 : decode cX8_canChange 59 = .ok (.invokestatic 39, 3) := by decide +kernel
theorem dX8_canChange_62 : decode cX8_canChange 62 = .ok (.ifCond .eq 7, 3) := by decide +kernel
theorem dX8_canChange_65 : decode cX8_canChange 65 = .ok (.iconst 1, 1) := by decide +kernel
theorem dX8_canChange_66 : decode cX8_canChange 66 = .ok (.goto 4, 3) := by decide +kernel
theorem dX8_canChange_69 : decode cX8_canChange 69 = .ok (.iconst 0, 1) := by decide +kernel
theorem dX8_canChange_70 : decode cX8_canChange 70 = .ok (.ireturn, 1) := by decide +kernel
set_option maxRecDepth 20000 in
theorem ggX8_change_X8_isStreet : GoodIn wsX8_change wsX8_isStreet := goodIn_r _ [6, 1, 7, 8, 5, 9, 29, 30, 31, 32, 33, 34, 35, 36, 37, 38, 39, 40, 41, 42] (by decide +kernel) (by decide +kernel)
set_option maxRecDepth 20000 in
theorem gX8_change_X8_isStreet : GoodIn wsX8_change (wsV RX8 81 RX8 yX8_isStreet wsX8_isStreet) := goodIn_app (goodIn_of _ (by decide +kernel)) ggX8_change_X8_isStreet
set_option maxRecDepth 20000 in
theorem ggX8_change_X8_canChange : GoodIn wsX8_change wsX8_canChange := goodIn_r _ [12, 7, 8, 5, 9] (by decide +kernel) (by decide +kernel)
set_option maxRecDepth 20000 in
theorem gX8_change_X8_canChange : GoodIn wsX8_change (va_wsS RX8 88 yX8_canChange wsX8_canChange) := goodIn_app (goodIn_of _ (by decide +kernel)) ggX8_change_X8_canChange
set_option maxRecDepth 20000 in
theorem ggX8_change_X8_remembers : GoodIn wsX8_change wsX8_remembers := goodIn_r _ [16, 17, 18, 1, 29, 30, 31, 32, 33, 34, 35, 36, 37, 38, 39, 40, 41, 42] (by decide +kernel) (by decide +kernel)
set_option maxRecDepth 20000 in
theorem gX8_change_X8_remembers : GoodIn wsX8_change (wsV RX8 70 RX8 yX8_remembers wsX8_remembers) := goodIn_app (goodIn_of _ (by decide +kernel)) ggX8_change_X8_remembers
set_option maxRecDepth 20000 in
theorem ggX8_change_X8_kept : GoodIn wsX8_change wsX8_kept := goodIn_r _ [21] (by decide +kernel) (by decide +kernel)
set_option maxRecDepth 20000 in
theorem gX8_change_X8_kept : GoodIn wsX8_change (va_wsS RX8 91 yX8_kept wsX8_kept) := goodIn_app (goodIn_of _ (by decide +kernel)) ggX8_change_X8_kept
set_option maxRecDepth 20000 in
theorem ggX8_change_X8_its : GoodIn wsX8_change wsX8_its := goodIn_r _ [25, 1, 26, 27, 5, 28, 29, 30, 31, 32, 33, 34, 35, 36, 37, 38, 39, 40, 41, 42] (by decide +kernel) (by decide +kernel)
set_option maxRecDepth 20000 in
theorem gX8_change_X8_its : GoodIn wsX8_change (wsV RX8 47 RX8 yX8_its wsX8_its) := goodIn_app (goodIn_of _ (by decide +kernel)) ggX8_change_X8_its
set_option maxRecDepth 20000 in
theorem ggX8_change_X8_at : GoodIn wsX8_change wsX8_at := goodIn_r _ [28] (by decide +kernel) (by decide +kernel)
set_option maxRecDepth 20000 in
theorem gX8_change_X8_at : GoodIn wsX8_change (va_wsS RX8 35 yX8_at wsX8_at) := goodIn_app (goodIn_of _ (by decide +kernel)) ggX8_change_X8_at
theorem dX8_change_0 : decode cX8_change 0 = .ok (.aload_n 0, 1) := by decide +kernel
theorem dX8_change_1 : decode cX8_change 1 = .ok (.iload_n 1, 1) := by decide +kernel
theorem dX8_change_2 : decode cX8_change 2 = .ok (.invokevirtual 81, 3) := by decide +kernel
theorem dX8_change_5 : decode cX8_change 5 = .ok (.ifCond .ne 5, 3) := by decide +kernel
theorem dX8_change_8 : decode cX8_change 8 = .ok (.iconst (-1), 1) := by decide +kernel
theorem dX8_change_9 : decode cX8_change 9 = .ok (.ireturn, 1) := by decide +kernel
theorem dX8_change_10 : decode cX8_change 10 = .ok (.iload_n 2, 1) := by decide +kernel
theorem dX8_change_11 : decode cX8_change 11 = .ok (.iload_n 3, 1) := by decide +kernel
theorem dX8_change_12 : decode cX8_change 12 = .ok (.invokestatic 88, 3) := by decide +kernel
theorem dX8_change_15 : decode cX8_change 15 = .ok (.ifCond .ne 6, 3) := by decide +kernel
theorem dX8_change_18 : decode cX8_change 18 = .ok (.bipush (-2), 2) := by decide +kernel
theorem dX8_change_20 : decode cX8_change 20 = .ok (.ireturn, 1) := by decide +kernel
theorem dX8_change_21 : decode cX8_change 21 = .ok (.aload_n 0, 1) := by decide +kernel
theorem dX8_change_22 : decode cX8_change 22 = .ok (.invokevirtual 70, 3) := by decide +kernel
theorem dX8_change_25 : decode cX8_change 25 = .ok (.aload_n 0, 1) := by decide +kernel
theorem dX8_change_26 : decode cX8_change 26 = .ok (.iload_n 1, 1) := by decide +kernel
theorem dX8_change_27 : decode cX8_change 27 = .ok (.iload_n 2, 1) := by decide +kernel
theorem dX8_change_28 : decode cX8_change 28 = .ok (.invokestatic 91, 3) := by decide +kernel
theorem dX8_change_31 : decode cX8_change 31 = .ok (.invokevirtual 47, 3) := by decide +kernel
theorem dX8_change_34 : decode cX8_change 34 = .ok (.istore 4, 2) := by decide +kernel
theorem dX8_change_36 : decode cX8_change 36 = .ok (.aload_n 0, 1) := by decide +kernel
theorem dX8_change_37 : decode cX8_change 37 = .ok (.getfield 7, 3) := by decide +kernel
theorem dX8_change_40 : decode cX8_change 40 = .ok (.iload_n 1, 1) := by decide +kernel
theorem dX8_change_41 : decode cX8_change 41 = .ok (.iload_n 2, 1) := by decide +kernel
theorem dX8_change_42 : decode cX8_change 42 = .ok (.invokestatic 91, 3) := by decide +kernel
theorem dX8_change_45 : decode cX8_change 45 = .ok (.invokestatic 35, 3) := by decide +kernel
theorem dX8_change_48 : decode cX8_change 48 = .ok (.iload_n 3, 1) := by decide +kernel
theorem dX8_change_49 : decode cX8_change 49 = .ok (.iastore, 1) := by decide +kernel
theorem dX8_change_50 : decode cX8_change 50 = .ok (.iload 4, 2) := by decide +kernel
theorem dX8_change_52 : decode cX8_change 52 = .ok (.ireturn, 1) := by decide +kernel
set_option maxRecDepth 20000 in
theorem ggX8_wind_X8_in : GoodIn wsX8_wind wsX8_in := goodIn_r _ [5] (by decide +kernel) (by decide +kernel)
set_option maxRecDepth 20000 in
theorem gX8_wind_X8_in : GoodIn wsX8_wind (va_wsS RX8 39 yX8_in wsX8_in) := goodIn_app (goodIn_of _ (by decide +kernel)) ggX8_wind_X8_in
set_option maxRecDepth 20000 in
theorem ggX8_wind_X8_remembers : GoodIn wsX8_wind wsX8_remembers := goodIn_r _ [9, 10, 11, 1, 12, 13, 14, 15, 16, 17, 18, 19, 20, 21, 22, 23, 24, 25] (by decide +kernel) (by decide +kernel)
set_option maxRecDepth 20000 in
theorem gX8_wind_X8_remembers : GoodIn wsX8_wind (wsV RX8 70 RX8 yX8_remembers wsX8_remembers) := goodIn_app (goodIn_of _ (by decide +kernel)) ggX8_wind_X8_remembers
theorem dX8_wind_0 : decode cX8_wind 0 = .ok (.iload_n 1, 1) := by decide +kernel
theorem dX8_wind_1 : decode cX8_wind 1 = .ok (.iconst 0, 1) := by decide +kernel
theorem dX8_wind_2 : decode cX8_wind 2 = .ok (.sipush 200, 3) := by decide +kernel
theorem dX8_wind_5 : decode cX8_wind 5 = .ok (.invokestatic 39, 3) := by decide +kernel
theorem dX8_wind_8 : decode cX8_wind 8 = .ok (.ifCond .ne 6, 3) := by decide +kernel
theorem dX8_wind_11 : decode cX8_wind 11 = .ok (.bipush (-2), 2) := by decide +kernel
theorem dX8_wind_13 : decode cX8_wind 13 = .ok (.ireturn, 1) := by decide +kernel
theorem dX8_wind_14 : decode cX8_wind 14 = .ok (.aload_n 0, 1) := by decide +kernel
theorem dX8_wind_15 : decode cX8_wind 15 = .ok (.invokevirtual 70, 3) := by decide +kernel
theorem dX8_wind_18 : decode cX8_wind 18 = .ok (.aload_n 0, 1) := by decide +kernel
theorem dX8_wind_19 : decode cX8_wind 19 = .ok (.getfield 7, 3) := by decide +kernel
theorem dX8_wind_22 : decode cX8_wind 22 = .ok (.iconst 4, 1) := by decide +kernel
theorem dX8_wind_23 : decode cX8_wind 23 = .ok (.iaload, 1) := by decide +kernel
theorem dX8_wind_24 : decode cX8_wind 24 = .ok (.istore_n 2, 1) := by decide +kernel
theorem dX8_wind_25 : decode cX8_wind 25 = .ok (.aload_n 0, 1) := by decide +kernel
theorem dX8_wind_26 : decode cX8_wind 26 = .ok (.getfield 7, 3) := by decide +kernel
theorem dX8_wind_29 : decode cX8_wind 29 = .ok (.iconst 4, 1) := by decide +kernel
theorem dX8_wind_30 : decode cX8_wind 30 = .ok (.iload_n 1, 1) := by decide +kernel
theorem dX8_wind_31 : decode cX8_wind 31 = .ok (.iastore, 1) := by decide +kernel
theorem dX8_wind_32 : decode cX8_wind 32 = .ok (.iload_n 2, 1) := by decide +kernel
theorem dX8_wind_33 : decode cX8_wind 33 = .ok (.ireturn, 1) := by decide +kernel
set_option maxRecDepth 20000 in
theorem ggX8_branchSet_X8_its : GoodIn wsX8_branchSet wsX8_its := goodIn_r _ [6, 1, 7, 8, 5, 9, 10, 11, 12, 13, 14, 15, 16, 17, 18, 19, 20, 21, 22, 23] (by decide +kernel) (by decide +kernel)
set_option maxRecDepth 20000 in
theorem gX8_branchSet_X8_its : GoodIn wsX8_branchSet (wsV RX8 47 RX8 yX8_its wsX8_its) := goodIn_app (goodIn_of _ (by decide +kernel)) ggX8_branchSet_X8_its
theorem dX8_branchSet_0 : decode cX8_branchSet 0 = .ok (.iconst 0, 1) := by decide +kernel
theorem dX8_branchSet_1 : decode cX8_branchSet 1 = .ok (.istore_n 2, 1) := by decide +kernel
theorem dX8_branchSet_2 : decode cX8_branchSet 2 = .ok (.iconst 1, 1) := by decide +kernel
theorem dX8_branchSet_3 : decode cX8_branchSet 3 = .ok (.istore_n 3, 1) := by decide +kernel
theorem dX8_branchSet_4 : decode cX8_branchSet 4 = .ok (.iload_n 3, 1) := by decide +kernel
theorem dX8_branchSet_5 : decode cX8_branchSet 5 = .ok (.aload_n 0, 1) := by decide +kernel
theorem dX8_branchSet_6 : decode cX8_branchSet 6 = .ok (.getfield 7, 3) := by decide +kernel
theorem dX8_branchSet_9 : decode cX8_branchSet 9 = .ok (.iconst 5, 1) := by decide +kernel
theorem dX8_branchSet_10 : decode cX8_branchSet 10 = .ok (.iaload, 1) := by decide +kernel
theorem dX8_branchSet_11 : decode cX8_branchSet 11 = .ok (.if_icmp .ge 29, 3) := by decide +kernel
theorem dX8_branchSet_14 : decode cX8_branchSet 14 = .ok (.iload_n 2, 1) := by decide +kernel
theorem dX8_branchSet_15 : decode cX8_branchSet 15 = .ok (.aload_n 0, 1) := by decide +kernel
theorem dX8_branchSet_16 : decode cX8_branchSet 16 = .ok (.iload_n 3, 1) := by decide +kernel
theorem dX8_branchSet_17 : decode cX8_branchSet 17 = .ok (.iconst 0, 1) := by decide +kernel
theorem dX8_branchSet_18 : decode cX8_branchSet 18 = .ok (.invokevirtual 47, 3) := by decide +kernel
theorem dX8_branchSet_21 : decode cX8_branchSet 21 = .ok (.iload_n 1, 1) := by decide +kernel
theorem dX8_branchSet_22 : decode cX8_branchSet 22 = .ok (.if_icmp .ne 9, 3) := by decide +kernel
theorem dX8_branchSet_25 : decode cX8_branchSet 25 = .ok (.iconst 1, 1) := by decide +kernel
theorem dX8_branchSet_26 : decode cX8_branchSet 26 = .ok (.iload_n 3, 1) := by decide +kernel
theorem dX8_branchSet_27 : decode cX8_branchSet 27 = .ok (.ishl, 1) := by decide +kernel
theorem dX8_branchSet_28 : decode cX8_branchSet 28 = .ok (.goto 4, 3) := by decide +kernel
theorem dX8_branchSet_31 : decode cX8_branchSet 31 = .ok (.iconst 0, 1) := by decide +kernel
theorem dX8_branchSet_32 : decode cX8_branchSet 32 = .ok (.ior, 1) := by decide +kernel
theorem dX8_branchSet_33 : decode cX8_branchSet 33 = .ok (.istore_n 2, 1) := by decide +kernel
theorem dX8_branchSet_34 : decode cX8_branchSet 34 = .ok (.iinc 3 1, 3) := by decide +kernel
theorem dX8_branchSet_37 : decode cX8_branchSet 37 = .ok (.goto (-33), 3) := by decide +kernel
theorem dX8_branchSet_40 : decode cX8_branchSet 40 = .ok (.iload_n 2, 1) := by decide +kernel
theorem dX8_branchSet_41 : decode cX8_branchSet 41 = .ok (.ireturn, 1) := by decide +kernel
set_option maxRecDepth 20000 in
theorem ggX8_behind_X8_its : GoodIn wsX8_behind wsX8_its := goodIn_r _ [6, 1, 7, 8, 5, 9, 10, 11, 12, 13, 14, 15, 16, 17, 18, 19, 20, 21, 22, 23] (by decide +kernel) (by decide +kernel)
set_option maxRecDepth 20000 in
theorem gX8_behind_X8_its : GoodIn wsX8_behind (wsV RX8 47 RX8 yX8_its wsX8_its) := goodIn_app (goodIn_of _ (by decide +kernel)) ggX8_behind_X8_its
theorem dX8_behind_0 : decode cX8_behind 0 = .ok (.iconst 1, 1) := by decide +kernel
theorem dX8_behind_1 : decode cX8_behind 1 = .ok (.iload_n 1, 1) := by decide +kernel
theorem dX8_behind_2 : decode cX8_behind 2 = .ok (.ishl, 1) := by decide +kernel
theorem dX8_behind_3 : decode cX8_behind 3 = .ok (.istore_n 2, 1) := by decide +kernel
theorem dX8_behind_4 : decode cX8_behind 4 = .ok (.iconst 0, 1) := by decide +kernel
theorem dX8_behind_5 : decode cX8_behind 5 = .ok (.istore_n 3, 1) := by decide +kernel
theorem dX8_behind_6 : decode cX8_behind 6 = .ok (.iload_n 1, 1) := by decide +kernel
theorem dX8_behind_7 : decode cX8_behind 7 = .ok (.iconst 1, 1) := by decide +kernel
theorem dX8_behind_8 : decode cX8_behind 8 = .ok (.iadd, 1) := by decide +kernel
theorem dX8_behind_9 : decode cX8_behind 9 = .ok (.istore 4, 2) := by decide +kernel
theorem dX8_behind_11 : decode cX8_behind 11 = .ok (.iload 4, 2) := by decide +kernel
theorem dX8_behind_13 : decode cX8_behind 13 = .ok (.aload_n 0, 1) := by decide +kernel
theorem dX8_behind_14 : decode cX8_behind 14 = .ok (.getfield 7, 3) := by decide +kernel
theorem dX8_behind_17 : decode cX8_behind 17 = .ok (.iconst 5, 1) := by decide +kernel
theorem dX8_behind_18 : decode cX8_behind 18 = .ok (.iaload, 1) := by decide +kernel
theorem dX8_behind_19 : decode cX8_behind 19 = .ok (.if_icmp .ge 70, 3) := by decide +kernel
theorem dX8_behind_22 : decode cX8_behind 22 = .ok (.aload_n 0, 1) := by decide +kernel
theorem dX8_behind_23 : decode cX8_behind 23 = .ok (.iload 4, 2) := by decide +kernel
theorem dX8_behind_25 : decode cX8_behind 25 = .ok (.iconst 0, 1) := by decide +kernel
theorem dX8_behind_26 : decode cX8_behind 26 = .ok (.invokevirtual 47, 3) := by decide +kernel
theorem dX8_behind_29 : decode cX8_behind 29 = .ok (.ifCond .lt 22, 3) := by decide +kernel
theorem dX8_behind_32 : decode cX8_behind 32 = .ok (.iload_n 2, 1) := by decide +kernel
theorem dX8_behind_33 : decode cX8_behind 33 = .ok (.aload_n 0, 1) := by decide +kernel
theorem dX8_behind_34 : decode cX8_behind 34 = .ok (.iload 4, 2) := by decide +kernel
theorem dX8_behind_36 : decode cX8_behind 36 = .ok (.iconst 0, 1) := by decide +kernel
theorem dX8_behind_37 : decode cX8_behind 37 = .ok (.invokevirtual 47, 3) := by decide +kernel
theorem dX8_behind_40 : decode cX8_behind 40 = .ok (.ishr, 1) := by decide +kernel
theorem dX8_behind_41 : decode cX8_behind 41 = .ok (.iconst 1, 1) := by decide +kernel
theorem dX8_behind_42 : decode cX8_behind 42 = .ok (.iand, 1) := by decide +kernel
theorem dX8_behind_43 : decode cX8_behind 43 = .ok (.iconst 1, 1) := by decide +kernel
theorem dX8_behind_44 : decode cX8_behind 44 = .ok (.if_icmp .ne 7, 3) := by decide +kernel
theorem dX8_behind_47 : decode cX8_behind 47 = .ok (.iconst 1, 1) := by decide +kernel
theorem dX8_behind_48 : decode cX8_behind 48 = .ok (.goto 4, 3) := by decide +kernel
theorem dX8_behind_51 : decode cX8_behind 51 = .ok (.iconst 0, 1) := by decide +kernel
theorem dX8_behind_52 : decode cX8_behind 52 = .ok (.istore 5, 2) := by decide +kernel
theorem dX8_behind_54 : decode cX8_behind 54 = .ok (.iload_n 2, 1) := by decide +kernel
theorem dX8_behind_55 : decode cX8_behind 55 = .ok (.iload 5, 2) := by decide +kernel
theorem dX8_behind_57 : decode cX8_behind 57 = .ok (.ifCond .eq 10, 3) := by decide +kernel
theorem dX8_behind_60 : decode cX8_behind 60 = .ok (.iconst 1, 1) := by decide +kernel
theorem dX8_behind_61 : decode cX8_behind 61 = .ok (.iload 4, 2) := by decide +kernel
theorem dX8_behind_63 : decode cX8_behind 63 = .ok (.ishl, 1) := by decide +kernel
theorem dX8_behind_64 : decode cX8_behind 64 = .ok (.goto 4, 3) := by decide +kernel
theorem dX8_behind_67 : decode cX8_behind 67 = .ok (.iconst 0, 1) := by decide +kernel
theorem dX8_behind_68 : decode cX8_behind 68 = .ok (.ior, 1) := by decide +kernel
theorem dX8_behind_69 : decode cX8_behind 69 = .ok (.istore_n 2, 1) := by decide +kernel
theorem dX8_behind_70 : decode cX8_behind 70 = .ok (.iload_n 3, 1) := by decide +kernel
theorem dX8_behind_71 : decode cX8_behind 71 = .ok (.iload 5, 2) := by decide +kernel
theorem dX8_behind_73 : decode cX8_behind 73 = .ok (.ifCond .eq 7, 3) := by decide +kernel
theorem dX8_behind_76 : decode cX8_behind 76 = .ok (.iconst 1, 1) := by decide +kernel
theorem dX8_behind_77 : decode cX8_behind 77 = .ok (.goto 4, 3) := by decide +kernel
theorem dX8_behind_80 : decode cX8_behind 80 = .ok (.iconst 0, 1) := by decide +kernel
theorem dX8_behind_81 : decode cX8_behind 81 = .ok (.iadd, 1) := by decide +kernel
theorem dX8_behind_82 : decode cX8_behind 82 = .ok (.istore_n 3, 1) := by decide +kernel
theorem dX8_behind_83 : decode cX8_behind 83 = .ok (.iinc 4 1, 3) := by decide +kernel
theorem dX8_behind_86 : decode cX8_behind 86 = .ok (.goto (-75), 3) := by decide +kernel
theorem dX8_behind_89 : decode cX8_behind 89 = .ok (.iload_n 3, 1) := by decide +kernel
theorem dX8_behind_90 : decode cX8_behind 90 = .ok (.ireturn, 1) := by decide +kernel
set_option maxRecDepth 20000 in
theorem ggX8_depth_X8_its : GoodIn wsX8_depth wsX8_its := goodIn_r _ [5, 6, 7, 8, 4, 9, 10, 11, 12, 13, 14, 15, 16, 17, 18, 19, 20, 21, 22, 23] (by decide +kernel) (by decide +kernel)
set_option maxRecDepth 20000 in
theorem gX8_depth_X8_its : GoodIn wsX8_depth (wsV RX8 47 RX8 yX8_its wsX8_its) := goodIn_app (goodIn_of _ (by decide +kernel)) ggX8_depth_X8_its
theorem dX8_depth_0 : decode cX8_depth 0 = .ok (.iconst 0, 1) := by decide +kernel
theorem dX8_depth_1 : decode cX8_depth 1 = .ok (.istore_n 2, 1) := by decide +kernel
theorem dX8_depth_2 : decode cX8_depth 2 = .ok (.iload_n 1, 1) := by decide +kernel
theorem dX8_depth_3 : decode cX8_depth 3 = .ok (.istore_n 3, 1) := by decide +kernel
theorem dX8_depth_4 : decode cX8_depth 4 = .ok (.iload_n 3, 1) := by decide +kernel
theorem dX8_depth_5 : decode cX8_depth 5 = .ok (.ifCond .le 16, 3) := by decide +kernel
theorem dX8_depth_8 : decode cX8_depth 8 = .ok (.aload_n 0, 1) := by decide +kernel
theorem dX8_depth_9 : decode cX8_depth 9 = .ok (.iload_n 3, 1) := by decide +kernel
theorem dX8_depth_10 : decode cX8_depth 10 = .ok (.iconst 0, 1) := by decide +kernel
theorem dX8_depth_11 : decode cX8_depth 11 = .ok (.invokevirtual 47, 3) := by decide +kernel
theorem dX8_depth_14 : decode cX8_depth 14 = .ok (.istore_n 3, 1) := by decide +kernel
theorem dX8_depth_15 : decode cX8_depth 15 = .ok (.iinc 2 1, 3) := by decide +kernel
theorem dX8_depth_18 : decode cX8_depth 18 = .ok (.goto (-14), 3) := by decide +kernel
theorem dX8_depth_21 : decode cX8_depth 21 = .ok (.iload_n 2, 1) := by decide +kernel
theorem dX8_depth_22 : decode cX8_depth 22 = .ok (.ireturn, 1) := by decide +kernel
set_option maxRecDepth 20000 in
theorem ggX8_of_X8_isStreet : GoodIn wsX8_of wsX8_isStreet := goodIn_r _ [5, 6, 7, 8, 4, 9, 29, 30, 31, 32, 33, 34, 35, 36, 37, 38, 39, 40, 41, 42] (by decide +kernel) (by decide +kernel)
set_option maxRecDepth 20000 in
theorem gX8_of_X8_isStreet : GoodIn wsX8_of (wsV RX8 81 RX8 yX8_isStreet wsX8_isStreet) := goodIn_app (goodIn_of _ (by decide +kernel)) ggX8_of_X8_isStreet
set_option maxRecDepth 20000 in
theorem ggX8_of_X8_its : GoodIn wsX8_of wsX8_its := goodIn_r _ [13, 6, 14, 15, 4, 16, 29, 30, 31, 32, 33, 34, 35, 36, 37, 38, 39, 40, 41, 42] (by decide +kernel) (by decide +kernel)
set_option maxRecDepth 20000 in
theorem gX8_of_X8_its : GoodIn wsX8_of (wsV RX8 47 RX8 yX8_its wsX8_its) := goodIn_app (goodIn_of _ (by decide +kernel)) ggX8_of_X8_its
set_option maxRecDepth 20000 in
theorem ggX8_of_X8_branchSet : GoodIn wsX8_of wsX8_branchSet := goodIn_r _ [20, 6, 10, 11, 12, 4, 13, 14, 15, 16, 29, 30, 31, 32, 33, 34, 35, 36, 37, 38, 39, 40, 41, 42] (by decide +kernel) (by decide +kernel)
set_option maxRecDepth 20000 in
theorem gX8_of_X8_branchSet : GoodIn wsX8_of (wsV RX8 94 RX8 yX8_branchSet wsX8_branchSet) := goodIn_app (goodIn_of _ (by decide +kernel)) ggX8_of_X8_branchSet
set_option maxRecDepth 20000 in
theorem ggX8_of_X8_behind : GoodIn wsX8_of wsX8_behind := goodIn_r _ [24, 6, 10, 11, 12, 4, 13, 14, 15, 16, 29, 30, 31, 32, 33, 34, 35, 36, 37, 38, 39, 40, 41, 42] (by decide +kernel) (by decide +kernel)
set_option maxRecDepth 20000 in
theorem gX8_of_X8_behind : GoodIn wsX8_of (wsV RX8 97 RX8 yX8_behind wsX8_behind) := goodIn_app (goodIn_of _ (by decide +kernel)) ggX8_of_X8_behind
set_option maxRecDepth 20000 in
theorem ggX8_of_X8_depth : GoodIn wsX8_of wsX8_depth := goodIn_r _ [28, 10, 11, 12, 4, 13, 6, 14, 15, 16, 29, 30, 31, 32, 33, 34, 35, 36, 37, 38, 39, 40, 41, 42] (by decide +kernel) (by decide +kernel)
set_option maxRecDepth 20000 in
theorem gX8_of_X8_depth : GoodIn wsX8_of (wsV RX8 100 RX8 yX8_depth wsX8_depth) := goodIn_app (goodIn_of _ (by decide +kernel)) ggX8_of_X8_depth
theorem dX8_of_0 : decode cX8_of 0 = .ok (.aload_n 0, 1) := by decide +kernel
theorem dX8_of_1 : decode cX8_of 1 = .ok (.iload_n 1, 1) := by decide +kernel
theorem dX8_of_2 : decode cX8_of 2 = .ok (.invokevirtual 81, 3) := by decide +kernel
theorem dX8_of_5 : decode cX8_of 5 = .ok (.ifCond .ne 5, 3) := by decide +kernel
theorem dX8_of_8 : decode cX8_of 8 = .ok (.iconst (-1), 1) := by decide +kernel
theorem dX8_of_9 : decode cX8_of 9 = .ok (.ireturn, 1) := by decide +kernel
theorem dX8_of_10 : decode cX8_of 10 = .ok (.iload_n 2, 1) := by decide +kernel
theorem dX8_of_11 : decode cX8_of 11 = .ok (.tableswitch 91 0 7 #[45, 66, 66, 66, 66, 73, 79, 85], 45) := by decide +kernel
theorem dX8_of_56 : decode cX8_of 56 = .ok (.aload_n 0, 1) := by decide +kernel
theorem dX8_of_57 : decode cX8_of 57 = .ok (.iload_n 1, 1) := by decide +kernel
theorem dX8_of_58 : decode cX8_of 58 = .ok (.iconst 0, 1) := by decide +kernel
theorem dX8_of_59 : decode cX8_of 59 = .ok (.invokevirtual 47, 3) := by decide +kernel
theorem dX8_of_62 : decode cX8_of 62 = .ok (.ifCond .ge 8, 3) := by decide +kernel
theorem dX8_of_65 : decode cX8_of 65 = .ok (.bipush (-6), 2) := by decide +kernel
theorem dX8_of_67 : decode cX8_of 67 = .ok (.goto 9, 3) := by decide +kernel
theorem dX8_of_70 : decode cX8_of 70 = .ok (.aload_n 0, 1) := by decide +kernel
theorem dX8_of_71 : decode cX8_of 71 = .ok (.iload_n 1, 1) := by decide +kernel
theorem dX8_of_72 : decode cX8_of 72 = .ok (.iconst 0, 1) := by decide +kernel
theorem dX8_of_73 : decode cX8_of 73 = .ok (.invokevirtual 47, 3) := by decide +kernel
theorem dX8_of_76 : decode cX8_of 76 = .ok (.ireturn, 1) := by decide +kernel
theorem dX8_of_77 : decode cX8_of 77 = .ok (.aload_n 0, 1) := by decide +kernel
theorem dX8_of_78 : decode cX8_of 78 = .ok (.iload_n 1, 1) := by decide +kernel
theorem dX8_of_79 : decode cX8_of 79 = .ok (.iload_n 2, 1) := by decide +kernel
theorem dX8_of_80 : decode cX8_of 80 = .ok (.invokevirtual 47, 3) := by decide +kernel
theorem dX8_of_83 : decode cX8_of 83 = .ok (.ireturn, 1) := by decide +kernel
theorem dX8_of_84 : decode cX8_of 84 = .ok (.aload_n 0, 1) := by decide +kernel
theorem dX8_of_85 : decode cX8_of 85 = .ok (.iload_n 1, 1) := by decide +kernel
theorem dX8_of_86 : decode cX8_of 86 = .ok (.invokevirtual 94, 3) := by decide +kernel
theorem dX8_of_89 : decode cX8_of 89 = .ok (.ireturn, 1) := by decide +kernel
theorem dX8_of_90 : decode cX8_of 90 = .ok (.aload_n 0, 1) := by decide +kernel
theorem dX8_of_91 : decode cX8_of 91 = .ok (.iload_n 1, 1) := by decide +kernel
theorem dX8_of_92 : decode cX8_of 92 = .ok (.invokevirtual 97, 3) := by decide +kernel
theorem dX8_of_95 : decode cX8_of 95 = .ok (.ireturn, 1) := by decide +kernel
theorem dX8_of_96 : decode cX8_of 96 = .ok (.aload_n 0, 1) := by decide +kernel
theorem dX8_of_97 : decode cX8_of 97 = .ok (.iload_n 1, 1) := by decide +kernel
theorem dX8_of_98 : decode cX8_of 98 = .ok (.invokevirtual 100, 3) := by decide +kernel
theorem dX8_of_101 : decode cX8_of 101 = .ok (.ireturn, 1) := by decide +kernel
theorem dX8_of_102 : decode cX8_of 102 = .ok (.bipush (-2), 2) := by decide +kernel
theorem dX8_of_104 : decode cX8_of 104 = .ok (.ireturn, 1) := by decide +kernel
set_option maxRecDepth 20000 in
theorem ggX8_now_X8_isStreet : GoodIn wsX8_now wsX8_isStreet := goodIn_r _ [7, 1, 8, 9, 6, 10, 41, 42, 43, 44, 45, 46, 47, 48, 49, 50, 51, 52, 53, 54] (by decide +kernel) (by decide +kernel)
set_option maxRecDepth 20000 in
theorem gX8_now_X8_isStreet : GoodIn wsX8_now (wsV RX8 81 RX8 yX8_isStreet wsX8_isStreet) := goodIn_app (goodIn_of _ (by decide +kernel)) ggX8_now_X8_isStreet
set_option maxRecDepth 20000 in
theorem ggX8_now_X8_blows : GoodIn wsX8_now wsX8_blows := goodIn_r _ [14, 2, 1, 15, 16, 17, 6, 18, 19, 20, 21, 22, 23, 24, 25, 26, 27, 28, 41, 42, 43, 44, 45, 46, 47, 48, 49, 50, 51, 52, 53, 54] (by decide +kernel) (by decide +kernel)
set_option maxRecDepth 20000 in
theorem gX8_now_X8_blows : GoodIn wsX8_now (wsV RX8 60 RX8 yX8_blows wsX8_blows) := goodIn_app (goodIn_of _ (by decide +kernel)) ggX8_now_X8_blows
set_option maxRecDepth 20000 in
theorem ggX8_now_X8_gustOf : GoodIn wsX8_now wsX8_gustOf := goodIn_r _ [32, 2, 1, 41, 42, 43, 44, 45, 46, 47, 48, 49, 50, 51, 52, 53, 54] (by decide +kernel) (by decide +kernel)
set_option maxRecDepth 20000 in
theorem gX8_now_X8_gustOf : GoodIn wsX8_now (wsV RX8 56 RX8 yX8_gustOf wsX8_gustOf) := goodIn_app (goodIn_of _ (by decide +kernel)) ggX8_now_X8_gustOf
set_option maxRecDepth 20000 in
theorem ggX8_now_X8_its : GoodIn wsX8_now wsX8_its := goodIn_r _ [22, 1, 23, 24, 6, 25, 41, 42, 43, 44, 45, 46, 47, 48, 49, 50, 51, 52, 53, 54] (by decide +kernel) (by decide +kernel)
set_option maxRecDepth 20000 in
theorem gX8_now_X8_its : GoodIn wsX8_now (wsV RX8 47 RX8 yX8_its wsX8_its) := goodIn_app (goodIn_of _ (by decide +kernel)) ggX8_now_X8_its
set_option maxRecDepth 20000 in
theorem ggX8_now_X8_stepsOf : GoodIn wsX8_now wsX8_stepsOf := goodIn_r _ [36, 2, 1, 19, 20, 21, 6, 22, 23, 24, 25, 26, 27, 28, 41, 42, 43, 44, 45, 46, 47, 48, 49, 50, 51, 52, 53, 54] (by decide +kernel) (by decide +kernel)
set_option maxRecDepth 20000 in
theorem gX8_now_X8_stepsOf : GoodIn wsX8_now (wsV RX8 103 RX8 yX8_stepsOf wsX8_stepsOf) := goodIn_app (goodIn_of _ (by decide +kernel)) ggX8_now_X8_stepsOf
set_option maxRecDepth 20000 in
theorem ggX8_now_X8_less : GoodIn wsX8_now wsX8_less := goodIn_r _ [28] (by decide +kernel) (by decide +kernel)
set_option maxRecDepth 20000 in
theorem gX8_now_X8_less : GoodIn wsX8_now (va_wsS RX8 50 yX8_less wsX8_less) := goodIn_app (goodIn_of _ (by decide +kernel)) ggX8_now_X8_less
set_option maxRecDepth 20000 in
theorem ggX8_now_X8_hatsOf : GoodIn wsX8_now wsX8_hatsOf := goodIn_r _ [40, 1, 29, 30, 31, 6, 32, 2, 19, 20, 21, 22, 23, 24, 25, 26, 27, 28, 41, 42, 43, 44, 45, 46, 47, 48, 49, 50, 51, 52, 53, 54] (by decide +kernel) (by decide +kernel)
set_option maxRecDepth 20000 in
theorem gX8_now_X8_hatsOf : GoodIn wsX8_now (wsV RX8 64 RX8 yX8_hatsOf wsX8_hatsOf) := goodIn_app (goodIn_of _ (by decide +kernel)) ggX8_now_X8_hatsOf
theorem dX8_now_0 : decode cX8_now 0 = .ok (.aload_n 0, 1) := by decide +kernel
theorem dX8_now_1 : decode cX8_now 1 = .ok (.iload_n 1, 1) := by decide +kernel
theorem dX8_now_2 : decode cX8_now 2 = .ok (.invokevirtual 81, 3) := by decide +kernel
theorem dX8_now_5 : decode cX8_now 5 = .ok (.ifCond .ne 5, 3) := by decide +kernel
theorem dX8_now_8 : decode cX8_now 8 = .ok (.iconst (-1), 1) := by decide +kernel
theorem dX8_now_9 : decode cX8_now 9 = .ok (.ireturn, 1) := by decide +kernel
theorem dX8_now_10 : decode cX8_now 10 = .ok (.aload_n 0, 1) := by decide +kernel
theorem dX8_now_11 : decode cX8_now 11 = .ok (.aload_n 0, 1) := by decide +kernel
theorem dX8_now_12 : decode cX8_now 12 = .ok (.getfield 7, 3) := by decide +kernel
theorem dX8_now_15 : decode cX8_now 15 = .ok (.iconst 4, 1) := by decide +kernel
theorem dX8_now_16 : decode cX8_now 16 = .ok (.iaload, 1) := by decide +kernel
theorem dX8_now_17 : decode cX8_now 17 = .ok (.invokevirtual 60, 3) := by decide +kernel
theorem dX8_now_20 : decode cX8_now 20 = .ok (.iload_n 2, 1) := by decide +kernel
theorem dX8_now_21 : decode cX8_now 21 = .ok (.tableswitch 107 0 4 #[35, 42, 48, 68, 101], 35) := by decide +kernel
theorem dX8_now_56 : decode cX8_now 56 = .ok (.aload_n 0, 1) := by decide +kernel
theorem dX8_now_57 : decode cX8_now 57 = .ok (.getfield 26, 3) := by decide +kernel
theorem dX8_now_60 : decode cX8_now 60 = .ok (.iload_n 1, 1) := by decide +kernel
theorem dX8_now_61 : decode cX8_now 61 = .ok (.iaload, 1) := by decide +kernel
theorem dX8_now_62 : decode cX8_now 62 = .ok (.ireturn, 1) := by decide +kernel
theorem dX8_now_63 : decode cX8_now 63 = .ok (.aload_n 0, 1) := by decide +kernel
theorem dX8_now_64 : decode cX8_now 64 = .ok (.iload_n 1, 1) := by decide +kernel
theorem dX8_now_65 : decode cX8_now 65 = .ok (.invokevirtual 56, 3) := by decide +kernel
theorem dX8_now_68 : decode cX8_now 68 = .ok (.ireturn, 1) := by decide +kernel
theorem dX8_now_69 : decode cX8_now 69 = .ok (.aload_n 0, 1) := by decide +kernel
theorem dX8_now_70 : decode cX8_now 70 = .ok (.iload_n 1, 1) := by decide +kernel
theorem dX8_now_71 : decode cX8_now 71 = .ok (.iconst 2, 1) := by decide +kernel
theorem dX8_now_72 : decode cX8_now 72 = .ok (.invokevirtual 47, 3) := by decide +kernel
theorem dX8_now_75 : decode cX8_now 75 = .ok (.ifCond .ne 8, 3) := by decide +kernel
theorem dX8_now_78 : decode cX8_now 78 = .ok (.bipush (-6), 2) := by decide +kernel
theorem dX8_now_80 : decode cX8_now 80 = .ok (.goto 8, 3) := by decide +kernel
theorem dX8_now_83 : decode cX8_now 83 = .ok (.aload_n 0, 1) := by decide +kernel
theorem dX8_now_84 : decode cX8_now 84 = .ok (.iload_n 1, 1) := by decide +kernel
theorem dX8_now_85 : decode cX8_now 85 = .ok (.invokevirtual 103, 3) := by decide +kernel
theorem dX8_now_88 : decode cX8_now 88 = .ok (.ireturn, 1) := by decide +kernel
theorem dX8_now_89 : decode cX8_now 89 = .ok (.aload_n 0, 1) := by decide +kernel
theorem dX8_now_90 : decode cX8_now 90 = .ok (.iload_n 1, 1) := by decide +kernel
theorem dX8_now_91 : decode cX8_now 91 = .ok (.iconst 3, 1) := by decide +kernel
theorem dX8_now_92 : decode cX8_now 92 = .ok (.invokevirtual 47, 3) := by decide +kernel
theorem dX8_now_95 : decode cX8_now 95 = .ok (.ifCond .ne 8, 3) := by decide +kernel
theorem dX8_now_98 : decode cX8_now 98 = .ok (.bipush (-6), 2) := by decide +kernel
theorem dX8_now_100 : decode cX8_now 100 = .ok (.goto 21, 3) := by decide +kernel
theorem dX8_now_103 : decode cX8_now 103 = .ok (.aload_n 0, 1) := by decide +kernel
theorem dX8_now_104 : decode cX8_now 104 = .ok (.getfield 26, 3) := by decide +kernel
theorem dX8_now_107 : decode cX8_now 107 = .ok (.iload_n 1, 1) := by decide +kernel
theorem dX8_now_108 : decode cX8_now 108 = .ok (.iaload, 1) := by decide +kernel
theorem dX8_now_109 : decode cX8_now 109 = .ok (.aload_n 0, 1) := by decide +kernel
theorem dX8_now_110 : decode cX8_now 110 = .ok (.getfield 7, 3) := by decide +kernel
theorem dX8_now_113 : decode cX8_now 113 = .ok (.iconst 3, 1) := by decide +kernel
theorem dX8_now_114 : decode cX8_now 114 = .ok (.iaload, 1) := by decide +kernel
theorem dX8_now_115 : decode cX8_now 115 = .ok (.idiv, 1) := by decide +kernel
theorem dX8_now_116 : decode cX8_now 116 = .ok (.bipush 9, 2) := by decide +kernel
theorem dX8_now_118 : decode cX8_now 118 = .ok (.invokestatic 50, 3) := by decide +kernel
theorem dX8_now_121 : decode cX8_now 121 = .ok (.ireturn, 1) := by decide +kernel
theorem dX8_now_122 : decode cX8_now 122 = .ok (.aload_n 0, 1) := by decide +kernel
theorem dX8_now_123 : decode cX8_now 123 = .ok (.iload_n 1, 1) := by decide +kernel
theorem dX8_now_124 : decode cX8_now 124 = .ok (.invokevirtual 64, 3) := by decide +kernel
theorem dX8_now_127 : decode cX8_now 127 = .ok (.ireturn, 1) := by decide +kernel
theorem dX8_now_128 : decode cX8_now 128 = .ok (.bipush (-2), 2) := by decide +kernel
theorem dX8_now_130 : decode cX8_now 130 = .ok (.ireturn, 1) := by decide +kernel
set_option maxRecDepth 20000 in
theorem ggX8_record_X8_in : GoodIn wsX8_record wsX8_in := goodIn_r _ [5] (by decide +kernel) (by decide +kernel)
set_option maxRecDepth 20000 in
theorem gX8_record_X8_in : GoodIn wsX8_record (va_wsS RX8 39 yX8_in wsX8_in) := goodIn_app (goodIn_of _ (by decide +kernel)) ggX8_record_X8_in
theorem dX8_record_0 : decode cX8_record 0 = .ok (.iload_n 1, 1) := by decide +kernel
theorem dX8_record_1 : decode cX8_record 1 = .ok (.iconst 0, 1) := by decide +kernel
theorem dX8_record_2 : decode cX8_record 2 = .ok (.aload_n 0, 1) := by decide +kernel
theorem dX8_record_3 : decode cX8_record 3 = .ok (.getfield 7, 3) := by decide +kernel
theorem dX8_record_6 : decode cX8_record 6 = .ok (.bipush 8, 2) := by decide +kernel
theorem dX8_record_8 : decode cX8_record 8 = .ok (.iaload, 1) := by decide +kernel
theorem dX8_record_9 : decode cX8_record 9 = .ok (.iconst 1, 1) := by decide +kernel
theorem dX8_record_10 : decode cX8_record 10 = .ok (.isub, 1) := by decide +kernel
theorem dX8_record_11 : decode cX8_record 11 = .ok (.invokestatic 39, 3) := by decide +kernel
theorem dX8_record_14 : decode cX8_record 14 = .ok (.ifCond .ne 5, 3) := by decide +kernel
theorem dX8_record_17 : decode cX8_record 17 = .ok (.iconst (-1), 1) := by decide +kernel
theorem dX8_record_18 : decode cX8_record 18 = .ok (.ireturn, 1) := by decide +kernel
theorem dX8_record_19 : decode cX8_record 19 = .ok (.iload_n 2, 1) := by decide +kernel
theorem dX8_record_20 : decode cX8_record 20 = .ok (.iconst 0, 1) := by decide +kernel
theorem dX8_record_21 : decode cX8_record 21 = .ok (.iconst 2, 1) := by decide +kernel
theorem dX8_record_22 : decode cX8_record 22 = .ok (.invokestatic 39, 3) := by decide +kernel
theorem dX8_record_25 : decode cX8_record 25 = .ok (.ifCond .eq 19, 3) := by decide +kernel
theorem dX8_record_28 : decode cX8_record 28 = .ok (.aload_n 0, 1) := by decide +kernel
theorem dX8_record_29 : decode cX8_record 29 = .ok (.getfield 7, 3) := by decide +kernel
theorem dX8_record_32 : decode cX8_record 32 = .ok (.bipush 9, 2) := by decide +kernel
theorem dX8_record_34 : decode cX8_record 34 = .ok (.iconst 3, 1) := by decide +kernel
theorem dX8_record_35 : decode cX8_record 35 = .ok (.iload_n 1, 1) := by decide +kernel
theorem dX8_record_36 : decode cX8_record 36 = .ok (.imul, 1) := by decide +kernel
theorem dX8_record_37 : decode cX8_record 37 = .ok (.iadd, 1) := by decide +kernel
theorem dX8_record_38 : decode cX8_record 38 = .ok (.iload_n 2, 1) := by decide +kernel
theorem dX8_record_39 : decode cX8_record 39 = .ok (.iadd, 1) := by decide +kernel
theorem dX8_record_40 : decode cX8_record 40 = .ok (.iaload, 1) := by decide +kernel
theorem dX8_record_41 : decode cX8_record 41 = .ok (.goto 5, 3) := by decide +kernel
theorem dX8_record_44 : decode cX8_record 44 = .ok (.bipush (-2), 2) := by decide +kernel
theorem dX8_record_46 : decode cX8_record 46 = .ok (.ireturn, 1) := by decide +kernel
set_option maxRecDepth 20000 in
theorem ggX8_sign_X8_in : GoodIn wsX8_sign wsX8_in := goodIn_r _ [6] (by decide +kernel) (by decide +kernel)
set_option maxRecDepth 20000 in
theorem gX8_sign_X8_in : GoodIn wsX8_sign (va_wsS RX8 39 yX8_in wsX8_in) := goodIn_app (goodIn_of _ (by decide +kernel)) ggX8_sign_X8_in
theorem dX8_sign_0 : decode cX8_sign 0 = .ok (.iload_n 1, 1) := by decide +kernel
theorem dX8_sign_1 : decode cX8_sign 1 = .ok (.iconst 0, 1) := by decide +kernel
theorem dX8_sign_2 : decode cX8_sign 2 = .ok (.aload_n 0, 1) := by decide +kernel
theorem dX8_sign_3 : decode cX8_sign 3 = .ok (.getfield 106, 3) := by decide +kernel
theorem dX8_sign_6 : decode cX8_sign 6 = .ok (.iconst 1, 1) := by decide +kernel
theorem dX8_sign_7 : decode cX8_sign 7 = .ok (.isub, 1) := by decide +kernel
theorem dX8_sign_8 : decode cX8_sign 8 = .ok (.invokestatic 39, 3) := by decide +kernel
theorem dX8_sign_11 : decode cX8_sign 11 = .ok (.ifCond .eq 12, 3) := by decide +kernel
theorem dX8_sign_14 : decode cX8_sign 14 = .ok (.aload_n 0, 1) := by decide +kernel
theorem dX8_sign_15 : decode cX8_sign 15 = .ok (.getfield 23, 3) := by decide +kernel
theorem dX8_sign_18 : decode cX8_sign 18 = .ok (.iload_n 1, 1) := by decide +kernel
theorem dX8_sign_19 : decode cX8_sign 19 = .ok (.iaload, 1) := by decide +kernel
theorem dX8_sign_20 : decode cX8_sign 20 = .ok (.goto 4, 3) := by decide +kernel
theorem dX8_sign_23 : decode cX8_sign 23 = .ok (.iconst (-1), 1) := by decide +kernel
theorem dX8_sign_24 : decode cX8_sign 24 = .ok (.ireturn, 1) := by decide +kernel
set_option maxRecDepth 20000 in
theorem ggX8_people_X8_its : GoodIn wsX8_people wsX8_its := goodIn_r _ [6, 1, 7, 8, 5, 9, 10, 11, 12, 13, 14, 15, 16, 17, 18, 19, 20, 21, 22, 23] (by decide +kernel) (by decide +kernel)
set_option maxRecDepth 20000 in
theorem gX8_people_X8_its : GoodIn wsX8_people (wsV RX8 47 RX8 yX8_its wsX8_its) := goodIn_app (goodIn_of _ (by decide +kernel)) ggX8_people_X8_its
theorem dX8_people_0 : decode cX8_people 0 = .ok (.iconst 0, 1) := by decide +kernel
theorem dX8_people_1 : decode cX8_people 1 = .ok (.istore_n 1, 1) := by decide +kernel
theorem dX8_people_2 : decode cX8_people 2 = .ok (.iconst 0, 1) := by decide +kernel
theorem dX8_people_3 : decode cX8_people 3 = .ok (.istore_n 2, 1) := by decide +kernel
theorem dX8_people_4 : decode cX8_people 4 = .ok (.iload_n 2, 1) := by decide +kernel
theorem dX8_people_5 : decode cX8_people 5 = .ok (.aload_n 0, 1) := by decide +kernel
theorem dX8_people_6 : decode cX8_people 6 = .ok (.getfield 7, 3) := by decide +kernel
theorem dX8_people_9 : decode cX8_people 9 = .ok (.iconst 5, 1) := by decide +kernel
theorem dX8_people_10 : decode cX8_people 10 = .ok (.iaload, 1) := by decide +kernel
theorem dX8_people_11 : decode cX8_people 11 = .ok (.if_icmp .ge 18, 3) := by decide +kernel
theorem dX8_people_14 : decode cX8_people 14 = .ok (.iload_n 1, 1) := by decide +kernel
theorem dX8_people_15 : decode cX8_people 15 = .ok (.aload_n 0, 1) := by decide +kernel
theorem dX8_people_16 : decode cX8_people 16 = .ok (.iload_n 2, 1) := by decide +kernel
theorem dX8_people_17 : decode cX8_people 17 = .ok (.iconst 4, 1) := by decide +kernel
theorem dX8_people_18 : decode cX8_people 18 = .ok (.invokevirtual 47, 3) := by decide +kernel
theorem dX8_people_21 : decode cX8_people 21 = .ok (.iadd, 1) := by decide +kernel
theorem dX8_people_22 : decode cX8_people 22 = .ok (.istore_n 1, 1) := by decide +kernel
theorem dX8_people_23 : decode cX8_people 23 = .ok (.iinc 2 1, 3) := by decide +kernel
theorem dX8_people_26 : decode cX8_people 26 = .ok (.goto (-22), 3) := by decide +kernel
theorem dX8_people_29 : decode cX8_people 29 = .ok (.iload_n 1, 1) := by decide +kernel
theorem dX8_people_30 : decode cX8_people 30 = .ok (.ireturn, 1) := by decide +kernel
set_option maxRecDepth 20000 in
theorem ggX8_calm_X8_blows : GoodIn wsX8_calm wsX8_blows := goodIn_r _ [7, 2, 1, 8, 9, 10, 6, 11, 12, 13, 14, 15, 16, 17, 18, 19, 20, 21, 30, 31, 32, 33, 34, 35, 36, 37, 38, 39, 40, 41, 42, 43] (by decide +kernel) (by decide +kernel)
set_option maxRecDepth 20000 in
theorem gX8_calm_X8_blows : GoodIn wsX8_calm (wsV RX8 60 RX8 yX8_blows wsX8_blows) := goodIn_app (goodIn_of _ (by decide +kernel)) ggX8_calm_X8_blows
set_option maxRecDepth 20000 in
theorem ggX8_calm_X8_hatsOf : GoodIn wsX8_calm wsX8_hatsOf := goodIn_r _ [25, 1, 26, 27, 28, 6, 29, 2, 12, 13, 14, 15, 16, 17, 18, 19, 20, 21, 30, 31, 32, 33, 34, 35, 36, 37, 38, 39, 40, 41, 42, 43] (by decide +kernel) (by decide +kernel)
set_option maxRecDepth 20000 in
theorem gX8_calm_X8_hatsOf : GoodIn wsX8_calm (wsV RX8 64 RX8 yX8_hatsOf wsX8_hatsOf) := goodIn_app (goodIn_of _ (by decide +kernel)) ggX8_calm_X8_hatsOf
theorem dX8_calm_0 : decode cX8_calm 0 = .ok (.aload_n 0, 1) := by decide +kernel
theorem dX8_calm_1 : decode cX8_calm 1 = .ok (.aload_n 0, 1) := by decide +kernel
theorem dX8_calm_2 : decode cX8_calm 2 = .ok (.getfield 7, 3) := by decide +kernel
theorem dX8_calm_5 : decode cX8_calm 5 = .ok (.iconst 4, 1) := by decide +kernel
theorem dX8_calm_6 : decode cX8_calm 6 = .ok (.iaload, 1) := by decide +kernel
theorem dX8_calm_7 : decode cX8_calm 7 = .ok (.invokevirtual 60, 3) := by decide +kernel
theorem dX8_calm_10 : decode cX8_calm 10 = .ok (.iconst 0, 1) := by decide +kernel
theorem dX8_calm_11 : decode cX8_calm 11 = .ok (.istore_n 2, 1) := by decide +kernel
theorem dX8_calm_12 : decode cX8_calm 12 = .ok (.iconst 0, 1) := by decide +kernel
theorem dX8_calm_13 : decode cX8_calm 13 = .ok (.istore_n 3, 1) := by decide +kernel
theorem dX8_calm_14 : decode cX8_calm 14 = .ok (.iconst 0, 1) := by decide +kernel
theorem dX8_calm_15 : decode cX8_calm 15 = .ok (.istore 4, 2) := by decide +kernel
theorem dX8_calm_17 : decode cX8_calm 17 = .ok (.iload 4, 2) := by decide +kernel
theorem dX8_calm_19 : decode cX8_calm 19 = .ok (.aload_n 0, 1) := by decide +kernel
theorem dX8_calm_20 : decode cX8_calm 20 = .ok (.getfield 7, 3) := by decide +kernel
theorem dX8_calm_23 : decode cX8_calm 23 = .ok (.iconst 5, 1) := by decide +kernel
theorem dX8_calm_24 : decode cX8_calm 24 = .ok (.iaload, 1) := by decide +kernel
theorem dX8_calm_25 : decode cX8_calm 25 = .ok (.if_icmp .ge 52, 3) := by decide +kernel
theorem dX8_calm_28 : decode cX8_calm 28 = .ok (.iload_n 2, 1) := by decide +kernel
theorem dX8_calm_29 : decode cX8_calm 29 = .ok (.aload_n 0, 1) := by decide +kernel
theorem dX8_calm_30 : decode cX8_calm 30 = .ok (.iload 4, 2) := by decide +kernel
theorem dX8_calm_32 : decode cX8_calm 32 = .ok (.invokevirtual 64, 3) := by decide +kernel
theorem dX8_calm_35 : decode cX8_calm 35 = .ok (.ifCond .ne 10, 3) := by decide +kernel
theorem dX8_calm_38 : decode cX8_calm 38 = .ok (.iconst 1, 1) := by decide +kernel
theorem dX8_calm_39 : decode cX8_calm 39 = .ok (.iload 4, 2) := by decide +kernel
theorem dX8_calm_41 : decode cX8_calm 41 = .ok (.ishl, 1) := by decide +kernel
theorem dX8_calm_42 : decode cX8_calm 42 = .ok (.goto 4, 3) := by decide +kernel
theorem dX8_calm_45 : decode cX8_calm 45 = .ok (.iconst 0, 1) := by decide +kernel
theorem dX8_calm_46 : decode cX8_calm 46 = .ok (.ior, 1) := by decide +kernel
theorem dX8_calm_47 : decode cX8_calm 47 = .ok (.istore_n 2, 1) := by decide +kernel
theorem dX8_calm_48 : decode cX8_calm 48 = .ok (.aload_n 0, 1) := by decide +kernel
theorem dX8_calm_49 : decode cX8_calm 49 = .ok (.getfield 26, 3) := by decide +kernel
theorem dX8_calm_52 : decode cX8_calm 52 = .ok (.iload 4, 2) := by decide +kernel
theorem dX8_calm_54 : decode cX8_calm 54 = .ok (.iaload, 1) := by decide +kernel
theorem dX8_calm_55 : decode cX8_calm 55 = .ok (.aload_n 0, 1) := by decide +kernel
theorem dX8_calm_56 : decode cX8_calm 56 = .ok (.getfield 26, 3) := by decide +kernel
theorem dX8_calm_59 : decode cX8_calm 59 = .ok (.iload_n 3, 1) := by decide +kernel
theorem dX8_calm_60 : decode cX8_calm 60 = .ok (.iaload, 1) := by decide +kernel
theorem dX8_calm_61 : decode cX8_calm 61 = .ok (.if_icmp .ge 8, 3) := by decide +kernel
theorem dX8_calm_64 : decode cX8_calm 64 = .ok (.iload 4, 2) := by decide +kernel
theorem dX8_calm_66 : decode cX8_calm 66 = .ok (.goto 4, 3) := by decide +kernel
theorem dX8_calm_69 : decode cX8_calm 69 = .ok (.iload_n 3, 1) := by decide +kernel
theorem dX8_calm_70 : decode cX8_calm 70 = .ok (.istore_n 3, 1) := by decide +kernel
theorem dX8_calm_71 : decode cX8_calm 71 = .ok (.iinc 4 1, 3) := by decide +kernel
theorem dX8_calm_74 : decode cX8_calm 74 = .ok (.goto (-57), 3) := by decide +kernel
theorem dX8_calm_77 : decode cX8_calm 77 = .ok (.iload_n 1, 1) := by decide +kernel
theorem dX8_calm_78 : decode cX8_calm 78 = .ok (.bipush 6, 2) := by decide +kernel
theorem dX8_calm_80 : decode cX8_calm 80 = .ok (.if_icmp .ne 7, 3) := by decide +kernel
theorem dX8_calm_83 : decode cX8_calm 83 = .ok (.iload_n 2, 1) := by decide +kernel
theorem dX8_calm_84 : decode cX8_calm 84 = .ok (.goto 4, 3) := by decide +kernel
theorem dX8_calm_87 : decode cX8_calm 87 = .ok (.iload_n 3, 1) := by decide +kernel
theorem dX8_calm_88 : decode cX8_calm 88 = .ok (.ireturn, 1) := by decide +kernel
set_option maxRecDepth 20000 in
theorem ggX8_count_X8_people : GoodIn wsX8_count wsX8_people := goodIn_r _ [8, 1, 9, 10, 11, 7, 12, 13, 14, 15, 47, 48, 49, 50, 51, 52, 53, 54, 55, 56, 57, 58, 59, 60] (by decide +kernel) (by decide +kernel)
set_option maxRecDepth 20000 in
theorem gX8_count_X8_people : GoodIn wsX8_count (wsV RX8 109 RX8 yX8_people wsX8_people) := goodIn_app (goodIn_of _ (by decide +kernel)) ggX8_count_X8_people
set_option maxRecDepth 20000 in
theorem ggX8_count_X8_hatsBy : GoodIn wsX8_count wsX8_hatsBy := goodIn_r _ [19, 1, 20, 21, 22, 7, 23, 24, 25, 26, 27, 28, 9, 10, 11, 12, 13, 14, 15, 29, 30, 31, 32, 33, 34, 35, 36, 37, 38, 39, 47, 48, 49, 50, 51, 52, 53, 54, 55, 56, 57, 58, 59, 60] (by decide +kernel) (by decide +kernel)
set_option maxRecDepth 20000 in
theorem gX8_count_X8_hatsBy : GoodIn wsX8_count (wsV RX8 67 RX8 yX8_hatsBy wsX8_hatsBy) := goodIn_app (goodIn_of _ (by decide +kernel)) ggX8_count_X8_hatsBy
set_option maxRecDepth 20000 in
theorem ggX8_count_X8_calm : GoodIn wsX8_count wsX8_calm := goodIn_r _ [43, 1, 24, 20, 21, 22, 7, 23, 25, 26, 27, 28, 9, 10, 11, 12, 13, 14, 15, 29, 30, 31, 32, 33, 34, 35, 36, 37, 38, 39, 47, 48, 49, 50, 51, 52, 53, 54, 55, 56, 57, 58, 59, 60] (by decide +kernel) (by decide +kernel)
set_option maxRecDepth 20000 in
theorem gX8_count_X8_calm : GoodIn wsX8_count (wsV RX8 112 RX8 yX8_calm wsX8_calm) := goodIn_app (goodIn_of _ (by decide +kernel)) ggX8_count_X8_calm
set_option maxRecDepth 20000 in
theorem ggX8_count_X8_in : GoodIn wsX8_count wsX8_in := goodIn_r _ [46] (by decide +kernel) (by decide +kernel)
set_option maxRecDepth 20000 in
theorem gX8_count_X8_in : GoodIn wsX8_count (va_wsS RX8 39 yX8_in wsX8_in) := goodIn_app (goodIn_of _ (by decide +kernel)) ggX8_count_X8_in
theorem dX8_count_0 : decode cX8_count 0 = .ok (.iload_n 1, 1) := by decide +kernel
theorem dX8_count_1 : decode cX8_count 1 = .ok (.tableswitch 129 0 13 #[71, 78, 85, 85, 97, 102, 113, 113, 129, 129, 129, 129, 119, 124], 71) := by decide +kernel
theorem dX8_count_72 : decode cX8_count 72 = .ok (.aload_n 0, 1) := by decide +kernel
theorem dX8_count_73 : decode cX8_count 73 = .ok (.getfield 7, 3) := by decide +kernel
theorem dX8_count_76 : decode cX8_count 76 = .ok (.iconst 5, 1) := by decide +kernel
theorem dX8_count_77 : decode cX8_count 77 = .ok (.iaload, 1) := by decide +kernel
theorem dX8_count_78 : decode cX8_count 78 = .ok (.ireturn, 1) := by decide +kernel
theorem dX8_count_79 : decode cX8_count 79 = .ok (.aload_n 0, 1) := by decide +kernel
theorem dX8_count_80 : decode cX8_count 80 = .ok (.getfield 7, 3) := by decide +kernel
theorem dX8_count_83 : decode cX8_count 83 = .ok (.iconst 4, 1) := by decide +kernel
theorem dX8_count_84 : decode cX8_count 84 = .ok (.iaload, 1) := by decide +kernel
theorem dX8_count_85 : decode cX8_count 85 = .ok (.ireturn, 1) := by decide +kernel
theorem dX8_count_86 : decode cX8_count 86 = .ok (.aload_n 0, 1) := by decide +kernel
theorem dX8_count_87 : decode cX8_count 87 = .ok (.getfield 7, 3) := by decide +kernel
theorem dX8_count_90 : decode cX8_count 90 = .ok (.bipush 6, 2) := by decide +kernel
theorem dX8_count_92 : decode cX8_count 92 = .ok (.iload_n 1, 1) := by decide +kernel
theorem dX8_count_93 : decode cX8_count 93 = .ok (.iadd, 1) := by decide +kernel
theorem dX8_count_94 : decode cX8_count 94 = .ok (.iconst 2, 1) := by decide +kernel
theorem dX8_count_95 : decode cX8_count 95 = .ok (.isub, 1) := by decide +kernel
theorem dX8_count_96 : decode cX8_count 96 = .ok (.iaload, 1) := by decide +kernel
theorem dX8_count_97 : decode cX8_count 97 = .ok (.ireturn, 1) := by decide +kernel
theorem dX8_count_98 : decode cX8_count 98 = .ok (.aload_n 0, 1) := by decide +kernel
theorem dX8_count_99 : decode cX8_count 99 = .ok (.invokevirtual 109, 3) := by decide +kernel
theorem dX8_count_102 : decode cX8_count 102 = .ok (.ireturn, 1) := by decide +kernel
theorem dX8_count_103 : decode cX8_count 103 = .ok (.aload_n 0, 1) := by decide +kernel
theorem dX8_count_104 : decode cX8_count 104 = .ok (.aload_n 0, 1) := by decide +kernel
theorem dX8_count_105 : decode cX8_count 105 = .ok (.getfield 7, 3) := by decide +kernel
theorem dX8_count_108 : decode cX8_count 108 = .ok (.iconst 4, 1) := by decide +kernel
theorem dX8_count_109 : decode cX8_count 109 = .ok (.iaload, 1) := by decide +kernel
theorem dX8_count_110 : decode cX8_count 110 = .ok (.invokevirtual 67, 3) := by decide +kernel
theorem dX8_count_113 : decode cX8_count 113 = .ok (.ireturn, 1) := by decide +kernel
theorem dX8_count_114 : decode cX8_count 114 = .ok (.aload_n 0, 1) := by decide +kernel
theorem dX8_count_115 : decode cX8_count 115 = .ok (.iload_n 1, 1) := by decide +kernel
theorem dX8_count_116 : decode cX8_count 116 = .ok (.invokevirtual 112, 3) := by decide +kernel
theorem dX8_count_119 : decode cX8_count 119 = .ok (.ireturn, 1) := by decide +kernel
theorem dX8_count_120 : decode cX8_count 120 = .ok (.aload_n 0, 1) := by decide +kernel
theorem dX8_count_121 : decode cX8_count 121 = .ok (.getfield 106, 3) := by decide +kernel
theorem dX8_count_124 : decode cX8_count 124 = .ok (.ireturn, 1) := by decide +kernel
theorem dX8_count_125 : decode cX8_count 125 = .ok (.aload_n 0, 1) := by decide +kernel
theorem dX8_count_126 : decode cX8_count 126 = .ok (.getfield 43, 3) := by decide +kernel
theorem dX8_count_129 : decode cX8_count 129 = .ok (.ireturn, 1) := by decide +kernel
theorem dX8_count_130 : decode cX8_count 130 = .ok (.iload_n 1, 1) := by decide +kernel
theorem dX8_count_131 : decode cX8_count 131 = .ok (.bipush 8, 2) := by decide +kernel
theorem dX8_count_133 : decode cX8_count 133 = .ok (.bipush 11, 2) := by decide +kernel
theorem dX8_count_135 : decode cX8_count 135 = .ok (.invokestatic 39, 3) := by decide +kernel
theorem dX8_count_138 : decode cX8_count 138 = .ok (.ifCond .eq 15, 3) := by decide +kernel
theorem dX8_count_141 : decode cX8_count 141 = .ok (.aload_n 0, 1) := by decide +kernel
theorem dX8_count_142 : decode cX8_count 142 = .ok (.getfield 7, 3) := by decide +kernel
theorem dX8_count_145 : decode cX8_count 145 = .ok (.iload_n 1, 1) := by decide +kernel
theorem dX8_count_146 : decode cX8_count 146 = .ok (.bipush 8, 2) := by decide +kernel
theorem dX8_count_148 : decode cX8_count 148 = .ok (.isub, 1) := by decide +kernel
theorem dX8_count_149 : decode cX8_count 149 = .ok (.iaload, 1) := by decide +kernel
theorem dX8_count_150 : decode cX8_count 150 = .ok (.goto 5, 3) := by decide +kernel
theorem dX8_count_153 : decode cX8_count 153 = .ok (.bipush (-2), 2) := by decide +kernel
theorem dX8_count_155 : decode cX8_count 155 = .ok (.ireturn, 1) := by decide +kernel
set_option maxRecDepth 20000 in
theorem ggX8_ifWind_X8_in : GoodIn wsX8_ifWind wsX8_in := goodIn_r _ [4] (by decide +kernel) (by decide +kernel)
set_option maxRecDepth 20000 in
theorem gX8_ifWind_X8_in : GoodIn wsX8_ifWind (va_wsS RX8 39 yX8_in wsX8_in) := goodIn_app (goodIn_of _ (by decide +kernel)) ggX8_ifWind_X8_in
set_option maxRecDepth 20000 in
theorem ggX8_ifWind_X8_hatsBy : GoodIn wsX8_ifWind wsX8_hatsBy := goodIn_r _ [8, 9, 10, 11, 12, 3, 13, 14, 15, 16, 17, 18, 19, 20, 21, 22, 23, 24, 25, 26, 27, 28, 29, 30, 31, 32, 33, 34, 35, 36, 37, 38, 39, 40, 41, 42, 43, 44, 45, 46, 47, 48, 49, 50] (by decide +kernel) (by decide +kernel)
set_option maxRecDepth 20000 in
theorem gX8_ifWind_X8_hatsBy : GoodIn wsX8_ifWind (wsV RX8 67 RX8 yX8_hatsBy wsX8_hatsBy) := goodIn_app (goodIn_of _ (by decide +kernel)) ggX8_ifWind_X8_hatsBy
theorem dX8_ifWind_0 : decode cX8_ifWind 0 = .ok (.iload_n 1, 1) := by decide +kernel
theorem dX8_ifWind_1 : decode cX8_ifWind 1 = .ok (.iconst 0, 1) := by decide +kernel
theorem dX8_ifWind_2 : decode cX8_ifWind 2 = .ok (.sipush 200, 3) := by decide +kernel
theorem dX8_ifWind_5 : decode cX8_ifWind 5 = .ok (.invokestatic 39, 3) := by decide +kernel
theorem dX8_ifWind_8 : decode cX8_ifWind 8 = .ok (.ifCond .eq 11, 3) := by decide +kernel
theorem dX8_ifWind_11 : decode cX8_ifWind 11 = .ok (.aload_n 0, 1) := by decide +kernel
theorem dX8_ifWind_12 : decode cX8_ifWind 12 = .ok (.iload_n 1, 1) := by decide +kernel
theorem dX8_ifWind_13 : decode cX8_ifWind 13 = .ok (.invokevirtual 67, 3) := by decide +kernel
theorem dX8_ifWind_16 : decode cX8_ifWind 16 = .ok (.goto 5, 3) := by decide +kernel
theorem dX8_ifWind_19 : decode cX8_ifWind 19 = .ok (.bipush (-2), 2) := by decide +kernel
theorem dX8_ifWind_21 : decode cX8_ifWind 21 = .ok (.ireturn, 1) := by decide +kernel
set_option maxRecDepth 20000 in
theorem ggX8_windFor_X8_in : GoodIn wsX8_windFor wsX8_in := goodIn_r _ [4] (by decide +kernel) (by decide +kernel)
set_option maxRecDepth 20000 in
theorem gX8_windFor_X8_in : GoodIn wsX8_windFor (va_wsS RX8 39 yX8_in wsX8_in) := goodIn_app (goodIn_of _ (by decide +kernel)) ggX8_windFor_X8_in
set_option maxRecDepth 20000 in
theorem ggX8_windFor_X8_hatsBy : GoodIn wsX8_windFor wsX8_hatsBy := goodIn_r _ [8, 9, 10, 11, 12, 3, 13, 14, 15, 16, 17, 18, 19, 20, 21, 22, 23, 24, 25, 26, 27, 28, 29, 30, 31, 32, 33, 34, 35, 36, 37, 38, 39, 40, 41, 42, 43, 44, 45, 46, 47, 48, 49, 50] (by decide +kernel) (by decide +kernel)
set_option maxRecDepth 20000 in
theorem gX8_windFor_X8_hatsBy : GoodIn wsX8_windFor (wsV RX8 67 RX8 yX8_hatsBy wsX8_hatsBy) := goodIn_app (goodIn_of _ (by decide +kernel)) ggX8_windFor_X8_hatsBy
theorem dX8_windFor_0 : decode cX8_windFor 0 = .ok (.iload_n 1, 1) := by decide +kernel
theorem dX8_windFor_1 : decode cX8_windFor 1 = .ok (.iconst 1, 1) := by decide +kernel
theorem dX8_windFor_2 : decode cX8_windFor 2 = .ok (.sipush 999, 3) := by decide +kernel
theorem dX8_windFor_5 : decode cX8_windFor 5 = .ok (.invokestatic 39, 3) := by decide +kernel
theorem dX8_windFor_8 : decode cX8_windFor 8 = .ok (.ifCond .ne 6, 3) := by decide +kernel
theorem dX8_windFor_11 : decode cX8_windFor 11 = .ok (.bipush (-2), 2) := by decide +kernel
theorem dX8_windFor_13 : decode cX8_windFor 13 = .ok (.ireturn, 1) := by decide +kernel
theorem dX8_windFor_14 : decode cX8_windFor 14 = .ok (.iconst 0, 1) := by decide +kernel
theorem dX8_windFor_15 : decode cX8_windFor 15 = .ok (.istore_n 2, 1) := by decide +kernel
theorem dX8_windFor_16 : decode cX8_windFor 16 = .ok (.iload_n 2, 1) := by decide +kernel
theorem dX8_windFor_17 : decode cX8_windFor 17 = .ok (.sipush 200, 3) := by decide +kernel
theorem dX8_windFor_20 : decode cX8_windFor 20 = .ok (.if_icmp .gt 20, 3) := by decide +kernel
theorem dX8_windFor_23 : decode cX8_windFor 23 = .ok (.aload_n 0, 1) := by decide +kernel
theorem dX8_windFor_24 : decode cX8_windFor 24 = .ok (.iload_n 2, 1) := by decide +kernel
theorem dX8_windFor_25 : decode cX8_windFor 25 = .ok (.invokevirtual 67, 3) := by decide +kernel
theorem dX8_windFor_28 : decode cX8_windFor 28 = .ok (.iload_n 1, 1) := by decide +kernel
theorem dX8_windFor_29 : decode cX8_windFor 29 = .ok (.if_icmp .lt 5, 3) := by decide +kernel
theorem dX8_windFor_32 : decode cX8_windFor 32 = .ok (.iload_n 2, 1) := by decide +kernel
theorem dX8_windFor_33 : decode cX8_windFor 33 = .ok (.ireturn, 1) := by decide +kernel
theorem dX8_windFor_34 : decode cX8_windFor 34 = .ok (.iinc 2 1, 3) := by decide +kernel
theorem dX8_windFor_37 : decode cX8_windFor 37 = .ok (.goto (-21), 3) := by decide +kernel
theorem dX8_windFor_40 : decode cX8_windFor 40 = .ok (.bipush (-6), 2) := by decide +kernel
theorem dX8_windFor_42 : decode cX8_windFor 42 = .ok (.ireturn, 1) := by decide +kernel
set_option maxRecDepth 20000 in
theorem ggX8_windOfFlag_X8_isStreet : GoodIn wsX8_windOfFlag wsX8_isStreet := goodIn_r _ [5, 6, 7, 8, 4, 9, 33, 34, 35, 36, 37, 38, 39, 40, 41, 42, 43, 44, 45, 46] (by decide +kernel) (by decide +kernel)
set_option maxRecDepth 20000 in
theorem gX8_windOfFlag_X8_isStreet : GoodIn wsX8_windOfFlag (wsV RX8 81 RX8 yX8_isStreet wsX8_isStreet) := goodIn_app (goodIn_of _ (by decide +kernel)) ggX8_windOfFlag_X8_isStreet
set_option maxRecDepth 20000 in
theorem ggX8_windOfFlag_X8_in : GoodIn wsX8_windOfFlag wsX8_in := goodIn_r _ [9] (by decide +kernel) (by decide +kernel)
set_option maxRecDepth 20000 in
theorem gX8_windOfFlag_X8_in : GoodIn wsX8_windOfFlag (va_wsS RX8 39 yX8_in wsX8_in) := goodIn_app (goodIn_of _ (by decide +kernel)) ggX8_windOfFlag_X8_in
set_option maxRecDepth 20000 in
theorem ggX8_windOfFlag_X8_its : GoodIn wsX8_windOfFlag wsX8_its := goodIn_r _ [13, 6, 14, 15, 4, 16, 33, 34, 35, 36, 37, 38, 39, 40, 41, 42, 43, 44, 45, 46] (by decide +kernel) (by decide +kernel)
set_option maxRecDepth 20000 in
theorem gX8_windOfFlag_X8_its : GoodIn wsX8_windOfFlag (wsV RX8 47 RX8 yX8_its wsX8_its) := goodIn_app (goodIn_of _ (by decide +kernel)) ggX8_windOfFlag_X8_its
set_option maxRecDepth 20000 in
theorem ggX8_windOfFlag_X8_blows : GoodIn wsX8_windOfFlag wsX8_blows := goodIn_r _ [20, 21, 6, 22, 23, 24, 4, 25, 10, 11, 12, 13, 14, 15, 16, 26, 27, 28, 33, 34, 35, 36, 37, 38, 39, 40, 41, 42, 43, 44, 45, 46] (by decide +kernel) (by decide +kernel)
set_option maxRecDepth 20000 in
theorem gX8_windOfFlag_X8_blows : GoodIn wsX8_windOfFlag (wsV RX8 60 RX8 yX8_blows wsX8_blows) := goodIn_app (goodIn_of _ (by decide +kernel)) ggX8_windOfFlag_X8_blows
set_option maxRecDepth 20000 in
theorem ggX8_windOfFlag_X8_stepsOf : GoodIn wsX8_windOfFlag wsX8_stepsOf := goodIn_r _ [32, 21, 6, 10, 11, 12, 4, 13, 14, 15, 16, 26, 27, 28, 33, 34, 35, 36, 37, 38, 39, 40, 41, 42, 43, 44, 45, 46] (by decide +kernel) (by decide +kernel)
set_option maxRecDepth 20000 in
theorem gX8_windOfFlag_X8_stepsOf : GoodIn wsX8_windOfFlag (wsV RX8 103 RX8 yX8_stepsOf wsX8_stepsOf) := goodIn_app (goodIn_of _ (by decide +kernel)) ggX8_windOfFlag_X8_stepsOf
theorem dX8_windOfFlag_0 : decode cX8_windOfFlag 0 = .ok (.aload_n 0, 1) := by decide +kernel
theorem dX8_windOfFlag_1 : decode cX8_windOfFlag 1 = .ok (.iload_n 1, 1) := by decide +kernel
theorem dX8_windOfFlag_2 : decode cX8_windOfFlag 2 = .ok (.invokevirtual 81, 3) := by decide +kernel
theorem dX8_windOfFlag_5 : decode cX8_windOfFlag 5 = .ok (.ifCond .ne 5, 3) := by decide +kernel
theorem dX8_windOfFlag_8 : decode cX8_windOfFlag 8 = .ok (.iconst (-1), 1) := by decide +kernel
theorem dX8_windOfFlag_9 : decode cX8_windOfFlag 9 = .ok (.ireturn, 1) := by decide +kernel
theorem dX8_windOfFlag_10 : decode cX8_windOfFlag 10 = .ok (.iload_n 2, 1) := by decide +kernel
theorem dX8_windOfFlag_11 : decode cX8_windOfFlag 11 = .ok (.iconst 1, 1) := by decide +kernel
theorem dX8_windOfFlag_12 : decode cX8_windOfFlag 12 = .ok (.bipush 12, 2) := by decide +kernel
theorem dX8_windOfFlag_14 : decode cX8_windOfFlag 14 = .ok (.invokestatic 39, 3) := by decide +kernel
theorem dX8_windOfFlag_17 : decode cX8_windOfFlag 17 = .ok (.ifCond .ne 6, 3) := by decide +kernel
theorem dX8_windOfFlag_20 : decode cX8_windOfFlag 20 = .ok (.bipush (-2), 2) := by decide +kernel
theorem dX8_windOfFlag_22 : decode cX8_windOfFlag 22 = .ok (.ireturn, 1) := by decide +kernel
theorem dX8_windOfFlag_23 : decode cX8_windOfFlag 23 = .ok (.aload_n 0, 1) := by decide +kernel
theorem dX8_windOfFlag_24 : decode cX8_windOfFlag 24 = .ok (.iload_n 1, 1) := by decide +kernel
theorem dX8_windOfFlag_25 : decode cX8_windOfFlag 25 = .ok (.iconst 2, 1) := by decide +kernel
theorem dX8_windOfFlag_26 : decode cX8_windOfFlag 26 = .ok (.invokevirtual 47, 3) := by decide +kernel
theorem dX8_windOfFlag_29 : decode cX8_windOfFlag 29 = .ok (.ifCond .ne 6, 3) := by decide +kernel
theorem dX8_windOfFlag_32 : decode cX8_windOfFlag 32 = .ok (.bipush (-5), 2) := by decide +kernel
theorem dX8_windOfFlag_34 : decode cX8_windOfFlag 34 = .ok (.ireturn, 1) := by decide +kernel
theorem dX8_windOfFlag_35 : decode cX8_windOfFlag 35 = .ok (.iconst 0, 1) := by decide +kernel
theorem dX8_windOfFlag_36 : decode cX8_windOfFlag 36 = .ok (.istore_n 3, 1) := by decide +kernel
theorem dX8_windOfFlag_37 : decode cX8_windOfFlag 37 = .ok (.iload_n 3, 1) := by decide +kernel
theorem dX8_windOfFlag_38 : decode cX8_windOfFlag 38 = .ok (.sipush 200, 3) := by decide +kernel
theorem dX8_windOfFlag_41 : decode cX8_windOfFlag 41 = .ok (.if_icmp .gt 25, 3) := by decide +kernel
theorem dX8_windOfFlag_44 : decode cX8_windOfFlag 44 = .ok (.aload_n 0, 1) := by decide +kernel
theorem dX8_windOfFlag_45 : decode cX8_windOfFlag 45 = .ok (.iload_n 3, 1) := by decide +kernel
theorem dX8_windOfFlag_46 : decode cX8_windOfFlag 46 = .ok (.invokevirtual 60, 3) := by decide +kernel
theorem dX8_windOfFlag_49 : decode cX8_windOfFlag 49 = .ok (.aload_n 0, 1) := by decide +kernel
theorem dX8_windOfFlag_50 : decode cX8_windOfFlag 50 = .ok (.iload_n 1, 1) := by decide +kernel
theorem dX8_windOfFlag_51 : decode cX8_windOfFlag 51 = .ok (.invokevirtual 103, 3) := by decide +kernel
theorem dX8_windOfFlag_54 : decode cX8_windOfFlag 54 = .ok (.iload_n 2, 1) := by decide +kernel
theorem dX8_windOfFlag_55 : decode cX8_windOfFlag 55 = .ok (.if_icmp .lt 5, 3) := by decide +kernel
theorem dX8_windOfFlag_58 : decode cX8_windOfFlag 58 = .ok (.iload_n 3, 1) := by decide +kernel
theorem dX8_windOfFlag_59 : decode cX8_windOfFlag 59 = .ok (.ireturn, 1) := by decide +kernel
theorem dX8_windOfFlag_60 : decode cX8_windOfFlag 60 = .ok (.iinc 3 1, 3) := by decide +kernel
theorem dX8_windOfFlag_63 : decode cX8_windOfFlag 63 = .ok (.goto (-26), 3) := by decide +kernel
theorem dX8_windOfFlag_66 : decode cX8_windOfFlag 66 = .ok (.bipush (-6), 2) := by decide +kernel
theorem dX8_windOfFlag_68 : decode cX8_windOfFlag 68 = .ok (.ireturn, 1) := by decide +kernel
set_option maxRecDepth 20000 in
theorem ggX8_without_X8_isStreet : GoodIn wsX8_without wsX8_isStreet := goodIn_r _ [7, 1, 8, 9, 6, 10, 29, 30, 31, 32, 33, 34, 35, 36, 37, 38, 39, 40, 41, 42] (by decide +kernel) (by decide +kernel)
set_option maxRecDepth 20000 in
theorem gX8_without_X8_isStreet : GoodIn wsX8_without (wsV RX8 81 RX8 yX8_isStreet wsX8_isStreet) := goodIn_app (goodIn_of _ (by decide +kernel)) ggX8_without_X8_isStreet
set_option maxRecDepth 20000 in
theorem ggX8_without_X8_its : GoodIn wsX8_without wsX8_its := goodIn_r _ [14, 1, 15, 16, 6, 17, 29, 30, 31, 32, 33, 34, 35, 36, 37, 38, 39, 40, 41, 42] (by decide +kernel) (by decide +kernel)
set_option maxRecDepth 20000 in
theorem gX8_without_X8_its : GoodIn wsX8_without (wsV RX8 47 RX8 yX8_its wsX8_its) := goodIn_app (goodIn_of _ (by decide +kernel)) ggX8_without_X8_its
set_option maxRecDepth 20000 in
theorem ggX8_without_X8_blows : GoodIn wsX8_without wsX8_blows := goodIn_r _ [21, 2, 1, 22, 23, 24, 6, 25, 11, 12, 13, 14, 15, 16, 17, 26, 27, 28, 29, 30, 31, 32, 33, 34, 35, 36, 37, 38, 39, 40, 41, 42] (by decide +kernel) (by decide +kernel)
set_option maxRecDepth 20000 in
theorem gX8_without_X8_blows : GoodIn wsX8_without (wsV RX8 60 RX8 yX8_blows wsX8_blows) := goodIn_app (goodIn_of _ (by decide +kernel)) ggX8_without_X8_blows
set_option maxRecDepth 20000 in
theorem ggX8_without_X8_parted : GoodIn wsX8_without wsX8_parted := goodIn_r _ [25, 1, 2, 11, 12, 13, 6, 14, 15, 16, 17, 26, 27, 28, 29, 30, 31, 32, 33, 34, 35, 36, 37, 38, 39, 40, 41, 42] (by decide +kernel) (by decide +kernel)
set_option maxRecDepth 20000 in
theorem gX8_without_X8_parted : GoodIn wsX8_without (wsV RX8 53 RX8 yX8_parted wsX8_parted) := goodIn_app (goodIn_of _ (by decide +kernel)) ggX8_without_X8_parted
theorem dX8_without_0 : decode cX8_without 0 = .ok (.aload_n 0, 1) := by decide +kernel
theorem dX8_without_1 : decode cX8_without 1 = .ok (.iload_n 1, 1) := by decide +kernel
theorem dX8_without_2 : decode cX8_without 2 = .ok (.invokevirtual 81, 3) := by decide +kernel
theorem dX8_without_5 : decode cX8_without 5 = .ok (.ifCond .eq 11, 3) := by decide +kernel
theorem dX8_without_8 : decode cX8_without 8 = .ok (.aload_n 0, 1) := by decide +kernel
theorem dX8_without_9 : decode cX8_without 9 = .ok (.iload_n 2, 1) := by decide +kernel
theorem dX8_without_10 : decode cX8_without 10 = .ok (.invokevirtual 81, 3) := by decide +kernel
theorem dX8_without_13 : decode cX8_without 13 = .ok (.ifCond .ne 5, 3) := by decide +kernel
theorem dX8_without_16 : decode cX8_without 16 = .ok (.iconst (-1), 1) := by decide +kernel
theorem dX8_without_17 : decode cX8_without 17 = .ok (.ireturn, 1) := by decide +kernel
theorem dX8_without_18 : decode cX8_without 18 = .ok (.iload_n 1, 1) := by decide +kernel
theorem dX8_without_19 : decode cX8_without 19 = .ok (.iload_n 2, 1) := by decide +kernel
theorem dX8_without_20 : decode cX8_without 20 = .ok (.if_icmp .eq 26, 3) := by decide +kernel
theorem dX8_without_23 : decode cX8_without 23 = .ok (.iload_n 1, 1) := by decide +kernel
theorem dX8_without_24 : decode cX8_without 24 = .ok (.ifCond .eq 22, 3) := by decide +kernel
theorem dX8_without_27 : decode cX8_without 27 = .ok (.iload_n 2, 1) := by decide +kernel
theorem dX8_without_28 : decode cX8_without 28 = .ok (.ifCond .eq 18, 3) := by decide +kernel
theorem dX8_without_31 : decode cX8_without 31 = .ok (.aload_n 0, 1) := by decide +kernel
theorem dX8_without_32 : decode cX8_without 32 = .ok (.iload_n 1, 1) := by decide +kernel
theorem dX8_without_33 : decode cX8_without 33 = .ok (.iconst 0, 1) := by decide +kernel
theorem dX8_without_34 : decode cX8_without 34 = .ok (.invokevirtual 47, 3) := by decide +kernel
theorem dX8_without_37 : decode cX8_without 37 = .ok (.aload_n 0, 1) := by decide +kernel
theorem dX8_without_38 : decode cX8_without 38 = .ok (.iload_n 2, 1) := by decide +kernel
theorem dX8_without_39 : decode cX8_without 39 = .ok (.iconst 0, 1) := by decide +kernel
theorem dX8_without_40 : decode cX8_without 40 = .ok (.invokevirtual 47, 3) := by decide +kernel
theorem dX8_without_43 : decode cX8_without 43 = .ok (.if_icmp .eq 6, 3) := by decide +kernel
theorem dX8_without_46 : decode cX8_without 46 = .ok (.bipush (-5), 2) := by decide +kernel
theorem dX8_without_48 : decode cX8_without 48 = .ok (.ireturn, 1) := by decide +kernel
theorem dX8_without_49 : decode cX8_without 49 = .ok (.aload_n 0, 1) := by decide +kernel
theorem dX8_without_50 : decode cX8_without 50 = .ok (.aload_n 0, 1) := by decide +kernel
theorem dX8_without_51 : decode cX8_without 51 = .ok (.getfield 7, 3) := by decide +kernel
theorem dX8_without_54 : decode cX8_without 54 = .ok (.iconst 4, 1) := by decide +kernel
theorem dX8_without_55 : decode cX8_without 55 = .ok (.iaload, 1) := by decide +kernel
theorem dX8_without_56 : decode cX8_without 56 = .ok (.invokevirtual 60, 3) := by decide +kernel
theorem dX8_without_59 : decode cX8_without 59 = .ok (.aload_n 0, 1) := by decide +kernel
theorem dX8_without_60 : decode cX8_without 60 = .ok (.iload_n 1, 1) := by decide +kernel
theorem dX8_without_61 : decode cX8_without 61 = .ok (.iload_n 2, 1) := by decide +kernel
theorem dX8_without_62 : decode cX8_without 62 = .ok (.invokevirtual 53, 3) := by decide +kernel
theorem dX8_without_65 : decode cX8_without 65 = .ok (.aload_n 0, 1) := by decide +kernel
theorem dX8_without_66 : decode cX8_without 66 = .ok (.getfield 26, 3) := by decide +kernel
theorem dX8_without_69 : decode cX8_without 69 = .ok (.iload_n 1, 1) := by decide +kernel
theorem dX8_without_70 : decode cX8_without 70 = .ok (.iaload, 1) := by decide +kernel
theorem dX8_without_71 : decode cX8_without 71 = .ok (.isub, 1) := by decide +kernel
theorem dX8_without_72 : decode cX8_without 72 = .ok (.sipush 500, 3) := by decide +kernel
theorem dX8_without_75 : decode cX8_without 75 = .ok (.iadd, 1) := by decide +kernel
theorem dX8_without_76 : decode cX8_without 76 = .ok (.ireturn, 1) := by decide +kernel
set_option maxRecDepth 20000 in
theorem ggX8_windiest_X8_blows : GoodIn wsX8_windiest wsX8_blows := goodIn_r _ [7, 2, 1, 8, 9, 10, 6, 11, 12, 13, 14, 15, 16, 17, 18, 19, 20, 21, 26, 27, 28, 29, 30, 31, 32, 33, 34, 35, 36, 37, 38, 39] (by decide +kernel) (by decide +kernel)
set_option maxRecDepth 20000 in
theorem gX8_windiest_X8_blows : GoodIn wsX8_windiest (wsV RX8 60 RX8 yX8_blows wsX8_blows) := goodIn_app (goodIn_of _ (by decide +kernel)) ggX8_windiest_X8_blows
set_option maxRecDepth 20000 in
theorem ggX8_windiest_X8_branchSet : GoodIn wsX8_windiest wsX8_branchSet := goodIn_r _ [25, 1, 12, 13, 14, 6, 15, 16, 17, 18, 26, 27, 28, 29, 30, 31, 32, 33, 34, 35, 36, 37, 38, 39] (by decide +kernel) (by decide +kernel)
set_option maxRecDepth 20000 in
theorem gX8_windiest_X8_branchSet : GoodIn wsX8_windiest (wsV RX8 94 RX8 yX8_branchSet wsX8_branchSet) := goodIn_app (goodIn_of _ (by decide +kernel)) ggX8_windiest_X8_branchSet
theorem dX8_windiest_0 : decode cX8_windiest 0 = .ok (.aload_n 0, 1) := by decide +kernel
theorem dX8_windiest_1 : decode cX8_windiest 1 = .ok (.aload_n 0, 1) := by decide +kernel
theorem dX8_windiest_2 : decode cX8_windiest 2 = .ok (.getfield 7, 3) := by decide +kernel
theorem dX8_windiest_5 : decode cX8_windiest 5 = .ok (.iconst 4, 1) := by decide +kernel
theorem dX8_windiest_6 : decode cX8_windiest 6 = .ok (.iaload, 1) := by decide +kernel
theorem dX8_windiest_7 : decode cX8_windiest 7 = .ok (.invokevirtual 60, 3) := by decide +kernel
theorem dX8_windiest_10 : decode cX8_windiest 10 = .ok (.bipush (-6), 2) := by decide +kernel
theorem dX8_windiest_12 : decode cX8_windiest 12 = .ok (.istore_n 1, 1) := by decide +kernel
theorem dX8_windiest_13 : decode cX8_windiest 13 = .ok (.iconst 0, 1) := by decide +kernel
theorem dX8_windiest_14 : decode cX8_windiest 14 = .ok (.istore_n 2, 1) := by decide +kernel
theorem dX8_windiest_15 : decode cX8_windiest 15 = .ok (.iload_n 2, 1) := by decide +kernel
theorem dX8_windiest_16 : decode cX8_windiest 16 = .ok (.aload_n 0, 1) := by decide +kernel
theorem dX8_windiest_17 : decode cX8_windiest 17 = .ok (.getfield 7, 3) := by decide +kernel
theorem dX8_windiest_20 : decode cX8_windiest 20 = .ok (.iconst 5, 1) := by decide +kernel
theorem dX8_windiest_21 : decode cX8_windiest 21 = .ok (.iaload, 1) := by decide +kernel
theorem dX8_windiest_22 : decode cX8_windiest 22 = .ok (.if_icmp .ge 54, 3) := by decide +kernel
theorem dX8_windiest_25 : decode cX8_windiest 25 = .ok (.aload_n 0, 1) := by decide +kernel
theorem dX8_windiest_26 : decode cX8_windiest 26 = .ok (.iload_n 2, 1) := by decide +kernel
theorem dX8_windiest_27 : decode cX8_windiest 27 = .ok (.invokevirtual 94, 3) := by decide +kernel
theorem dX8_windiest_30 : decode cX8_windiest 30 = .ok (.ifCond .ne 7, 3) := by decide +kernel
theorem dX8_windiest_33 : decode cX8_windiest 33 = .ok (.iconst 1, 1) := by decide +kernel
theorem dX8_windiest_34 : decode cX8_windiest 34 = .ok (.goto 4, 3) := by decide +kernel
theorem dX8_windiest_37 : decode cX8_windiest 37 = .ok (.iconst 0, 1) := by decide +kernel
theorem dX8_windiest_38 : decode cX8_windiest 38 = .ok (.istore_n 3, 1) := by decide +kernel
theorem dX8_windiest_39 : decode cX8_windiest 39 = .ok (.iload_n 3, 1) := by decide +kernel
theorem dX8_windiest_40 : decode cX8_windiest 40 = .ok (.ifCond .eq 28, 3) := by decide +kernel
theorem dX8_windiest_43 : decode cX8_windiest 43 = .ok (.iload_n 1, 1) := by decide +kernel
theorem dX8_windiest_44 : decode cX8_windiest 44 = .ok (.bipush (-6), 2) := by decide +kernel
theorem dX8_windiest_46 : decode cX8_windiest 46 = .ok (.if_icmp .eq 18, 3) := by decide +kernel
theorem dX8_windiest_49 : decode cX8_windiest 49 = .ok (.aload_n 0, 1) := by decide +kernel
theorem dX8_windiest_50 : decode cX8_windiest 50 = .ok (.getfield 26, 3) := by decide +kernel
theorem dX8_windiest_53 : decode cX8_windiest 53 = .ok (.iload_n 2, 1) := by decide +kernel
theorem dX8_windiest_54 : decode cX8_windiest 54 = .ok (.iaload, 1) := by decide +kernel
theorem dX8_windiest_55 : decode cX8_windiest 55 = .ok (.aload_n 0, 1) := by decide +kernel
theorem dX8_windiest_56 : decode cX8_windiest 56 = .ok (.getfield 26, 3) := by decide +kernel
theorem dX8_windiest_59 : decode cX8_windiest 59 = .ok (.iload_n 1, 1) := by decide +kernel
theorem dX8_windiest_60 : decode cX8_windiest 60 = .ok (.iaload, 1) := by decide +kernel
theorem dX8_windiest_61 : decode cX8_windiest 61 = .ok (.if_icmp .le 7, 3) := by decide +kernel
theorem dX8_windiest_64 : decode cX8_windiest 64 = .ok (.iload_n 2, 1) := by decide +kernel
theorem dX8_windiest_65 : decode cX8_windiest 65 = .ok (.goto 4, 3) := by decide +kernel
theorem dX8_windiest_68 : decode cX8_windiest 68 = .ok (.iload_n 1, 1) := by decide +kernel
theorem dX8_windiest_69 : decode cX8_windiest 69 = .ok (.istore_n 1, 1) := by decide +kernel
theorem dX8_windiest_70 : decode cX8_windiest 70 = .ok (.iinc 2 1, 3) := by decide +kernel
theorem dX8_windiest_73 : decode cX8_windiest 73 = .ok (.goto (-58), 3) := by decide +kernel
theorem dX8_windiest_76 : decode cX8_windiest 76 = .ok (.iload_n 1, 1) := by decide +kernel
theorem dX8_windiest_77 : decode cX8_windiest 77 = .ok (.ireturn, 1) := by decide +kernel
set_option maxRecDepth 20000 in
theorem ggX8_put_X8_in : GoodIn wsX8_put wsX8_in := goodIn_r _ [7] (by decide +kernel) (by decide +kernel)
set_option maxRecDepth 20000 in
theorem gX8_put_X8_in : GoodIn wsX8_put (va_wsS RX8 39 yX8_in wsX8_in) := goodIn_app (goodIn_of _ (by decide +kernel)) ggX8_put_X8_in
theorem dX8_put_0 : decode cX8_put 0 = .ok (.iconst 0, 1) := by decide +kernel
theorem dX8_put_1 : decode cX8_put 1 = .ok (.istore_n 3, 1) := by decide +kernel
theorem dX8_put_2 : decode cX8_put 2 = .ok (.iconst 1, 1) := by decide +kernel
theorem dX8_put_3 : decode cX8_put 3 = .ok (.istore 4, 2) := by decide +kernel
theorem dX8_put_5 : decode cX8_put 5 = .ok (.iconst 0, 1) := by decide +kernel
theorem dX8_put_6 : decode cX8_put 6 = .ok (.istore 5, 2) := by decide +kernel
theorem dX8_put_8 : decode cX8_put 8 = .ok (.iconst 0, 1) := by decide +kernel
theorem dX8_put_9 : decode cX8_put 9 = .ok (.istore 6, 2) := by decide +kernel
theorem dX8_put_11 : decode cX8_put 11 = .ok (.iload 6, 2) := by decide +kernel
theorem dX8_put_13 : decode cX8_put 13 = .ok (.bipush 8, 2) := by decide +kernel
theorem dX8_put_15 : decode cX8_put 15 = .ok (.if_icmp .ge 90, 3) := by decide +kernel
theorem dX8_put_18 : decode cX8_put 18 = .ok (.lload_n 1, 1) := by decide +kernel
theorem dX8_put_19 : decode cX8_put 19 = .ok (.bipush 8, 2) := by decide +kernel
theorem dX8_put_21 : decode cX8_put 21 = .ok (.iload 6, 2) := by decide +kernel
theorem dX8_put_23 : decode cX8_put 23 = .ok (.imul, 1) := by decide +kernel
theorem dX8_put_24 : decode cX8_put 24 = .ok (.lshr, 1) := by decide +kernel
theorem dX8_put_25 : decode cX8_put 25 = .ok (.ldc2_w 115, 3) := by decide +kernel
theorem dX8_put_28 : decode cX8_put 28 = .ok (.land, 1) := by decide +kernel
theorem dX8_put_29 : decode cX8_put 29 = .ok (.l2i, 1) := by decide +kernel
theorem dX8_put_30 : decode cX8_put 30 = .ok (.istore 7, 2) := by decide +kernel
theorem dX8_put_32 : decode cX8_put 32 = .ok (.iload 5, 2) := by decide +kernel
theorem dX8_put_34 : decode cX8_put 34 = .ok (.ifCond .ne 8, 3) := by decide +kernel
theorem dX8_put_37 : decode cX8_put 37 = .ok (.iload 7, 2) := by decide +kernel
theorem dX8_put_39 : decode cX8_put 39 = .ok (.ifCond .ne 7, 3) := by decide +kernel
theorem dX8_put_42 : decode cX8_put 42 = .ok (.iconst 1, 1) := by decide +kernel
theorem dX8_put_43 : decode cX8_put 43 = .ok (.goto 4, 3) := by decide +kernel
theorem dX8_put_46 : decode cX8_put 46 = .ok (.iconst 0, 1) := by decide +kernel
theorem dX8_put_47 : decode cX8_put 47 = .ok (.istore 5, 2) := by decide +kernel
theorem dX8_put_49 : decode cX8_put 49 = .ok (.iload 4, 2) := by decide +kernel
theorem dX8_put_51 : decode cX8_put 51 = .ok (.ifCond .eq 32, 3) := by decide +kernel
theorem dX8_put_54 : decode cX8_put 54 = .ok (.iload 5, 2) := by decide +kernel
theorem dX8_put_56 : decode cX8_put 56 = .ok (.ifCond .eq 11, 3) := by decide +kernel
theorem dX8_put_59 : decode cX8_put 59 = .ok (.iload 7, 2) := by decide +kernel
theorem dX8_put_61 : decode cX8_put 61 = .ok (.ifCond .ne 22, 3) := by decide +kernel
theorem dX8_put_64 : decode cX8_put 64 = .ok (.goto 15, 3) := by decide +kernel
theorem dX8_put_67 : decode cX8_put 67 = .ok (.iload 7, 2) := by decide +kernel
theorem dX8_put_69 : decode cX8_put 69 = .ok (.bipush 33, 2) := by decide +kernel
theorem dX8_put_71 : decode cX8_put 71 = .ok (.bipush 126, 2) := by decide +kernel
theorem dX8_put_73 : decode cX8_put 73 = .ok (.invokestatic 39, 3) := by decide +kernel
theorem dX8_put_76 : decode cX8_put 76 = .ok (.ifCond .eq 7, 3) := by decide +kernel
theorem dX8_put_79 : decode cX8_put 79 = .ok (.iconst 1, 1) := by decide +kernel
theorem dX8_put_80 : decode cX8_put 80 = .ok (.goto 4, 3) := by decide +kernel
theorem dX8_put_83 : decode cX8_put 83 = .ok (.iconst 0, 1) := by decide +kernel
theorem dX8_put_84 : decode cX8_put 84 = .ok (.istore 4, 2) := by decide +kernel
theorem dX8_put_86 : decode cX8_put 86 = .ok (.iload_n 3, 1) := by decide +kernel
theorem dX8_put_87 : decode cX8_put 87 = .ok (.iload 5, 2) := by decide +kernel
theorem dX8_put_89 : decode cX8_put 89 = .ok (.ifCond .eq 7, 3) := by decide +kernel
theorem dX8_put_92 : decode cX8_put 92 = .ok (.iconst 0, 1) := by decide +kernel
theorem dX8_put_93 : decode cX8_put 93 = .ok (.goto 4, 3) := by decide +kernel
theorem dX8_put_96 : decode cX8_put 96 = .ok (.iconst 1, 1) := by decide +kernel
theorem dX8_put_97 : decode cX8_put 97 = .ok (.iadd, 1) := by decide +kernel
theorem dX8_put_98 : decode cX8_put 98 = .ok (.istore_n 3, 1) := by decide +kernel
theorem dX8_put_99 : decode cX8_put 99 = .ok (.iinc 6 1, 3) := by decide +kernel
theorem dX8_put_102 : decode cX8_put 102 = .ok (.goto (-91), 3) := by decide +kernel
theorem dX8_put_105 : decode cX8_put 105 = .ok (.iload 4, 2) := by decide +kernel
theorem dX8_put_107 : decode cX8_put 107 = .ok (.ifCond .eq 7, 3) := by decide +kernel
theorem dX8_put_110 : decode cX8_put 110 = .ok (.iload_n 3, 1) := by decide +kernel
theorem dX8_put_111 : decode cX8_put 111 = .ok (.ifCond .ne 6, 3) := by decide +kernel
theorem dX8_put_114 : decode cX8_put 114 = .ok (.bipush (-2), 2) := by decide +kernel
theorem dX8_put_116 : decode cX8_put 116 = .ok (.ireturn, 1) := by decide +kernel
theorem dX8_put_117 : decode cX8_put 117 = .ok (.aload_n 0, 1) := by decide +kernel
theorem dX8_put_118 : decode cX8_put 118 = .ok (.getfield 106, 3) := by decide +kernel
theorem dX8_put_121 : decode cX8_put 121 = .ok (.iload_n 3, 1) := by decide +kernel
theorem dX8_put_122 : decode cX8_put 122 = .ok (.iadd, 1) := by decide +kernel
theorem dX8_put_123 : decode cX8_put 123 = .ok (.bipush 80, 2) := by decide +kernel
theorem dX8_put_125 : decode cX8_put 125 = .ok (.if_icmp .le 6, 3) := by decide +kernel
theorem dX8_put_128 : decode cX8_put 128 = .ok (.bipush (-4), 2) := by decide +kernel
theorem dX8_put_130 : decode cX8_put 130 = .ok (.ireturn, 1) := by decide +kernel
theorem dX8_put_131 : decode cX8_put 131 = .ok (.iload_n 3, 1) := by decide +kernel
theorem dX8_put_132 : decode cX8_put 132 = .ok (.iconst 1, 1) := by decide +kernel
theorem dX8_put_133 : decode cX8_put 133 = .ok (.isub, 1) := by decide +kernel
theorem dX8_put_134 : decode cX8_put 134 = .ok (.istore 6, 2) := by decide +kernel
theorem dX8_put_136 : decode cX8_put 136 = .ok (.iload 6, 2) := by decide +kernel
theorem dX8_put_138 : decode cX8_put 138 = .ok (.ifCond .lt 40, 3) := by decide +kernel
theorem dX8_put_141 : decode cX8_put 141 = .ok (.aload_n 0, 1) := by decide +kernel
theorem dX8_put_142 : decode cX8_put 142 = .ok (.getfield 23, 3) := by decide +kernel
theorem dX8_put_145 : decode cX8_put 145 = .ok (.aload_n 0, 1) := by decide +kernel
theorem dX8_put_146 : decode cX8_put 146 = .ok (.getfield 106, 3) := by decide +kernel
theorem dX8_put_149 : decode cX8_put 149 = .ok (.lload_n 1, 1) := by decide +kernel
theorem dX8_put_150 : decode cX8_put 150 = .ok (.bipush 8, 2) := by decide +kernel
theorem dX8_put_152 : decode cX8_put 152 = .ok (.iload 6, 2) := by decide +kernel
theorem dX8_put_154 : decode cX8_put 154 = .ok (.imul, 1) := by decide +kernel
theorem dX8_put_155 : decode cX8_put 155 = .ok (.lshr, 1) := by decide +kernel
theorem dX8_put_156 : decode cX8_put 156 = .ok (.ldc2_w 115, 3) := by decide +kernel
theorem dX8_put_159 : decode cX8_put 159 = .ok (.land, 1) := by decide +kernel
theorem dX8_put_160 : decode cX8_put 160 = .ok (.l2i, 1) := by decide +kernel
theorem dX8_put_161 : decode cX8_put 161 = .ok (.iastore, 1) := by decide +kernel
theorem dX8_put_162 : decode cX8_put 162 = .ok (.aload_n 0, 1) := by decide +kernel
theorem dX8_put_163 : decode cX8_put 163 = .ok (.dup, 1) := by decide +kernel
theorem dX8_put_164 : decode cX8_put 164 = .ok (.getfield 106, 3) := by decide +kernel
theorem dX8_put_167 : decode cX8_put 167 = .ok (.iconst 1, 1) := by decide +kernel
theorem dX8_put_168 : decode cX8_put 168 = .ok (.iadd, 1) := by decide +kernel
theorem dX8_put_169 : decode cX8_put 169 = .ok (.putfield 106, 3) := by decide +kernel
theorem dX8_put_172 : decode cX8_put 172 = .ok (.iinc 6 (-1), 3) := by decide +kernel
theorem dX8_put_175 : decode cX8_put 175 = .ok (.goto (-39), 3) := by decide +kernel
theorem dX8_put_178 : decode cX8_put 178 = .ok (.aload_n 0, 1) := by decide +kernel
theorem dX8_put_179 : decode cX8_put 179 = .ok (.getfield 106, 3) := by decide +kernel
theorem dX8_put_182 : decode cX8_put 182 = .ok (.ireturn, 1) := by decide +kernel
theorem dX8_wipe_0 : decode cX8_wipe 0 = .ok (.aload_n 0, 1) := by decide +kernel
theorem dX8_wipe_1 : decode cX8_wipe 1 = .ok (.getfield 106, 3) := by decide +kernel
theorem dX8_wipe_4 : decode cX8_wipe 4 = .ok (.istore_n 1, 1) := by decide +kernel
theorem dX8_wipe_5 : decode cX8_wipe 5 = .ok (.aload_n 0, 1) := by decide +kernel
theorem dX8_wipe_6 : decode cX8_wipe 6 = .ok (.iconst 0, 1) := by decide +kernel
theorem dX8_wipe_7 : decode cX8_wipe 7 = .ok (.putfield 106, 3) := by decide +kernel
theorem dX8_wipe_10 : decode cX8_wipe 10 = .ok (.iload_n 1, 1) := by decide +kernel
theorem dX8_wipe_11 : decode cX8_wipe 11 = .ok (.ireturn, 1) := by decide +kernel
set_option maxRecDepth 20000 in
theorem ggX8_begins_X8_in : GoodIn wsX8_begins wsX8_in := goodIn_r _ [8] (by decide +kernel) (by decide +kernel)
set_option maxRecDepth 20000 in
theorem gX8_begins_X8_in : GoodIn wsX8_begins (va_wsS RX8 39 yX8_in wsX8_in) := goodIn_app (goodIn_of _ (by decide +kernel)) ggX8_begins_X8_in
theorem dX8_begins_0 : decode cX8_begins 0 = .ok (.iconst 0, 1) := by decide +kernel
theorem dX8_begins_1 : decode cX8_begins 1 = .ok (.istore_n 2, 1) := by decide +kernel
theorem dX8_begins_2 : decode cX8_begins 2 = .ok (.iconst 0, 1) := by decide +kernel
theorem dX8_begins_3 : decode cX8_begins 3 = .ok (.istore_n 3, 1) := by decide +kernel
theorem dX8_begins_4 : decode cX8_begins 4 = .ok (.iload_n 3, 1) := by decide +kernel
theorem dX8_begins_5 : decode cX8_begins 5 = .ok (.aload_n 0, 1) := by decide +kernel
theorem dX8_begins_6 : decode cX8_begins 6 = .ok (.getfield 117, 3) := by decide +kernel
theorem dX8_begins_9 : decode cX8_begins 9 = .ok (.if_icmp .ge 34, 3) := by decide +kernel
theorem dX8_begins_12 : decode cX8_begins 12 = .ok (.iload_n 2, 1) := by decide +kernel
theorem dX8_begins_13 : decode cX8_begins 13 = .ok (.aload_n 0, 1) := by decide +kernel
theorem dX8_begins_14 : decode cX8_begins 14 = .ok (.getfield 29, 3) := by decide +kernel
theorem dX8_begins_17 : decode cX8_begins 17 = .ok (.iconst 5, 1) := by decide +kernel
theorem dX8_begins_18 : decode cX8_begins 18 = .ok (.iload_n 3, 1) := by decide +kernel
theorem dX8_begins_19 : decode cX8_begins 19 = .ok (.imul, 1) := by decide +kernel
theorem dX8_begins_20 : decode cX8_begins 20 = .ok (.iconst 0, 1) := by decide +kernel
theorem dX8_begins_21 : decode cX8_begins 21 = .ok (.iadd, 1) := by decide +kernel
theorem dX8_begins_22 : decode cX8_begins 22 = .ok (.iaload, 1) := by decide +kernel
theorem dX8_begins_23 : decode cX8_begins 23 = .ok (.aload_n 0, 1) := by decide +kernel
theorem dX8_begins_24 : decode cX8_begins 24 = .ok (.getfield 120, 3) := by decide +kernel
theorem dX8_begins_27 : decode cX8_begins 27 = .ok (.if_icmp .ne 7, 3) := by decide +kernel
theorem dX8_begins_30 : decode cX8_begins 30 = .ok (.iconst 1, 1) := by decide +kernel
theorem dX8_begins_31 : decode cX8_begins 31 = .ok (.goto 4, 3) := by decide +kernel
theorem dX8_begins_34 : decode cX8_begins 34 = .ok (.iconst 0, 1) := by decide +kernel
theorem dX8_begins_35 : decode cX8_begins 35 = .ok (.iadd, 1) := by decide +kernel
theorem dX8_begins_36 : decode cX8_begins 36 = .ok (.istore_n 2, 1) := by decide +kernel
theorem dX8_begins_37 : decode cX8_begins 37 = .ok (.iinc 3 1, 3) := by decide +kernel
theorem dX8_begins_40 : decode cX8_begins 40 = .ok (.goto (-36), 3) := by decide +kernel
theorem dX8_begins_43 : decode cX8_begins 43 = .ok (.iload_n 1, 1) := by decide +kernel
theorem dX8_begins_44 : decode cX8_begins 44 = .ok (.iconst 1, 1) := by decide +kernel
theorem dX8_begins_45 : decode cX8_begins 45 = .ok (.bipush 9, 2) := by decide +kernel
theorem dX8_begins_47 : decode cX8_begins 47 = .ok (.invokestatic 39, 3) := by decide +kernel
theorem dX8_begins_50 : decode cX8_begins 50 = .ok (.ifCond .eq 24, 3) := by decide +kernel
theorem dX8_begins_53 : decode cX8_begins 53 = .ok (.aload_n 0, 1) := by decide +kernel
theorem dX8_begins_54 : decode cX8_begins 54 = .ok (.getfield 117, 3) := by decide +kernel
theorem dX8_begins_57 : decode cX8_begins 57 = .ok (.bipush 20, 2) := by decide +kernel
theorem dX8_begins_59 : decode cX8_begins 59 = .ok (.if_icmp .eq 15, 3) := by decide +kernel
theorem dX8_begins_62 : decode cX8_begins 62 = .ok (.aload_n 0, 1) := by decide +kernel
theorem dX8_begins_63 : decode cX8_begins 63 = .ok (.getfield 120, 3) := by decide +kernel
theorem dX8_begins_66 : decode cX8_begins 66 = .ok (.ifCond .lt 10, 3) := by decide +kernel
theorem dX8_begins_69 : decode cX8_begins 69 = .ok (.iload_n 2, 1) := by decide +kernel
theorem dX8_begins_70 : decode cX8_begins 70 = .ok (.iconst 4, 1) := by decide +kernel
theorem dX8_begins_71 : decode cX8_begins 71 = .ok (.if_icmp .ne 5, 3) := by decide +kernel
theorem dX8_begins_74 : decode cX8_begins 74 = .ok (.iconst 0, 1) := by decide +kernel
theorem dX8_begins_75 : decode cX8_begins 75 = .ok (.ireturn, 1) := by decide +kernel
theorem dX8_begins_76 : decode cX8_begins 76 = .ok (.aload_n 0, 1) := by decide +kernel
theorem dX8_begins_77 : decode cX8_begins 77 = .ok (.getfield 29, 3) := by decide +kernel
theorem dX8_begins_80 : decode cX8_begins 80 = .ok (.iconst 5, 1) := by decide +kernel
theorem dX8_begins_81 : decode cX8_begins 81 = .ok (.aload_n 0, 1) := by decide +kernel
theorem dX8_begins_82 : decode cX8_begins 82 = .ok (.getfield 117, 3) := by decide +kernel
theorem dX8_begins_85 : decode cX8_begins 85 = .ok (.imul, 1) := by decide +kernel
theorem dX8_begins_86 : decode cX8_begins 86 = .ok (.iconst 0, 1) := by decide +kernel
theorem dX8_begins_87 : decode cX8_begins 87 = .ok (.iadd, 1) := by decide +kernel
theorem dX8_begins_88 : decode cX8_begins 88 = .ok (.aload_n 0, 1) := by decide +kernel
theorem dX8_begins_89 : decode cX8_begins 89 = .ok (.getfield 120, 3) := by decide +kernel
theorem dX8_begins_92 : decode cX8_begins 92 = .ok (.iastore, 1) := by decide +kernel
theorem dX8_begins_93 : decode cX8_begins 93 = .ok (.aload_n 0, 1) := by decide +kernel
theorem dX8_begins_94 : decode cX8_begins 94 = .ok (.getfield 29, 3) := by decide +kernel
theorem dX8_begins_97 : decode cX8_begins 97 = .ok (.iconst 5, 1) := by decide +kernel
theorem dX8_begins_98 : decode cX8_begins 98 = .ok (.aload_n 0, 1) := by decide +kernel
theorem dX8_begins_99 : decode cX8_begins 99 = .ok (.getfield 117, 3) := by decide +kernel
theorem dX8_begins_102 : decode cX8_begins 102 = .ok (.imul, 1) := by decide +kernel
theorem dX8_begins_103 : decode cX8_begins 103 = .ok (.iconst 1, 1) := by decide +kernel
theorem dX8_begins_104 : decode cX8_begins 104 = .ok (.iadd, 1) := by decide +kernel
theorem dX8_begins_105 : decode cX8_begins 105 = .ok (.iload_n 1, 1) := by decide +kernel
theorem dX8_begins_106 : decode cX8_begins 106 = .ok (.iastore, 1) := by decide +kernel
theorem dX8_begins_107 : decode cX8_begins 107 = .ok (.aload_n 0, 1) := by decide +kernel
theorem dX8_begins_108 : decode cX8_begins 108 = .ok (.getfield 29, 3) := by decide +kernel
theorem dX8_begins_111 : decode cX8_begins 111 = .ok (.iconst 5, 1) := by decide +kernel
theorem dX8_begins_112 : decode cX8_begins 112 = .ok (.aload_n 0, 1) := by decide +kernel
theorem dX8_begins_113 : decode cX8_begins 113 = .ok (.getfield 117, 3) := by decide +kernel
theorem dX8_begins_116 : decode cX8_begins 116 = .ok (.imul, 1) := by decide +kernel
theorem dX8_begins_117 : decode cX8_begins 117 = .ok (.iconst 2, 1) := by decide +kernel
theorem dX8_begins_118 : decode cX8_begins 118 = .ok (.iadd, 1) := by decide +kernel
theorem dX8_begins_119 : decode cX8_begins 119 = .ok (.iconst 0, 1) := by decide +kernel
theorem dX8_begins_120 : decode cX8_begins 120 = .ok (.iastore, 1) := by decide +kernel
theorem dX8_begins_121 : decode cX8_begins 121 = .ok (.aload_n 0, 1) := by decide +kernel
theorem dX8_begins_122 : decode cX8_begins 122 = .ok (.getfield 29, 3) := by decide +kernel
theorem dX8_begins_125 : decode cX8_begins 125 = .ok (.iconst 5, 1) := by decide +kernel
theorem dX8_begins_126 : decode cX8_begins 126 = .ok (.aload_n 0, 1) := by decide +kernel
theorem dX8_begins_127 : decode cX8_begins 127 = .ok (.getfield 117, 3) := by decide +kernel
theorem dX8_begins_130 : decode cX8_begins 130 = .ok (.imul, 1) := by decide +kernel
theorem dX8_begins_131 : decode cX8_begins 131 = .ok (.iconst 3, 1) := by decide +kernel
theorem dX8_begins_132 : decode cX8_begins 132 = .ok (.iadd, 1) := by decide +kernel
theorem dX8_begins_133 : decode cX8_begins 133 = .ok (.iconst 0, 1) := by decide +kernel
theorem dX8_begins_134 : decode cX8_begins 134 = .ok (.iastore, 1) := by decide +kernel
theorem dX8_begins_135 : decode cX8_begins 135 = .ok (.aload_n 0, 1) := by decide +kernel
theorem dX8_begins_136 : decode cX8_begins 136 = .ok (.getfield 29, 3) := by decide +kernel
theorem dX8_begins_139 : decode cX8_begins 139 = .ok (.iconst 5, 1) := by decide +kernel
theorem dX8_begins_140 : decode cX8_begins 140 = .ok (.aload_n 0, 1) := by decide +kernel
theorem dX8_begins_141 : decode cX8_begins 141 = .ok (.getfield 117, 3) := by decide +kernel
theorem dX8_begins_144 : decode cX8_begins 144 = .ok (.imul, 1) := by decide +kernel
theorem dX8_begins_145 : decode cX8_begins 145 = .ok (.iconst 4, 1) := by decide +kernel
theorem dX8_begins_146 : decode cX8_begins 146 = .ok (.iadd, 1) := by decide +kernel
theorem dX8_begins_147 : decode cX8_begins 147 = .ok (.iconst 0, 1) := by decide +kernel
theorem dX8_begins_148 : decode cX8_begins 148 = .ok (.iastore, 1) := by decide +kernel
theorem dX8_begins_149 : decode cX8_begins 149 = .ok (.aload_n 0, 1) := by decide +kernel
theorem dX8_begins_150 : decode cX8_begins 150 = .ok (.dup, 1) := by decide +kernel
theorem dX8_begins_151 : decode cX8_begins 151 = .ok (.getfield 117, 3) := by decide +kernel
theorem dX8_begins_154 : decode cX8_begins 154 = .ok (.iconst 1, 1) := by decide +kernel
theorem dX8_begins_155 : decode cX8_begins 155 = .ok (.iadd, 1) := by decide +kernel
theorem dX8_begins_156 : decode cX8_begins 156 = .ok (.putfield 117, 3) := by decide +kernel
theorem dX8_begins_159 : decode cX8_begins 159 = .ok (.aload_n 0, 1) := by decide +kernel
theorem dX8_begins_160 : decode cX8_begins 160 = .ok (.iconst 1, 1) := by decide +kernel
theorem dX8_begins_161 : decode cX8_begins 161 = .ok (.putfield 123, 3) := by decide +kernel
theorem dX8_begins_164 : decode cX8_begins 164 = .ok (.iconst 1, 1) := by decide +kernel
theorem dX8_begins_165 : decode cX8_begins 165 = .ok (.ireturn, 1) := by decide +kernel
theorem dX8_counts_0 : decode cX8_counts 0 = .ok (.aload_n 0, 1) := by decide +kernel
theorem dX8_counts_1 : decode cX8_counts 1 = .ok (.getfield 123, 3) := by decide +kernel
theorem dX8_counts_4 : decode cX8_counts 4 = .ok (.iconst 4, 1) := by decide +kernel
theorem dX8_counts_5 : decode cX8_counts 5 = .ok (.if_icmp .eq 11, 3) := by decide +kernel
theorem dX8_counts_8 : decode cX8_counts 8 = .ok (.aload_n 0, 1) := by decide +kernel
theorem dX8_counts_9 : decode cX8_counts 9 = .ok (.getfield 123, 3) := by decide +kernel
theorem dX8_counts_12 : decode cX8_counts 12 = .ok (.iconst 5, 1) := by decide +kernel
theorem dX8_counts_13 : decode cX8_counts 13 = .ok (.if_icmp .ne 7, 3) := by decide +kernel
theorem dX8_counts_16 : decode cX8_counts 16 = .ok (.iload_n 1, 1) := by decide +kernel
theorem dX8_counts_17 : decode cX8_counts 17 = .ok (.ifCond .ge 5, 3) := by decide +kernel
theorem dX8_counts_20 : decode cX8_counts 20 = .ok (.iconst 0, 1) := by decide +kernel
theorem dX8_counts_21 : decode cX8_counts 21 = .ok (.ireturn, 1) := by decide +kernel
theorem dX8_counts_22 : decode cX8_counts 22 = .ok (.aload_n 0, 1) := by decide +kernel
theorem dX8_counts_23 : decode cX8_counts 23 = .ok (.getfield 29, 3) := by decide +kernel
theorem dX8_counts_26 : decode cX8_counts 26 = .ok (.iconst 5, 1) := by decide +kernel
theorem dX8_counts_27 : decode cX8_counts 27 = .ok (.aload_n 0, 1) := by decide +kernel
theorem dX8_counts_28 : decode cX8_counts 28 = .ok (.getfield 117, 3) := by decide +kernel
theorem dX8_counts_31 : decode cX8_counts 31 = .ok (.imul, 1) := by decide +kernel
theorem dX8_counts_32 : decode cX8_counts 32 = .ok (.iconst 5, 1) := by decide +kernel
theorem dX8_counts_33 : decode cX8_counts 33 = .ok (.isub, 1) := by decide +kernel
theorem dX8_counts_34 : decode cX8_counts 34 = .ok (.iconst 4, 1) := by decide +kernel
theorem dX8_counts_35 : decode cX8_counts 35 = .ok (.iadd, 1) := by decide +kernel
theorem dX8_counts_36 : decode cX8_counts 36 = .ok (.bipush 10, 2) := by decide +kernel
theorem dX8_counts_38 : decode cX8_counts 38 = .ok (.aload_n 0, 1) := by decide +kernel
theorem dX8_counts_39 : decode cX8_counts 39 = .ok (.getfield 29, 3) := by decide +kernel
theorem dX8_counts_42 : decode cX8_counts 42 = .ok (.iconst 5, 1) := by decide +kernel
theorem dX8_counts_43 : decode cX8_counts 43 = .ok (.aload_n 0, 1) := by decide +kernel
theorem dX8_counts_44 : decode cX8_counts 44 = .ok (.getfield 117, 3) := by decide +kernel
theorem dX8_counts_47 : decode cX8_counts 47 = .ok (.imul, 1) := by decide +kernel
theorem dX8_counts_48 : decode cX8_counts 48 = .ok (.iconst 5, 1) := by decide +kernel
theorem dX8_counts_49 : decode cX8_counts 49 = .ok (.isub, 1) := by decide +kernel
theorem dX8_counts_50 : decode cX8_counts 50 = .ok (.iconst 4, 1) := by decide +kernel
theorem dX8_counts_51 : decode cX8_counts 51 = .ok (.iadd, 1) := by decide +kernel
theorem dX8_counts_52 : decode cX8_counts 52 = .ok (.iaload, 1) := by decide +kernel
theorem dX8_counts_53 : decode cX8_counts 53 = .ok (.imul, 1) := by decide +kernel
theorem dX8_counts_54 : decode cX8_counts 54 = .ok (.iload_n 1, 1) := by decide +kernel
theorem dX8_counts_55 : decode cX8_counts 55 = .ok (.iadd, 1) := by decide +kernel
theorem dX8_counts_56 : decode cX8_counts 56 = .ok (.iastore, 1) := by decide +kernel
theorem dX8_counts_57 : decode cX8_counts 57 = .ok (.aload_n 0, 1) := by decide +kernel
theorem dX8_counts_58 : decode cX8_counts 58 = .ok (.aload_n 0, 1) := by decide +kernel
theorem dX8_counts_59 : decode cX8_counts 59 = .ok (.getfield 123, 3) := by decide +kernel
theorem dX8_counts_62 : decode cX8_counts 62 = .ok (.iconst 5, 1) := by decide +kernel
theorem dX8_counts_63 : decode cX8_counts 63 = .ok (.if_icmp .eq 7, 3) := by decide +kernel
theorem dX8_counts_66 : decode cX8_counts 66 = .ok (.iload_n 1, 1) := by decide +kernel
theorem dX8_counts_67 : decode cX8_counts 67 = .ok (.ifCond .ne 8, 3) := by decide +kernel
theorem dX8_counts_70 : decode cX8_counts 70 = .ok (.bipush 6, 2) := by decide +kernel
theorem dX8_counts_72 : decode cX8_counts 72 = .ok (.goto 4, 3) := by decide +kernel
theorem dX8_counts_75 : decode cX8_counts 75 = .ok (.iconst 5, 1) := by decide +kernel
theorem dX8_counts_76 : decode cX8_counts 76 = .ok (.putfield 123, 3) := by decide +kernel
theorem dX8_counts_79 : decode cX8_counts 79 = .ok (.iconst 1, 1) := by decide +kernel
theorem dX8_counts_80 : decode cX8_counts 80 = .ok (.ireturn, 1) := by decide +kernel
theorem dX8_turns_0 : decode cX8_turns 0 = .ok (.aload_n 0, 1) := by decide +kernel
theorem dX8_turns_1 : decode cX8_turns 1 = .ok (.getfield 123, 3) := by decide +kernel
theorem dX8_turns_4 : decode cX8_turns 4 = .ok (.ifCond .eq 39, 3) := by decide +kernel
theorem dX8_turns_7 : decode cX8_turns 7 = .ok (.aload_n 0, 1) := by decide +kernel
theorem dX8_turns_8 : decode cX8_turns 8 = .ok (.getfield 123, 3) := by decide +kernel
theorem dX8_turns_11 : decode cX8_turns 11 = .ok (.iconst 4, 1) := by decide +kernel
theorem dX8_turns_12 : decode cX8_turns 12 = .ok (.if_icmp .eq 31, 3) := by decide +kernel
theorem dX8_turns_15 : decode cX8_turns 15 = .ok (.iload_n 1, 1) := by decide +kernel
theorem dX8_turns_16 : decode cX8_turns 16 = .ok (.bipush 40, 2) := by decide +kernel
theorem dX8_turns_18 : decode cX8_turns 18 = .ok (.if_icmp .ne 12, 3) := by decide +kernel
theorem dX8_turns_21 : decode cX8_turns 21 = .ok (.aload_n 0, 1) := by decide +kernel
theorem dX8_turns_22 : decode cX8_turns 22 = .ok (.getfield 123, 3) := by decide +kernel
theorem dX8_turns_25 : decode cX8_turns 25 = .ok (.bipush 7, 2) := by decide +kernel
theorem dX8_turns_27 : decode cX8_turns 27 = .ok (.if_icmp .eq 16, 3) := by decide +kernel
theorem dX8_turns_30 : decode cX8_turns 30 = .ok (.iload_n 1, 1) := by decide +kernel
theorem dX8_turns_31 : decode cX8_turns 31 = .ok (.bipush 40, 2) := by decide +kernel
theorem dX8_turns_33 : decode cX8_turns 33 = .ok (.if_icmp .eq 12, 3) := by decide +kernel
theorem dX8_turns_36 : decode cX8_turns 36 = .ok (.aload_n 0, 1) := by decide +kernel
theorem dX8_turns_37 : decode cX8_turns 37 = .ok (.getfield 120, 3) := by decide +kernel
theorem dX8_turns_40 : decode cX8_turns 40 = .ok (.ifCond .ge 5, 3) := by decide +kernel
theorem dX8_turns_43 : decode cX8_turns 43 = .ok (.iconst 0, 1) := by decide +kernel
theorem dX8_turns_44 : decode cX8_turns 44 = .ok (.ireturn, 1) := by decide +kernel
theorem dX8_turns_45 : decode cX8_turns 45 = .ok (.iload_n 1, 1) := by decide +kernel
theorem dX8_turns_46 : decode cX8_turns 46 = .ok (.bipush 40, 2) := by decide +kernel
theorem dX8_turns_48 : decode cX8_turns 48 = .ok (.if_icmp .ne 13, 3) := by decide +kernel
theorem dX8_turns_51 : decode cX8_turns 51 = .ok (.aload_n 0, 1) := by decide +kernel
theorem dX8_turns_52 : decode cX8_turns 52 = .ok (.aload_n 0, 1) := by decide +kernel
theorem dX8_turns_53 : decode cX8_turns 53 = .ok (.getfield 117, 3) := by decide +kernel
theorem dX8_turns_56 : decode cX8_turns 56 = .ok (.iconst 1, 1) := by decide +kernel
theorem dX8_turns_57 : decode cX8_turns 57 = .ok (.isub, 1) := by decide +kernel
theorem dX8_turns_58 : decode cX8_turns 58 = .ok (.putfield 120, 3) := by decide +kernel
theorem dX8_turns_61 : decode cX8_turns 61 = .ok (.aload_n 0, 1) := by decide +kernel
theorem dX8_turns_62 : decode cX8_turns 62 = .ok (.iload_n 1, 1) := by decide +kernel
theorem dX8_turns_63 : decode cX8_turns 63 = .ok (.bipush 41, 2) := by decide +kernel
theorem dX8_turns_65 : decode cX8_turns 65 = .ok (.if_icmp .ne 8, 3) := by decide +kernel
theorem dX8_turns_68 : decode cX8_turns 68 = .ok (.bipush 7, 2) := by decide +kernel
theorem dX8_turns_70 : decode cX8_turns 70 = .ok (.goto 4, 3) := by decide +kernel
theorem dX8_turns_73 : decode cX8_turns 73 = .ok (.iconst 0, 1) := by decide +kernel
theorem dX8_turns_74 : decode cX8_turns 74 = .ok (.putfield 123, 3) := by decide +kernel
theorem dX8_turns_77 : decode cX8_turns 77 = .ok (.aload_n 0, 1) := by decide +kernel
theorem dX8_turns_78 : decode cX8_turns 78 = .ok (.iload_n 1, 1) := by decide +kernel
theorem dX8_turns_79 : decode cX8_turns 79 = .ok (.bipush 41, 2) := by decide +kernel
theorem dX8_turns_81 : decode cX8_turns 81 = .ok (.if_icmp .ne 19, 3) := by decide +kernel
theorem dX8_turns_84 : decode cX8_turns 84 = .ok (.aload_n 0, 1) := by decide +kernel
theorem dX8_turns_85 : decode cX8_turns 85 = .ok (.getfield 29, 3) := by decide +kernel
theorem dX8_turns_88 : decode cX8_turns 88 = .ok (.iconst 5, 1) := by decide +kernel
theorem dX8_turns_89 : decode cX8_turns 89 = .ok (.aload_n 0, 1) := by decide +kernel
theorem dX8_turns_90 : decode cX8_turns 90 = .ok (.getfield 120, 3) := by decide +kernel
theorem dX8_turns_93 : decode cX8_turns 93 = .ok (.imul, 1) := by decide +kernel
theorem dX8_turns_94 : decode cX8_turns 94 = .ok (.iconst 0, 1) := by decide +kernel
theorem dX8_turns_95 : decode cX8_turns 95 = .ok (.iadd, 1) := by decide +kernel
theorem dX8_turns_96 : decode cX8_turns 96 = .ok (.iaload, 1) := by decide +kernel
theorem dX8_turns_97 : decode cX8_turns 97 = .ok (.goto 7, 3) := by decide +kernel
theorem dX8_turns_100 : decode cX8_turns 100 = .ok (.aload_n 0, 1) := by decide +kernel
theorem dX8_turns_101 : decode cX8_turns 101 = .ok (.getfield 120, 3) := by decide +kernel
theorem dX8_turns_104 : decode cX8_turns 104 = .ok (.putfield 120, 3) := by decide +kernel
theorem dX8_turns_107 : decode cX8_turns 107 = .ok (.iconst 1, 1) := by decide +kernel
theorem dX8_turns_108 : decode cX8_turns 108 = .ok (.ireturn, 1) := by decide +kernel
set_option maxRecDepth 20000 in
theorem ggX8_goes_X8_in : GoodIn wsX8_goes wsX8_in := goodIn_r _ [7] (by decide +kernel) (by decide +kernel)
set_option maxRecDepth 20000 in
theorem gX8_goes_X8_in : GoodIn wsX8_goes (va_wsS RX8 39 yX8_in wsX8_in) := goodIn_app (goodIn_of _ (by decide +kernel)) ggX8_goes_X8_in
set_option maxRecDepth 20000 in
theorem ggX8_goes_X8_begins : GoodIn wsX8_goes wsX8_begins := goodIn_r _ [11, 3, 2, 12, 1, 4, 5, 6, 7, 21, 22, 23, 24, 25, 26, 27, 28, 29, 30, 31, 32, 33, 34] (by decide +kernel) (by decide +kernel)
set_option maxRecDepth 20000 in
theorem gX8_goes_X8_begins : GoodIn wsX8_goes (wsV RX8 126 RX8 yX8_begins wsX8_begins) := goodIn_app (goodIn_of _ (by decide +kernel)) ggX8_goes_X8_begins
set_option maxRecDepth 20000 in
theorem ggX8_goes_X8_turns : GoodIn wsX8_goes wsX8_turns := goodIn_r _ [16, 1, 12, 3, 2, 21, 22, 23, 24, 25, 26, 27, 28, 29, 30, 31, 32, 33, 34] (by decide +kernel) (by decide +kernel)
set_option maxRecDepth 20000 in
theorem gX8_goes_X8_turns : GoodIn wsX8_goes (wsV RX8 129 RX8 yX8_turns wsX8_turns) := goodIn_app (goodIn_of _ (by decide +kernel)) ggX8_goes_X8_turns
set_option maxRecDepth 20000 in
theorem ggX8_goes_X8_counts : GoodIn wsX8_goes wsX8_counts := goodIn_r _ [20, 1, 2, 3, 21, 22, 23, 24, 25, 26, 27, 28, 29, 30, 31, 32, 33, 34] (by decide +kernel) (by decide +kernel)
set_option maxRecDepth 20000 in
theorem gX8_goes_X8_counts : GoodIn wsX8_goes (wsV RX8 132 RX8 yX8_counts wsX8_counts) := goodIn_app (goodIn_of _ (by decide +kernel)) ggX8_goes_X8_counts
theorem dX8_goes_0 : decode cX8_goes 0 = .ok (.iload_n 1, 1) := by decide +kernel
theorem dX8_goes_1 : decode cX8_goes 1 = .ok (.bipush 48, 2) := by decide +kernel
theorem dX8_goes_3 : decode cX8_goes 3 = .ok (.bipush 57, 2) := by decide +kernel
theorem dX8_goes_5 : decode cX8_goes 5 = .ok (.invokestatic 39, 3) := by decide +kernel
theorem dX8_goes_8 : decode cX8_goes 8 = .ok (.ifCond .eq 10, 3) := by decide +kernel
theorem dX8_goes_11 : decode cX8_goes 11 = .ok (.iload_n 1, 1) := by decide +kernel
theorem dX8_goes_12 : decode cX8_goes 12 = .ok (.bipush 48, 2) := by decide +kernel
theorem dX8_goes_14 : decode cX8_goes 14 = .ok (.isub, 1) := by decide +kernel
theorem dX8_goes_15 : decode cX8_goes 15 = .ok (.goto 4, 3) := by decide +kernel
theorem dX8_goes_18 : decode cX8_goes 18 = .ok (.iconst (-1), 1) := by decide +kernel
theorem dX8_goes_19 : decode cX8_goes 19 = .ok (.istore_n 2, 1) := by decide +kernel
theorem dX8_goes_20 : decode cX8_goes 20 = .ok (.aload_n 0, 1) := by decide +kernel
theorem dX8_goes_21 : decode cX8_goes 21 = .ok (.getfield 123, 3) := by decide +kernel
theorem dX8_goes_24 : decode cX8_goes 24 = .ok (.ifCond .ne 9, 3) := by decide +kernel
theorem dX8_goes_27 : decode cX8_goes 27 = .ok (.aload_n 0, 1) := by decide +kernel
theorem dX8_goes_28 : decode cX8_goes 28 = .ok (.iload_n 2, 1) := by decide +kernel
theorem dX8_goes_29 : decode cX8_goes 29 = .ok (.invokevirtual 126, 3) := by decide +kernel
theorem dX8_goes_32 : decode cX8_goes 32 = .ok (.ireturn, 1) := by decide +kernel
theorem dX8_goes_33 : decode cX8_goes 33 = .ok (.iload_n 1, 1) := by decide +kernel
theorem dX8_goes_34 : decode cX8_goes 34 = .ok (.bipush 97, 2) := by decide +kernel
theorem dX8_goes_36 : decode cX8_goes 36 = .ok (.bipush 101, 2) := by decide +kernel
theorem dX8_goes_38 : decode cX8_goes 38 = .ok (.invokestatic 39, 3) := by decide +kernel
theorem dX8_goes_41 : decode cX8_goes 41 = .ok (.ifCond .eq 39, 3) := by decide +kernel
theorem dX8_goes_44 : decode cX8_goes 44 = .ok (.aload_n 0, 1) := by decide +kernel
theorem dX8_goes_45 : decode cX8_goes 45 = .ok (.getfield 123, 3) := by decide +kernel
theorem dX8_goes_48 : decode cX8_goes 48 = .ok (.iconst 1, 1) := by decide +kernel
theorem dX8_goes_49 : decode cX8_goes 49 = .ok (.if_icmp .ne 31, 3) := by decide +kernel
theorem dX8_goes_52 : decode cX8_goes 52 = .ok (.aload_n 0, 1) := by decide +kernel
theorem dX8_goes_53 : decode cX8_goes 53 = .ok (.getfield 29, 3) := by decide +kernel
theorem dX8_goes_56 : decode cX8_goes 56 = .ok (.iconst 5, 1) := by decide +kernel
theorem dX8_goes_57 : decode cX8_goes 57 = .ok (.aload_n 0, 1) := by decide +kernel
theorem dX8_goes_58 : decode cX8_goes 58 = .ok (.getfield 117, 3) := by decide +kernel
theorem dX8_goes_61 : decode cX8_goes 61 = .ok (.imul, 1) := by decide +kernel
theorem dX8_goes_62 : decode cX8_goes 62 = .ok (.iconst 5, 1) := by decide +kernel
theorem dX8_goes_63 : decode cX8_goes 63 = .ok (.isub, 1) := by decide +kernel
theorem dX8_goes_64 : decode cX8_goes 64 = .ok (.iconst 2, 1) := by decide +kernel
theorem dX8_goes_65 : decode cX8_goes 65 = .ok (.iadd, 1) := by decide +kernel
theorem dX8_goes_66 : decode cX8_goes 66 = .ok (.iload_n 1, 1) := by decide +kernel
theorem dX8_goes_67 : decode cX8_goes 67 = .ok (.bipush 97, 2) := by decide +kernel
theorem dX8_goes_69 : decode cX8_goes 69 = .ok (.isub, 1) := by decide +kernel
theorem dX8_goes_70 : decode cX8_goes 70 = .ok (.iconst 1, 1) := by decide +kernel
theorem dX8_goes_71 : decode cX8_goes 71 = .ok (.iadd, 1) := by decide +kernel
theorem dX8_goes_72 : decode cX8_goes 72 = .ok (.iastore, 1) := by decide +kernel
theorem dX8_goes_73 : decode cX8_goes 73 = .ok (.aload_n 0, 1) := by decide +kernel
theorem dX8_goes_74 : decode cX8_goes 74 = .ok (.iconst 2, 1) := by decide +kernel
theorem dX8_goes_75 : decode cX8_goes 75 = .ok (.putfield 123, 3) := by decide +kernel
theorem dX8_goes_78 : decode cX8_goes 78 = .ok (.iconst 1, 1) := by decide +kernel
theorem dX8_goes_79 : decode cX8_goes 79 = .ok (.ireturn, 1) := by decide +kernel
theorem dX8_goes_80 : decode cX8_goes 80 = .ok (.iload_n 1, 1) := by decide +kernel
theorem dX8_goes_81 : decode cX8_goes 81 = .ok (.bipush 33, 2) := by decide +kernel
theorem dX8_goes_83 : decode cX8_goes 83 = .ok (.if_icmp .ne 42, 3) := by decide +kernel
theorem dX8_goes_86 : decode cX8_goes 86 = .ok (.aload_n 0, 1) := by decide +kernel
theorem dX8_goes_87 : decode cX8_goes 87 = .ok (.getfield 123, 3) := by decide +kernel
theorem dX8_goes_90 : decode cX8_goes 90 = .ok (.iconst 1, 1) := by decide +kernel
theorem dX8_goes_91 : decode cX8_goes 91 = .ok (.if_icmp .eq 11, 3) := by decide +kernel
theorem dX8_goes_94 : decode cX8_goes 94 = .ok (.aload_n 0, 1) := by decide +kernel
theorem dX8_goes_95 : decode cX8_goes 95 = .ok (.getfield 123, 3) := by decide +kernel
theorem dX8_goes_98 : decode cX8_goes 98 = .ok (.iconst 2, 1) := by decide +kernel
theorem dX8_goes_99 : decode cX8_goes 99 = .ok (.if_icmp .ne 26, 3) := by decide +kernel
theorem dX8_goes_102 : decode cX8_goes 102 = .ok (.aload_n 0, 1) := by decide +kernel
theorem dX8_goes_103 : decode cX8_goes 103 = .ok (.getfield 29, 3) := by decide +kernel
theorem dX8_goes_106 : decode cX8_goes 106 = .ok (.iconst 5, 1) := by decide +kernel
theorem dX8_goes_107 : decode cX8_goes 107 = .ok (.aload_n 0, 1) := by decide +kernel
theorem dX8_goes_108 : decode cX8_goes 108 = .ok (.getfield 117, 3) := by decide +kernel
theorem dX8_goes_111 : decode cX8_goes 111 = .ok (.imul, 1) := by decide +kernel
theorem dX8_goes_112 : decode cX8_goes 112 = .ok (.iconst 5, 1) := by decide +kernel
theorem dX8_goes_113 : decode cX8_goes 113 = .ok (.isub, 1) := by decide +kernel
theorem dX8_goes_114 : decode cX8_goes 114 = .ok (.iconst 3, 1) := by decide +kernel
theorem dX8_goes_115 : decode cX8_goes 115 = .ok (.iadd, 1) := by decide +kernel
theorem dX8_goes_116 : decode cX8_goes 116 = .ok (.iconst 1, 1) := by decide +kernel
theorem dX8_goes_117 : decode cX8_goes 117 = .ok (.iastore, 1) := by decide +kernel
theorem dX8_goes_118 : decode cX8_goes 118 = .ok (.aload_n 0, 1) := by decide +kernel
theorem dX8_goes_119 : decode cX8_goes 119 = .ok (.iconst 3, 1) := by decide +kernel
theorem dX8_goes_120 : decode cX8_goes 120 = .ok (.putfield 123, 3) := by decide +kernel
theorem dX8_goes_123 : decode cX8_goes 123 = .ok (.iconst 1, 1) := by decide +kernel
theorem dX8_goes_124 : decode cX8_goes 124 = .ok (.ireturn, 1) := by decide +kernel
theorem dX8_goes_125 : decode cX8_goes 125 = .ok (.iload_n 1, 1) := by decide +kernel
theorem dX8_goes_126 : decode cX8_goes 126 = .ok (.bipush 42, 2) := by decide +kernel
theorem dX8_goes_128 : decode cX8_goes 128 = .ok (.if_icmp .ne 22, 3) := by decide +kernel
theorem dX8_goes_131 : decode cX8_goes 131 = .ok (.aload_n 0, 1) := by decide +kernel
theorem dX8_goes_132 : decode cX8_goes 132 = .ok (.getfield 123, 3) := by decide +kernel
theorem dX8_goes_135 : decode cX8_goes 135 = .ok (.iconst 1, 1) := by decide +kernel
theorem dX8_goes_136 : decode cX8_goes 136 = .ok (.iconst 3, 1) := by decide +kernel
theorem dX8_goes_137 : decode cX8_goes 137 = .ok (.invokestatic 39, 3) := by decide +kernel
theorem dX8_goes_140 : decode cX8_goes 140 = .ok (.ifCond .eq 10, 3) := by decide +kernel
theorem dX8_goes_143 : decode cX8_goes 143 = .ok (.aload_n 0, 1) := by decide +kernel
theorem dX8_goes_144 : decode cX8_goes 144 = .ok (.iconst 4, 1) := by decide +kernel
theorem dX8_goes_145 : decode cX8_goes 145 = .ok (.putfield 123, 3) := by decide +kernel
theorem dX8_goes_148 : decode cX8_goes 148 = .ok (.iconst 1, 1) := by decide +kernel
theorem dX8_goes_149 : decode cX8_goes 149 = .ok (.ireturn, 1) := by decide +kernel
theorem dX8_goes_150 : decode cX8_goes 150 = .ok (.iload_n 1, 1) := by decide +kernel
theorem dX8_goes_151 : decode cX8_goes 151 = .ok (.bipush 40, 2) := by decide +kernel
theorem dX8_goes_153 : decode cX8_goes 153 = .ok (.if_icmp .eq 15, 3) := by decide +kernel
theorem dX8_goes_156 : decode cX8_goes 156 = .ok (.iload_n 1, 1) := by decide +kernel
theorem dX8_goes_157 : decode cX8_goes 157 = .ok (.bipush 44, 2) := by decide +kernel
theorem dX8_goes_159 : decode cX8_goes 159 = .ok (.if_icmp .eq 9, 3) := by decide +kernel
theorem dX8_goes_162 : decode cX8_goes 162 = .ok (.iload_n 1, 1) := by decide +kernel
theorem dX8_goes_163 : decode cX8_goes 163 = .ok (.bipush 41, 2) := by decide +kernel
theorem dX8_goes_165 : decode cX8_goes 165 = .ok (.if_icmp .ne 11, 3) := by decide +kernel
theorem dX8_goes_168 : decode cX8_goes 168 = .ok (.aload_n 0, 1) := by decide +kernel
theorem dX8_goes_169 : decode cX8_goes 169 = .ok (.iload_n 1, 1) := by decide +kernel
theorem dX8_goes_170 : decode cX8_goes 170 = .ok (.invokevirtual 129, 3) := by decide +kernel
theorem dX8_goes_173 : decode cX8_goes 173 = .ok (.goto 8, 3) := by decide +kernel
theorem dX8_goes_176 : decode cX8_goes 176 = .ok (.aload_n 0, 1) := by decide +kernel
theorem dX8_goes_177 : decode cX8_goes 177 = .ok (.iload_n 2, 1) := by decide +kernel
theorem dX8_goes_178 : decode cX8_goes 178 = .ok (.invokevirtual 132, 3) := by decide +kernel
theorem dX8_goes_181 : decode cX8_goes 181 = .ok (.ireturn, 1) := by decide +kernel
set_option maxRecDepth 20000 in
theorem ggX8_fault_X8_goes : GoodIn wsX8_fault wsX8_goes := goodIn_r _ [10, 2, 11, 1, 12, 13, 9, 14, 15, 16, 17, 18, 3, 19, 20, 21, 22, 23, 24, 25, 26, 27, 28, 29, 30, 31, 32, 33, 34, 35, 36, 37, 38, 39, 40] (by decide +kernel) (by decide +kernel)
set_option maxRecDepth 20000 in
theorem gX8_fault_X8_goes : GoodIn wsX8_fault (wsV RX8 135 RX8 yX8_goes wsX8_goes) := goodIn_app (goodIn_of _ (by decide +kernel)) ggX8_fault_X8_goes
theorem dX8_fault_0 : decode cX8_fault 0 = .ok (.aload_n 0, 1) := by decide +kernel
theorem dX8_fault_1 : decode cX8_fault 1 = .ok (.iconst 0, 1) := by decide +kernel
theorem dX8_fault_2 : decode cX8_fault 2 = .ok (.putfield 117, 3) := by decide +kernel
theorem dX8_fault_5 : decode cX8_fault 5 = .ok (.aload_n 0, 1) := by decide +kernel
theorem dX8_fault_6 : decode cX8_fault 6 = .ok (.iconst 0, 1) := by decide +kernel
theorem dX8_fault_7 : decode cX8_fault 7 = .ok (.putfield 123, 3) := by decide +kernel
theorem dX8_fault_10 : decode cX8_fault 10 = .ok (.aload_n 0, 1) := by decide +kernel
theorem dX8_fault_11 : decode cX8_fault 11 = .ok (.iconst (-1), 1) := by decide +kernel
theorem dX8_fault_12 : decode cX8_fault 12 = .ok (.putfield 120, 3) := by decide +kernel
theorem dX8_fault_15 : decode cX8_fault 15 = .ok (.iconst 0, 1) := by decide +kernel
theorem dX8_fault_16 : decode cX8_fault 16 = .ok (.istore_n 1, 1) := by decide +kernel
theorem dX8_fault_17 : decode cX8_fault 17 = .ok (.iload_n 1, 1) := by decide +kernel
theorem dX8_fault_18 : decode cX8_fault 18 = .ok (.aload_n 0, 1) := by decide +kernel
theorem dX8_fault_19 : decode cX8_fault 19 = .ok (.getfield 106, 3) := by decide +kernel
theorem dX8_fault_22 : decode cX8_fault 22 = .ok (.if_icmp .ge 24, 3) := by decide +kernel
theorem dX8_fault_25 : decode cX8_fault 25 = .ok (.aload_n 0, 1) := by decide +kernel
theorem dX8_fault_26 : decode cX8_fault 26 = .ok (.aload_n 0, 1) := by decide +kernel
theorem dX8_fault_27 : decode cX8_fault 27 = .ok (.getfield 23, 3) := by decide +kernel
theorem dX8_fault_30 : decode cX8_fault 30 = .ok (.iload_n 1, 1) := by decide +kernel
theorem dX8_fault_31 : decode cX8_fault 31 = .ok (.iaload, 1) := by decide +kernel
theorem dX8_fault_32 : decode cX8_fault 32 = .ok (.invokevirtual 135, 3) := by decide +kernel
theorem dX8_fault_35 : decode cX8_fault 35 = .ok (.ifCond .ne 5, 3) := by decide +kernel
theorem dX8_fault_38 : decode cX8_fault 38 = .ok (.iload_n 1, 1) := by decide +kernel
theorem dX8_fault_39 : decode cX8_fault 39 = .ok (.ireturn, 1) := by decide +kernel
theorem dX8_fault_40 : decode cX8_fault 40 = .ok (.iinc 1 1, 3) := by decide +kernel
theorem dX8_fault_43 : decode cX8_fault 43 = .ok (.goto (-26), 3) := by decide +kernel
theorem dX8_fault_46 : decode cX8_fault 46 = .ok (.aload_n 0, 1) := by decide +kernel
theorem dX8_fault_47 : decode cX8_fault 47 = .ok (.getfield 120, 3) := by decide +kernel
theorem dX8_fault_50 : decode cX8_fault 50 = .ok (.ifCond .ge 23, 3) := by decide +kernel
theorem dX8_fault_53 : decode cX8_fault 53 = .ok (.aload_n 0, 1) := by decide +kernel
theorem dX8_fault_54 : decode cX8_fault 54 = .ok (.getfield 123, 3) := by decide +kernel
theorem dX8_fault_57 : decode cX8_fault 57 = .ok (.ifCond .eq 16, 3) := by decide +kernel
theorem dX8_fault_60 : decode cX8_fault 60 = .ok (.aload_n 0, 1) := by decide +kernel
theorem dX8_fault_61 : decode cX8_fault 61 = .ok (.getfield 123, 3) := by decide +kernel
theorem dX8_fault_64 : decode cX8_fault 64 = .ok (.iconst 4, 1) := by decide +kernel
theorem dX8_fault_65 : decode cX8_fault 65 = .ok (.if_icmp .eq 8, 3) := by decide +kernel
theorem dX8_fault_68 : decode cX8_fault 68 = .ok (.bipush (-6), 2) := by decide +kernel
theorem dX8_fault_70 : decode cX8_fault 70 = .ok (.goto 7, 3) := by decide +kernel
theorem dX8_fault_73 : decode cX8_fault 73 = .ok (.aload_n 0, 1) := by decide +kernel
theorem dX8_fault_74 : decode cX8_fault 74 = .ok (.getfield 106, 3) := by decide +kernel
theorem dX8_fault_77 : decode cX8_fault 77 = .ok (.ireturn, 1) := by decide +kernel
set_option maxRecDepth 20000 in
theorem ggX8_build_X8_fault : GoodIn wsX8_build wsX8_fault := goodIn_r _ [9, 1, 10, 11, 4, 12, 13, 14, 15, 8, 16, 3, 17, 18, 19, 20, 21, 22, 23, 24, 25, 26, 27, 28, 29, 30, 31, 38, 39, 40, 41, 42, 43, 44, 45, 46, 47, 48, 49, 50, 51] (by decide +kernel) (by decide +kernel)
set_option maxRecDepth 20000 in
theorem gX8_build_X8_fault : GoodIn wsX8_build (wsV RX8 138 RX8 yX8_fault wsX8_fault) := goodIn_app (goodIn_of _ (by decide +kernel)) ggX8_build_X8_fault
set_option maxRecDepth 20000 in
theorem ggX8_build_X8_remembers : GoodIn wsX8_build wsX8_remembers := goodIn_r _ [35, 36, 37, 2, 38, 39, 40, 41, 42, 43, 44, 45, 46, 47, 48, 49, 50, 51] (by decide +kernel) (by decide +kernel)
set_option maxRecDepth 20000 in
theorem gX8_build_X8_remembers : GoodIn wsX8_build (wsV RX8 70 RX8 yX8_remembers wsX8_remembers) := goodIn_app (goodIn_of _ (by decide +kernel)) ggX8_build_X8_remembers
theorem dX8_build_0 : decode cX8_build 0 = .ok (.aload_n 0, 1) := by decide +kernel
theorem dX8_build_1 : decode cX8_build 1 = .ok (.invokevirtual 138, 3) := by decide +kernel
theorem dX8_build_4 : decode cX8_build 4 = .ok (.bipush (-6), 2) := by decide +kernel
theorem dX8_build_6 : decode cX8_build 6 = .ok (.if_icmp .eq 6, 3) := by decide +kernel
theorem dX8_build_9 : decode cX8_build 9 = .ok (.bipush (-3), 2) := by decide +kernel
theorem dX8_build_11 : decode cX8_build 11 = .ok (.ireturn, 1) := by decide +kernel
theorem dX8_build_12 : decode cX8_build 12 = .ok (.aload_n 0, 1) := by decide +kernel
theorem dX8_build_13 : decode cX8_build 13 = .ok (.invokevirtual 70, 3) := by decide +kernel
theorem dX8_build_16 : decode cX8_build 16 = .ok (.iconst 0, 1) := by decide +kernel
theorem dX8_build_17 : decode cX8_build 17 = .ok (.istore_n 1, 1) := by decide +kernel
theorem dX8_build_18 : decode cX8_build 18 = .ok (.iload_n 1, 1) := by decide +kernel
theorem dX8_build_19 : decode cX8_build 19 = .ok (.iconst 5, 1) := by decide +kernel
theorem dX8_build_20 : decode cX8_build 20 = .ok (.aload_n 0, 1) := by decide +kernel
theorem dX8_build_21 : decode cX8_build 21 = .ok (.getfield 117, 3) := by decide +kernel
theorem dX8_build_24 : decode cX8_build 24 = .ok (.imul, 1) := by decide +kernel
theorem dX8_build_25 : decode cX8_build 25 = .ok (.if_icmp .ge 24, 3) := by decide +kernel
theorem dX8_build_28 : decode cX8_build 28 = .ok (.aload_n 0, 1) := by decide +kernel
theorem dX8_build_29 : decode cX8_build 29 = .ok (.getfield 7, 3) := by decide +kernel
theorem dX8_build_32 : decode cX8_build 32 = .ok (.bipush 33, 2) := by decide +kernel
theorem dX8_build_34 : decode cX8_build 34 = .ok (.iload_n 1, 1) := by decide +kernel
theorem dX8_build_35 : decode cX8_build 35 = .ok (.iadd, 1) := by decide +kernel
theorem dX8_build_36 : decode cX8_build 36 = .ok (.aload_n 0, 1) := by decide +kernel
theorem dX8_build_37 : decode cX8_build 37 = .ok (.getfield 29, 3) := by decide +kernel
theorem dX8_build_40 : decode cX8_build 40 = .ok (.iload_n 1, 1) := by decide +kernel
theorem dX8_build_41 : decode cX8_build 41 = .ok (.iaload, 1) := by decide +kernel
theorem dX8_build_42 : decode cX8_build 42 = .ok (.iastore, 1) := by decide +kernel
theorem dX8_build_43 : decode cX8_build 43 = .ok (.iinc 1 1, 3) := by decide +kernel
theorem dX8_build_46 : decode cX8_build 46 = .ok (.goto (-28), 3) := by decide +kernel
theorem dX8_build_49 : decode cX8_build 49 = .ok (.aload_n 0, 1) := by decide +kernel
theorem dX8_build_50 : decode cX8_build 50 = .ok (.getfield 7, 3) := by decide +kernel
theorem dX8_build_53 : decode cX8_build 53 = .ok (.iconst 5, 1) := by decide +kernel
theorem dX8_build_54 : decode cX8_build 54 = .ok (.aload_n 0, 1) := by decide +kernel
theorem dX8_build_55 : decode cX8_build 55 = .ok (.getfield 117, 3) := by decide +kernel
theorem dX8_build_58 : decode cX8_build 58 = .ok (.iastore, 1) := by decide +kernel
theorem dX8_build_59 : decode cX8_build 59 = .ok (.aload_n 0, 1) := by decide +kernel
theorem dX8_build_60 : decode cX8_build 60 = .ok (.iconst 0, 1) := by decide +kernel
theorem dX8_build_61 : decode cX8_build 61 = .ok (.putfield 106, 3) := by decide +kernel
theorem dX8_build_64 : decode cX8_build 64 = .ok (.aload_n 0, 1) := by decide +kernel
theorem dX8_build_65 : decode cX8_build 65 = .ok (.getfield 117, 3) := by decide +kernel
theorem dX8_build_68 : decode cX8_build 68 = .ok (.ireturn, 1) := by decide +kernel
theorem dX8_writes_0 : decode cX8_writes 0 = .ok (.aload_n 0, 1) := by decide +kernel
theorem dX8_writes_1 : decode cX8_writes 1 = .ok (.getfield 32, 3) := by decide +kernel
theorem dX8_writes_4 : decode cX8_writes 4 = .ok (.aload_n 0, 1) := by decide +kernel
theorem dX8_writes_5 : decode cX8_writes 5 = .ok (.getfield 141, 3) := by decide +kernel
theorem dX8_writes_8 : decode cX8_writes 8 = .ok (.iload_n 1, 1) := by decide +kernel
theorem dX8_writes_9 : decode cX8_writes 9 = .ok (.iastore, 1) := by decide +kernel
theorem dX8_writes_10 : decode cX8_writes 10 = .ok (.aload_n 0, 1) := by decide +kernel
theorem dX8_writes_11 : decode cX8_writes 11 = .ok (.dup, 1) := by decide +kernel
theorem dX8_writes_12 : decode cX8_writes 12 = .ok (.getfield 141, 3) := by decide +kernel
theorem dX8_writes_15 : decode cX8_writes 15 = .ok (.iconst 1, 1) := by decide +kernel
theorem dX8_writes_16 : decode cX8_writes 16 = .ok (.iadd, 1) := by decide +kernel
theorem dX8_writes_17 : decode cX8_writes 17 = .ok (.putfield 141, 3) := by decide +kernel
theorem dX8_writes_20 : decode cX8_writes 20 = .ok (.return_, 1) := by decide +kernel
set_option maxRecDepth 20000 in
theorem ggX8_writesStreet_X8_its : GoodIn wsX8_writesStreet wsX8_its := goodIn_r _ [5, 6, 7, 8, 4, 9, 16, 17, 18, 19, 20, 21, 22, 23, 24, 25, 26, 27, 28, 29] (by decide +kernel) (by decide +kernel)
set_option maxRecDepth 20000 in
theorem gX8_writesStreet_X8_its : GoodIn wsX8_writesStreet (wsV RX8 47 RX8 yX8_its wsX8_its) := goodIn_app (goodIn_of _ (by decide +kernel)) ggX8_writesStreet_X8_its
set_option maxRecDepth 20000 in
theorem ggX8_writesStreet_X8_writes : GoodIn wsX8_writesStreet wsX8_writes := goodIn_r _ [13, 14, 15, 16, 17, 18, 19, 20, 21, 22, 23, 24, 25, 26, 27, 28, 29] (by decide +kernel) (by decide +kernel)
set_option maxRecDepth 20000 in
theorem gX8_writesStreet_X8_writes : GoodIn wsX8_writesStreet (wsV RX8 144 RX8 yX8_writes wsX8_writes) := goodIn_app (goodIn_of _ (by decide +kernel)) ggX8_writesStreet_X8_writes
theorem dX8_writesStreet_0 : decode cX8_writesStreet 0 = .ok (.aload_n 0, 1) := by decide +kernel
theorem dX8_writesStreet_1 : decode cX8_writesStreet 1 = .ok (.bipush 48, 2) := by decide +kernel
theorem dX8_writesStreet_3 : decode cX8_writesStreet 3 = .ok (.aload_n 0, 1) := by decide +kernel
theorem dX8_writesStreet_4 : decode cX8_writesStreet 4 = .ok (.iload_n 1, 1) := by decide +kernel
theorem dX8_writesStreet_5 : decode cX8_writesStreet 5 = .ok (.iconst 1, 1) := by decide +kernel
theorem dX8_writesStreet_6 : decode cX8_writesStreet 6 = .ok (.invokevirtual 47, 3) := by decide +kernel
theorem dX8_writesStreet_9 : decode cX8_writesStreet 9 = .ok (.iadd, 1) := by decide +kernel
theorem dX8_writesStreet_10 : decode cX8_writesStreet 10 = .ok (.invokevirtual 144, 3) := by decide +kernel
theorem dX8_writesStreet_13 : decode cX8_writesStreet 13 = .ok (.aload_n 0, 1) := by decide +kernel
theorem dX8_writesStreet_14 : decode cX8_writesStreet 14 = .ok (.iload_n 1, 1) := by decide +kernel
theorem dX8_writesStreet_15 : decode cX8_writesStreet 15 = .ok (.iconst 2, 1) := by decide +kernel
theorem dX8_writesStreet_16 : decode cX8_writesStreet 16 = .ok (.invokevirtual 47, 3) := by decide +kernel
theorem dX8_writesStreet_19 : decode cX8_writesStreet 19 = .ok (.ifCond .le 18, 3) := by decide +kernel
theorem dX8_writesStreet_22 : decode cX8_writesStreet 22 = .ok (.aload_n 0, 1) := by decide +kernel
theorem dX8_writesStreet_23 : decode cX8_writesStreet 23 = .ok (.bipush 97, 2) := by decide +kernel
theorem dX8_writesStreet_25 : decode cX8_writesStreet 25 = .ok (.aload_n 0, 1) := by decide +kernel
theorem dX8_writesStreet_26 : decode cX8_writesStreet 26 = .ok (.iload_n 1, 1) := by decide +kernel
theorem dX8_writesStreet_27 : decode cX8_writesStreet 27 = .ok (.iconst 2, 1) := by decide +kernel
theorem dX8_writesStreet_28 : decode cX8_writesStreet 28 = .ok (.invokevirtual 47, 3) := by decide +kernel
theorem dX8_writesStreet_31 : decode cX8_writesStreet 31 = .ok (.iadd, 1) := by decide +kernel
theorem dX8_writesStreet_32 : decode cX8_writesStreet 32 = .ok (.iconst 1, 1) := by decide +kernel
theorem dX8_writesStreet_33 : decode cX8_writesStreet 33 = .ok (.isub, 1) := by decide +kernel
theorem dX8_writesStreet_34 : decode cX8_writesStreet 34 = .ok (.invokevirtual 144, 3) := by decide +kernel
theorem dX8_writesStreet_37 : decode cX8_writesStreet 37 = .ok (.aload_n 0, 1) := by decide +kernel
theorem dX8_writesStreet_38 : decode cX8_writesStreet 38 = .ok (.iload_n 1, 1) := by decide +kernel
theorem dX8_writesStreet_39 : decode cX8_writesStreet 39 = .ok (.iconst 3, 1) := by decide +kernel
theorem dX8_writesStreet_40 : decode cX8_writesStreet 40 = .ok (.invokevirtual 47, 3) := by decide +kernel
theorem dX8_writesStreet_43 : decode cX8_writesStreet 43 = .ok (.iconst 1, 1) := by decide +kernel
theorem dX8_writesStreet_44 : decode cX8_writesStreet 44 = .ok (.if_icmp .ne 9, 3) := by decide +kernel
theorem dX8_writesStreet_47 : decode cX8_writesStreet 47 = .ok (.aload_n 0, 1) := by decide +kernel
theorem dX8_writesStreet_48 : decode cX8_writesStreet 48 = .ok (.bipush 33, 2) := by decide +kernel
theorem dX8_writesStreet_50 : decode cX8_writesStreet 50 = .ok (.invokevirtual 144, 3) := by decide +kernel
theorem dX8_writesStreet_53 : decode cX8_writesStreet 53 = .ok (.aload_n 0, 1) := by decide +kernel
theorem dX8_writesStreet_54 : decode cX8_writesStreet 54 = .ok (.iload_n 1, 1) := by decide +kernel
theorem dX8_writesStreet_55 : decode cX8_writesStreet 55 = .ok (.iconst 4, 1) := by decide +kernel
theorem dX8_writesStreet_56 : decode cX8_writesStreet 56 = .ok (.invokevirtual 47, 3) := by decide +kernel
theorem dX8_writesStreet_59 : decode cX8_writesStreet 59 = .ok (.istore_n 2, 1) := by decide +kernel
theorem dX8_writesStreet_60 : decode cX8_writesStreet 60 = .ok (.iload_n 2, 1) := by decide +kernel
theorem dX8_writesStreet_61 : decode cX8_writesStreet 61 = .ok (.ifCond .le 9, 3) := by decide +kernel
theorem dX8_writesStreet_64 : decode cX8_writesStreet 64 = .ok (.aload_n 0, 1) := by decide +kernel
theorem dX8_writesStreet_65 : decode cX8_writesStreet 65 = .ok (.bipush 42, 2) := by decide +kernel
theorem dX8_writesStreet_67 : decode cX8_writesStreet 67 = .ok (.invokevirtual 144, 3) := by decide +kernel
theorem dX8_writesStreet_70 : decode cX8_writesStreet 70 = .ok (.iload_n 2, 1) := by decide +kernel
theorem dX8_writesStreet_71 : decode cX8_writesStreet 71 = .ok (.bipush 9, 2) := by decide +kernel
theorem dX8_writesStreet_73 : decode cX8_writesStreet 73 = .ok (.if_icmp .le 14, 3) := by decide +kernel
theorem dX8_writesStreet_76 : decode cX8_writesStreet 76 = .ok (.aload_n 0, 1) := by decide +kernel
theorem dX8_writesStreet_77 : decode cX8_writesStreet 77 = .ok (.bipush 48, 2) := by decide +kernel
theorem dX8_writesStreet_79 : decode cX8_writesStreet 79 = .ok (.iload_n 2, 1) := by decide +kernel
theorem dX8_writesStreet_80 : decode cX8_writesStreet 80 = .ok (.bipush 10, 2) := by decide +kernel
theorem dX8_writesStreet_82 : decode cX8_writesStreet 82 = .ok (.idiv, 1) := by decide +kernel
theorem dX8_writesStreet_83 : decode cX8_writesStreet 83 = .ok (.iadd, 1) := by decide +kernel
theorem dX8_writesStreet_84 : decode cX8_writesStreet 84 = .ok (.invokevirtual 144, 3) := by decide +kernel
theorem dX8_writesStreet_87 : decode cX8_writesStreet 87 = .ok (.iload_n 2, 1) := by decide +kernel
theorem dX8_writesStreet_88 : decode cX8_writesStreet 88 = .ok (.ifCond .le 14, 3) := by decide +kernel
theorem dX8_writesStreet_91 : decode cX8_writesStreet 91 = .ok (.aload_n 0, 1) := by decide +kernel
theorem dX8_writesStreet_92 : decode cX8_writesStreet 92 = .ok (.bipush 48, 2) := by decide +kernel
theorem dX8_writesStreet_94 : decode cX8_writesStreet 94 = .ok (.iload_n 2, 1) := by decide +kernel
theorem dX8_writesStreet_95 : decode cX8_writesStreet 95 = .ok (.bipush 10, 2) := by decide +kernel
theorem dX8_writesStreet_97 : decode cX8_writesStreet 97 = .ok (.irem, 1) := by decide +kernel
theorem dX8_writesStreet_98 : decode cX8_writesStreet 98 = .ok (.iadd, 1) := by decide +kernel
theorem dX8_writesStreet_99 : decode cX8_writesStreet 99 = .ok (.invokevirtual 144, 3) := by decide +kernel
theorem dX8_writesStreet_102 : decode cX8_writesStreet 102 = .ok (.return_, 1) := by decide +kernel
set_option maxRecDepth 20000 in
theorem ggX8_nextBranch_X8_its : GoodIn wsX8_nextBranch wsX8_its := goodIn_r _ [6, 1, 7, 8, 5, 9, 10, 11, 12, 13, 14, 15, 16, 17, 18, 19, 20, 21, 22, 23] (by decide +kernel) (by decide +kernel)
set_option maxRecDepth 20000 in
theorem gX8_nextBranch_X8_its : GoodIn wsX8_nextBranch (wsV RX8 47 RX8 yX8_its wsX8_its) := goodIn_app (goodIn_of _ (by decide +kernel)) ggX8_nextBranch_X8_its
theorem dX8_nextBranch_0 : decode cX8_nextBranch 0 = .ok (.iload_n 2, 1) := by decide +kernel
theorem dX8_nextBranch_1 : decode cX8_nextBranch 1 = .ok (.iconst 1, 1) := by decide +kernel
theorem dX8_nextBranch_2 : decode cX8_nextBranch 2 = .ok (.iadd, 1) := by decide +kernel
theorem dX8_nextBranch_3 : decode cX8_nextBranch 3 = .ok (.istore_n 3, 1) := by decide +kernel
theorem dX8_nextBranch_4 : decode cX8_nextBranch 4 = .ok (.iload_n 3, 1) := by decide +kernel
theorem dX8_nextBranch_5 : decode cX8_nextBranch 5 = .ok (.aload_n 0, 1) := by decide +kernel
theorem dX8_nextBranch_6 : decode cX8_nextBranch 6 = .ok (.getfield 7, 3) := by decide +kernel
theorem dX8_nextBranch_9 : decode cX8_nextBranch 9 = .ok (.iconst 5, 1) := by decide +kernel
theorem dX8_nextBranch_10 : decode cX8_nextBranch 10 = .ok (.iaload, 1) := by decide +kernel
theorem dX8_nextBranch_11 : decode cX8_nextBranch 11 = .ok (.if_icmp .ge 21, 3) := by decide +kernel
theorem dX8_nextBranch_14 : decode cX8_nextBranch 14 = .ok (.aload_n 0, 1) := by decide +kernel
theorem dX8_nextBranch_15 : decode cX8_nextBranch 15 = .ok (.iload_n 3, 1) := by decide +kernel
theorem dX8_nextBranch_16 : decode cX8_nextBranch 16 = .ok (.iconst 0, 1) := by decide +kernel
theorem dX8_nextBranch_17 : decode cX8_nextBranch 17 = .ok (.invokevirtual 47, 3) := by decide +kernel
theorem dX8_nextBranch_20 : decode cX8_nextBranch 20 = .ok (.iload_n 1, 1) := by decide +kernel
theorem dX8_nextBranch_21 : decode cX8_nextBranch 21 = .ok (.if_icmp .ne 5, 3) := by decide +kernel
theorem dX8_nextBranch_24 : decode cX8_nextBranch 24 = .ok (.iload_n 3, 1) := by decide +kernel
theorem dX8_nextBranch_25 : decode cX8_nextBranch 25 = .ok (.ireturn, 1) := by decide +kernel
theorem dX8_nextBranch_26 : decode cX8_nextBranch 26 = .ok (.iinc 3 1, 3) := by decide +kernel
theorem dX8_nextBranch_29 : decode cX8_nextBranch 29 = .ok (.goto (-25), 3) := by decide +kernel
theorem dX8_nextBranch_32 : decode cX8_nextBranch 32 = .ok (.bipush (-6), 2) := by decide +kernel
theorem dX8_nextBranch_34 : decode cX8_nextBranch 34 = .ok (.ireturn, 1) := by decide +kernel
set_option maxRecDepth 20000 in
theorem ggX8_goesUp_X8_its : GoodIn wsX8_goesUp wsX8_its := goodIn_r _ [5, 6, 7, 8, 4, 9, 20, 21, 22, 23, 24, 25, 26, 27, 28, 29, 30, 31, 32, 33] (by decide +kernel) (by decide +kernel)
set_option maxRecDepth 20000 in
theorem gX8_goesUp_X8_its : GoodIn wsX8_goesUp (wsV RX8 47 RX8 yX8_its wsX8_its) := goodIn_app (goodIn_of _ (by decide +kernel)) ggX8_goesUp_X8_its
set_option maxRecDepth 20000 in
theorem ggX8_goesUp_X8_nextBranch : GoodIn wsX8_goesUp wsX8_nextBranch := goodIn_r _ [13, 6, 1, 2, 3, 4, 5, 7, 8, 9, 20, 21, 22, 23, 24, 25, 26, 27, 28, 29, 30, 31, 32, 33] (by decide +kernel) (by decide +kernel)
set_option maxRecDepth 20000 in
theorem gX8_goesUp_X8_nextBranch : GoodIn wsX8_goesUp (wsV RX8 147 RX8 yX8_nextBranch wsX8_nextBranch) := goodIn_app (goodIn_of _ (by decide +kernel)) ggX8_goesUp_X8_nextBranch
set_option maxRecDepth 20000 in
theorem ggX8_goesUp_X8_writes : GoodIn wsX8_goesUp wsX8_writes := goodIn_r _ [17, 18, 19, 20, 21, 22, 23, 24, 25, 26, 27, 28, 29, 30, 31, 32, 33] (by decide +kernel) (by decide +kernel)
set_option maxRecDepth 20000 in
theorem gX8_goesUp_X8_writes : GoodIn wsX8_goesUp (wsV RX8 144 RX8 yX8_writes wsX8_writes) := goodIn_app (goodIn_of _ (by decide +kernel)) ggX8_goesUp_X8_writes
theorem dX8_goesUp_0 : decode cX8_goesUp 0 = .ok (.iload_n 1, 1) := by decide +kernel
theorem dX8_goesUp_1 : decode cX8_goesUp 1 = .ok (.istore_n 2, 1) := by decide +kernel
theorem dX8_goesUp_2 : decode cX8_goesUp 2 = .ok (.iload_n 2, 1) := by decide +kernel
theorem dX8_goesUp_3 : decode cX8_goesUp 3 = .ok (.ifCond .le 45, 3) := by decide +kernel
theorem dX8_goesUp_6 : decode cX8_goesUp 6 = .ok (.aload_n 0, 1) := by decide +kernel
theorem dX8_goesUp_7 : decode cX8_goesUp 7 = .ok (.aload_n 0, 1) := by decide +kernel
theorem dX8_goesUp_8 : decode cX8_goesUp 8 = .ok (.iload_n 2, 1) := by decide +kernel
theorem dX8_goesUp_9 : decode cX8_goesUp 9 = .ok (.iconst 0, 1) := by decide +kernel
theorem dX8_goesUp_10 : decode cX8_goesUp 10 = .ok (.invokevirtual 47, 3) := by decide +kernel
theorem dX8_goesUp_13 : decode cX8_goesUp 13 = .ok (.iload_n 2, 1) := by decide +kernel
theorem dX8_goesUp_14 : decode cX8_goesUp 14 = .ok (.invokevirtual 147, 3) := by decide +kernel
theorem dX8_goesUp_17 : decode cX8_goesUp 17 = .ok (.istore_n 3, 1) := by decide +kernel
theorem dX8_goesUp_18 : decode cX8_goesUp 18 = .ok (.iload_n 3, 1) := by decide +kernel
theorem dX8_goesUp_19 : decode cX8_goesUp 19 = .ok (.bipush (-6), 2) := by decide +kernel
theorem dX8_goesUp_21 : decode cX8_goesUp 21 = .ok (.if_icmp .eq 11, 3) := by decide +kernel
theorem dX8_goesUp_24 : decode cX8_goesUp 24 = .ok (.aload_n 0, 1) := by decide +kernel
theorem dX8_goesUp_25 : decode cX8_goesUp 25 = .ok (.bipush 44, 2) := by decide +kernel
theorem dX8_goesUp_27 : decode cX8_goesUp 27 = .ok (.invokevirtual 144, 3) := by decide +kernel
theorem dX8_goesUp_30 : decode cX8_goesUp 30 = .ok (.iload_n 3, 1) := by decide +kernel
theorem dX8_goesUp_31 : decode cX8_goesUp 31 = .ok (.ireturn, 1) := by decide +kernel
theorem dX8_goesUp_32 : decode cX8_goesUp 32 = .ok (.aload_n 0, 1) := by decide +kernel
theorem dX8_goesUp_33 : decode cX8_goesUp 33 = .ok (.bipush 41, 2) := by decide +kernel
theorem dX8_goesUp_35 : decode cX8_goesUp 35 = .ok (.invokevirtual 144, 3) := by decide +kernel
theorem dX8_goesUp_38 : decode cX8_goesUp 38 = .ok (.aload_n 0, 1) := by decide +kernel
theorem dX8_goesUp_39 : decode cX8_goesUp 39 = .ok (.iload_n 2, 1) := by decide +kernel
theorem dX8_goesUp_40 : decode cX8_goesUp 40 = .ok (.iconst 0, 1) := by decide +kernel
theorem dX8_goesUp_41 : decode cX8_goesUp 41 = .ok (.invokevirtual 47, 3) := by decide +kernel
theorem dX8_goesUp_44 : decode cX8_goesUp 44 = .ok (.istore_n 2, 1) := by decide +kernel
theorem dX8_goesUp_45 : decode cX8_goesUp 45 = .ok (.goto (-43), 3) := by decide +kernel
theorem dX8_goesUp_48 : decode cX8_goesUp 48 = .ok (.iconst (-1), 1) := by decide +kernel
theorem dX8_goesUp_49 : decode cX8_goesUp 49 = .ok (.ireturn, 1) := by decide +kernel
set_option maxRecDepth 20000 in
theorem ggX8_write_X8_writesStreet : GoodIn wsX8_write wsX8_writesStreet := goodIn_r _ [9, 10, 11, 12, 8, 13, 14, 15, 16, 17, 18, 19, 20, 21, 3, 1, 30, 31, 32, 33, 34, 35, 36, 37, 38, 39, 40, 41, 42, 43] (by decide +kernel) (by decide +kernel)
set_option maxRecDepth 20000 in
theorem gX8_write_X8_writesStreet : GoodIn wsX8_write (wsV RX8 150 RX8 yX8_writesStreet wsX8_writesStreet) := goodIn_app (goodIn_of _ (by decide +kernel)) ggX8_write_X8_writesStreet
set_option maxRecDepth 20000 in
theorem ggX8_write_X8_nextBranch : GoodIn wsX8_write wsX8_nextBranch := goodIn_r _ [25, 14, 10, 11, 12, 8, 13, 15, 16, 17, 30, 31, 32, 33, 34, 35, 36, 37, 38, 39, 40, 41, 42, 43] (by decide +kernel) (by decide +kernel)
set_option maxRecDepth 20000 in
theorem gX8_write_X8_nextBranch : GoodIn wsX8_write (wsV RX8 147 RX8 yX8_nextBranch wsX8_nextBranch) := goodIn_app (goodIn_of _ (by decide +kernel)) ggX8_write_X8_nextBranch
set_option maxRecDepth 20000 in
theorem ggX8_write_X8_writes : GoodIn wsX8_write wsX8_writes := goodIn_r _ [21, 3, 1, 30, 31, 32, 33, 34, 35, 36, 37, 38, 39, 40, 41, 42, 43] (by decide +kernel) (by decide +kernel)
set_option maxRecDepth 20000 in
theorem gX8_write_X8_writes : GoodIn wsX8_write (wsV RX8 144 RX8 yX8_writes wsX8_writes) := goodIn_app (goodIn_of _ (by decide +kernel)) ggX8_write_X8_writes
set_option maxRecDepth 20000 in
theorem ggX8_write_X8_goesUp : GoodIn wsX8_write wsX8_goesUp := goodIn_r _ [29, 10, 11, 12, 8, 13, 14, 15, 16, 17, 22, 23, 24, 25, 18, 19, 20, 21, 3, 1, 30, 31, 32, 33, 34, 35, 36, 37, 38, 39, 40, 41, 42, 43] (by decide +kernel) (by decide +kernel)
set_option maxRecDepth 20000 in
theorem gX8_write_X8_goesUp : GoodIn wsX8_write (wsV RX8 153 RX8 yX8_goesUp wsX8_goesUp) := goodIn_app (goodIn_of _ (by decide +kernel)) ggX8_write_X8_goesUp
theorem dX8_write_0 : decode cX8_write 0 = .ok (.aload_n 0, 1) := by decide +kernel
theorem dX8_write_1 : decode cX8_write 1 = .ok (.iconst 0, 1) := by decide +kernel
theorem dX8_write_2 : decode cX8_write 2 = .ok (.putfield 141, 3) := by decide +kernel
theorem dX8_write_5 : decode cX8_write 5 = .ok (.iconst 0, 1) := by decide +kernel
theorem dX8_write_6 : decode cX8_write 6 = .ok (.istore_n 1, 1) := by decide +kernel
theorem dX8_write_7 : decode cX8_write 7 = .ok (.iload_n 1, 1) := by decide +kernel
theorem dX8_write_8 : decode cX8_write 8 = .ok (.ifCond .lt 46, 3) := by decide +kernel
theorem dX8_write_11 : decode cX8_write 11 = .ok (.aload_n 0, 1) := by decide +kernel
theorem dX8_write_12 : decode cX8_write 12 = .ok (.iload_n 1, 1) := by decide +kernel
theorem dX8_write_13 : decode cX8_write 13 = .ok (.invokevirtual 150, 3) := by decide +kernel
theorem dX8_write_16 : decode cX8_write 16 = .ok (.aload_n 0, 1) := by decide +kernel
theorem dX8_write_17 : decode cX8_write 17 = .ok (.iload_n 1, 1) := by decide +kernel
theorem dX8_write_18 : decode cX8_write 18 = .ok (.iload_n 1, 1) := by decide +kernel
theorem dX8_write_19 : decode cX8_write 19 = .ok (.invokevirtual 147, 3) := by decide +kernel
theorem dX8_write_22 : decode cX8_write 22 = .ok (.istore_n 2, 1) := by decide +kernel
theorem dX8_write_23 : decode cX8_write 23 = .ok (.iload_n 2, 1) := by decide +kernel
theorem dX8_write_24 : decode cX8_write 24 = .ok (.bipush (-6), 2) := by decide +kernel
theorem dX8_write_26 : decode cX8_write 26 = .ok (.if_icmp .eq 9, 3) := by decide +kernel
theorem dX8_write_29 : decode cX8_write 29 = .ok (.aload_n 0, 1) := by decide +kernel
theorem dX8_write_30 : decode cX8_write 30 = .ok (.bipush 40, 2) := by decide +kernel
theorem dX8_write_32 : decode cX8_write 32 = .ok (.invokevirtual 144, 3) := by decide +kernel
theorem dX8_write_35 : decode cX8_write 35 = .ok (.iload_n 2, 1) := by decide +kernel
theorem dX8_write_36 : decode cX8_write 36 = .ok (.bipush (-6), 2) := by decide +kernel
theorem dX8_write_38 : decode cX8_write 38 = .ok (.if_icmp .eq 7, 3) := by decide +kernel
theorem dX8_write_41 : decode cX8_write 41 = .ok (.iload_n 2, 1) := by decide +kernel
theorem dX8_write_42 : decode cX8_write 42 = .ok (.goto 8, 3) := by decide +kernel
theorem dX8_write_45 : decode cX8_write 45 = .ok (.aload_n 0, 1) := by decide +kernel
theorem dX8_write_46 : decode cX8_write 46 = .ok (.iload_n 1, 1) := by decide +kernel
theorem dX8_write_47 : decode cX8_write 47 = .ok (.invokevirtual 153, 3) := by decide +kernel
theorem dX8_write_50 : decode cX8_write 50 = .ok (.istore_n 1, 1) := by decide +kernel
theorem dX8_write_51 : decode cX8_write 51 = .ok (.goto (-44), 3) := by decide +kernel
theorem dX8_write_54 : decode cX8_write 54 = .ok (.aload_n 0, 1) := by decide +kernel
theorem dX8_write_55 : decode cX8_write 55 = .ok (.getfield 141, 3) := by decide +kernel
theorem dX8_write_58 : decode cX8_write 58 = .ok (.bipush 80, 2) := by decide +kernel
theorem dX8_write_60 : decode cX8_write 60 = .ok (.if_icmp .le 6, 3) := by decide +kernel
theorem dX8_write_63 : decode cX8_write 63 = .ok (.bipush (-4), 2) := by decide +kernel
theorem dX8_write_65 : decode cX8_write 65 = .ok (.ireturn, 1) := by decide +kernel
theorem dX8_write_66 : decode cX8_write 66 = .ok (.iconst 0, 1) := by decide +kernel
theorem dX8_write_67 : decode cX8_write 67 = .ok (.istore_n 2, 1) := by decide +kernel
theorem dX8_write_68 : decode cX8_write 68 = .ok (.iload_n 2, 1) := by decide +kernel
theorem dX8_write_69 : decode cX8_write 69 = .ok (.aload_n 0, 1) := by decide +kernel
theorem dX8_write_70 : decode cX8_write 70 = .ok (.getfield 141, 3) := by decide +kernel
theorem dX8_write_73 : decode cX8_write 73 = .ok (.if_icmp .ge 21, 3) := by decide +kernel
theorem dX8_write_76 : decode cX8_write 76 = .ok (.aload_n 0, 1) := by decide +kernel
theorem dX8_write_77 : decode cX8_write 77 = .ok (.getfield 23, 3) := by decide +kernel
theorem dX8_write_80 : decode cX8_write 80 = .ok (.iload_n 2, 1) := by decide +kernel
theorem dX8_write_81 : decode cX8_write 81 = .ok (.aload_n 0, 1) := by decide +kernel
theorem dX8_write_82 : decode cX8_write 82 = .ok (.getfield 32, 3) := by decide +kernel
theorem dX8_write_85 : decode cX8_write 85 = .ok (.iload_n 2, 1) := by decide +kernel
theorem dX8_write_86 : decode cX8_write 86 = .ok (.iaload, 1) := by decide +kernel
theorem dX8_write_87 : decode cX8_write 87 = .ok (.iastore, 1) := by decide +kernel
theorem dX8_write_88 : decode cX8_write 88 = .ok (.iinc 2 1, 3) := by decide +kernel
theorem dX8_write_91 : decode cX8_write 91 = .ok (.goto (-23), 3) := by decide +kernel
theorem dX8_write_94 : decode cX8_write 94 = .ok (.aload_n 0, 1) := by decide +kernel
theorem dX8_write_95 : decode cX8_write 95 = .ok (.aload_n 0, 1) := by decide +kernel
theorem dX8_write_96 : decode cX8_write 96 = .ok (.getfield 141, 3) := by decide +kernel
theorem dX8_write_99 : decode cX8_write 99 = .ok (.putfield 106, 3) := by decide +kernel
theorem dX8_write_102 : decode cX8_write 102 = .ok (.aload_n 0, 1) := by decide +kernel
theorem dX8_write_103 : decode cX8_write 103 = .ok (.getfield 106, 3) := by decide +kernel
theorem dX8_write_106 : decode cX8_write 106 = .ok (.ireturn, 1) := by decide +kernel
theorem dX8_undo_0 : decode cX8_undo 0 = .ok (.aload_n 0, 1) := by decide +kernel
theorem dX8_undo_1 : decode cX8_undo 1 = .ok (.getfield 43, 3) := by decide +kernel
theorem dX8_undo_4 : decode cX8_undo 4 = .ok (.ifCond .ne 6, 3) := by decide +kernel
theorem dX8_undo_7 : decode cX8_undo 7 = .ok (.bipush (-5), 2) := by decide +kernel
theorem dX8_undo_9 : decode cX8_undo 9 = .ok (.ireturn, 1) := by decide +kernel
theorem dX8_undo_10 : decode cX8_undo 10 = .ok (.aload_n 0, 1) := by decide +kernel
theorem dX8_undo_11 : decode cX8_undo 11 = .ok (.dup, 1) := by decide +kernel
theorem dX8_undo_12 : decode cX8_undo 12 = .ok (.getfield 43, 3) := by decide +kernel
theorem dX8_undo_15 : decode cX8_undo 15 = .ok (.iconst 1, 1) := by decide +kernel
theorem dX8_undo_16 : decode cX8_undo 16 = .ok (.isub, 1) := by decide +kernel
theorem dX8_undo_17 : decode cX8_undo 17 = .ok (.putfield 43, 3) := by decide +kernel
theorem dX8_undo_20 : decode cX8_undo 20 = .ok (.iconst 0, 1) := by decide +kernel
theorem dX8_undo_21 : decode cX8_undo 21 = .ok (.istore_n 1, 1) := by decide +kernel
theorem dX8_undo_22 : decode cX8_undo 22 = .ok (.iload_n 1, 1) := by decide +kernel
theorem dX8_undo_23 : decode cX8_undo 23 = .ok (.sipush 133, 3) := by decide +kernel
theorem dX8_undo_26 : decode cX8_undo 26 = .ok (.if_icmp .ge 30, 3) := by decide +kernel
theorem dX8_undo_29 : decode cX8_undo 29 = .ok (.aload_n 0, 1) := by decide +kernel
theorem dX8_undo_30 : decode cX8_undo 30 = .ok (.getfield 7, 3) := by decide +kernel
theorem dX8_undo_33 : decode cX8_undo 33 = .ok (.iload_n 1, 1) := by decide +kernel
theorem dX8_undo_34 : decode cX8_undo 34 = .ok (.aload_n 0, 1) := by decide +kernel
theorem dX8_undo_35 : decode cX8_undo 35 = .ok (.getfield 13, 3) := by decide +kernel
theorem dX8_undo_38 : decode cX8_undo 38 = .ok (.sipush 133, 3) := by decide +kernel
theorem dX8_undo_41 : decode cX8_undo 41 = .ok (.aload_n 0, 1) := by decide +kernel
theorem dX8_undo_42 : decode cX8_undo 42 = .ok (.getfield 43, 3) := by decide +kernel
theorem dX8_undo_45 : decode cX8_undo 45 = .ok (.imul, 1) := by decide +kernel
theorem dX8_undo_46 : decode cX8_undo 46 = .ok (.iload_n 1, 1) := by decide +kernel
theorem dX8_undo_47 : decode cX8_undo 47 = .ok (.iadd, 1) := by decide +kernel
theorem dX8_undo_48 : decode cX8_undo 48 = .ok (.iaload, 1) := by decide +kernel
theorem dX8_undo_49 : decode cX8_undo 49 = .ok (.iastore, 1) := by decide +kernel
theorem dX8_undo_50 : decode cX8_undo 50 = .ok (.iinc 1 1, 3) := by decide +kernel
theorem dX8_undo_53 : decode cX8_undo 53 = .ok (.goto (-31), 3) := by decide +kernel
theorem dX8_undo_56 : decode cX8_undo 56 = .ok (.aload_n 0, 1) := by decide +kernel
theorem dX8_undo_57 : decode cX8_undo 57 = .ok (.getfield 43, 3) := by decide +kernel
theorem dX8_undo_60 : decode cX8_undo 60 = .ok (.ireturn, 1) := by decide +kernel
set_option maxRecDepth 20000 in
theorem ggX8_save_X8_in : GoodIn wsX8_save wsX8_in := goodIn_r _ [7] (by decide +kernel) (by decide +kernel)
set_option maxRecDepth 20000 in
theorem gX8_save_X8_in : GoodIn wsX8_save (va_wsS RX8 39 yX8_in wsX8_in) := goodIn_app (goodIn_of _ (by decide +kernel)) ggX8_save_X8_in
theorem dX8_save_0 : decode cX8_save 0 = .ok (.iload_n 1, 1) := by decide +kernel
theorem dX8_save_1 : decode cX8_save 1 = .ok (.iconst 0, 1) := by decide +kernel
theorem dX8_save_2 : decode cX8_save 2 = .ok (.iconst 1, 1) := by decide +kernel
theorem dX8_save_3 : decode cX8_save 3 = .ok (.invokestatic 39, 3) := by decide +kernel
theorem dX8_save_6 : decode cX8_save 6 = .ok (.ifCond .ne 6, 3) := by decide +kernel
theorem dX8_save_9 : decode cX8_save 9 = .ok (.bipush (-2), 2) := by decide +kernel
theorem dX8_save_11 : decode cX8_save 11 = .ok (.ireturn, 1) := by decide +kernel
theorem dX8_save_12 : decode cX8_save 12 = .ok (.iconst 0, 1) := by decide +kernel
theorem dX8_save_13 : decode cX8_save 13 = .ok (.istore_n 2, 1) := by decide +kernel
theorem dX8_save_14 : decode cX8_save 14 = .ok (.iload_n 2, 1) := by decide +kernel
theorem dX8_save_15 : decode cX8_save 15 = .ok (.sipush 133, 3) := by decide +kernel
theorem dX8_save_18 : decode cX8_save 18 = .ok (.if_icmp .ge 27, 3) := by decide +kernel
theorem dX8_save_21 : decode cX8_save 21 = .ok (.aload_n 0, 1) := by decide +kernel
theorem dX8_save_22 : decode cX8_save 22 = .ok (.getfield 16, 3) := by decide +kernel
theorem dX8_save_25 : decode cX8_save 25 = .ok (.sipush 133, 3) := by decide +kernel
theorem dX8_save_28 : decode cX8_save 28 = .ok (.iload_n 1, 1) := by decide +kernel
theorem dX8_save_29 : decode cX8_save 29 = .ok (.imul, 1) := by decide +kernel
theorem dX8_save_30 : decode cX8_save 30 = .ok (.iload_n 2, 1) := by decide +kernel
theorem dX8_save_31 : decode cX8_save 31 = .ok (.iadd, 1) := by decide +kernel
theorem dX8_save_32 : decode cX8_save 32 = .ok (.aload_n 0, 1) := by decide +kernel
theorem dX8_save_33 : decode cX8_save 33 = .ok (.getfield 7, 3) := by decide +kernel
theorem dX8_save_36 : decode cX8_save 36 = .ok (.iload_n 2, 1) := by decide +kernel
theorem dX8_save_37 : decode cX8_save 37 = .ok (.iaload, 1) := by decide +kernel
theorem dX8_save_38 : decode cX8_save 38 = .ok (.iastore, 1) := by decide +kernel
theorem dX8_save_39 : decode cX8_save 39 = .ok (.iinc 2 1, 3) := by decide +kernel
theorem dX8_save_42 : decode cX8_save 42 = .ok (.goto (-28), 3) := by decide +kernel
theorem dX8_save_45 : decode cX8_save 45 = .ok (.aload_n 0, 1) := by decide +kernel
theorem dX8_save_46 : decode cX8_save 46 = .ok (.getfield 19, 3) := by decide +kernel
theorem dX8_save_49 : decode cX8_save 49 = .ok (.iload_n 1, 1) := by decide +kernel
theorem dX8_save_50 : decode cX8_save 50 = .ok (.iconst 1, 1) := by decide +kernel
theorem dX8_save_51 : decode cX8_save 51 = .ok (.bastore, 1) := by decide +kernel
theorem dX8_save_52 : decode cX8_save 52 = .ok (.aload_n 0, 1) := by decide +kernel
theorem dX8_save_53 : decode cX8_save 53 = .ok (.getfield 7, 3) := by decide +kernel
theorem dX8_save_56 : decode cX8_save 56 = .ok (.iconst 5, 1) := by decide +kernel
theorem dX8_save_57 : decode cX8_save 57 = .ok (.iaload, 1) := by decide +kernel
theorem dX8_save_58 : decode cX8_save 58 = .ok (.ireturn, 1) := by decide +kernel
set_option maxRecDepth 20000 in
theorem ggX8_restore_X8_in : GoodIn wsX8_restore wsX8_in := goodIn_r _ [7] (by decide +kernel) (by decide +kernel)
set_option maxRecDepth 20000 in
theorem gX8_restore_X8_in : GoodIn wsX8_restore (va_wsS RX8 39 yX8_in wsX8_in) := goodIn_app (goodIn_of _ (by decide +kernel)) ggX8_restore_X8_in
set_option maxRecDepth 20000 in
theorem ggX8_restore_X8_remembers : GoodIn wsX8_restore wsX8_remembers := goodIn_r _ [11, 12, 13, 2, 14, 15, 16, 17, 18, 19, 20, 21, 22, 23, 24, 25, 26, 27] (by decide +kernel) (by decide +kernel)
set_option maxRecDepth 20000 in
theorem gX8_restore_X8_remembers : GoodIn wsX8_restore (wsV RX8 70 RX8 yX8_remembers wsX8_remembers) := goodIn_app (goodIn_of _ (by decide +kernel)) ggX8_restore_X8_remembers
theorem dX8_restore_0 : decode cX8_restore 0 = .ok (.iload_n 1, 1) := by decide +kernel
theorem dX8_restore_1 : decode cX8_restore 1 = .ok (.iconst 0, 1) := by decide +kernel
theorem dX8_restore_2 : decode cX8_restore 2 = .ok (.iconst 1, 1) := by decide +kernel
theorem dX8_restore_3 : decode cX8_restore 3 = .ok (.invokestatic 39, 3) := by decide +kernel
theorem dX8_restore_6 : decode cX8_restore 6 = .ok (.ifCond .ne 6, 3) := by decide +kernel
theorem dX8_restore_9 : decode cX8_restore 9 = .ok (.bipush (-2), 2) := by decide +kernel
theorem dX8_restore_11 : decode cX8_restore 11 = .ok (.ireturn, 1) := by decide +kernel
theorem dX8_restore_12 : decode cX8_restore 12 = .ok (.aload_n 0, 1) := by decide +kernel
theorem dX8_restore_13 : decode cX8_restore 13 = .ok (.getfield 19, 3) := by decide +kernel
theorem dX8_restore_16 : decode cX8_restore 16 = .ok (.iload_n 1, 1) := by decide +kernel
theorem dX8_restore_17 : decode cX8_restore 17 = .ok (.baload, 1) := by decide +kernel
theorem dX8_restore_18 : decode cX8_restore 18 = .ok (.ifCond .ne 6, 3) := by decide +kernel
theorem dX8_restore_21 : decode cX8_restore 21 = .ok (.bipush (-5), 2) := by decide +kernel
theorem dX8_restore_23 : decode cX8_restore 23 = .ok (.ireturn, 1) := by decide +kernel
theorem dX8_restore_24 : decode cX8_restore 24 = .ok (.aload_n 0, 1) := by decide +kernel
theorem dX8_restore_25 : decode cX8_restore 25 = .ok (.invokevirtual 70, 3) := by decide +kernel
theorem dX8_restore_28 : decode cX8_restore 28 = .ok (.iconst 0, 1) := by decide +kernel
theorem dX8_restore_29 : decode cX8_restore 29 = .ok (.istore_n 2, 1) := by decide +kernel
theorem dX8_restore_30 : decode cX8_restore 30 = .ok (.iload_n 2, 1) := by decide +kernel
theorem dX8_restore_31 : decode cX8_restore 31 = .ok (.sipush 133, 3) := by decide +kernel
theorem dX8_restore_34 : decode cX8_restore 34 = .ok (.if_icmp .ge 27, 3) := by decide +kernel
theorem dX8_restore_37 : decode cX8_restore 37 = .ok (.aload_n 0, 1) := by decide +kernel
theorem dX8_restore_38 : decode cX8_restore 38 = .ok (.getfield 7, 3) := by decide +kernel
theorem dX8_restore_41 : decode cX8_restore 41 = .ok (.iload_n 2, 1) := by decide +kernel
theorem dX8_restore_42 : decode cX8_restore 42 = .ok (.aload_n 0, 1) := by decide +kernel
theorem dX8_restore_43 : decode cX8_restore 43 = .ok (.getfield 16, 3) := by decide +kernel
theorem dX8_restore_46 : decode cX8_restore 46 = .ok (.sipush 133, 3) := by decide +kernel
theorem dX8_restore_49 : decode cX8_restore 49 = .ok (.iload_n 1, 1) := by decide +kernel
theorem dX8_restore_50 : decode cX8_restore 50 = .ok (.imul, 1) := by decide +kernel
theorem dX8_restore_51 : decode cX8_restore 51 = .ok (.iload_n 2, 1) := by decide +kernel
theorem dX8_restore_52 : decode cX8_restore 52 = .ok (.iadd, 1) := by decide +kernel
theorem dX8_restore_53 : decode cX8_restore 53 = .ok (.iaload, 1) := by decide +kernel
theorem dX8_restore_54 : decode cX8_restore 54 = .ok (.iastore, 1) := by decide +kernel
theorem dX8_restore_55 : decode cX8_restore 55 = .ok (.iinc 2 1, 3) := by decide +kernel
theorem dX8_restore_58 : decode cX8_restore 58 = .ok (.goto (-28), 3) := by decide +kernel
theorem dX8_restore_61 : decode cX8_restore 61 = .ok (.aload_n 0, 1) := by decide +kernel
theorem dX8_restore_62 : decode cX8_restore 62 = .ok (.getfield 7, 3) := by decide +kernel
theorem dX8_restore_65 : decode cX8_restore 65 = .ok (.iconst 5, 1) := by decide +kernel
theorem dX8_restore_66 : decode cX8_restore 66 = .ok (.iaload, 1) := by decide +kernel
theorem dX8_restore_67 : decode cX8_restore 67 = .ok (.ireturn, 1) := by decide +kernel
