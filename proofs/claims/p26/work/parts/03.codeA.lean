theorem dX0_init_0 : decode cX0_init 0 = .ok (.aload_n 0, 1) := by decide +kernel
theorem dX0_init_1 : decode cX0_init 1 = .ok (.invokespecial 3, 3) := by decide +kernel
theorem dX0_init_4 : decode cX0_init 4 = .ok (.aload_n 0, 1) := by decide +kernel
theorem dX0_init_5 : decode cX0_init 5 = .ok (.bipush 20, 2) := by decide +kernel
theorem dX0_init_7 : decode cX0_init 7 = .ok (.newarray .int, 2) := by decide +kernel
theorem dX0_init_9 : decode cX0_init 9 = .ok (.putfield 9, 3) := by decide +kernel
theorem dX0_init_12 : decode cX0_init 12 = .ok (.aload_n 0, 1) := by decide +kernel
theorem dX0_init_13 : decode cX0_init 13 = .ok (.bipush 20, 2) := by decide +kernel
theorem dX0_init_15 : decode cX0_init 15 = .ok (.newarray .int, 2) := by decide +kernel
theorem dX0_init_17 : decode cX0_init 17 = .ok (.putfield 15, 3) := by decide +kernel
theorem dX0_init_20 : decode cX0_init 20 = .ok (.aload_n 0, 1) := by decide +kernel
theorem dX0_init_21 : decode cX0_init 21 = .ok (.bipush 20, 2) := by decide +kernel
theorem dX0_init_23 : decode cX0_init 23 = .ok (.newarray .int, 2) := by decide +kernel
theorem dX0_init_25 : decode cX0_init 25 = .ok (.putfield 18, 3) := by decide +kernel
theorem dX0_init_28 : decode cX0_init 28 = .ok (.return_, 1) := by decide +kernel
set_option maxRecDepth 20000 in
theorem ggX0_blowIn_X0_part : GoodIn wsX0_blowIn wsX0_part := goodIn_r _ [7, 8, 9, 10, 11, 12, 41, 42, 43, 44, 45, 46, 47, 48, 49] (by decide +kernel) (by decide +kernel)
set_option maxRecDepth 20000 in
theorem gX0_blowIn_X0_part : GoodIn wsX0_blowIn (wsV RX0 27 RX0 yX0_part wsX0_part) := goodIn_app (goodIn_of _ (by decide +kernel)) ggX0_blowIn_X0_part
set_option maxRecDepth 20000 in
theorem ggX0_blowIn_X0_blow : GoodIn wsX0_blowIn wsX0_blow := goodIn_r _ [16, 8, 11, 17, 18, 19, 20, 21, 22, 23, 24, 25, 26, 27, 28, 29, 6, 30, 12, 9, 10, 31, 32, 33, 34, 35, 36, 41, 42, 43, 44, 45, 46, 47, 48, 49] (by decide +kernel) (by decide +kernel)
set_option maxRecDepth 20000 in
theorem gX0_blowIn_X0_blow : GoodIn wsX0_blowIn (wsV RX0 34 RX0 yX0_blow wsX0_blow) := goodIn_app (goodIn_of _ (by decide +kernel)) ggX0_blowIn_X0_blow
theorem dX0_blowIn_0 : decode cX0_blowIn 0 = .ok (.aload_n 0, 1) := by decide +kernel
theorem dX0_blowIn_1 : decode cX0_blowIn 1 = .ok (.aload_n 1, 1) := by decide +kernel
theorem dX0_blowIn_2 : decode cX0_blowIn 2 = .ok (.getfield 21, 3) := by decide +kernel
theorem dX0_blowIn_5 : decode cX0_blowIn 5 = .ok (.bipush (-6), 2) := by decide +kernel
theorem dX0_blowIn_7 : decode cX0_blowIn 7 = .ok (.invokevirtual 27, 3) := by decide +kernel
theorem dX0_blowIn_10 : decode cX0_blowIn 10 = .ok (.aload_n 0, 1) := by decide +kernel
theorem dX0_blowIn_11 : decode cX0_blowIn 11 = .ok (.aload_n 1, 1) := by decide +kernel
theorem dX0_blowIn_12 : decode cX0_blowIn 12 = .ok (.getfield 21, 3) := by decide +kernel
theorem dX0_blowIn_15 : decode cX0_blowIn 15 = .ok (.aload_n 1, 1) := by decide +kernel
theorem dX0_blowIn_16 : decode cX0_blowIn 16 = .ok (.getfield 31, 3) := by decide +kernel
theorem dX0_blowIn_19 : decode cX0_blowIn 19 = .ok (.invokevirtual 34, 3) := by decide +kernel
theorem dX0_blowIn_22 : decode cX0_blowIn 22 = .ok (.return_, 1) := by decide +kernel
theorem dX0_part_0 : decode cX0_part 0 = .ok (.iconst 0, 1) := by decide +kernel
theorem dX0_part_1 : decode cX0_part 1 = .ok (.istore_n 3, 1) := by decide +kernel
theorem dX0_part_2 : decode cX0_part 2 = .ok (.iload_n 3, 1) := by decide +kernel
theorem dX0_part_3 : decode cX0_part 3 = .ok (.aload_n 1, 1) := by decide +kernel
theorem dX0_part_4 : decode cX0_part 4 = .ok (.getfield 37, 3) := by decide +kernel
theorem dX0_part_7 : decode cX0_part 7 = .ok (.if_icmp .ge 109, 3) := by decide +kernel
theorem dX0_part_10 : decode cX0_part 10 = .ok (.aload_n 0, 1) := by decide +kernel
theorem dX0_part_11 : decode cX0_part 11 = .ok (.getfield 9, 3) := by decide +kernel
theorem dX0_part_14 : decode cX0_part 14 = .ok (.iload_n 3, 1) := by decide +kernel
theorem dX0_part_15 : decode cX0_part 15 = .ok (.iconst 0, 1) := by decide +kernel
theorem dX0_part_16 : decode cX0_part 16 = .ok (.iastore, 1) := by decide +kernel
theorem dX0_part_17 : decode cX0_part 17 = .ok (.aload_n 0, 1) := by decide +kernel
theorem dX0_part_18 : decode cX0_part 18 = .ok (.getfield 15, 3) := by decide +kernel
theorem dX0_part_21 : decode cX0_part 21 = .ok (.iload_n 3, 1) := by decide +kernel
theorem dX0_part_22 : decode cX0_part 22 = .ok (.iconst 0, 1) := by decide +kernel
theorem dX0_part_23 : decode cX0_part 23 = .ok (.iastore, 1) := by decide +kernel
theorem dX0_part_24 : decode cX0_part 24 = .ok (.iconst 0, 1) := by decide +kernel
theorem dX0_part_25 : decode cX0_part 25 = .ok (.istore 4, 2) := by decide +kernel
theorem dX0_part_27 : decode cX0_part 27 = .ok (.iload 4, 2) := by decide +kernel
theorem dX0_part_29 : decode cX0_part 29 = .ok (.aload_n 1, 1) := by decide +kernel
theorem dX0_part_30 : decode cX0_part 30 = .ok (.getfield 37, 3) := by decide +kernel
theorem dX0_part_33 : decode cX0_part 33 = .ok (.if_icmp .ge 77, 3) := by decide +kernel
theorem dX0_part_36 : decode cX0_part 36 = .ok (.iload 4, 2) := by decide +kernel
theorem dX0_part_38 : decode cX0_part 38 = .ok (.iload_n 2, 1) := by decide +kernel
theorem dX0_part_39 : decode cX0_part 39 = .ok (.if_icmp .eq 65, 3) := by decide +kernel
theorem dX0_part_42 : decode cX0_part 42 = .ok (.aload_n 1, 1) := by decide +kernel
theorem dX0_part_43 : decode cX0_part 43 = .ok (.getfield 42, 3) := by decide +kernel
theorem dX0_part_46 : decode cX0_part 46 = .ok (.iload 4, 2) := by decide +kernel
theorem dX0_part_48 : decode cX0_part 48 = .ok (.iaload, 1) := by decide +kernel
theorem dX0_part_49 : decode cX0_part 49 = .ok (.aload_n 1, 1) := by decide +kernel
theorem dX0_part_50 : decode cX0_part 50 = .ok (.getfield 42, 3) := by decide +kernel
theorem dX0_part_53 : decode cX0_part 53 = .ok (.iload_n 3, 1) := by decide +kernel
theorem dX0_part_54 : decode cX0_part 54 = .ok (.iaload, 1) := by decide +kernel
theorem dX0_part_55 : decode cX0_part 55 = .ok (.if_icmp .ne 49, 3) := by decide +kernel
theorem dX0_part_58 : decode cX0_part 58 = .ok (.aload_n 0, 1) := by decide +kernel
theorem dX0_part_59 : decode cX0_part 59 = .ok (.getfield 9, 3) := by decide +kernel
theorem dX0_part_62 : decode cX0_part 62 = .ok (.iload_n 3, 1) := by decide +kernel
theorem dX0_part_63 : decode cX0_part 63 = .ok (.dup2, 1) := by decide +kernel
theorem dX0_part_64 : decode cX0_part 64 = .ok (.iaload, 1) := by decide +kernel
theorem dX0_part_65 : decode cX0_part 65 = .ok (.aload_n 1, 1) := by decide +kernel
theorem dX0_part_66 : decode cX0_part 66 = .ok (.getfield 45, 3) := by decide +kernel
theorem dX0_part_69 : decode cX0_part 69 = .ok (.iload 4, 2) := by decide +kernel
theorem dX0_part_71 : decode cX0_part 71 = .ok (.iaload, 1) := by decide +kernel
theorem dX0_part_72 : decode cX0_part 72 = .ok (.iadd, 1) := by decide +kernel
theorem dX0_part_73 : decode cX0_part 73 = .ok (.iastore, 1) := by decide +kernel
theorem dX0_part_74 : decode cX0_part 74 = .ok (.aload_n 0, 1) := by decide +kernel
theorem dX0_part_75 : decode cX0_part 75 = .ok (.getfield 15, 3) := by decide +kernel
theorem dX0_part_78 : decode cX0_part 78 = .ok (.iload_n 3, 1) := by decide +kernel
theorem dX0_part_79 : decode cX0_part 79 = .ok (.dup2, 1) := by decide +kernel
theorem dX0_part_80 : decode cX0_part 80 = .ok (.iaload, 1) := by decide +kernel
theorem dX0_part_81 : decode cX0_part 81 = .ok (.aload_n 1, 1) := by decide +kernel
theorem dX0_part_82 : decode cX0_part 82 = .ok (.getfield 45, 3) := by decide +kernel
theorem dX0_part_85 : decode cX0_part 85 = .ok (.iload 4, 2) := by decide +kernel
theorem dX0_part_87 : decode cX0_part 87 = .ok (.iaload, 1) := by decide +kernel
theorem dX0_part_88 : decode cX0_part 88 = .ok (.aload_n 1, 1) := by decide +kernel
theorem dX0_part_89 : decode cX0_part 89 = .ok (.getfield 45, 3) := by decide +kernel
theorem dX0_part_92 : decode cX0_part 92 = .ok (.iload_n 3, 1) := by decide +kernel
theorem dX0_part_93 : decode cX0_part 93 = .ok (.iaload, 1) := by decide +kernel
theorem dX0_part_94 : decode cX0_part 94 = .ok (.if_icmp .ge 7, 3) := by decide +kernel
theorem dX0_part_97 : decode cX0_part 97 = .ok (.iconst 1, 1) := by decide +kernel
theorem dX0_part_98 : decode cX0_part 98 = .ok (.goto 4, 3) := by decide +kernel
theorem dX0_part_101 : decode cX0_part 101 = .ok (.iconst 0, 1) := by decide +kernel
theorem dX0_part_102 : decode cX0_part 102 = .ok (.iadd, 1) := by decide +kernel
theorem dX0_part_103 : decode cX0_part 103 = .ok (.iastore, 1) := by decide +kernel
theorem dX0_part_104 : decode cX0_part 104 = .ok (.iinc 4 1, 3) := by decide +kernel
theorem dX0_part_107 : decode cX0_part 107 = .ok (.goto (-80), 3) := by decide +kernel
theorem dX0_part_110 : decode cX0_part 110 = .ok (.iinc 3 1, 3) := by decide +kernel
theorem dX0_part_113 : decode cX0_part 113 = .ok (.goto (-111), 3) := by decide +kernel
theorem dX0_part_116 : decode cX0_part 116 = .ok (.return_, 1) := by decide +kernel
set_option maxRecDepth 20000 in
theorem ggX0_blow_X5_has : GoodIn wsX0_blow wsX5_has := goodIn_r _ [8, 9, 10, 11, 12, 27, 28, 29, 30, 31, 32] (by decide +kernel) (by decide +kernel)
set_option maxRecDepth 20000 in
theorem gX0_blow_X5_has : GoodIn wsX0_blow (wsV RX0 48 RX5 yX5_has wsX5_has) := goodIn_app (goodIn_of _ (by decide +kernel)) ggX0_blow_X5_has
set_option maxRecDepth 20000 in
theorem ggX0_blow_X0_shareOf : GoodIn wsX0_blow wsX0_shareOf := goodIn_r _ [17, 18, 19, 20, 21, 22, 23, 24, 25, 11, 26, 27, 28, 29, 30, 31, 32, 33, 34, 35] (by decide +kernel) (by decide +kernel)
set_option maxRecDepth 20000 in
theorem gX0_blow_X0_shareOf : GoodIn wsX0_blow (wsV RX0 52 RX0 yX0_shareOf wsX0_shareOf) := goodIn_app (goodIn_of _ (by decide +kernel)) ggX0_blow_X0_shareOf
theorem dX0_blow_0 : decode cX0_blow 0 = .ok (.iconst 0, 1) := by decide +kernel
theorem dX0_blow_1 : decode cX0_blow 1 = .ok (.istore_n 3, 1) := by decide +kernel
theorem dX0_blow_2 : decode cX0_blow 2 = .ok (.iload_n 3, 1) := by decide +kernel
theorem dX0_blow_3 : decode cX0_blow 3 = .ok (.aload_n 1, 1) := by decide +kernel
theorem dX0_blow_4 : decode cX0_blow 4 = .ok (.getfield 37, 3) := by decide +kernel
theorem dX0_blow_7 : decode cX0_blow 7 = .ok (.if_icmp .ge 49, 3) := by decide +kernel
theorem dX0_blow_10 : decode cX0_blow 10 = .ok (.aload_n 1, 1) := by decide +kernel
theorem dX0_blow_11 : decode cX0_blow 11 = .ok (.getfield 42, 3) := by decide +kernel
theorem dX0_blow_14 : decode cX0_blow 14 = .ok (.iload_n 3, 1) := by decide +kernel
theorem dX0_blow_15 : decode cX0_blow 15 = .ok (.iaload, 1) := by decide +kernel
theorem dX0_blow_16 : decode cX0_blow 16 = .ok (.istore 4, 2) := by decide +kernel
theorem dX0_blow_18 : decode cX0_blow 18 = .ok (.aload_n 0, 1) := by decide +kernel
theorem dX0_blow_19 : decode cX0_blow 19 = .ok (.getfield 18, 3) := by decide +kernel
theorem dX0_blow_22 : decode cX0_blow 22 = .ok (.iload_n 3, 1) := by decide +kernel
theorem dX0_blow_23 : decode cX0_blow 23 = .ok (.aload_n 1, 1) := by decide +kernel
theorem dX0_blow_24 : decode cX0_blow 24 = .ok (.iload 4, 2) := by decide +kernel
theorem dX0_blow_26 : decode cX0_blow 26 = .ok (.invokevirtual 48, 3) := by decide +kernel
theorem dX0_blow_29 : decode cX0_blow 29 = .ok (.ifCond .eq 19, 3) := by decide +kernel
theorem dX0_blow_32 : decode cX0_blow 32 = .ok (.aload_n 0, 1) := by decide +kernel
theorem dX0_blow_33 : decode cX0_blow 33 = .ok (.aload_n 1, 1) := by decide +kernel
theorem dX0_blow_34 : decode cX0_blow 34 = .ok (.iload_n 3, 1) := by decide +kernel
theorem dX0_blow_35 : decode cX0_blow 35 = .ok (.aload_n 0, 1) := by decide +kernel
theorem dX0_blow_36 : decode cX0_blow 36 = .ok (.getfield 18, 3) := by decide +kernel
theorem dX0_blow_39 : decode cX0_blow 39 = .ok (.iload 4, 2) := by decide +kernel
theorem dX0_blow_41 : decode cX0_blow 41 = .ok (.iaload, 1) := by decide +kernel
theorem dX0_blow_42 : decode cX0_blow 42 = .ok (.invokevirtual 52, 3) := by decide +kernel
theorem dX0_blow_45 : decode cX0_blow 45 = .ok (.goto 4, 3) := by decide +kernel
theorem dX0_blow_48 : decode cX0_blow 48 = .ok (.iload_n 2, 1) := by decide +kernel
theorem dX0_blow_49 : decode cX0_blow 49 = .ok (.iastore, 1) := by decide +kernel
theorem dX0_blow_50 : decode cX0_blow 50 = .ok (.iinc 3 1, 3) := by decide +kernel
theorem dX0_blow_53 : decode cX0_blow 53 = .ok (.goto (-51), 3) := by decide +kernel
theorem dX0_blow_56 : decode cX0_blow 56 = .ok (.return_, 1) := by decide +kernel
set_option maxRecDepth 20000 in
theorem ggX0_shareOf_X7_quotient : GoodIn wsX0_shareOf wsX7_quotient := goodIn_r _ [10] (by decide +kernel) (by decide +kernel)
set_option maxRecDepth 20000 in
theorem gX0_shareOf_X7_quotient_n56 : GoodIn wsX0_shareOf (wsX7_quotient) := ggX0_shareOf_X7_quotient
theorem dX0_shareOf_0 : decode cX0_shareOf 0 = .ok (.iload_n 3, 1) := by decide +kernel
theorem dX0_shareOf_1 : decode cX0_shareOf 1 = .ok (.aload_n 1, 1) := by decide +kernel
theorem dX0_shareOf_2 : decode cX0_shareOf 2 = .ok (.getfield 45, 3) := by decide +kernel
theorem dX0_shareOf_5 : decode cX0_shareOf 5 = .ok (.iload_n 2, 1) := by decide +kernel
theorem dX0_shareOf_6 : decode cX0_shareOf 6 = .ok (.iaload, 1) := by decide +kernel
theorem dX0_shareOf_7 : decode cX0_shareOf 7 = .ok (.imul, 1) := by decide +kernel
theorem dX0_shareOf_8 : decode cX0_shareOf 8 = .ok (.aload_n 0, 1) := by decide +kernel
theorem dX0_shareOf_9 : decode cX0_shareOf 9 = .ok (.getfield 9, 3) := by decide +kernel
theorem dX0_shareOf_12 : decode cX0_shareOf 12 = .ok (.iload_n 2, 1) := by decide +kernel
theorem dX0_shareOf_13 : decode cX0_shareOf 13 = .ok (.iaload, 1) := by decide +kernel
theorem dX0_shareOf_14 : decode cX0_shareOf 14 = .ok (.invokestatic 56, 3) := by decide +kernel
theorem dX0_shareOf_17 : decode cX0_shareOf 17 = .ok (.istore 4, 2) := by decide +kernel
theorem dX0_shareOf_19 : decode cX0_shareOf 19 = .ok (.iload_n 3, 1) := by decide +kernel
theorem dX0_shareOf_20 : decode cX0_shareOf 20 = .ok (.iload 4, 2) := by decide +kernel
theorem dX0_shareOf_22 : decode cX0_shareOf 22 = .ok (.iconst 5, 1) := by decide +kernel
theorem dX0_shareOf_23 : decode cX0_shareOf 23 = .ok (.aload_n 0, 1) := by decide +kernel
theorem dX0_shareOf_24 : decode cX0_shareOf 24 = .ok (.getfield 15, 3) := by decide +kernel
theorem dX0_shareOf_27 : decode cX0_shareOf 27 = .ok (.iload_n 2, 1) := by decide +kernel
theorem dX0_shareOf_28 : decode cX0_shareOf 28 = .ok (.iaload, 1) := by decide +kernel
theorem dX0_shareOf_29 : decode cX0_shareOf 29 = .ok (.imul, 1) := by decide +kernel
theorem dX0_shareOf_30 : decode cX0_shareOf 30 = .ok (.iadd, 1) := by decide +kernel
theorem dX0_shareOf_31 : decode cX0_shareOf 31 = .ok (.invokestatic 60, 3) := by decide +kernel
theorem dX0_shareOf_34 : decode cX0_shareOf 34 = .ok (.ireturn, 1) := by decide +kernel
theorem dX0_gustIn_0 : decode cX0_gustIn 0 = .ok (.aload_n 0, 1) := by decide +kernel
theorem dX0_gustIn_1 : decode cX0_gustIn 1 = .ok (.getfield 18, 3) := by decide +kernel
theorem dX0_gustIn_4 : decode cX0_gustIn 4 = .ok (.iload_n 2, 1) := by decide +kernel
theorem dX0_gustIn_5 : decode cX0_gustIn 5 = .ok (.iaload, 1) := by decide +kernel
theorem dX0_gustIn_6 : decode cX0_gustIn 6 = .ok (.aload_n 0, 1) := by decide +kernel
theorem dX0_gustIn_7 : decode cX0_gustIn 7 = .ok (.getfield 18, 3) := by decide +kernel
theorem dX0_gustIn_10 : decode cX0_gustIn 10 = .ok (.iload_n 2, 1) := by decide +kernel
theorem dX0_gustIn_11 : decode cX0_gustIn 11 = .ok (.iaload, 1) := by decide +kernel
theorem dX0_gustIn_12 : decode cX0_gustIn 12 = .ok (.aload_n 1, 1) := by decide +kernel
theorem dX0_gustIn_13 : decode cX0_gustIn 13 = .ok (.getfield 65, 3) := by decide +kernel
theorem dX0_gustIn_16 : decode cX0_gustIn 16 = .ok (.iconst 2, 1) := by decide +kernel
theorem dX0_gustIn_17 : decode cX0_gustIn 17 = .ok (.iaload, 1) := by decide +kernel
theorem dX0_gustIn_18 : decode cX0_gustIn 18 = .ok (.imul, 1) := by decide +kernel
theorem dX0_gustIn_19 : decode cX0_gustIn 19 = .ok (.bipush 100, 2) := by decide +kernel
theorem dX0_gustIn_21 : decode cX0_gustIn 21 = .ok (.idiv, 1) := by decide +kernel
theorem dX0_gustIn_22 : decode cX0_gustIn 22 = .ok (.iadd, 1) := by decide +kernel
theorem dX0_gustIn_23 : decode cX0_gustIn 23 = .ok (.ireturn, 1) := by decide +kernel
set_option maxRecDepth 20000 in
theorem ggX0_flagSteps_X7_quotient : GoodIn wsX0_flagSteps wsX7_quotient := goodIn_r _ [11] (by decide +kernel) (by decide +kernel)
set_option maxRecDepth 20000 in
theorem gX0_flagSteps_X7_quotient_n56 : GoodIn wsX0_flagSteps (wsX7_quotient) := ggX0_flagSteps_X7_quotient
theorem dX0_flagSteps_0 : decode cX0_flagSteps 0 = .ok (.aload_n 1, 1) := by decide +kernel
theorem dX0_flagSteps_1 : decode cX0_flagSteps 1 = .ok (.getfield 21, 3) := by decide +kernel
theorem dX0_flagSteps_4 : decode cX0_flagSteps 4 = .ok (.getfield 68, 3) := by decide +kernel
theorem dX0_flagSteps_7 : decode cX0_flagSteps 7 = .ok (.iload_n 2, 1) := by decide +kernel
theorem dX0_flagSteps_8 : decode cX0_flagSteps 8 = .ok (.iaload, 1) := by decide +kernel
theorem dX0_flagSteps_9 : decode cX0_flagSteps 9 = .ok (.istore_n 3, 1) := by decide +kernel
theorem dX0_flagSteps_10 : decode cX0_flagSteps 10 = .ok (.iload_n 3, 1) := by decide +kernel
theorem dX0_flagSteps_11 : decode cX0_flagSteps 11 = .ok (.ifCond .ne 6, 3) := by decide +kernel
theorem dX0_flagSteps_14 : decode cX0_flagSteps 14 = .ok (.bipush (-6), 2) := by decide +kernel
theorem dX0_flagSteps_16 : decode cX0_flagSteps 16 = .ok (.ireturn, 1) := by decide +kernel
theorem dX0_flagSteps_17 : decode cX0_flagSteps 17 = .ok (.bipush 12, 2) := by decide +kernel
theorem dX0_flagSteps_19 : decode cX0_flagSteps 19 = .ok (.aload_n 0, 1) := by decide +kernel
theorem dX0_flagSteps_20 : decode cX0_flagSteps 20 = .ok (.getfield 18, 3) := by decide +kernel
theorem dX0_flagSteps_23 : decode cX0_flagSteps 23 = .ok (.iload_n 2, 1) := by decide +kernel
theorem dX0_flagSteps_24 : decode cX0_flagSteps 24 = .ok (.iaload, 1) := by decide +kernel
theorem dX0_flagSteps_25 : decode cX0_flagSteps 25 = .ok (.aload_n 1, 1) := by decide +kernel
theorem dX0_flagSteps_26 : decode cX0_flagSteps 26 = .ok (.getfield 65, 3) := by decide +kernel
theorem dX0_flagSteps_29 : decode cX0_flagSteps 29 = .ok (.iconst 0, 1) := by decide +kernel
theorem dX0_flagSteps_30 : decode cX0_flagSteps 30 = .ok (.iaload, 1) := by decide +kernel
theorem dX0_flagSteps_31 : decode cX0_flagSteps 31 = .ok (.iload_n 3, 1) := by decide +kernel
theorem dX0_flagSteps_32 : decode cX0_flagSteps 32 = .ok (.imul, 1) := by decide +kernel
theorem dX0_flagSteps_33 : decode cX0_flagSteps 33 = .ok (.invokestatic 56, 3) := by decide +kernel
theorem dX0_flagSteps_36 : decode cX0_flagSteps 36 = .ok (.invokestatic 60, 3) := by decide +kernel
theorem dX0_flagSteps_39 : decode cX0_flagSteps 39 = .ok (.ireturn, 1) := by decide +kernel
set_option maxRecDepth 20000 in
theorem ggX0_smokeSteps_X7_quotient : GoodIn wsX0_smokeSteps wsX7_quotient := goodIn_r _ [11] (by decide +kernel) (by decide +kernel)
set_option maxRecDepth 20000 in
theorem gX0_smokeSteps_X7_quotient_n56 : GoodIn wsX0_smokeSteps (wsX7_quotient) := ggX0_smokeSteps_X7_quotient
theorem dX0_smokeSteps_0 : decode cX0_smokeSteps 0 = .ok (.aload_n 1, 1) := by decide +kernel
theorem dX0_smokeSteps_1 : decode cX0_smokeSteps 1 = .ok (.getfield 21, 3) := by decide +kernel
theorem dX0_smokeSteps_4 : decode cX0_smokeSteps 4 = .ok (.getfield 71, 3) := by decide +kernel
theorem dX0_smokeSteps_7 : decode cX0_smokeSteps 7 = .ok (.iload_n 2, 1) := by decide +kernel
theorem dX0_smokeSteps_8 : decode cX0_smokeSteps 8 = .ok (.iaload, 1) := by decide +kernel
theorem dX0_smokeSteps_9 : decode cX0_smokeSteps 9 = .ok (.ifCond .ne 6, 3) := by decide +kernel
theorem dX0_smokeSteps_12 : decode cX0_smokeSteps 12 = .ok (.bipush (-6), 2) := by decide +kernel
theorem dX0_smokeSteps_14 : decode cX0_smokeSteps 14 = .ok (.ireturn, 1) := by decide +kernel
theorem dX0_smokeSteps_15 : decode cX0_smokeSteps 15 = .ok (.bipush 9, 2) := by decide +kernel
theorem dX0_smokeSteps_17 : decode cX0_smokeSteps 17 = .ok (.aload_n 0, 1) := by decide +kernel
theorem dX0_smokeSteps_18 : decode cX0_smokeSteps 18 = .ok (.getfield 18, 3) := by decide +kernel
theorem dX0_smokeSteps_21 : decode cX0_smokeSteps 21 = .ok (.iload_n 2, 1) := by decide +kernel
theorem dX0_smokeSteps_22 : decode cX0_smokeSteps 22 = .ok (.iaload, 1) := by decide +kernel
theorem dX0_smokeSteps_23 : decode cX0_smokeSteps 23 = .ok (.aload_n 1, 1) := by decide +kernel
theorem dX0_smokeSteps_24 : decode cX0_smokeSteps 24 = .ok (.getfield 65, 3) := by decide +kernel
theorem dX0_smokeSteps_27 : decode cX0_smokeSteps 27 = .ok (.iconst 3, 1) := by decide +kernel
theorem dX0_smokeSteps_28 : decode cX0_smokeSteps 28 = .ok (.iaload, 1) := by decide +kernel
theorem dX0_smokeSteps_29 : decode cX0_smokeSteps 29 = .ok (.invokestatic 56, 3) := by decide +kernel
theorem dX0_smokeSteps_32 : decode cX0_smokeSteps 32 = .ok (.invokestatic 60, 3) := by decide +kernel
theorem dX0_smokeSteps_35 : decode cX0_smokeSteps 35 = .ok (.ireturn, 1) := by decide +kernel
set_option maxRecDepth 20000 in
theorem ggX0_hatsLostIn_X0_gustIn : GoodIn wsX0_hatsLostIn wsX0_gustIn := goodIn_r _ [12, 13, 1, 24, 25, 26, 14, 15, 16, 17] (by decide +kernel) (by decide +kernel)
set_option maxRecDepth 20000 in
theorem gX0_hatsLostIn_X0_gustIn : GoodIn wsX0_hatsLostIn (wsV RX0 74 RX0 yX0_gustIn wsX0_gustIn) := goodIn_app (goodIn_of _ (by decide +kernel)) ggX0_hatsLostIn_X0_gustIn
theorem dX0_hatsLostIn_0 : decode cX0_hatsLostIn 0 = .ok (.aload_n 0, 1) := by decide +kernel
theorem dX0_hatsLostIn_1 : decode cX0_hatsLostIn 1 = .ok (.aload_n 1, 1) := by decide +kernel
theorem dX0_hatsLostIn_2 : decode cX0_hatsLostIn 2 = .ok (.iload_n 2, 1) := by decide +kernel
theorem dX0_hatsLostIn_3 : decode cX0_hatsLostIn 3 = .ok (.invokevirtual 74, 3) := by decide +kernel
theorem dX0_hatsLostIn_6 : decode cX0_hatsLostIn 6 = .ok (.aload_n 1, 1) := by decide +kernel
theorem dX0_hatsLostIn_7 : decode cX0_hatsLostIn 7 = .ok (.getfield 65, 3) := by decide +kernel
theorem dX0_hatsLostIn_10 : decode cX0_hatsLostIn 10 = .ok (.iconst 1, 1) := by decide +kernel
theorem dX0_hatsLostIn_11 : decode cX0_hatsLostIn 11 = .ok (.iaload, 1) := by decide +kernel
theorem dX0_hatsLostIn_12 : decode cX0_hatsLostIn 12 = .ok (.isub, 1) := by decide +kernel
theorem dX0_hatsLostIn_13 : decode cX0_hatsLostIn 13 = .ok (.istore_n 3, 1) := by decide +kernel
theorem dX0_hatsLostIn_14 : decode cX0_hatsLostIn 14 = .ok (.iload_n 3, 1) := by decide +kernel
theorem dX0_hatsLostIn_15 : decode cX0_hatsLostIn 15 = .ok (.ifCond .gt 5, 3) := by decide +kernel
theorem dX0_hatsLostIn_18 : decode cX0_hatsLostIn 18 = .ok (.iconst 0, 1) := by decide +kernel
theorem dX0_hatsLostIn_19 : decode cX0_hatsLostIn 19 = .ok (.ireturn, 1) := by decide +kernel
theorem dX0_hatsLostIn_20 : decode cX0_hatsLostIn 20 = .ok (.aload_n 1, 1) := by decide +kernel
theorem dX0_hatsLostIn_21 : decode cX0_hatsLostIn 21 = .ok (.getfield 21, 3) := by decide +kernel
theorem dX0_hatsLostIn_24 : decode cX0_hatsLostIn 24 = .ok (.getfield 78, 3) := by decide +kernel
theorem dX0_hatsLostIn_27 : decode cX0_hatsLostIn 27 = .ok (.iload_n 2, 1) := by decide +kernel
theorem dX0_hatsLostIn_28 : decode cX0_hatsLostIn 28 = .ok (.iaload, 1) := by decide +kernel
theorem dX0_hatsLostIn_29 : decode cX0_hatsLostIn 29 = .ok (.iload_n 3, 1) := by decide +kernel
theorem dX0_hatsLostIn_30 : decode cX0_hatsLostIn 30 = .ok (.iconst 4, 1) := by decide +kernel
theorem dX0_hatsLostIn_31 : decode cX0_hatsLostIn 31 = .ok (.idiv, 1) := by decide +kernel
theorem dX0_hatsLostIn_32 : decode cX0_hatsLostIn 32 = .ok (.iconst 1, 1) := by decide +kernel
theorem dX0_hatsLostIn_33 : decode cX0_hatsLostIn 33 = .ok (.iadd, 1) := by decide +kernel
theorem dX0_hatsLostIn_34 : decode cX0_hatsLostIn 34 = .ok (.invokestatic 60, 3) := by decide +kernel
theorem dX0_hatsLostIn_37 : decode cX0_hatsLostIn 37 = .ok (.ireturn, 1) := by decide +kernel
set_option maxRecDepth 20000 in
theorem ggX0_hatsLost_X0_hatsLostIn : GoodIn wsX0_hatsLost wsX0_hatsLostIn := goodIn_r _ [7, 8, 1, 9, 10, 11, 12, 13, 14, 15, 16, 6, 17, 18, 19, 20, 21, 22, 23, 24, 25, 26, 27, 28, 29, 30, 31] (by decide +kernel) (by decide +kernel)
set_option maxRecDepth 20000 in
theorem gX0_hatsLost_X0_hatsLostIn : GoodIn wsX0_hatsLost (wsV RX0 81 RX0 yX0_hatsLostIn wsX0_hatsLostIn) := goodIn_app (goodIn_of _ (by decide +kernel)) ggX0_hatsLost_X0_hatsLostIn
theorem dX0_hatsLost_0 : decode cX0_hatsLost 0 = .ok (.iconst 0, 1) := by decide +kernel
theorem dX0_hatsLost_1 : decode cX0_hatsLost 1 = .ok (.istore_n 2, 1) := by decide +kernel
theorem dX0_hatsLost_2 : decode cX0_hatsLost 2 = .ok (.iconst 0, 1) := by decide +kernel
theorem dX0_hatsLost_3 : decode cX0_hatsLost 3 = .ok (.istore_n 3, 1) := by decide +kernel
theorem dX0_hatsLost_4 : decode cX0_hatsLost 4 = .ok (.iload_n 3, 1) := by decide +kernel
theorem dX0_hatsLost_5 : decode cX0_hatsLost 5 = .ok (.aload_n 1, 1) := by decide +kernel
theorem dX0_hatsLost_6 : decode cX0_hatsLost 6 = .ok (.getfield 21, 3) := by decide +kernel
theorem dX0_hatsLost_9 : decode cX0_hatsLost 9 = .ok (.getfield 37, 3) := by decide +kernel
theorem dX0_hatsLost_12 : decode cX0_hatsLost 12 = .ok (.if_icmp .ge 18, 3) := by decide +kernel
theorem dX0_hatsLost_15 : decode cX0_hatsLost 15 = .ok (.iload_n 2, 1) := by decide +kernel
theorem dX0_hatsLost_16 : decode cX0_hatsLost 16 = .ok (.aload_n 0, 1) := by decide +kernel
theorem dX0_hatsLost_17 : decode cX0_hatsLost 17 = .ok (.aload_n 1, 1) := by decide +kernel
theorem dX0_hatsLost_18 : decode cX0_hatsLost 18 = .ok (.iload_n 3, 1) := by decide +kernel
theorem dX0_hatsLost_19 : decode cX0_hatsLost 19 = .ok (.invokevirtual 81, 3) := by decide +kernel
theorem dX0_hatsLost_22 : decode cX0_hatsLost 22 = .ok (.iadd, 1) := by decide +kernel
theorem dX0_hatsLost_23 : decode cX0_hatsLost 23 = .ok (.istore_n 2, 1) := by decide +kernel
theorem dX0_hatsLost_24 : decode cX0_hatsLost 24 = .ok (.iinc 3 1, 3) := by decide +kernel
theorem dX0_hatsLost_27 : decode cX0_hatsLost 27 = .ok (.goto (-23), 3) := by decide +kernel
theorem dX0_hatsLost_30 : decode cX0_hatsLost 30 = .ok (.iload_n 2, 1) := by decide +kernel
theorem dX0_hatsLost_31 : decode cX0_hatsLost 31 = .ok (.ireturn, 1) := by decide +kernel
set_option maxRecDepth 20000 in
theorem ggX0_worstStreet_X0_hatsLostIn : GoodIn wsX0_worstStreet wsX0_hatsLostIn := goodIn_r _ [7, 8, 1, 9, 10, 11, 12, 13, 14, 15, 16, 6, 17, 18, 19, 20, 21, 22, 23, 24, 25, 26, 27, 28, 29, 30, 31] (by decide +kernel) (by decide +kernel)
set_option maxRecDepth 20000 in
theorem gX0_worstStreet_X0_hatsLostIn : GoodIn wsX0_worstStreet (wsV RX0 81 RX0 yX0_hatsLostIn wsX0_hatsLostIn) := goodIn_app (goodIn_of _ (by decide +kernel)) ggX0_worstStreet_X0_hatsLostIn
theorem dX0_worstStreet_0 : decode cX0_worstStreet 0 = .ok (.bipush (-6), 2) := by decide +kernel
theorem dX0_worstStreet_2 : decode cX0_worstStreet 2 = .ok (.istore_n 2, 1) := by decide +kernel
theorem dX0_worstStreet_3 : decode cX0_worstStreet 3 = .ok (.iconst 0, 1) := by decide +kernel
theorem dX0_worstStreet_4 : decode cX0_worstStreet 4 = .ok (.istore_n 3, 1) := by decide +kernel
theorem dX0_worstStreet_5 : decode cX0_worstStreet 5 = .ok (.iconst 0, 1) := by decide +kernel
theorem dX0_worstStreet_6 : decode cX0_worstStreet 6 = .ok (.istore 4, 2) := by decide +kernel
theorem dX0_worstStreet_8 : decode cX0_worstStreet 8 = .ok (.iload 4, 2) := by decide +kernel
theorem dX0_worstStreet_10 : decode cX0_worstStreet 10 = .ok (.aload_n 1, 1) := by decide +kernel
theorem dX0_worstStreet_11 : decode cX0_worstStreet 11 = .ok (.getfield 21, 3) := by decide +kernel
theorem dX0_worstStreet_14 : decode cX0_worstStreet 14 = .ok (.getfield 37, 3) := by decide +kernel
theorem dX0_worstStreet_17 : decode cX0_worstStreet 17 = .ok (.if_icmp .ge 30, 3) := by decide +kernel
theorem dX0_worstStreet_20 : decode cX0_worstStreet 20 = .ok (.aload_n 0, 1) := by decide +kernel
theorem dX0_worstStreet_21 : decode cX0_worstStreet 21 = .ok (.aload_n 1, 1) := by decide +kernel
theorem dX0_worstStreet_22 : decode cX0_worstStreet 22 = .ok (.iload 4, 2) := by decide +kernel
theorem dX0_worstStreet_24 : decode cX0_worstStreet 24 = .ok (.invokevirtual 81, 3) := by decide +kernel
theorem dX0_worstStreet_27 : decode cX0_worstStreet 27 = .ok (.istore 5, 2) := by decide +kernel
theorem dX0_worstStreet_29 : decode cX0_worstStreet 29 = .ok (.iload 5, 2) := by decide +kernel
theorem dX0_worstStreet_31 : decode cX0_worstStreet 31 = .ok (.iload_n 3, 1) := by decide +kernel
theorem dX0_worstStreet_32 : decode cX0_worstStreet 32 = .ok (.if_icmp .le 9, 3) := by decide +kernel
theorem dX0_worstStreet_35 : decode cX0_worstStreet 35 = .ok (.iload 5, 2) := by decide +kernel
theorem dX0_worstStreet_37 : decode cX0_worstStreet 37 = .ok (.istore_n 3, 1) := by decide +kernel
theorem dX0_worstStreet_38 : decode cX0_worstStreet 38 = .ok (.iload 4, 2) := by decide +kernel
theorem dX0_worstStreet_40 : decode cX0_worstStreet 40 = .ok (.istore_n 2, 1) := by decide +kernel
theorem dX0_worstStreet_41 : decode cX0_worstStreet 41 = .ok (.iinc 4 1, 3) := by decide +kernel
theorem dX0_worstStreet_44 : decode cX0_worstStreet 44 = .ok (.goto (-36), 3) := by decide +kernel
theorem dX0_worstStreet_47 : decode cX0_worstStreet 47 = .ok (.iload_n 2, 1) := by decide +kernel
theorem dX0_worstStreet_48 : decode cX0_worstStreet 48 = .ok (.ireturn, 1) := by decide +kernel
set_option maxRecDepth 20000 in
theorem ggX1_init_X6_init : GoodIn wsX1_init wsX6_init := goodIn_r _ [12, 13, 2, 3, 14, 15, 16, 17, 18, 19, 20, 21, 22, 23, 24, 25, 26, 27, 28, 29, 30, 31, 32, 33, 34, 35, 36, 37, 38, 39, 40, 41, 42, 43, 44, 45, 46, 47, 48, 49, 50, 51, 55, 56, 57, 58, 59, 60, 61, 62, 63, 64, 65, 66, 67, 68, 69] (by decide +kernel) (by decide +kernel)
set_option maxRecDepth 20000 in
theorem gX1_init_X6_init : GoodIn wsX1_init (wsX6_init) := ggX1_init_X6_init
theorem dX1_init_0 : decode cX1_init 0 = .ok (.aload_n 0, 1) := by decide +kernel
theorem dX1_init_1 : decode cX1_init 1 = .ok (.invokespecial 3, 3) := by decide +kernel
theorem dX1_init_4 : decode cX1_init 4 = .ok (.aload_n 0, 1) := by decide +kernel
theorem dX1_init_5 : decode cX1_init 5 = .ok (.bipush 6, 2) := by decide +kernel
theorem dX1_init_7 : decode cX1_init 7 = .ok (.anewarray 9, 3) := by decide +kernel
theorem dX1_init_10 : decode cX1_init 10 = .ok (.putfield 11, 3) := by decide +kernel
theorem dX1_init_13 : decode cX1_init 13 = .ok (.aload_n 0, 1) := by decide +kernel
theorem dX1_init_14 : decode cX1_init 14 = .ok (.iconst 0, 1) := by decide +kernel
theorem dX1_init_15 : decode cX1_init 15 = .ok (.putfield 17, 3) := by decide +kernel
theorem dX1_init_18 : decode cX1_init 18 = .ok (.aload_n 0, 1) := by decide +kernel
theorem dX1_init_19 : decode cX1_init 19 = .ok (.iconst 0, 1) := by decide +kernel
theorem dX1_init_20 : decode cX1_init 20 = .ok (.putfield 21, 3) := by decide +kernel
theorem dX1_init_23 : decode cX1_init 23 = .ok (.iconst 0, 1) := by decide +kernel
theorem dX1_init_24 : decode cX1_init 24 = .ok (.istore_n 1, 1) := by decide +kernel
theorem dX1_init_25 : decode cX1_init 25 = .ok (.iload_n 1, 1) := by decide +kernel
theorem dX1_init_26 : decode cX1_init 26 = .ok (.bipush 6, 2) := by decide +kernel
theorem dX1_init_28 : decode cX1_init 28 = .ok (.if_icmp .ge 22, 3) := by decide +kernel
theorem dX1_init_31 : decode cX1_init 31 = .ok (.aload_n 0, 1) := by decide +kernel
theorem dX1_init_32 : decode cX1_init 32 = .ok (.getfield 11, 3) := by decide +kernel
theorem dX1_init_35 : decode cX1_init 35 = .ok (.iload_n 1, 1) := by decide +kernel
theorem dX1_init_36 : decode cX1_init 36 = .ok (.new 9, 3) := by decide +kernel
theorem dX1_init_39 : decode cX1_init 39 = .ok (.dup, 1) := by decide +kernel
theorem dX1_init_40 : decode cX1_init 40 = .ok (.invokespecial 24, 3) := by decide +kernel
theorem dX1_init_43 : decode cX1_init 43 = .ok (.aastore, 1) := by decide +kernel
theorem dX1_init_44 : decode cX1_init 44 = .ok (.iinc 1 1, 3) := by decide +kernel
theorem dX1_init_47 : decode cX1_init 47 = .ok (.goto (-22), 3) := by decide +kernel
theorem dX1_init_50 : decode cX1_init 50 = .ok (.return_, 1) := by decide +kernel
set_option maxRecDepth 20000 in
theorem ggX1_keep_X6_copy : GoodIn wsX1_keep wsX6_copy := goodIn_r _ [8, 9, 10, 11, 12, 13, 14, 15, 16, 17, 18, 19, 20, 21, 22, 23, 24, 25, 26, 27, 28, 29, 30, 31, 32, 33, 34, 35, 36, 37, 38, 39, 40, 41, 42, 43, 44, 48, 49, 50, 51, 52, 53, 54, 55, 56, 57, 58, 59, 60, 61, 62] (by decide +kernel) (by decide +kernel)
set_option maxRecDepth 20000 in
theorem gX1_keep_X6_copy : GoodIn wsX1_keep (wsV RX1 25 RX6 yX6_copy wsX6_copy) := goodIn_app (goodIn_of _ (by decide +kernel)) ggX1_keep_X6_copy
theorem dX1_keep_0 : decode cX1_keep 0 = .ok (.aload_n 0, 1) := by decide +kernel
theorem dX1_keep_1 : decode cX1_keep 1 = .ok (.getfield 21, 3) := by decide +kernel
theorem dX1_keep_4 : decode cX1_keep 4 = .ok (.bipush 6, 2) := by decide +kernel
theorem dX1_keep_6 : decode cX1_keep 6 = .ok (.if_icmp .ne 26, 3) := by decide +kernel
theorem dX1_keep_9 : decode cX1_keep 9 = .ok (.aload_n 0, 1) := by decide +kernel
theorem dX1_keep_10 : decode cX1_keep 10 = .ok (.aload_n 0, 1) := by decide +kernel
theorem dX1_keep_11 : decode cX1_keep 11 = .ok (.getfield 17, 3) := by decide +kernel
theorem dX1_keep_14 : decode cX1_keep 14 = .ok (.iconst 1, 1) := by decide +kernel
theorem dX1_keep_15 : decode cX1_keep 15 = .ok (.iadd, 1) := by decide +kernel
theorem dX1_keep_16 : decode cX1_keep 16 = .ok (.bipush 6, 2) := by decide +kernel
theorem dX1_keep_18 : decode cX1_keep 18 = .ok (.irem, 1) := by decide +kernel
theorem dX1_keep_19 : decode cX1_keep 19 = .ok (.putfield 17, 3) := by decide +kernel
theorem dX1_keep_22 : decode cX1_keep 22 = .ok (.aload_n 0, 1) := by decide +kernel
theorem dX1_keep_23 : decode cX1_keep 23 = .ok (.dup, 1) := by decide +kernel
theorem dX1_keep_24 : decode cX1_keep 24 = .ok (.getfield 21, 3) := by decide +kernel
theorem dX1_keep_27 : decode cX1_keep 27 = .ok (.iconst 1, 1) := by decide +kernel
theorem dX1_keep_28 : decode cX1_keep 28 = .ok (.isub, 1) := by decide +kernel
theorem dX1_keep_29 : decode cX1_keep 29 = .ok (.putfield 21, 3) := by decide +kernel
theorem dX1_keep_32 : decode cX1_keep 32 = .ok (.aload_n 0, 1) := by decide +kernel
theorem dX1_keep_33 : decode cX1_keep 33 = .ok (.getfield 11, 3) := by decide +kernel
theorem dX1_keep_36 : decode cX1_keep 36 = .ok (.aload_n 0, 1) := by decide +kernel
theorem dX1_keep_37 : decode cX1_keep 37 = .ok (.getfield 17, 3) := by decide +kernel
theorem dX1_keep_40 : decode cX1_keep 40 = .ok (.aload_n 0, 1) := by decide +kernel
theorem dX1_keep_41 : decode cX1_keep 41 = .ok (.getfield 21, 3) := by decide +kernel
theorem dX1_keep_44 : decode cX1_keep 44 = .ok (.iadd, 1) := by decide +kernel
theorem dX1_keep_45 : decode cX1_keep 45 = .ok (.bipush 6, 2) := by decide +kernel
theorem dX1_keep_47 : decode cX1_keep 47 = .ok (.irem, 1) := by decide +kernel
theorem dX1_keep_48 : decode cX1_keep 48 = .ok (.aaload, 1) := by decide +kernel
theorem dX1_keep_49 : decode cX1_keep 49 = .ok (.aload_n 1, 1) := by decide +kernel
theorem dX1_keep_50 : decode cX1_keep 50 = .ok (.invokevirtual 25, 3) := by decide +kernel
theorem dX1_keep_53 : decode cX1_keep 53 = .ok (.aload_n 0, 1) := by decide +kernel
theorem dX1_keep_54 : decode cX1_keep 54 = .ok (.dup, 1) := by decide +kernel
theorem dX1_keep_55 : decode cX1_keep 55 = .ok (.getfield 21, 3) := by decide +kernel
theorem dX1_keep_58 : decode cX1_keep 58 = .ok (.iconst 1, 1) := by decide +kernel
theorem dX1_keep_59 : decode cX1_keep 59 = .ok (.iadd, 1) := by decide +kernel
theorem dX1_keep_60 : decode cX1_keep 60 = .ok (.putfield 21, 3) := by decide +kernel
theorem dX1_keep_63 : decode cX1_keep 63 = .ok (.return_, 1) := by decide +kernel
set_option maxRecDepth 20000 in
theorem ggX1_takeBack_X6_copy : GoodIn wsX1_takeBack wsX6_copy := goodIn_r _ [8, 9, 10, 11, 12, 13, 14, 15, 16, 17, 18, 19, 20, 21, 22, 23, 24, 25, 26, 27, 28, 29, 30, 31, 32, 33, 34, 35, 36, 37, 38, 39, 40, 41, 42, 43, 44, 48, 49, 50, 51, 52, 53, 54, 55, 56, 57, 58, 59, 60, 61, 62] (by decide +kernel) (by decide +kernel)
set_option maxRecDepth 20000 in
theorem gX1_takeBack_X6_copy : GoodIn wsX1_takeBack (wsV RX1 25 RX6 yX6_copy wsX6_copy) := goodIn_app (goodIn_of _ (by decide +kernel)) ggX1_takeBack_X6_copy
theorem dX1_takeBack_0 : decode cX1_takeBack 0 = .ok (.aload_n 0, 1) := by decide +kernel
theorem dX1_takeBack_1 : decode cX1_takeBack 1 = .ok (.getfield 21, 3) := by decide +kernel
theorem dX1_takeBack_4 : decode cX1_takeBack 4 = .ok (.ifCond .le 34, 3) := by decide +kernel
theorem dX1_takeBack_7 : decode cX1_takeBack 7 = .ok (.aload_n 0, 1) := by decide +kernel
theorem dX1_takeBack_8 : decode cX1_takeBack 8 = .ok (.dup, 1) := by decide +kernel
theorem dX1_takeBack_9 : decode cX1_takeBack 9 = .ok (.getfield 21, 3) := by decide +kernel
theorem dX1_takeBack_12 : decode cX1_takeBack 12 = .ok (.iconst 1, 1) := by decide +kernel
theorem dX1_takeBack_13 : decode cX1_takeBack 13 = .ok (.isub, 1) := by decide +kernel
theorem dX1_takeBack_14 : decode cX1_takeBack 14 = .ok (.putfield 21, 3) := by decide +kernel
theorem dX1_takeBack_17 : decode cX1_takeBack 17 = .ok (.aload_n 1, 1) := by decide +kernel
theorem dX1_takeBack_18 : decode cX1_takeBack 18 = .ok (.aload_n 0, 1) := by decide +kernel
theorem dX1_takeBack_19 : decode cX1_takeBack 19 = .ok (.getfield 11, 3) := by decide +kernel
theorem dX1_takeBack_22 : decode cX1_takeBack 22 = .ok (.aload_n 0, 1) := by decide +kernel
theorem dX1_takeBack_23 : decode cX1_takeBack 23 = .ok (.getfield 17, 3) := by decide +kernel
theorem dX1_takeBack_26 : decode cX1_takeBack 26 = .ok (.aload_n 0, 1) := by decide +kernel
theorem dX1_takeBack_27 : decode cX1_takeBack 27 = .ok (.getfield 21, 3) := by decide +kernel
theorem dX1_takeBack_30 : decode cX1_takeBack 30 = .ok (.iadd, 1) := by decide +kernel
theorem dX1_takeBack_31 : decode cX1_takeBack 31 = .ok (.bipush 6, 2) := by decide +kernel
theorem dX1_takeBack_33 : decode cX1_takeBack 33 = .ok (.irem, 1) := by decide +kernel
theorem dX1_takeBack_34 : decode cX1_takeBack 34 = .ok (.aaload, 1) := by decide +kernel
theorem dX1_takeBack_35 : decode cX1_takeBack 35 = .ok (.invokevirtual 25, 3) := by decide +kernel
theorem dX1_takeBack_38 : decode cX1_takeBack 38 = .ok (.return_, 1) := by decide +kernel
theorem dX2_init_0 : decode cX2_init 0 = .ok (.aload_n 0, 1) := by decide +kernel
theorem dX2_init_1 : decode cX2_init 1 = .ok (.invokespecial 3, 3) := by decide +kernel
theorem dX2_init_4 : decode cX2_init 4 = .ok (.aload_n 0, 1) := by decide +kernel
theorem dX2_init_5 : decode cX2_init 5 = .ok (.bipush 8, 2) := by decide +kernel
theorem dX2_init_7 : decode cX2_init 7 = .ok (.newarray .int, 2) := by decide +kernel
theorem dX2_init_9 : decode cX2_init 9 = .ok (.putfield 9, 3) := by decide +kernel
theorem dX2_init_12 : decode cX2_init 12 = .ok (.aload_n 0, 1) := by decide +kernel
theorem dX2_init_13 : decode cX2_init 13 = .ok (.bipush 8, 2) := by decide +kernel
theorem dX2_init_15 : decode cX2_init 15 = .ok (.newarray .int, 2) := by decide +kernel
theorem dX2_init_17 : decode cX2_init 17 = .ok (.putfield 15, 3) := by decide +kernel
theorem dX2_init_20 : decode cX2_init 20 = .ok (.aload_n 0, 1) := by decide +kernel
theorem dX2_init_21 : decode cX2_init 21 = .ok (.bipush 8, 2) := by decide +kernel
theorem dX2_init_23 : decode cX2_init 23 = .ok (.newarray .int, 2) := by decide +kernel
theorem dX2_init_25 : decode cX2_init 25 = .ok (.putfield 18, 3) := by decide +kernel
theorem dX2_init_28 : decode cX2_init 28 = .ok (.aload_n 0, 1) := by decide +kernel
theorem dX2_init_29 : decode cX2_init 29 = .ok (.iconst 0, 1) := by decide +kernel
theorem dX2_init_30 : decode cX2_init 30 = .ok (.putfield 21, 3) := by decide +kernel
theorem dX2_init_33 : decode cX2_init 33 = .ok (.aload_n 0, 1) := by decide +kernel
theorem dX2_init_34 : decode cX2_init 34 = .ok (.iconst 0, 1) := by decide +kernel
theorem dX2_init_35 : decode cX2_init 35 = .ok (.putfield 25, 3) := by decide +kernel
theorem dX2_init_38 : decode cX2_init 38 = .ok (.return_, 1) := by decide +kernel
set_option maxRecDepth 20000 in
theorem ggX2_copy_X7_copyRow : GoodIn wsX2_copy wsX7_copyRow := goodIn_r _ [8, 9, 10, 11, 12, 13, 14, 15, 16] (by decide +kernel) (by decide +kernel)
set_option maxRecDepth 20000 in
theorem gX2_copy_X7_copyRow_n28 : GoodIn wsX2_copy (wsX7_copyRow) := ggX2_copy_X7_copyRow
theorem dX2_copy_0 : decode cX2_copy 0 = .ok (.aload_n 1, 1) := by decide +kernel
theorem dX2_copy_1 : decode cX2_copy 1 = .ok (.getfield 9, 3) := by decide +kernel
theorem dX2_copy_4 : decode cX2_copy 4 = .ok (.aload_n 0, 1) := by decide +kernel
theorem dX2_copy_5 : decode cX2_copy 5 = .ok (.getfield 9, 3) := by decide +kernel
theorem dX2_copy_8 : decode cX2_copy 8 = .ok (.invokestatic 28, 3) := by decide +kernel
theorem dX2_copy_11 : decode cX2_copy 11 = .ok (.aload_n 1, 1) := by decide +kernel
theorem dX2_copy_12 : decode cX2_copy 12 = .ok (.getfield 15, 3) := by decide +kernel
theorem dX2_copy_15 : decode cX2_copy 15 = .ok (.aload_n 0, 1) := by decide +kernel
theorem dX2_copy_16 : decode cX2_copy 16 = .ok (.getfield 15, 3) := by decide +kernel
theorem dX2_copy_19 : decode cX2_copy 19 = .ok (.invokestatic 28, 3) := by decide +kernel
theorem dX2_copy_22 : decode cX2_copy 22 = .ok (.aload_n 1, 1) := by decide +kernel
theorem dX2_copy_23 : decode cX2_copy 23 = .ok (.getfield 18, 3) := by decide +kernel
theorem dX2_copy_26 : decode cX2_copy 26 = .ok (.aload_n 0, 1) := by decide +kernel
theorem dX2_copy_27 : decode cX2_copy 27 = .ok (.getfield 18, 3) := by decide +kernel
theorem dX2_copy_30 : decode cX2_copy 30 = .ok (.invokestatic 28, 3) := by decide +kernel
theorem dX2_copy_33 : decode cX2_copy 33 = .ok (.aload_n 0, 1) := by decide +kernel
theorem dX2_copy_34 : decode cX2_copy 34 = .ok (.aload_n 1, 1) := by decide +kernel
theorem dX2_copy_35 : decode cX2_copy 35 = .ok (.getfield 21, 3) := by decide +kernel
theorem dX2_copy_38 : decode cX2_copy 38 = .ok (.putfield 21, 3) := by decide +kernel
theorem dX2_copy_41 : decode cX2_copy 41 = .ok (.aload_n 0, 1) := by decide +kernel
theorem dX2_copy_42 : decode cX2_copy 42 = .ok (.aload_n 1, 1) := by decide +kernel
theorem dX2_copy_43 : decode cX2_copy 43 = .ok (.getfield 25, 3) := by decide +kernel
theorem dX2_copy_46 : decode cX2_copy 46 = .ok (.putfield 25, 3) := by decide +kernel
theorem dX2_copy_49 : decode cX2_copy 49 = .ok (.return_, 1) := by decide +kernel
theorem dX2_kept_0 : decode cX2_kept 0 = .ok (.aload_n 0, 1) := by decide +kernel
theorem dX2_kept_1 : decode cX2_kept 1 = .ok (.getfield 21, 3) := by decide +kernel
theorem dX2_kept_4 : decode cX2_kept 4 = .ok (.bipush 8, 2) := by decide +kernel
theorem dX2_kept_6 : decode cX2_kept 6 = .ok (.invokestatic 32, 3) := by decide +kernel
theorem dX2_kept_9 : decode cX2_kept 9 = .ok (.ireturn, 1) := by decide +kernel
set_option maxRecDepth 20000 in
theorem ggX2_add_X2_pushFirst : GoodIn wsX2_add wsX2_pushFirst := goodIn_r _ [9] (by decide +kernel) (by decide +kernel)
set_option maxRecDepth 20000 in
theorem gX2_add_X2_pushFirst : GoodIn wsX2_add (va_wsS RX2 38 yX2_pushFirst wsX2_pushFirst) := goodIn_app (goodIn_of _ (by decide +kernel)) ggX2_add_X2_pushFirst
theorem dX2_add_0 : decode cX2_add 0 = .ok (.aload_n 0, 1) := by decide +kernel
theorem dX2_add_1 : decode cX2_add 1 = .ok (.getfield 9, 3) := by decide +kernel
theorem dX2_add_4 : decode cX2_add 4 = .ok (.iload_n 1, 1) := by decide +kernel
theorem dX2_add_5 : decode cX2_add 5 = .ok (.invokestatic 38, 3) := by decide +kernel
theorem dX2_add_8 : decode cX2_add 8 = .ok (.aload_n 0, 1) := by decide +kernel
theorem dX2_add_9 : decode cX2_add 9 = .ok (.getfield 15, 3) := by decide +kernel
theorem dX2_add_12 : decode cX2_add 12 = .ok (.iload_n 2, 1) := by decide +kernel
theorem dX2_add_13 : decode cX2_add 13 = .ok (.invokestatic 38, 3) := by decide +kernel
theorem dX2_add_16 : decode cX2_add 16 = .ok (.aload_n 0, 1) := by decide +kernel
theorem dX2_add_17 : decode cX2_add 17 = .ok (.getfield 18, 3) := by decide +kernel
theorem dX2_add_20 : decode cX2_add 20 = .ok (.iload_n 3, 1) := by decide +kernel
theorem dX2_add_21 : decode cX2_add 21 = .ok (.invokestatic 38, 3) := by decide +kernel
theorem dX2_add_24 : decode cX2_add 24 = .ok (.aload_n 0, 1) := by decide +kernel
theorem dX2_add_25 : decode cX2_add 25 = .ok (.dup, 1) := by decide +kernel
theorem dX2_add_26 : decode cX2_add 26 = .ok (.getfield 21, 3) := by decide +kernel
theorem dX2_add_29 : decode cX2_add 29 = .ok (.iconst 1, 1) := by decide +kernel
theorem dX2_add_30 : decode cX2_add 30 = .ok (.iadd, 1) := by decide +kernel
theorem dX2_add_31 : decode cX2_add 31 = .ok (.putfield 21, 3) := by decide +kernel
theorem dX2_add_34 : decode cX2_add 34 = .ok (.aload_n 0, 1) := by decide +kernel
theorem dX2_add_35 : decode cX2_add 35 = .ok (.dup, 1) := by decide +kernel
theorem dX2_add_36 : decode cX2_add 36 = .ok (.getfield 25, 3) := by decide +kernel
theorem dX2_add_39 : decode cX2_add 39 = .ok (.iload_n 2, 1) := by decide +kernel
theorem dX2_add_40 : decode cX2_add 40 = .ok (.iadd, 1) := by decide +kernel
theorem dX2_add_41 : decode cX2_add 41 = .ok (.putfield 25, 3) := by decide +kernel
theorem dX2_add_44 : decode cX2_add 44 = .ok (.return_, 1) := by decide +kernel
theorem dX2_pushFirst_0 : decode cX2_pushFirst 0 = .ok (.aload_n 0, 1) := by decide +kernel
theorem dX2_pushFirst_1 : decode cX2_pushFirst 1 = .ok (.arraylength, 1) := by decide +kernel
theorem dX2_pushFirst_2 : decode cX2_pushFirst 2 = .ok (.iconst 1, 1) := by decide +kernel
theorem dX2_pushFirst_3 : decode cX2_pushFirst 3 = .ok (.isub, 1) := by decide +kernel
theorem dX2_pushFirst_4 : decode cX2_pushFirst 4 = .ok (.istore_n 2, 1) := by decide +kernel
theorem dX2_pushFirst_5 : decode cX2_pushFirst 5 = .ok (.iload_n 2, 1) := by decide +kernel
theorem dX2_pushFirst_6 : decode cX2_pushFirst 6 = .ok (.ifCond .le 17, 3) := by decide +kernel
theorem dX2_pushFirst_9 : decode cX2_pushFirst 9 = .ok (.aload_n 0, 1) := by decide +kernel
theorem dX2_pushFirst_10 : decode cX2_pushFirst 10 = .ok (.iload_n 2, 1) := by decide +kernel
theorem dX2_pushFirst_11 : decode cX2_pushFirst 11 = .ok (.aload_n 0, 1) := by decide +kernel
theorem dX2_pushFirst_12 : decode cX2_pushFirst 12 = .ok (.iload_n 2, 1) := by decide +kernel
theorem dX2_pushFirst_13 : decode cX2_pushFirst 13 = .ok (.iconst 1, 1) := by decide +kernel
theorem dX2_pushFirst_14 : decode cX2_pushFirst 14 = .ok (.isub, 1) := by decide +kernel
theorem dX2_pushFirst_15 : decode cX2_pushFirst 15 = .ok (.iaload, 1) := by decide +kernel
theorem dX2_pushFirst_16 : decode cX2_pushFirst 16 = .ok (.iastore, 1) := by decide +kernel
theorem dX2_pushFirst_17 : decode cX2_pushFirst 17 = .ok (.iinc 2 (-1), 3) := by decide +kernel
theorem dX2_pushFirst_20 : decode cX2_pushFirst 20 = .ok (.goto (-15), 3) := by decide +kernel
theorem dX2_pushFirst_23 : decode cX2_pushFirst 23 = .ok (.aload_n 0, 1) := by decide +kernel
theorem dX2_pushFirst_24 : decode cX2_pushFirst 24 = .ok (.iconst 0, 1) := by decide +kernel
theorem dX2_pushFirst_25 : decode cX2_pushFirst 25 = .ok (.iload_n 1, 1) := by decide +kernel
theorem dX2_pushFirst_26 : decode cX2_pushFirst 26 = .ok (.iastore, 1) := by decide +kernel
theorem dX2_pushFirst_27 : decode cX2_pushFirst 27 = .ok (.return_, 1) := by decide +kernel
theorem dX3_init_0 : decode cX3_init 0 = .ok (.aload_n 0, 1) := by decide +kernel
theorem dX3_init_1 : decode cX3_init 1 = .ok (.invokespecial 3, 3) := by decide +kernel
theorem dX3_init_4 : decode cX3_init 4 = .ok (.aload_n 0, 1) := by decide +kernel
theorem dX3_init_5 : decode cX3_init 5 = .ok (.bipush 80, 2) := by decide +kernel
theorem dX3_init_7 : decode cX3_init 7 = .ok (.newarray .char, 2) := by decide +kernel
theorem dX3_init_9 : decode cX3_init 9 = .ok (.putfield 9, 3) := by decide +kernel
theorem dX3_init_12 : decode cX3_init 12 = .ok (.aload_n 0, 1) := by decide +kernel
theorem dX3_init_13 : decode cX3_init 13 = .ok (.iconst 0, 1) := by decide +kernel
theorem dX3_init_14 : decode cX3_init 14 = .ok (.putfield 15, 3) := by decide +kernel
theorem dX3_init_17 : decode cX3_init 17 = .ok (.aload_n 0, 1) := by decide +kernel
theorem dX3_init_18 : decode cX3_init 18 = .ok (.iconst 0, 1) := by decide +kernel
theorem dX3_init_19 : decode cX3_init 19 = .ok (.putfield 19, 3) := by decide +kernel
theorem dX3_init_22 : decode cX3_init 22 = .ok (.return_, 1) := by decide +kernel
theorem dX3_clear_0 : decode cX3_clear 0 = .ok (.aload_n 0, 1) := by decide +kernel
theorem dX3_clear_1 : decode cX3_clear 1 = .ok (.iconst 0, 1) := by decide +kernel
theorem dX3_clear_2 : decode cX3_clear 2 = .ok (.putfield 15, 3) := by decide +kernel
theorem dX3_clear_5 : decode cX3_clear 5 = .ok (.aload_n 0, 1) := by decide +kernel
theorem dX3_clear_6 : decode cX3_clear 6 = .ok (.iconst 0, 1) := by decide +kernel
theorem dX3_clear_7 : decode cX3_clear 7 = .ok (.putfield 19, 3) := by decide +kernel
theorem dX3_clear_10 : decode cX3_clear 10 = .ok (.return_, 1) := by decide +kernel
theorem dX3_add_0 : decode cX3_add 0 = .ok (.aload_n 0, 1) := by decide +kernel
theorem dX3_add_1 : decode cX3_add 1 = .ok (.getfield 15, 3) := by decide +kernel
theorem dX3_add_4 : decode cX3_add 4 = .ok (.bipush 80, 2) := by decide +kernel
theorem dX3_add_6 : decode cX3_add 6 = .ok (.if_icmp .lt 9, 3) := by decide +kernel
theorem dX3_add_9 : decode cX3_add 9 = .ok (.aload_n 0, 1) := by decide +kernel
theorem dX3_add_10 : decode cX3_add 10 = .ok (.iconst 1, 1) := by decide +kernel
theorem dX3_add_11 : decode cX3_add 11 = .ok (.putfield 19, 3) := by decide +kernel
theorem dX3_add_14 : decode cX3_add 14 = .ok (.return_, 1) := by decide +kernel
theorem dX3_add_15 : decode cX3_add 15 = .ok (.aload_n 0, 1) := by decide +kernel
theorem dX3_add_16 : decode cX3_add 16 = .ok (.getfield 9, 3) := by decide +kernel
theorem dX3_add_19 : decode cX3_add 19 = .ok (.aload_n 0, 1) := by decide +kernel
theorem dX3_add_20 : decode cX3_add 20 = .ok (.getfield 15, 3) := by decide +kernel
theorem dX3_add_23 : decode cX3_add 23 = .ok (.iload_n 1, 1) := by decide +kernel
theorem dX3_add_24 : decode cX3_add 24 = .ok (.i2c, 1) := by decide +kernel
theorem dX3_add_25 : decode cX3_add 25 = .ok (.castore, 1) := by decide +kernel
theorem dX3_add_26 : decode cX3_add 26 = .ok (.aload_n 0, 1) := by decide +kernel
theorem dX3_add_27 : decode cX3_add 27 = .ok (.dup, 1) := by decide +kernel
theorem dX3_add_28 : decode cX3_add 28 = .ok (.getfield 15, 3) := by decide +kernel
theorem dX3_add_31 : decode cX3_add 31 = .ok (.iconst 1, 1) := by decide +kernel
theorem dX3_add_32 : decode cX3_add 32 = .ok (.iadd, 1) := by decide +kernel
theorem dX3_add_33 : decode cX3_add 33 = .ok (.putfield 15, 3) := by decide +kernel
theorem dX3_add_36 : decode cX3_add 36 = .ok (.return_, 1) := by decide +kernel
theorem dX3_copy_0 : decode cX3_copy 0 = .ok (.aload_n 1, 1) := by decide +kernel
theorem dX3_copy_1 : decode cX3_copy 1 = .ok (.getfield 9, 3) := by decide +kernel
theorem dX3_copy_4 : decode cX3_copy 4 = .ok (.iconst 0, 1) := by decide +kernel
theorem dX3_copy_5 : decode cX3_copy 5 = .ok (.aload_n 0, 1) := by decide +kernel
theorem dX3_copy_6 : decode cX3_copy 6 = .ok (.getfield 9, 3) := by decide +kernel
theorem dX3_copy_9 : decode cX3_copy 9 = .ok (.iconst 0, 1) := by decide +kernel
theorem dX3_copy_10 : decode cX3_copy 10 = .ok (.bipush 80, 2) := by decide +kernel
theorem dX3_copy_12 : decode cX3_copy 12 = .ok (.invokestatic 23, 3) := by decide +kernel
theorem dX3_copy_15 : decode cX3_copy 15 = .ok (.aload_n 0, 1) := by decide +kernel
theorem dX3_copy_16 : decode cX3_copy 16 = .ok (.aload_n 1, 1) := by decide +kernel
theorem dX3_copy_17 : decode cX3_copy 17 = .ok (.getfield 15, 3) := by decide +kernel
theorem dX3_copy_20 : decode cX3_copy 20 = .ok (.putfield 15, 3) := by decide +kernel
theorem dX3_copy_23 : decode cX3_copy 23 = .ok (.aload_n 0, 1) := by decide +kernel
theorem dX3_copy_24 : decode cX3_copy 24 = .ok (.aload_n 1, 1) := by decide +kernel
theorem dX3_copy_25 : decode cX3_copy 25 = .ok (.getfield 19, 3) := by decide +kernel
theorem dX3_copy_28 : decode cX3_copy 28 = .ok (.putfield 19, 3) := by decide +kernel
theorem dX3_copy_31 : decode cX3_copy 31 = .ok (.return_, 1) := by decide +kernel
set_option maxRecDepth 20000 in
theorem ggX4_init_X5_init : GoodIn wsX4_init wsX5_init := goodIn_r _ [11, 12, 2, 3, 13, 14, 15, 16, 17, 18, 19, 20, 21, 22, 23, 24, 25] (by decide +kernel) (by decide +kernel)
set_option maxRecDepth 20000 in
theorem gX4_init_X5_init_n11 : GoodIn wsX4_init (wsX5_init) := ggX4_init_X5_init
theorem dX4_init_0 : decode cX4_init 0 = .ok (.aload_n 0, 1) := by decide +kernel
theorem dX4_init_1 : decode cX4_init 1 = .ok (.invokespecial 3, 3) := by decide +kernel
theorem dX4_init_4 : decode cX4_init 4 = .ok (.aload_n 0, 1) := by decide +kernel
theorem dX4_init_5 : decode cX4_init 5 = .ok (.new 9, 3) := by decide +kernel
theorem dX4_init_8 : decode cX4_init 8 = .ok (.dup, 1) := by decide +kernel
theorem dX4_init_9 : decode cX4_init 9 = .ok (.invokespecial 11, 3) := by decide +kernel
theorem dX4_init_12 : decode cX4_init 12 = .ok (.putfield 12, 3) := by decide +kernel
theorem dX4_init_15 : decode cX4_init 15 = .ok (.aload_n 0, 1) := by decide +kernel
theorem dX4_init_16 : decode cX4_init 16 = .ok (.iconst 0, 1) := by decide +kernel
theorem dX4_init_17 : decode cX4_init 17 = .ok (.putfield 18, 3) := by decide +kernel
theorem dX4_init_20 : decode cX4_init 20 = .ok (.aload_n 0, 1) := by decide +kernel
theorem dX4_init_21 : decode cX4_init 21 = .ok (.bipush (-6), 2) := by decide +kernel
theorem dX4_init_23 : decode cX4_init 23 = .ok (.putfield 22, 3) := by decide +kernel
theorem dX4_init_26 : decode cX4_init 26 = .ok (.return_, 1) := by decide +kernel
set_option maxRecDepth 20000 in
theorem ggX4_read_X5_clear : GoodIn wsX4_read wsX5_clear := goodIn_r _ [10, 11, 100, 101, 102, 103, 104, 105] (by decide +kernel) (by decide +kernel)
set_option maxRecDepth 20000 in
theorem gX4_read_X5_clear : GoodIn wsX4_read (wsV RX4 25 RX5 yX5_clear wsX5_clear) := goodIn_app (goodIn_of _ (by decide +kernel)) ggX4_read_X5_clear
set_option maxRecDepth 20000 in
theorem ggX4_read_X4_takes : GoodIn wsX4_read wsX4_takes := goodIn_r _ [16, 1, 17, 2, 18, 19, 20, 15, 21, 3, 22, 23, 24, 25, 26, 27, 9, 28, 11, 29, 30, 31, 32, 33, 34, 35, 36, 37, 38, 39, 40, 41, 42, 43, 44, 45, 46, 47, 48, 49, 50, 51, 52, 53, 54, 55, 56, 57, 58, 59, 60, 61, 62, 63, 64, 65, 66, 67, 68, 69, 70, 71, 72, 73, 74, 75, 76, 77, 78, 79, 80, 81, 82, 83, 84, 85, 86, 87, 88, 89, 90, 91, 92, 93, 94, 95, 96, 100, 101, 102, 103, 104, 105] (by decide +kernel) (by decide +kernel)
set_option maxRecDepth 20000 in
theorem gX4_read_X4_takes : GoodIn wsX4_read (wsV RX4 37 RX4 yX4_takes wsX4_takes) := goodIn_app (goodIn_of _ (by decide +kernel)) ggX4_read_X4_takes
theorem dX4_read_0 : decode cX4_read 0 = .ok (.aload_n 0, 1) := by decide +kernel
theorem dX4_read_1 : decode cX4_read 1 = .ok (.getfield 12, 3) := by decide +kernel
theorem dX4_read_4 : decode cX4_read 4 = .ok (.invokevirtual 25, 3) := by decide +kernel
theorem dX4_read_7 : decode cX4_read 7 = .ok (.aload_n 0, 1) := by decide +kernel
theorem dX4_read_8 : decode cX4_read 8 = .ok (.iconst 0, 1) := by decide +kernel
theorem dX4_read_9 : decode cX4_read 9 = .ok (.putfield 18, 3) := by decide +kernel
theorem dX4_read_12 : decode cX4_read 12 = .ok (.aload_n 0, 1) := by decide +kernel
theorem dX4_read_13 : decode cX4_read 13 = .ok (.bipush (-6), 2) := by decide +kernel
theorem dX4_read_15 : decode cX4_read 15 = .ok (.putfield 22, 3) := by decide +kernel
theorem dX4_read_18 : decode cX4_read 18 = .ok (.iconst 0, 1) := by decide +kernel
theorem dX4_read_19 : decode cX4_read 19 = .ok (.istore_n 2, 1) := by decide +kernel
theorem dX4_read_20 : decode cX4_read 20 = .ok (.iload_n 2, 1) := by decide +kernel
theorem dX4_read_21 : decode cX4_read 21 = .ok (.aload_n 1, 1) := by decide +kernel
theorem dX4_read_22 : decode cX4_read 22 = .ok (.getfield 28, 3) := by decide +kernel
theorem dX4_read_25 : decode cX4_read 25 = .ok (.if_icmp .ge 24, 3) := by decide +kernel
theorem dX4_read_28 : decode cX4_read 28 = .ok (.aload_n 0, 1) := by decide +kernel
theorem dX4_read_29 : decode cX4_read 29 = .ok (.aload_n 1, 1) := by decide +kernel
theorem dX4_read_30 : decode cX4_read 30 = .ok (.getfield 33, 3) := by decide +kernel
theorem dX4_read_33 : decode cX4_read 33 = .ok (.iload_n 2, 1) := by decide +kernel
theorem dX4_read_34 : decode cX4_read 34 = .ok (.caload, 1) := by decide +kernel
theorem dX4_read_35 : decode cX4_read 35 = .ok (.invokevirtual 37, 3) := by decide +kernel
theorem dX4_read_38 : decode cX4_read 38 = .ok (.ifCond .ne 5, 3) := by decide +kernel
theorem dX4_read_41 : decode cX4_read 41 = .ok (.iload_n 2, 1) := by decide +kernel
theorem dX4_read_42 : decode cX4_read 42 = .ok (.ireturn, 1) := by decide +kernel
theorem dX4_read_43 : decode cX4_read 43 = .ok (.iinc 2 1, 3) := by decide +kernel
theorem dX4_read_46 : decode cX4_read 46 = .ok (.goto (-26), 3) := by decide +kernel
theorem dX4_read_49 : decode cX4_read 49 = .ok (.aload_n 0, 1) := by decide +kernel
theorem dX4_read_50 : decode cX4_read 50 = .ok (.getfield 18, 3) := by decide +kernel
theorem dX4_read_53 : decode cX4_read 53 = .ok (.iconst 2, 1) := by decide +kernel
theorem dX4_read_54 : decode cX4_read 54 = .ok (.if_icmp .lt 17, 3) := by decide +kernel
theorem dX4_read_57 : decode cX4_read 57 = .ok (.aload_n 0, 1) := by decide +kernel
theorem dX4_read_58 : decode cX4_read 58 = .ok (.getfield 22, 3) := by decide +kernel
theorem dX4_read_61 : decode cX4_read 61 = .ok (.bipush (-6), 2) := by decide +kernel
theorem dX4_read_63 : decode cX4_read 63 = .ok (.if_icmp .ne 8, 3) := by decide +kernel
theorem dX4_read_66 : decode cX4_read 66 = .ok (.bipush (-6), 2) := by decide +kernel
theorem dX4_read_68 : decode cX4_read 68 = .ok (.goto 7, 3) := by decide +kernel
theorem dX4_read_71 : decode cX4_read 71 = .ok (.aload_n 1, 1) := by decide +kernel
theorem dX4_read_72 : decode cX4_read 72 = .ok (.getfield 28, 3) := by decide +kernel
theorem dX4_read_75 : decode cX4_read 75 = .ok (.ireturn, 1) := by decide +kernel
set_option maxRecDepth 20000 in
theorem ggX4_takes_X4_takesWidth : GoodIn wsX4_takes wsX4_takesWidth := goodIn_r _ [8, 1, 9, 3, 10, 11, 12, 13, 14, 15, 16, 17, 18, 19, 20, 21, 22, 23, 24, 25, 26, 27, 28, 29, 30, 31, 32, 33, 34, 35, 36, 37, 38, 84, 85, 86, 87, 88, 89, 90, 91, 92] (by decide +kernel) (by decide +kernel)
set_option maxRecDepth 20000 in
theorem gX4_takes_X4_takesWidth : GoodIn wsX4_takes (wsV RX4 44 RX4 yX4_takesWidth wsX4_takesWidth) := goodIn_app (goodIn_of _ (by decide +kernel)) ggX4_takes_X4_takesWidth
set_option maxRecDepth 20000 in
theorem ggX4_takes_X4_takesFirstDigit : GoodIn wsX4_takes wsX4_takesFirstDigit := goodIn_r _ [42, 1, 43, 3, 44, 45, 7, 46, 10, 11, 12, 84, 85, 86, 87, 88, 89, 90, 91, 92] (by decide +kernel) (by decide +kernel)
set_option maxRecDepth 20000 in
theorem gX4_takes_X4_takesFirstDigit : GoodIn wsX4_takes (wsV RX4 47 RX4 yX4_takesFirstDigit wsX4_takesFirstDigit) := goodIn_app (goodIn_of _ (by decide +kernel)) ggX4_takes_X4_takesFirstDigit
set_option maxRecDepth 20000 in
theorem ggX4_takes_X4_takesSmoke : GoodIn wsX4_takes wsX4_takesSmoke := goodIn_r _ [50, 3, 1, 51, 10, 11, 12, 84, 85, 86, 87, 88, 89, 90, 91, 92] (by decide +kernel) (by decide +kernel)
set_option maxRecDepth 20000 in
theorem gX4_takes_X4_takesSmoke : GoodIn wsX4_takes (wsV RX4 51 RX4 yX4_takesSmoke wsX4_takesSmoke) := goodIn_app (goodIn_of _ (by decide +kernel)) ggX4_takes_X4_takesSmoke
set_option maxRecDepth 20000 in
theorem ggX4_takes_X4_takesStar : GoodIn wsX4_takes wsX4_takesStar := goodIn_r _ [55, 3, 10, 11, 12, 84, 85, 86] (by decide +kernel) (by decide +kernel)
set_option maxRecDepth 20000 in
theorem gX4_takes_X4_takesStar : GoodIn wsX4_takes (wsV RX4 54 RX4 yX4_takesStar wsX4_takesStar) := goodIn_app (goodIn_of _ (by decide +kernel)) ggX4_takes_X4_takesStar
set_option maxRecDepth 20000 in
theorem ggX4_takes_X4_opens : GoodIn wsX4_takes wsX4_opens := goodIn_r _ [59, 3, 9, 10, 11, 12, 84, 85, 86] (by decide +kernel) (by decide +kernel)
set_option maxRecDepth 20000 in
theorem gX4_takes_X4_opens : GoodIn wsX4_takes (wsV RX4 58 RX4 yX4_opens wsX4_opens) := goodIn_app (goodIn_of _ (by decide +kernel)) ggX4_takes_X4_opens
set_option maxRecDepth 20000 in
theorem ggX4_takes_X4_goesOn : GoodIn wsX4_takes wsX4_goesOn := goodIn_r _ [63, 1, 9, 3, 64, 65, 66, 16, 67, 18, 68, 11, 69, 84, 85, 86, 87, 88, 89, 90, 91, 92] (by decide +kernel) (by decide +kernel)
set_option maxRecDepth 20000 in
theorem gX4_takes_X4_goesOn : GoodIn wsX4_takes (wsV RX4 61 RX4 yX4_goesOn wsX4_goesOn) := goodIn_app (goodIn_of _ (by decide +kernel)) ggX4_takes_X4_goesOn
set_option maxRecDepth 20000 in
theorem ggX4_takes_X4_closes : GoodIn wsX4_takes wsX4_closes := goodIn_r _ [73, 1, 9, 74, 3, 64, 65, 66, 16, 67, 18, 68, 11, 69, 84, 85, 86, 87, 88, 89, 90, 91, 92] (by decide +kernel) (by decide +kernel)
set_option maxRecDepth 20000 in
theorem gX4_takes_X4_closes : GoodIn wsX4_takes (wsV RX4 64 RX4 yX4_closes wsX4_closes) := goodIn_app (goodIn_of _ (by decide +kernel)) ggX4_takes_X4_closes
set_option maxRecDepth 20000 in
theorem ggX4_takes_X4_isDigit : GoodIn wsX4_takes wsX4_isDigit := goodIn_r _ [46, 10, 11, 12] (by decide +kernel) (by decide +kernel)
set_option maxRecDepth 20000 in
theorem gX4_takes_X4_isDigit : GoodIn wsX4_takes (va_wsS RX4 67 yX4_isDigit wsX4_isDigit) := goodIn_app (goodIn_of _ (by decide +kernel)) ggX4_takes_X4_isDigit
set_option maxRecDepth 20000 in
theorem ggX4_takes_X4_takesSecondDigit : GoodIn wsX4_takes wsX4_takesSecondDigit := goodIn_r _ [78, 3, 1, 43, 84, 85, 86, 87, 88, 89, 90, 91, 92] (by decide +kernel) (by decide +kernel)
set_option maxRecDepth 20000 in
theorem gX4_takes_X4_takesSecondDigit : GoodIn wsX4_takes (wsV RX4 70 RX4 yX4_takesSecondDigit wsX4_takesSecondDigit) := goodIn_app (goodIn_of _ (by decide +kernel)) ggX4_takes_X4_takesSecondDigit
set_option maxRecDepth 20000 in
theorem ggX4_takes_X4_takesFlag : GoodIn wsX4_takes wsX4_takesFlag := goodIn_r _ [82, 3, 1, 83, 10, 11, 12, 84, 85, 86, 87, 88, 89, 90, 91, 92] (by decide +kernel) (by decide +kernel)
set_option maxRecDepth 20000 in
theorem gX4_takes_X4_takesFlag : GoodIn wsX4_takes (wsV RX4 73 RX4 yX4_takesFlag wsX4_takesFlag) := goodIn_app (goodIn_of _ (by decide +kernel)) ggX4_takes_X4_takesFlag
theorem dX4_takes_0 : decode cX4_takes 0 = .ok (.aload_n 0, 1) := by decide +kernel
theorem dX4_takes_1 : decode cX4_takes 1 = .ok (.getfield 12, 3) := by decide +kernel
theorem dX4_takes_4 : decode cX4_takes 4 = .ok (.getfield 41, 3) := by decide +kernel
theorem dX4_takes_7 : decode cX4_takes 7 = .ok (.iconst 1, 1) := by decide +kernel
theorem dX4_takes_8 : decode cX4_takes 8 = .ok (.isub, 1) := by decide +kernel
theorem dX4_takes_9 : decode cX4_takes 9 = .ok (.istore_n 2, 1) := by decide +kernel
theorem dX4_takes_10 : decode cX4_takes 10 = .ok (.aload_n 0, 1) := by decide +kernel
theorem dX4_takes_11 : decode cX4_takes 11 = .ok (.getfield 18, 3) := by decide +kernel
theorem dX4_takes_14 : decode cX4_takes 14 = .ok (.ifCond .eq 7, 3) := by decide +kernel
theorem dX4_takes_17 : decode cX4_takes 17 = .ok (.iload_n 2, 1) := by decide +kernel
theorem dX4_takes_18 : decode cX4_takes 18 = .ok (.ifCond .ge 9, 3) := by decide +kernel
theorem dX4_takes_21 : decode cX4_takes 21 = .ok (.aload_n 0, 1) := by decide +kernel
theorem dX4_takes_22 : decode cX4_takes 22 = .ok (.iload_n 1, 1) := by decide +kernel
theorem dX4_takes_23 : decode cX4_takes 23 = .ok (.invokevirtual 44, 3) := by decide +kernel
theorem dX4_takes_26 : decode cX4_takes 26 = .ok (.ireturn, 1) := by decide +kernel
theorem dX4_takes_27 : decode cX4_takes 27 = .ok (.aload_n 0, 1) := by decide +kernel
theorem dX4_takes_28 : decode cX4_takes 28 = .ok (.getfield 18, 3) := by decide +kernel
theorem dX4_takes_31 : decode cX4_takes 31 = .ok (.iconst 1, 1) := by decide +kernel
theorem dX4_takes_32 : decode cX4_takes 32 = .ok (.if_icmp .ne 10, 3) := by decide +kernel
theorem dX4_takes_35 : decode cX4_takes 35 = .ok (.aload_n 0, 1) := by decide +kernel
theorem dX4_takes_36 : decode cX4_takes 36 = .ok (.iload_n 2, 1) := by decide +kernel
theorem dX4_takes_37 : decode cX4_takes 37 = .ok (.iload_n 1, 1) := by decide +kernel
theorem dX4_takes_38 : decode cX4_takes 38 = .ok (.invokevirtual 47, 3) := by decide +kernel
theorem dX4_takes_41 : decode cX4_takes 41 = .ok (.ireturn, 1) := by decide +kernel
theorem dX4_takes_42 : decode cX4_takes 42 = .ok (.iload_n 1, 1) := by decide +kernel
theorem dX4_takes_43 : decode cX4_takes 43 = .ok (.tableswitch 88 33 44 #[61, 88, 88, 88, 88, 88, 88, 72, 83, 67, 88, 78], 61) := by decide +kernel
theorem dX4_takes_104 : decode cX4_takes 104 = .ok (.aload_n 0, 1) := by decide +kernel
theorem dX4_takes_105 : decode cX4_takes 105 = .ok (.iload_n 2, 1) := by decide +kernel
theorem dX4_takes_106 : decode cX4_takes 106 = .ok (.invokevirtual 51, 3) := by decide +kernel
theorem dX4_takes_109 : decode cX4_takes 109 = .ok (.ireturn, 1) := by decide +kernel
theorem dX4_takes_110 : decode cX4_takes 110 = .ok (.aload_n 0, 1) := by decide +kernel
theorem dX4_takes_111 : decode cX4_takes 111 = .ok (.invokevirtual 54, 3) := by decide +kernel
theorem dX4_takes_114 : decode cX4_takes 114 = .ok (.ireturn, 1) := by decide +kernel
theorem dX4_takes_115 : decode cX4_takes 115 = .ok (.aload_n 0, 1) := by decide +kernel
theorem dX4_takes_116 : decode cX4_takes 116 = .ok (.iload_n 2, 1) := by decide +kernel
theorem dX4_takes_117 : decode cX4_takes 117 = .ok (.invokevirtual 58, 3) := by decide +kernel
theorem dX4_takes_120 : decode cX4_takes 120 = .ok (.ireturn, 1) := by decide +kernel
theorem dX4_takes_121 : decode cX4_takes 121 = .ok (.aload_n 0, 1) := by decide +kernel
theorem dX4_takes_122 : decode cX4_takes 122 = .ok (.invokevirtual 61, 3) := by decide +kernel
theorem dX4_takes_125 : decode cX4_takes 125 = .ok (.ireturn, 1) := by decide +kernel
theorem dX4_takes_126 : decode cX4_takes 126 = .ok (.aload_n 0, 1) := by decide +kernel
theorem dX4_takes_127 : decode cX4_takes 127 = .ok (.invokevirtual 64, 3) := by decide +kernel
theorem dX4_takes_130 : decode cX4_takes 130 = .ok (.ireturn, 1) := by decide +kernel
theorem dX4_takes_131 : decode cX4_takes 131 = .ok (.iload_n 1, 1) := by decide +kernel
theorem dX4_takes_132 : decode cX4_takes 132 = .ok (.invokestatic 67, 3) := by decide +kernel
theorem dX4_takes_135 : decode cX4_takes 135 = .ok (.ifCond .eq 12, 3) := by decide +kernel
theorem dX4_takes_138 : decode cX4_takes 138 = .ok (.aload_n 0, 1) := by decide +kernel
theorem dX4_takes_139 : decode cX4_takes 139 = .ok (.iload_n 2, 1) := by decide +kernel
theorem dX4_takes_140 : decode cX4_takes 140 = .ok (.iload_n 1, 1) := by decide +kernel
theorem dX4_takes_141 : decode cX4_takes 141 = .ok (.invokevirtual 70, 3) := by decide +kernel
theorem dX4_takes_144 : decode cX4_takes 144 = .ok (.goto 9, 3) := by decide +kernel
theorem dX4_takes_147 : decode cX4_takes 147 = .ok (.aload_n 0, 1) := by decide +kernel
theorem dX4_takes_148 : decode cX4_takes 148 = .ok (.iload_n 2, 1) := by decide +kernel
theorem dX4_takes_149 : decode cX4_takes 149 = .ok (.iload_n 1, 1) := by decide +kernel
theorem dX4_takes_150 : decode cX4_takes 150 = .ok (.invokevirtual 73, 3) := by decide +kernel
theorem dX4_takes_153 : decode cX4_takes 153 = .ok (.ireturn, 1) := by decide +kernel
set_option maxRecDepth 20000 in
theorem ggX4_takesWidth_X7_isWithin : GoodIn wsX4_takesWidth wsX7_isWithin := goodIn_r _ [6] (by decide +kernel) (by decide +kernel)
set_option maxRecDepth 20000 in
theorem gX4_takesWidth_X7_isWithin_n76 : GoodIn wsX4_takesWidth (wsX7_isWithin) := ggX4_takesWidth_X7_isWithin
set_option maxRecDepth 20000 in
theorem ggX4_takesWidth_X5_hasRoomOff : GoodIn wsX4_takesWidth wsX5_hasRoomOff := goodIn_r _ [11, 12, 13, 14, 15, 10, 16, 17, 18, 19, 20, 21, 22, 23, 24, 36, 37, 38, 39, 40, 41] (by decide +kernel) (by decide +kernel)
set_option maxRecDepth 20000 in
theorem gX4_takesWidth_X5_hasRoomOff : GoodIn wsX4_takesWidth (wsV RX4 80 RX5 yX5_hasRoomOff wsX5_hasRoomOff) := goodIn_app (goodIn_of _ (by decide +kernel)) ggX4_takesWidth_X5_hasRoomOff
set_option maxRecDepth 20000 in
theorem ggX4_takesWidth_X5_add : GoodIn wsX4_takesWidth wsX5_add := goodIn_r _ [28, 12, 17, 29, 30, 31, 32, 36, 37, 38, 39, 40, 41] (by decide +kernel) (by decide +kernel)
set_option maxRecDepth 20000 in
theorem gX4_takesWidth_X5_add : GoodIn wsX4_takesWidth (wsV RX4 83 RX5 yX5_add wsX5_add) := goodIn_app (goodIn_of _ (by decide +kernel)) ggX4_takesWidth_X5_add
theorem dX4_takesWidth_0 : decode cX4_takesWidth 0 = .ok (.iload_n 1, 1) := by decide +kernel
theorem dX4_takesWidth_1 : decode cX4_takesWidth 1 = .ok (.bipush 49, 2) := by decide +kernel
theorem dX4_takesWidth_3 : decode cX4_takesWidth 3 = .ok (.bipush 57, 2) := by decide +kernel
theorem dX4_takesWidth_5 : decode cX4_takesWidth 5 = .ok (.invokestatic 76, 3) := by decide +kernel
theorem dX4_takesWidth_8 : decode cX4_takesWidth 8 = .ok (.ifCond .eq 17, 3) := by decide +kernel
theorem dX4_takesWidth_11 : decode cX4_takesWidth 11 = .ok (.aload_n 0, 1) := by decide +kernel
theorem dX4_takesWidth_12 : decode cX4_takesWidth 12 = .ok (.getfield 12, 3) := by decide +kernel
theorem dX4_takesWidth_15 : decode cX4_takesWidth 15 = .ok (.aload_n 0, 1) := by decide +kernel
theorem dX4_takesWidth_16 : decode cX4_takesWidth 16 = .ok (.getfield 22, 3) := by decide +kernel
theorem dX4_takesWidth_19 : decode cX4_takesWidth 19 = .ok (.invokevirtual 80, 3) := by decide +kernel
theorem dX4_takesWidth_22 : decode cX4_takesWidth 22 = .ok (.ifCond .ne 5, 3) := by decide +kernel
theorem dX4_takesWidth_25 : decode cX4_takesWidth 25 = .ok (.iconst 0, 1) := by decide +kernel
theorem dX4_takesWidth_26 : decode cX4_takesWidth 26 = .ok (.ireturn, 1) := by decide +kernel
theorem dX4_takesWidth_27 : decode cX4_takesWidth 27 = .ok (.aload_n 0, 1) := by decide +kernel
theorem dX4_takesWidth_28 : decode cX4_takesWidth 28 = .ok (.getfield 12, 3) := by decide +kernel
theorem dX4_takesWidth_31 : decode cX4_takesWidth 31 = .ok (.aload_n 0, 1) := by decide +kernel
theorem dX4_takesWidth_32 : decode cX4_takesWidth 32 = .ok (.getfield 22, 3) := by decide +kernel
theorem dX4_takesWidth_35 : decode cX4_takesWidth 35 = .ok (.iload_n 1, 1) := by decide +kernel
theorem dX4_takesWidth_36 : decode cX4_takesWidth 36 = .ok (.bipush 48, 2) := by decide +kernel
theorem dX4_takesWidth_38 : decode cX4_takesWidth 38 = .ok (.isub, 1) := by decide +kernel
theorem dX4_takesWidth_39 : decode cX4_takesWidth 39 = .ok (.invokevirtual 83, 3) := by decide +kernel
theorem dX4_takesWidth_42 : decode cX4_takesWidth 42 = .ok (.pop, 1) := by decide +kernel
theorem dX4_takesWidth_43 : decode cX4_takesWidth 43 = .ok (.aload_n 0, 1) := by decide +kernel
theorem dX4_takesWidth_44 : decode cX4_takesWidth 44 = .ok (.iconst 2, 1) := by decide +kernel
theorem dX4_takesWidth_45 : decode cX4_takesWidth 45 = .ok (.putfield 18, 3) := by decide +kernel
theorem dX4_takesWidth_48 : decode cX4_takesWidth 48 = .ok (.iconst 1, 1) := by decide +kernel
theorem dX4_takesWidth_49 : decode cX4_takesWidth 49 = .ok (.ireturn, 1) := by decide +kernel
set_option maxRecDepth 20000 in
theorem ggX4_takesFlag_X7_isWithin : GoodIn wsX4_takesFlag wsX7_isWithin := goodIn_r _ [6] (by decide +kernel) (by decide +kernel)
set_option maxRecDepth 20000 in
theorem gX4_takesFlag_X7_isWithin_n76 : GoodIn wsX4_takesFlag (wsX7_isWithin) := ggX4_takesFlag_X7_isWithin
theorem dX4_takesFlag_0 : decode cX4_takesFlag 0 = .ok (.aload_n 0, 1) := by decide +kernel
theorem dX4_takesFlag_1 : decode cX4_takesFlag 1 = .ok (.getfield 18, 3) := by decide +kernel
theorem dX4_takesFlag_4 : decode cX4_takesFlag 4 = .ok (.iconst 2, 1) := by decide +kernel
theorem dX4_takesFlag_5 : decode cX4_takesFlag 5 = .ok (.if_icmp .ne 14, 3) := by decide +kernel
theorem dX4_takesFlag_8 : decode cX4_takesFlag 8 = .ok (.iload_n 2, 1) := by decide +kernel
theorem dX4_takesFlag_9 : decode cX4_takesFlag 9 = .ok (.bipush 97, 2) := by decide +kernel
theorem dX4_takesFlag_11 : decode cX4_takesFlag 11 = .ok (.bipush 101, 2) := by decide +kernel
theorem dX4_takesFlag_13 : decode cX4_takesFlag 13 = .ok (.invokestatic 76, 3) := by decide +kernel
theorem dX4_takesFlag_16 : decode cX4_takesFlag 16 = .ok (.ifCond .ne 5, 3) := by decide +kernel
theorem dX4_takesFlag_19 : decode cX4_takesFlag 19 = .ok (.iconst 0, 1) := by decide +kernel
theorem dX4_takesFlag_20 : decode cX4_takesFlag 20 = .ok (.ireturn, 1) := by decide +kernel
theorem dX4_takesFlag_21 : decode cX4_takesFlag 21 = .ok (.aload_n 0, 1) := by decide +kernel
theorem dX4_takesFlag_22 : decode cX4_takesFlag 22 = .ok (.getfield 12, 3) := by decide +kernel
theorem dX4_takesFlag_25 : decode cX4_takesFlag 25 = .ok (.getfield 87, 3) := by decide +kernel
theorem dX4_takesFlag_28 : decode cX4_takesFlag 28 = .ok (.iload_n 1, 1) := by decide +kernel
theorem dX4_takesFlag_29 : decode cX4_takesFlag 29 = .ok (.iload_n 2, 1) := by decide +kernel
theorem dX4_takesFlag_30 : decode cX4_takesFlag 30 = .ok (.bipush 97, 2) := by decide +kernel
theorem dX4_takesFlag_32 : decode cX4_takesFlag 32 = .ok (.isub, 1) := by decide +kernel
theorem dX4_takesFlag_33 : decode cX4_takesFlag 33 = .ok (.iconst 1, 1) := by decide +kernel
theorem dX4_takesFlag_34 : decode cX4_takesFlag 34 = .ok (.iadd, 1) := by decide +kernel
theorem dX4_takesFlag_35 : decode cX4_takesFlag 35 = .ok (.iastore, 1) := by decide +kernel
theorem dX4_takesFlag_36 : decode cX4_takesFlag 36 = .ok (.aload_n 0, 1) := by decide +kernel
theorem dX4_takesFlag_37 : decode cX4_takesFlag 37 = .ok (.iconst 3, 1) := by decide +kernel
theorem dX4_takesFlag_38 : decode cX4_takesFlag 38 = .ok (.putfield 18, 3) := by decide +kernel
theorem dX4_takesFlag_41 : decode cX4_takesFlag 41 = .ok (.iconst 1, 1) := by decide +kernel
theorem dX4_takesFlag_42 : decode cX4_takesFlag 42 = .ok (.ireturn, 1) := by decide +kernel
set_option maxRecDepth 20000 in
theorem ggX4_takesSmoke_X7_isWithin : GoodIn wsX4_takesSmoke wsX7_isWithin := goodIn_r _ [6] (by decide +kernel) (by decide +kernel)
set_option maxRecDepth 20000 in
theorem gX4_takesSmoke_X7_isWithin_n76 : GoodIn wsX4_takesSmoke (wsX7_isWithin) := ggX4_takesSmoke_X7_isWithin
theorem dX4_takesSmoke_0 : decode cX4_takesSmoke 0 = .ok (.aload_n 0, 1) := by decide +kernel
theorem dX4_takesSmoke_1 : decode cX4_takesSmoke 1 = .ok (.getfield 18, 3) := by decide +kernel
theorem dX4_takesSmoke_4 : decode cX4_takesSmoke 4 = .ok (.iconst 2, 1) := by decide +kernel
theorem dX4_takesSmoke_5 : decode cX4_takesSmoke 5 = .ok (.iconst 3, 1) := by decide +kernel
theorem dX4_takesSmoke_6 : decode cX4_takesSmoke 6 = .ok (.invokestatic 76, 3) := by decide +kernel
theorem dX4_takesSmoke_9 : decode cX4_takesSmoke 9 = .ok (.ifCond .ne 5, 3) := by decide +kernel
theorem dX4_takesSmoke_12 : decode cX4_takesSmoke 12 = .ok (.iconst 0, 1) := by decide +kernel
theorem dX4_takesSmoke_13 : decode cX4_takesSmoke 13 = .ok (.ireturn, 1) := by decide +kernel
theorem dX4_takesSmoke_14 : decode cX4_takesSmoke 14 = .ok (.aload_n 0, 1) := by decide +kernel
theorem dX4_takesSmoke_15 : decode cX4_takesSmoke 15 = .ok (.getfield 12, 3) := by decide +kernel
theorem dX4_takesSmoke_18 : decode cX4_takesSmoke 18 = .ok (.getfield 91, 3) := by decide +kernel
theorem dX4_takesSmoke_21 : decode cX4_takesSmoke 21 = .ok (.iload_n 1, 1) := by decide +kernel
theorem dX4_takesSmoke_22 : decode cX4_takesSmoke 22 = .ok (.iconst 1, 1) := by decide +kernel
theorem dX4_takesSmoke_23 : decode cX4_takesSmoke 23 = .ok (.iastore, 1) := by decide +kernel
theorem dX4_takesSmoke_24 : decode cX4_takesSmoke 24 = .ok (.aload_n 0, 1) := by decide +kernel
theorem dX4_takesSmoke_25 : decode cX4_takesSmoke 25 = .ok (.iconst 4, 1) := by decide +kernel
theorem dX4_takesSmoke_26 : decode cX4_takesSmoke 26 = .ok (.putfield 18, 3) := by decide +kernel
theorem dX4_takesSmoke_29 : decode cX4_takesSmoke 29 = .ok (.iconst 1, 1) := by decide +kernel
theorem dX4_takesSmoke_30 : decode cX4_takesSmoke 30 = .ok (.ireturn, 1) := by decide +kernel
set_option maxRecDepth 20000 in
theorem ggX4_takesStar_X7_isWithin : GoodIn wsX4_takesStar wsX7_isWithin := goodIn_r _ [4] (by decide +kernel) (by decide +kernel)
set_option maxRecDepth 20000 in
theorem gX4_takesStar_X7_isWithin_n76 : GoodIn wsX4_takesStar (wsX7_isWithin) := ggX4_takesStar_X7_isWithin
theorem dX4_takesStar_0 : decode cX4_takesStar 0 = .ok (.aload_n 0, 1) := by decide +kernel
theorem dX4_takesStar_1 : decode cX4_takesStar 1 = .ok (.getfield 18, 3) := by decide +kernel
theorem dX4_takesStar_4 : decode cX4_takesStar 4 = .ok (.iconst 2, 1) := by decide +kernel
theorem dX4_takesStar_5 : decode cX4_takesStar 5 = .ok (.iconst 4, 1) := by decide +kernel
theorem dX4_takesStar_6 : decode cX4_takesStar 6 = .ok (.invokestatic 76, 3) := by decide +kernel
theorem dX4_takesStar_9 : decode cX4_takesStar 9 = .ok (.ifCond .ne 5, 3) := by decide +kernel
theorem dX4_takesStar_12 : decode cX4_takesStar 12 = .ok (.iconst 0, 1) := by decide +kernel
theorem dX4_takesStar_13 : decode cX4_takesStar 13 = .ok (.ireturn, 1) := by decide +kernel
theorem dX4_takesStar_14 : decode cX4_takesStar 14 = .ok (.aload_n 0, 1) := by decide +kernel
theorem dX4_takesStar_15 : decode cX4_takesStar 15 = .ok (.iconst 1, 1) := by decide +kernel
theorem dX4_takesStar_16 : decode cX4_takesStar 16 = .ok (.putfield 18, 3) := by decide +kernel
theorem dX4_takesStar_19 : decode cX4_takesStar 19 = .ok (.iconst 1, 1) := by decide +kernel
theorem dX4_takesStar_20 : decode cX4_takesStar 20 = .ok (.ireturn, 1) := by decide +kernel
set_option maxRecDepth 20000 in
theorem ggX4_takesFirstDigit_X4_isDigit : GoodIn wsX4_takesFirstDigit wsX4_isDigit := goodIn_r _ [7, 8, 9, 10] (by decide +kernel) (by decide +kernel)
set_option maxRecDepth 20000 in
theorem gX4_takesFirstDigit_X4_isDigit : GoodIn wsX4_takesFirstDigit (va_wsS RX4 67 yX4_isDigit wsX4_isDigit) := goodIn_app (goodIn_of _ (by decide +kernel)) ggX4_takesFirstDigit_X4_isDigit
theorem dX4_takesFirstDigit_0 : decode cX4_takesFirstDigit 0 = .ok (.iload_n 2, 1) := by decide +kernel
theorem dX4_takesFirstDigit_1 : decode cX4_takesFirstDigit 1 = .ok (.invokestatic 67, 3) := by decide +kernel
theorem dX4_takesFirstDigit_4 : decode cX4_takesFirstDigit 4 = .ok (.ifCond .ne 5, 3) := by decide +kernel
theorem dX4_takesFirstDigit_7 : decode cX4_takesFirstDigit 7 = .ok (.iconst 0, 1) := by decide +kernel
theorem dX4_takesFirstDigit_8 : decode cX4_takesFirstDigit 8 = .ok (.ireturn, 1) := by decide +kernel
theorem dX4_takesFirstDigit_9 : decode cX4_takesFirstDigit 9 = .ok (.aload_n 0, 1) := by decide +kernel
theorem dX4_takesFirstDigit_10 : decode cX4_takesFirstDigit 10 = .ok (.getfield 12, 3) := by decide +kernel
theorem dX4_takesFirstDigit_13 : decode cX4_takesFirstDigit 13 = .ok (.getfield 94, 3) := by decide +kernel
theorem dX4_takesFirstDigit_16 : decode cX4_takesFirstDigit 16 = .ok (.iload_n 1, 1) := by decide +kernel
theorem dX4_takesFirstDigit_17 : decode cX4_takesFirstDigit 17 = .ok (.iload_n 2, 1) := by decide +kernel
theorem dX4_takesFirstDigit_18 : decode cX4_takesFirstDigit 18 = .ok (.bipush 48, 2) := by decide +kernel
theorem dX4_takesFirstDigit_20 : decode cX4_takesFirstDigit 20 = .ok (.isub, 1) := by decide +kernel
theorem dX4_takesFirstDigit_21 : decode cX4_takesFirstDigit 21 = .ok (.iastore, 1) := by decide +kernel
theorem dX4_takesFirstDigit_22 : decode cX4_takesFirstDigit 22 = .ok (.aload_n 0, 1) := by decide +kernel
theorem dX4_takesFirstDigit_23 : decode cX4_takesFirstDigit 23 = .ok (.iload_n 2, 1) := by decide +kernel
theorem dX4_takesFirstDigit_24 : decode cX4_takesFirstDigit 24 = .ok (.bipush 48, 2) := by decide +kernel
theorem dX4_takesFirstDigit_26 : decode cX4_takesFirstDigit 26 = .ok (.if_icmp .ne 8, 3) := by decide +kernel
theorem dX4_takesFirstDigit_29 : decode cX4_takesFirstDigit 29 = .ok (.bipush 6, 2) := by decide +kernel
theorem dX4_takesFirstDigit_31 : decode cX4_takesFirstDigit 31 = .ok (.goto 4, 3) := by decide +kernel
theorem dX4_takesFirstDigit_34 : decode cX4_takesFirstDigit 34 = .ok (.iconst 5, 1) := by decide +kernel
theorem dX4_takesFirstDigit_35 : decode cX4_takesFirstDigit 35 = .ok (.putfield 18, 3) := by decide +kernel
theorem dX4_takesFirstDigit_38 : decode cX4_takesFirstDigit 38 = .ok (.iconst 1, 1) := by decide +kernel
theorem dX4_takesFirstDigit_39 : decode cX4_takesFirstDigit 39 = .ok (.ireturn, 1) := by decide +kernel
theorem dX4_takesSecondDigit_0 : decode cX4_takesSecondDigit 0 = .ok (.aload_n 0, 1) := by decide +kernel
theorem dX4_takesSecondDigit_1 : decode cX4_takesSecondDigit 1 = .ok (.getfield 18, 3) := by decide +kernel
theorem dX4_takesSecondDigit_4 : decode cX4_takesSecondDigit 4 = .ok (.iconst 5, 1) := by decide +kernel
theorem dX4_takesSecondDigit_5 : decode cX4_takesSecondDigit 5 = .ok (.if_icmp .eq 5, 3) := by decide +kernel
theorem dX4_takesSecondDigit_8 : decode cX4_takesSecondDigit 8 = .ok (.iconst 0, 1) := by decide +kernel
theorem dX4_takesSecondDigit_9 : decode cX4_takesSecondDigit 9 = .ok (.ireturn, 1) := by decide +kernel
theorem dX4_takesSecondDigit_10 : decode cX4_takesSecondDigit 10 = .ok (.aload_n 0, 1) := by decide +kernel
theorem dX4_takesSecondDigit_11 : decode cX4_takesSecondDigit 11 = .ok (.getfield 12, 3) := by decide +kernel
theorem dX4_takesSecondDigit_14 : decode cX4_takesSecondDigit 14 = .ok (.getfield 94, 3) := by decide +kernel
theorem dX4_takesSecondDigit_17 : decode cX4_takesSecondDigit 17 = .ok (.iload_n 1, 1) := by decide +kernel
theorem dX4_takesSecondDigit_18 : decode cX4_takesSecondDigit 18 = .ok (.bipush 10, 2) := by decide +kernel
theorem dX4_takesSecondDigit_20 : decode cX4_takesSecondDigit 20 = .ok (.aload_n 0, 1) := by decide +kernel
theorem dX4_takesSecondDigit_21 : decode cX4_takesSecondDigit 21 = .ok (.getfield 12, 3) := by decide +kernel
theorem dX4_takesSecondDigit_24 : decode cX4_takesSecondDigit 24 = .ok (.getfield 94, 3) := by decide +kernel
theorem dX4_takesSecondDigit_27 : decode cX4_takesSecondDigit 27 = .ok (.iload_n 1, 1) := by decide +kernel
theorem dX4_takesSecondDigit_28 : decode cX4_takesSecondDigit 28 = .ok (.iaload, 1) := by decide +kernel
theorem dX4_takesSecondDigit_29 : decode cX4_takesSecondDigit 29 = .ok (.imul, 1) := by decide +kernel
theorem dX4_takesSecondDigit_30 : decode cX4_takesSecondDigit 30 = .ok (.iload_n 2, 1) := by decide +kernel
theorem dX4_takesSecondDigit_31 : decode cX4_takesSecondDigit 31 = .ok (.iadd, 1) := by decide +kernel
theorem dX4_takesSecondDigit_32 : decode cX4_takesSecondDigit 32 = .ok (.bipush 48, 2) := by decide +kernel
theorem dX4_takesSecondDigit_34 : decode cX4_takesSecondDigit 34 = .ok (.isub, 1) := by decide +kernel
theorem dX4_takesSecondDigit_35 : decode cX4_takesSecondDigit 35 = .ok (.iastore, 1) := by decide +kernel
theorem dX4_takesSecondDigit_36 : decode cX4_takesSecondDigit 36 = .ok (.aload_n 0, 1) := by decide +kernel
theorem dX4_takesSecondDigit_37 : decode cX4_takesSecondDigit 37 = .ok (.bipush 6, 2) := by decide +kernel
theorem dX4_takesSecondDigit_39 : decode cX4_takesSecondDigit 39 = .ok (.putfield 18, 3) := by decide +kernel
theorem dX4_takesSecondDigit_42 : decode cX4_takesSecondDigit 42 = .ok (.iconst 1, 1) := by decide +kernel
theorem dX4_takesSecondDigit_43 : decode cX4_takesSecondDigit 43 = .ok (.ireturn, 1) := by decide +kernel
set_option maxRecDepth 20000 in
theorem ggX4_opens_X7_isWithin : GoodIn wsX4_opens wsX7_isWithin := goodIn_r _ [5] (by decide +kernel) (by decide +kernel)
set_option maxRecDepth 20000 in
theorem gX4_opens_X7_isWithin_n76 : GoodIn wsX4_opens (wsX7_isWithin) := ggX4_opens_X7_isWithin
theorem dX4_opens_0 : decode cX4_opens 0 = .ok (.aload_n 0, 1) := by decide +kernel
theorem dX4_opens_1 : decode cX4_opens 1 = .ok (.getfield 18, 3) := by decide +kernel
theorem dX4_opens_4 : decode cX4_opens 4 = .ok (.iconst 2, 1) := by decide +kernel
theorem dX4_opens_5 : decode cX4_opens 5 = .ok (.bipush 6, 2) := by decide +kernel
theorem dX4_opens_7 : decode cX4_opens 7 = .ok (.invokestatic 76, 3) := by decide +kernel
theorem dX4_opens_10 : decode cX4_opens 10 = .ok (.ifCond .ne 5, 3) := by decide +kernel
theorem dX4_opens_13 : decode cX4_opens 13 = .ok (.iconst 0, 1) := by decide +kernel
theorem dX4_opens_14 : decode cX4_opens 14 = .ok (.ireturn, 1) := by decide +kernel
theorem dX4_opens_15 : decode cX4_opens 15 = .ok (.aload_n 0, 1) := by decide +kernel
theorem dX4_opens_16 : decode cX4_opens 16 = .ok (.iload_n 1, 1) := by decide +kernel
theorem dX4_opens_17 : decode cX4_opens 17 = .ok (.putfield 22, 3) := by decide +kernel
theorem dX4_opens_20 : decode cX4_opens 20 = .ok (.aload_n 0, 1) := by decide +kernel
theorem dX4_opens_21 : decode cX4_opens 21 = .ok (.iconst 0, 1) := by decide +kernel
theorem dX4_opens_22 : decode cX4_opens 22 = .ok (.putfield 18, 3) := by decide +kernel
theorem dX4_opens_25 : decode cX4_opens 25 = .ok (.iconst 1, 1) := by decide +kernel
theorem dX4_opens_26 : decode cX4_opens 26 = .ok (.ireturn, 1) := by decide +kernel
set_option maxRecDepth 20000 in
theorem ggX4_goesOn_X5_has : GoodIn wsX4_goesOn wsX5_has := goodIn_r _ [8, 9, 10, 11, 12, 16, 17, 18, 19, 20, 21] (by decide +kernel) (by decide +kernel)
set_option maxRecDepth 20000 in
theorem gX4_goesOn_X5_has : GoodIn wsX4_goesOn (wsV RX4 97 RX5 yX5_has wsX5_has) := goodIn_app (goodIn_of _ (by decide +kernel)) ggX4_goesOn_X5_has
theorem dX4_goesOn_0 : decode cX4_goesOn 0 = .ok (.aload_n 0, 1) := by decide +kernel
theorem dX4_goesOn_1 : decode cX4_goesOn 1 = .ok (.getfield 12, 3) := by decide +kernel
theorem dX4_goesOn_4 : decode cX4_goesOn 4 = .ok (.aload_n 0, 1) := by decide +kernel
theorem dX4_goesOn_5 : decode cX4_goesOn 5 = .ok (.getfield 22, 3) := by decide +kernel
theorem dX4_goesOn_8 : decode cX4_goesOn 8 = .ok (.invokevirtual 97, 3) := by decide +kernel
theorem dX4_goesOn_11 : decode cX4_goesOn 11 = .ok (.ifCond .ne 5, 3) := by decide +kernel
theorem dX4_goesOn_14 : decode cX4_goesOn 14 = .ok (.iconst 0, 1) := by decide +kernel
theorem dX4_goesOn_15 : decode cX4_goesOn 15 = .ok (.ireturn, 1) := by decide +kernel
theorem dX4_goesOn_16 : decode cX4_goesOn 16 = .ok (.aload_n 0, 1) := by decide +kernel
theorem dX4_goesOn_17 : decode cX4_goesOn 17 = .ok (.iconst 0, 1) := by decide +kernel
theorem dX4_goesOn_18 : decode cX4_goesOn 18 = .ok (.putfield 18, 3) := by decide +kernel
theorem dX4_goesOn_21 : decode cX4_goesOn 21 = .ok (.iconst 1, 1) := by decide +kernel
theorem dX4_goesOn_22 : decode cX4_goesOn 22 = .ok (.ireturn, 1) := by decide +kernel
set_option maxRecDepth 20000 in
theorem ggX4_closes_X5_has : GoodIn wsX4_closes wsX5_has := goodIn_r _ [9, 10, 11, 12, 13, 17, 18, 19, 20, 21, 22] (by decide +kernel) (by decide +kernel)
set_option maxRecDepth 20000 in
theorem gX4_closes_X5_has : GoodIn wsX4_closes (wsV RX4 97 RX5 yX5_has wsX5_has) := goodIn_app (goodIn_of _ (by decide +kernel)) ggX4_closes_X5_has
theorem dX4_closes_0 : decode cX4_closes 0 = .ok (.aload_n 0, 1) := by decide +kernel
theorem dX4_closes_1 : decode cX4_closes 1 = .ok (.getfield 12, 3) := by decide +kernel
theorem dX4_closes_4 : decode cX4_closes 4 = .ok (.aload_n 0, 1) := by decide +kernel
theorem dX4_closes_5 : decode cX4_closes 5 = .ok (.getfield 22, 3) := by decide +kernel
theorem dX4_closes_8 : decode cX4_closes 8 = .ok (.invokevirtual 97, 3) := by decide +kernel
theorem dX4_closes_11 : decode cX4_closes 11 = .ok (.ifCond .ne 5, 3) := by decide +kernel
theorem dX4_closes_14 : decode cX4_closes 14 = .ok (.iconst 0, 1) := by decide +kernel
theorem dX4_closes_15 : decode cX4_closes 15 = .ok (.ireturn, 1) := by decide +kernel
theorem dX4_closes_16 : decode cX4_closes 16 = .ok (.aload_n 0, 1) := by decide +kernel
theorem dX4_closes_17 : decode cX4_closes 17 = .ok (.aload_n 0, 1) := by decide +kernel
theorem dX4_closes_18 : decode cX4_closes 18 = .ok (.getfield 12, 3) := by decide +kernel
theorem dX4_closes_21 : decode cX4_closes 21 = .ok (.getfield 100, 3) := by decide +kernel
theorem dX4_closes_24 : decode cX4_closes 24 = .ok (.aload_n 0, 1) := by decide +kernel
theorem dX4_closes_25 : decode cX4_closes 25 = .ok (.getfield 22, 3) := by decide +kernel
theorem dX4_closes_28 : decode cX4_closes 28 = .ok (.iaload, 1) := by decide +kernel
theorem dX4_closes_29 : decode cX4_closes 29 = .ok (.putfield 22, 3) := by decide +kernel
theorem dX4_closes_32 : decode cX4_closes 32 = .ok (.aload_n 0, 1) := by decide +kernel
theorem dX4_closes_33 : decode cX4_closes 33 = .ok (.bipush 7, 2) := by decide +kernel
theorem dX4_closes_35 : decode cX4_closes 35 = .ok (.putfield 18, 3) := by decide +kernel
theorem dX4_closes_38 : decode cX4_closes 38 = .ok (.iconst 1, 1) := by decide +kernel
theorem dX4_closes_39 : decode cX4_closes 39 = .ok (.ireturn, 1) := by decide +kernel
set_option maxRecDepth 20000 in
theorem ggX4_isDigit_X7_isWithin : GoodIn wsX4_isDigit wsX7_isWithin := goodIn_r _ [3] (by decide +kernel) (by decide +kernel)
set_option maxRecDepth 20000 in
theorem gX4_isDigit_X7_isWithin_n76 : GoodIn wsX4_isDigit (wsX7_isWithin) := ggX4_isDigit_X7_isWithin
theorem dX4_isDigit_0 : decode cX4_isDigit 0 = .ok (.iload_n 0, 1) := by decide +kernel
theorem dX4_isDigit_1 : decode cX4_isDigit 1 = .ok (.bipush 48, 2) := by decide +kernel
theorem dX4_isDigit_3 : decode cX4_isDigit 3 = .ok (.bipush 57, 2) := by decide +kernel
theorem dX4_isDigit_5 : decode cX4_isDigit 5 = .ok (.invokestatic 76, 3) := by decide +kernel
theorem dX4_isDigit_8 : decode cX4_isDigit 8 = .ok (.ireturn, 1) := by decide +kernel
theorem dX5_init_0 : decode cX5_init 0 = .ok (.aload_n 0, 1) := by decide +kernel
theorem dX5_init_1 : decode cX5_init 1 = .ok (.invokespecial 3, 3) := by decide +kernel
theorem dX5_init_4 : decode cX5_init 4 = .ok (.aload_n 0, 1) := by decide +kernel
theorem dX5_init_5 : decode cX5_init 5 = .ok (.bipush 20, 2) := by decide +kernel
theorem dX5_init_7 : decode cX5_init 7 = .ok (.newarray .int, 2) := by decide +kernel
theorem dX5_init_9 : decode cX5_init 9 = .ok (.putfield 9, 3) := by decide +kernel
theorem dX5_init_12 : decode cX5_init 12 = .ok (.aload_n 0, 1) := by decide +kernel
theorem dX5_init_13 : decode cX5_init 13 = .ok (.bipush 20, 2) := by decide +kernel
theorem dX5_init_15 : decode cX5_init 15 = .ok (.newarray .int, 2) := by decide +kernel
theorem dX5_init_17 : decode cX5_init 17 = .ok (.putfield 15, 3) := by decide +kernel
theorem dX5_init_20 : decode cX5_init 20 = .ok (.aload_n 0, 1) := by decide +kernel
theorem dX5_init_21 : decode cX5_init 21 = .ok (.bipush 20, 2) := by decide +kernel
theorem dX5_init_23 : decode cX5_init 23 = .ok (.newarray .int, 2) := by decide +kernel
theorem dX5_init_25 : decode cX5_init 25 = .ok (.putfield 18, 3) := by decide +kernel
theorem dX5_init_28 : decode cX5_init 28 = .ok (.aload_n 0, 1) := by decide +kernel
theorem dX5_init_29 : decode cX5_init 29 = .ok (.bipush 20, 2) := by decide +kernel
theorem dX5_init_31 : decode cX5_init 31 = .ok (.newarray .int, 2) := by decide +kernel
theorem dX5_init_33 : decode cX5_init 33 = .ok (.putfield 21, 3) := by decide +kernel
theorem dX5_init_36 : decode cX5_init 36 = .ok (.aload_n 0, 1) := by decide +kernel
theorem dX5_init_37 : decode cX5_init 37 = .ok (.bipush 20, 2) := by decide +kernel
theorem dX5_init_39 : decode cX5_init 39 = .ok (.newarray .int, 2) := by decide +kernel
theorem dX5_init_41 : decode cX5_init 41 = .ok (.putfield 24, 3) := by decide +kernel
theorem dX5_init_44 : decode cX5_init 44 = .ok (.aload_n 0, 1) := by decide +kernel
theorem dX5_init_45 : decode cX5_init 45 = .ok (.iconst 0, 1) := by decide +kernel
theorem dX5_init_46 : decode cX5_init 46 = .ok (.putfield 27, 3) := by decide +kernel
theorem dX5_init_49 : decode cX5_init 49 = .ok (.return_, 1) := by decide +kernel
set_option maxRecDepth 20000 in
theorem ggX5_copy_X7_copyRow : GoodIn wsX5_copy wsX7_copyRow := goodIn_r _ [9, 10, 11, 12, 13, 14, 15, 16, 17] (by decide +kernel) (by decide +kernel)
set_option maxRecDepth 20000 in
theorem gX5_copy_X7_copyRow_n31 : GoodIn wsX5_copy (wsX7_copyRow) := ggX5_copy_X7_copyRow
theorem dX5_copy_0 : decode cX5_copy 0 = .ok (.aload_n 1, 1) := by decide +kernel
theorem dX5_copy_1 : decode cX5_copy 1 = .ok (.getfield 9, 3) := by decide +kernel
theorem dX5_copy_4 : decode cX5_copy 4 = .ok (.aload_n 0, 1) := by decide +kernel
theorem dX5_copy_5 : decode cX5_copy 5 = .ok (.getfield 9, 3) := by decide +kernel
theorem dX5_copy_8 : decode cX5_copy 8 = .ok (.invokestatic 31, 3) := by decide +kernel
theorem dX5_copy_11 : decode cX5_copy 11 = .ok (.aload_n 1, 1) := by decide +kernel
theorem dX5_copy_12 : decode cX5_copy 12 = .ok (.getfield 15, 3) := by decide +kernel
theorem dX5_copy_15 : decode cX5_copy 15 = .ok (.aload_n 0, 1) := by decide +kernel
theorem dX5_copy_16 : decode cX5_copy 16 = .ok (.getfield 15, 3) := by decide +kernel
theorem dX5_copy_19 : decode cX5_copy 19 = .ok (.invokestatic 31, 3) := by decide +kernel
theorem dX5_copy_22 : decode cX5_copy 22 = .ok (.aload_n 1, 1) := by decide +kernel
theorem dX5_copy_23 : decode cX5_copy 23 = .ok (.getfield 18, 3) := by decide +kernel
theorem dX5_copy_26 : decode cX5_copy 26 = .ok (.aload_n 0, 1) := by decide +kernel
theorem dX5_copy_27 : decode cX5_copy 27 = .ok (.getfield 18, 3) := by decide +kernel
theorem dX5_copy_30 : decode cX5_copy 30 = .ok (.invokestatic 31, 3) := by decide +kernel
theorem dX5_copy_33 : decode cX5_copy 33 = .ok (.aload_n 1, 1) := by decide +kernel
theorem dX5_copy_34 : decode cX5_copy 34 = .ok (.getfield 21, 3) := by decide +kernel
theorem dX5_copy_37 : decode cX5_copy 37 = .ok (.aload_n 0, 1) := by decide +kernel
theorem dX5_copy_38 : decode cX5_copy 38 = .ok (.getfield 21, 3) := by decide +kernel
theorem dX5_copy_41 : decode cX5_copy 41 = .ok (.invokestatic 31, 3) := by decide +kernel
theorem dX5_copy_44 : decode cX5_copy 44 = .ok (.aload_n 1, 1) := by decide +kernel
theorem dX5_copy_45 : decode cX5_copy 45 = .ok (.getfield 24, 3) := by decide +kernel
theorem dX5_copy_48 : decode cX5_copy 48 = .ok (.aload_n 0, 1) := by decide +kernel
theorem dX5_copy_49 : decode cX5_copy 49 = .ok (.getfield 24, 3) := by decide +kernel
theorem dX5_copy_52 : decode cX5_copy 52 = .ok (.invokestatic 31, 3) := by decide +kernel
theorem dX5_copy_55 : decode cX5_copy 55 = .ok (.aload_n 0, 1) := by decide +kernel
theorem dX5_copy_56 : decode cX5_copy 56 = .ok (.aload_n 1, 1) := by decide +kernel
theorem dX5_copy_57 : decode cX5_copy 57 = .ok (.getfield 27, 3) := by decide +kernel
theorem dX5_copy_60 : decode cX5_copy 60 = .ok (.putfield 27, 3) := by decide +kernel
theorem dX5_copy_63 : decode cX5_copy 63 = .ok (.return_, 1) := by decide +kernel
theorem dX5_clear_0 : decode cX5_clear 0 = .ok (.aload_n 0, 1) := by decide +kernel
theorem dX5_clear_1 : decode cX5_clear 1 = .ok (.iconst 0, 1) := by decide +kernel
theorem dX5_clear_2 : decode cX5_clear 2 = .ok (.putfield 27, 3) := by decide +kernel
theorem dX5_clear_5 : decode cX5_clear 5 = .ok (.return_, 1) := by decide +kernel
set_option maxRecDepth 20000 in
theorem ggX5_has_X7_isIndexOf : GoodIn wsX5_has wsX7_isIndexOf := goodIn_r _ [4] (by decide +kernel) (by decide +kernel)
set_option maxRecDepth 20000 in
theorem gX5_has_X7_isIndexOf_n35 : GoodIn wsX5_has (wsX7_isIndexOf) := ggX5_has_X7_isIndexOf
theorem dX5_has_0 : decode cX5_has 0 = .ok (.iload_n 1, 1) := by decide +kernel
theorem dX5_has_1 : decode cX5_has 1 = .ok (.aload_n 0, 1) := by decide +kernel
theorem dX5_has_2 : decode cX5_has 2 = .ok (.getfield 27, 3) := by decide +kernel
theorem dX5_has_5 : decode cX5_has 5 = .ok (.invokestatic 35, 3) := by decide +kernel
theorem dX5_has_8 : decode cX5_has 8 = .ok (.ireturn, 1) := by decide +kernel
set_option maxRecDepth 20000 in
theorem ggX5_hasRoomOff_X5_branchesOff : GoodIn wsX5_hasRoomOff wsX5_branchesOff := goodIn_r _ [6, 1, 7, 15, 16, 17, 18, 19, 20] (by decide +kernel) (by decide +kernel)
set_option maxRecDepth 20000 in
theorem gX5_hasRoomOff_X5_branchesOff : GoodIn wsX5_hasRoomOff (wsV RX5 39 RX5 yX5_branchesOff wsX5_branchesOff) := goodIn_app (goodIn_of _ (by decide +kernel)) ggX5_hasRoomOff_X5_branchesOff
set_option maxRecDepth 20000 in
theorem ggX5_hasRoomOff_J6_bitCount_0f7a4 : GoodIn wsX5_hasRoomOff wsJ6_bitCount_0f7a4 := goodIn_r _ [11, 12, 13, 14] (by decide +kernel) (by decide +kernel)
set_option maxRecDepth 20000 in
theorem gX5_hasRoomOff_J6_bitCount_0f7a4 : GoodIn wsX5_hasRoomOff (va_wsS RX5 43 yJ6_bitCount_0f7a4 wsJ6_bitCount_0f7a4) := goodIn_app (goodIn_of _ (by decide +kernel)) ggX5_hasRoomOff_J6_bitCount_0f7a4
theorem dX5_hasRoomOff_0 : decode cX5_hasRoomOff 0 = .ok (.aload_n 0, 1) := by decide +kernel
theorem dX5_hasRoomOff_1 : decode cX5_hasRoomOff 1 = .ok (.getfield 27, 3) := by decide +kernel
theorem dX5_hasRoomOff_4 : decode cX5_hasRoomOff 4 = .ok (.bipush 20, 2) := by decide +kernel
theorem dX5_hasRoomOff_6 : decode cX5_hasRoomOff 6 = .ok (.if_icmp .ge 19, 3) := by decide +kernel
theorem dX5_hasRoomOff_9 : decode cX5_hasRoomOff 9 = .ok (.aload_n 0, 1) := by decide +kernel
theorem dX5_hasRoomOff_10 : decode cX5_hasRoomOff 10 = .ok (.iload_n 1, 1) := by decide +kernel
theorem dX5_hasRoomOff_11 : decode cX5_hasRoomOff 11 = .ok (.invokevirtual 39, 3) := by decide +kernel
theorem dX5_hasRoomOff_14 : decode cX5_hasRoomOff 14 = .ok (.invokestatic 43, 3) := by decide +kernel
theorem dX5_hasRoomOff_17 : decode cX5_hasRoomOff 17 = .ok (.iconst 4, 1) := by decide +kernel
theorem dX5_hasRoomOff_18 : decode cX5_hasRoomOff 18 = .ok (.if_icmp .ge 7, 3) := by decide +kernel
theorem dX5_hasRoomOff_21 : decode cX5_hasRoomOff 21 = .ok (.iconst 1, 1) := by decide +kernel
theorem dX5_hasRoomOff_22 : decode cX5_hasRoomOff 22 = .ok (.goto 4, 3) := by decide +kernel
theorem dX5_hasRoomOff_25 : decode cX5_hasRoomOff 25 = .ok (.iconst 0, 1) := by decide +kernel
theorem dX5_hasRoomOff_26 : decode cX5_hasRoomOff 26 = .ok (.ireturn, 1) := by decide +kernel
theorem dX5_add_0 : decode cX5_add 0 = .ok (.aload_n 0, 1) := by decide +kernel
theorem dX5_add_1 : decode cX5_add 1 = .ok (.getfield 27, 3) := by decide +kernel
theorem dX5_add_4 : decode cX5_add 4 = .ok (.bipush 20, 2) := by decide +kernel
theorem dX5_add_6 : decode cX5_add 6 = .ok (.if_icmp .lt 6, 3) := by decide +kernel
theorem dX5_add_9 : decode cX5_add 9 = .ok (.bipush (-4), 2) := by decide +kernel
theorem dX5_add_11 : decode cX5_add 11 = .ok (.ireturn, 1) := by decide +kernel
theorem dX5_add_12 : decode cX5_add 12 = .ok (.aload_n 0, 1) := by decide +kernel
theorem dX5_add_13 : decode cX5_add 13 = .ok (.getfield 9, 3) := by decide +kernel
theorem dX5_add_16 : decode cX5_add 16 = .ok (.aload_n 0, 1) := by decide +kernel
theorem dX5_add_17 : decode cX5_add 17 = .ok (.getfield 27, 3) := by decide +kernel
theorem dX5_add_20 : decode cX5_add 20 = .ok (.iload_n 1, 1) := by decide +kernel
theorem dX5_add_21 : decode cX5_add 21 = .ok (.iastore, 1) := by decide +kernel
theorem dX5_add_22 : decode cX5_add 22 = .ok (.aload_n 0, 1) := by decide +kernel
theorem dX5_add_23 : decode cX5_add 23 = .ok (.getfield 15, 3) := by decide +kernel
theorem dX5_add_26 : decode cX5_add 26 = .ok (.aload_n 0, 1) := by decide +kernel
theorem dX5_add_27 : decode cX5_add 27 = .ok (.getfield 27, 3) := by decide +kernel
theorem dX5_add_30 : decode cX5_add 30 = .ok (.iload_n 2, 1) := by decide +kernel
theorem dX5_add_31 : decode cX5_add 31 = .ok (.iastore, 1) := by decide +kernel
theorem dX5_add_32 : decode cX5_add 32 = .ok (.aload_n 0, 1) := by decide +kernel
theorem dX5_add_33 : decode cX5_add 33 = .ok (.getfield 18, 3) := by decide +kernel
theorem dX5_add_36 : decode cX5_add 36 = .ok (.aload_n 0, 1) := by decide +kernel
theorem dX5_add_37 : decode cX5_add 37 = .ok (.getfield 27, 3) := by decide +kernel
theorem dX5_add_40 : decode cX5_add 40 = .ok (.iconst 0, 1) := by decide +kernel
theorem dX5_add_41 : decode cX5_add 41 = .ok (.iastore, 1) := by decide +kernel
theorem dX5_add_42 : decode cX5_add 42 = .ok (.aload_n 0, 1) := by decide +kernel
theorem dX5_add_43 : decode cX5_add 43 = .ok (.getfield 21, 3) := by decide +kernel
theorem dX5_add_46 : decode cX5_add 46 = .ok (.aload_n 0, 1) := by decide +kernel
theorem dX5_add_47 : decode cX5_add 47 = .ok (.getfield 27, 3) := by decide +kernel
theorem dX5_add_50 : decode cX5_add 50 = .ok (.iconst 0, 1) := by decide +kernel
theorem dX5_add_51 : decode cX5_add 51 = .ok (.iastore, 1) := by decide +kernel
theorem dX5_add_52 : decode cX5_add 52 = .ok (.aload_n 0, 1) := by decide +kernel
theorem dX5_add_53 : decode cX5_add 53 = .ok (.getfield 24, 3) := by decide +kernel
theorem dX5_add_56 : decode cX5_add 56 = .ok (.aload_n 0, 1) := by decide +kernel
theorem dX5_add_57 : decode cX5_add 57 = .ok (.getfield 27, 3) := by decide +kernel
theorem dX5_add_60 : decode cX5_add 60 = .ok (.iconst 0, 1) := by decide +kernel
theorem dX5_add_61 : decode cX5_add 61 = .ok (.iastore, 1) := by decide +kernel
theorem dX5_add_62 : decode cX5_add 62 = .ok (.aload_n 0, 1) := by decide +kernel
theorem dX5_add_63 : decode cX5_add 63 = .ok (.dup, 1) := by decide +kernel
theorem dX5_add_64 : decode cX5_add 64 = .ok (.getfield 27, 3) := by decide +kernel
theorem dX5_add_67 : decode cX5_add 67 = .ok (.iconst 1, 1) := by decide +kernel
theorem dX5_add_68 : decode cX5_add 68 = .ok (.iadd, 1) := by decide +kernel
theorem dX5_add_69 : decode cX5_add 69 = .ok (.putfield 27, 3) := by decide +kernel
theorem dX5_add_72 : decode cX5_add 72 = .ok (.aload_n 0, 1) := by decide +kernel
theorem dX5_add_73 : decode cX5_add 73 = .ok (.getfield 27, 3) := by decide +kernel
theorem dX5_add_76 : decode cX5_add 76 = .ok (.iconst 1, 1) := by decide +kernel
theorem dX5_add_77 : decode cX5_add 77 = .ok (.isub, 1) := by decide +kernel
theorem dX5_add_78 : decode cX5_add 78 = .ok (.ireturn, 1) := by decide +kernel
theorem dX5_changeable_0 : decode cX5_changeable 0 = .ok (.iload_n 1, 1) := by decide +kernel
theorem dX5_changeable_1 : decode cX5_changeable 1 = .ok (.tableswitch 42 0 2 #[27, 32, 37], 27) := by decide +kernel
theorem dX5_changeable_28 : decode cX5_changeable 28 = .ok (.aload_n 0, 1) := by decide +kernel
theorem dX5_changeable_29 : decode cX5_changeable 29 = .ok (.getfield 18, 3) := by decide +kernel
theorem dX5_changeable_32 : decode cX5_changeable 32 = .ok (.areturn, 1) := by decide +kernel
theorem dX5_changeable_33 : decode cX5_changeable 33 = .ok (.aload_n 0, 1) := by decide +kernel
theorem dX5_changeable_34 : decode cX5_changeable 34 = .ok (.getfield 21, 3) := by decide +kernel
theorem dX5_changeable_37 : decode cX5_changeable 37 = .ok (.areturn, 1) := by decide +kernel
theorem dX5_changeable_38 : decode cX5_changeable 38 = .ok (.aload_n 0, 1) := by decide +kernel
theorem dX5_changeable_39 : decode cX5_changeable 39 = .ok (.getfield 24, 3) := by decide +kernel
theorem dX5_changeable_42 : decode cX5_changeable 42 = .ok (.areturn, 1) := by decide +kernel
theorem dX5_changeable_43 : decode cX5_changeable 43 = .ok (.aload_n 0, 1) := by decide +kernel
theorem dX5_changeable_44 : decode cX5_changeable 44 = .ok (.getfield 15, 3) := by decide +kernel
theorem dX5_changeable_47 : decode cX5_changeable 47 = .ok (.areturn, 1) := by decide +kernel
theorem dX5_branchesOff_0 : decode cX5_branchesOff 0 = .ok (.iconst 0, 1) := by decide +kernel
theorem dX5_branchesOff_1 : decode cX5_branchesOff 1 = .ok (.istore_n 2, 1) := by decide +kernel
theorem dX5_branchesOff_2 : decode cX5_branchesOff 2 = .ok (.iconst 0, 1) := by decide +kernel
theorem dX5_branchesOff_3 : decode cX5_branchesOff 3 = .ok (.istore_n 3, 1) := by decide +kernel
theorem dX5_branchesOff_4 : decode cX5_branchesOff 4 = .ok (.iload_n 3, 1) := by decide +kernel
theorem dX5_branchesOff_5 : decode cX5_branchesOff 5 = .ok (.aload_n 0, 1) := by decide +kernel
theorem dX5_branchesOff_6 : decode cX5_branchesOff 6 = .ok (.getfield 27, 3) := by decide +kernel
theorem dX5_branchesOff_9 : decode cX5_branchesOff 9 = .ok (.if_icmp .ge 25, 3) := by decide +kernel
theorem dX5_branchesOff_12 : decode cX5_branchesOff 12 = .ok (.aload_n 0, 1) := by decide +kernel
theorem dX5_branchesOff_13 : decode cX5_branchesOff 13 = .ok (.getfield 9, 3) := by decide +kernel
theorem dX5_branchesOff_16 : decode cX5_branchesOff 16 = .ok (.iload_n 3, 1) := by decide +kernel
theorem dX5_branchesOff_17 : decode cX5_branchesOff 17 = .ok (.iaload, 1) := by decide +kernel
theorem dX5_branchesOff_18 : decode cX5_branchesOff 18 = .ok (.iload_n 1, 1) := by decide +kernel
theorem dX5_branchesOff_19 : decode cX5_branchesOff 19 = .ok (.if_icmp .ne 9, 3) := by decide +kernel
theorem dX5_branchesOff_22 : decode cX5_branchesOff 22 = .ok (.iload_n 2, 1) := by decide +kernel
theorem dX5_branchesOff_23 : decode cX5_branchesOff 23 = .ok (.iconst 1, 1) := by decide +kernel
theorem dX5_branchesOff_24 : decode cX5_branchesOff 24 = .ok (.iload_n 3, 1) := by decide +kernel
theorem dX5_branchesOff_25 : decode cX5_branchesOff 25 = .ok (.ishl, 1) := by decide +kernel
theorem dX5_branchesOff_26 : decode cX5_branchesOff 26 = .ok (.ior, 1) := by decide +kernel
theorem dX5_branchesOff_27 : decode cX5_branchesOff 27 = .ok (.istore_n 2, 1) := by decide +kernel
theorem dX5_branchesOff_28 : decode cX5_branchesOff 28 = .ok (.iinc 3 1, 3) := by decide +kernel
theorem dX5_branchesOff_31 : decode cX5_branchesOff 31 = .ok (.goto (-27), 3) := by decide +kernel
theorem dX5_branchesOff_34 : decode cX5_branchesOff 34 = .ok (.iload_n 2, 1) := by decide +kernel
theorem dX5_branchesOff_35 : decode cX5_branchesOff 35 = .ok (.ireturn, 1) := by decide +kernel
set_option maxRecDepth 20000 in
theorem ggX5_howManyBehind_J6_bitCount_0f7a4 : GoodIn wsX5_howManyBehind wsJ6_bitCount_0f7a4 := goodIn_r _ [6, 7, 8, 9] (by decide +kernel) (by decide +kernel)
set_option maxRecDepth 20000 in
theorem gX5_howManyBehind_J6_bitCount_0f7a4 : GoodIn wsX5_howManyBehind (va_wsS RX5 43 yJ6_bitCount_0f7a4 wsJ6_bitCount_0f7a4) := goodIn_app (goodIn_of _ (by decide +kernel)) ggX5_howManyBehind_J6_bitCount_0f7a4
theorem dX5_howManyBehind_0 : decode cX5_howManyBehind 0 = .ok (.iconst 1, 1) := by decide +kernel
theorem dX5_howManyBehind_1 : decode cX5_howManyBehind 1 = .ok (.iload_n 1, 1) := by decide +kernel
theorem dX5_howManyBehind_2 : decode cX5_howManyBehind 2 = .ok (.ishl, 1) := by decide +kernel
theorem dX5_howManyBehind_3 : decode cX5_howManyBehind 3 = .ok (.istore_n 2, 1) := by decide +kernel
theorem dX5_howManyBehind_4 : decode cX5_howManyBehind 4 = .ok (.iload_n 1, 1) := by decide +kernel
theorem dX5_howManyBehind_5 : decode cX5_howManyBehind 5 = .ok (.iconst 1, 1) := by decide +kernel
theorem dX5_howManyBehind_6 : decode cX5_howManyBehind 6 = .ok (.iadd, 1) := by decide +kernel
theorem dX5_howManyBehind_7 : decode cX5_howManyBehind 7 = .ok (.istore_n 3, 1) := by decide +kernel
theorem dX5_howManyBehind_8 : decode cX5_howManyBehind 8 = .ok (.iload_n 3, 1) := by decide +kernel
theorem dX5_howManyBehind_9 : decode cX5_howManyBehind 9 = .ok (.aload_n 0, 1) := by decide +kernel
theorem dX5_howManyBehind_10 : decode cX5_howManyBehind 10 = .ok (.getfield 27, 3) := by decide +kernel
theorem dX5_howManyBehind_13 : decode cX5_howManyBehind 13 = .ok (.if_icmp .ge 28, 3) := by decide +kernel
theorem dX5_howManyBehind_16 : decode cX5_howManyBehind 16 = .ok (.iload_n 2, 1) := by decide +kernel
theorem dX5_howManyBehind_17 : decode cX5_howManyBehind 17 = .ok (.iconst 1, 1) := by decide +kernel
theorem dX5_howManyBehind_18 : decode cX5_howManyBehind 18 = .ok (.aload_n 0, 1) := by decide +kernel
theorem dX5_howManyBehind_19 : decode cX5_howManyBehind 19 = .ok (.getfield 9, 3) := by decide +kernel
theorem dX5_howManyBehind_22 : decode cX5_howManyBehind 22 = .ok (.iload_n 3, 1) := by decide +kernel
theorem dX5_howManyBehind_23 : decode cX5_howManyBehind 23 = .ok (.iaload, 1) := by decide +kernel
theorem dX5_howManyBehind_24 : decode cX5_howManyBehind 24 = .ok (.ishl, 1) := by decide +kernel
theorem dX5_howManyBehind_25 : decode cX5_howManyBehind 25 = .ok (.iand, 1) := by decide +kernel
theorem dX5_howManyBehind_26 : decode cX5_howManyBehind 26 = .ok (.ifCond .eq 9, 3) := by decide +kernel
theorem dX5_howManyBehind_29 : decode cX5_howManyBehind 29 = .ok (.iload_n 2, 1) := by decide +kernel
theorem dX5_howManyBehind_30 : decode cX5_howManyBehind 30 = .ok (.iconst 1, 1) := by decide +kernel
theorem dX5_howManyBehind_31 : decode cX5_howManyBehind 31 = .ok (.iload_n 3, 1) := by decide +kernel
theorem dX5_howManyBehind_32 : decode cX5_howManyBehind 32 = .ok (.ishl, 1) := by decide +kernel
theorem dX5_howManyBehind_33 : decode cX5_howManyBehind 33 = .ok (.ior, 1) := by decide +kernel
theorem dX5_howManyBehind_34 : decode cX5_howManyBehind 34 = .ok (.istore_n 2, 1) := by decide +kernel
theorem dX5_howManyBehind_35 : decode cX5_howManyBehind 35 = .ok (.iinc 3 1, 3) := by decide +kernel
theorem dX5_howManyBehind_38 : decode cX5_howManyBehind 38 = .ok (.goto (-30), 3) := by decide +kernel
theorem dX5_howManyBehind_41 : decode cX5_howManyBehind 41 = .ok (.iload_n 2, 1) := by decide +kernel
theorem dX5_howManyBehind_42 : decode cX5_howManyBehind 42 = .ok (.invokestatic 43, 3) := by decide +kernel
theorem dX5_howManyBehind_45 : decode cX5_howManyBehind 45 = .ok (.iconst 1, 1) := by decide +kernel
theorem dX5_howManyBehind_46 : decode cX5_howManyBehind 46 = .ok (.isub, 1) := by decide +kernel
theorem dX5_howManyBehind_47 : decode cX5_howManyBehind 47 = .ok (.ireturn, 1) := by decide +kernel
set_option maxRecDepth 20000 in
theorem ggX5_howFarOff_X5_has : GoodIn wsX5_howFarOff wsX5_has := goodIn_r _ [6, 7, 8, 9, 10, 11, 12, 13, 14, 15, 16] (by decide +kernel) (by decide +kernel)
set_option maxRecDepth 20000 in
theorem gX5_howFarOff_X5_has : GoodIn wsX5_howFarOff (wsV RX5 48 RX5 yX5_has wsX5_has) := goodIn_app (goodIn_of _ (by decide +kernel)) ggX5_howFarOff_X5_has
theorem dX5_howFarOff_0 : decode cX5_howFarOff 0 = .ok (.iconst 0, 1) := by decide +kernel
theorem dX5_howFarOff_1 : decode cX5_howFarOff 1 = .ok (.istore_n 2, 1) := by decide +kernel
theorem dX5_howFarOff_2 : decode cX5_howFarOff 2 = .ok (.aload_n 0, 1) := by decide +kernel
theorem dX5_howFarOff_3 : decode cX5_howFarOff 3 = .ok (.getfield 9, 3) := by decide +kernel
theorem dX5_howFarOff_6 : decode cX5_howFarOff 6 = .ok (.iload_n 1, 1) := by decide +kernel
theorem dX5_howFarOff_7 : decode cX5_howFarOff 7 = .ok (.iaload, 1) := by decide +kernel
theorem dX5_howFarOff_8 : decode cX5_howFarOff 8 = .ok (.istore_n 3, 1) := by decide +kernel
theorem dX5_howFarOff_9 : decode cX5_howFarOff 9 = .ok (.aload_n 0, 1) := by decide +kernel
theorem dX5_howFarOff_10 : decode cX5_howFarOff 10 = .ok (.iload_n 3, 1) := by decide +kernel
theorem dX5_howFarOff_11 : decode cX5_howFarOff 11 = .ok (.invokevirtual 48, 3) := by decide +kernel
theorem dX5_howFarOff_14 : decode cX5_howFarOff 14 = .ok (.ifCond .eq 22, 3) := by decide +kernel
theorem dX5_howFarOff_17 : decode cX5_howFarOff 17 = .ok (.iload_n 2, 1) := by decide +kernel
theorem dX5_howFarOff_18 : decode cX5_howFarOff 18 = .ok (.bipush 20, 2) := by decide +kernel
theorem dX5_howFarOff_20 : decode cX5_howFarOff 20 = .ok (.if_icmp .ge 16, 3) := by decide +kernel
theorem dX5_howFarOff_23 : decode cX5_howFarOff 23 = .ok (.iinc 2 1, 3) := by decide +kernel
theorem dX5_howFarOff_26 : decode cX5_howFarOff 26 = .ok (.aload_n 0, 1) := by decide +kernel
theorem dX5_howFarOff_27 : decode cX5_howFarOff 27 = .ok (.getfield 9, 3) := by decide +kernel
theorem dX5_howFarOff_30 : decode cX5_howFarOff 30 = .ok (.iload_n 3, 1) := by decide +kernel
theorem dX5_howFarOff_31 : decode cX5_howFarOff 31 = .ok (.iaload, 1) := by decide +kernel
theorem dX5_howFarOff_32 : decode cX5_howFarOff 32 = .ok (.istore_n 3, 1) := by decide +kernel
theorem dX5_howFarOff_33 : decode cX5_howFarOff 33 = .ok (.goto (-24), 3) := by decide +kernel
theorem dX5_howFarOff_36 : decode cX5_howFarOff 36 = .ok (.iload_n 2, 1) := by decide +kernel
theorem dX5_howFarOff_37 : decode cX5_howFarOff 37 = .ok (.ireturn, 1) := by decide +kernel
theorem dX5_peopleOfAll_0 : decode cX5_peopleOfAll 0 = .ok (.iconst 0, 1) := by decide +kernel
theorem dX5_peopleOfAll_1 : decode cX5_peopleOfAll 1 = .ok (.istore_n 1, 1) := by decide +kernel
theorem dX5_peopleOfAll_2 : decode cX5_peopleOfAll 2 = .ok (.iconst 0, 1) := by decide +kernel
theorem dX5_peopleOfAll_3 : decode cX5_peopleOfAll 3 = .ok (.istore_n 2, 1) := by decide +kernel
theorem dX5_peopleOfAll_4 : decode cX5_peopleOfAll 4 = .ok (.iload_n 2, 1) := by decide +kernel
theorem dX5_peopleOfAll_5 : decode cX5_peopleOfAll 5 = .ok (.aload_n 0, 1) := by decide +kernel
theorem dX5_peopleOfAll_6 : decode cX5_peopleOfAll 6 = .ok (.getfield 27, 3) := by decide +kernel
theorem dX5_peopleOfAll_9 : decode cX5_peopleOfAll 9 = .ok (.if_icmp .ge 18, 3) := by decide +kernel
theorem dX5_peopleOfAll_12 : decode cX5_peopleOfAll 12 = .ok (.iload_n 1, 1) := by decide +kernel
theorem dX5_peopleOfAll_13 : decode cX5_peopleOfAll 13 = .ok (.aload_n 0, 1) := by decide +kernel
theorem dX5_peopleOfAll_14 : decode cX5_peopleOfAll 14 = .ok (.getfield 24, 3) := by decide +kernel
theorem dX5_peopleOfAll_17 : decode cX5_peopleOfAll 17 = .ok (.iload_n 2, 1) := by decide +kernel
theorem dX5_peopleOfAll_18 : decode cX5_peopleOfAll 18 = .ok (.iaload, 1) := by decide +kernel
theorem dX5_peopleOfAll_19 : decode cX5_peopleOfAll 19 = .ok (.iadd, 1) := by decide +kernel
theorem dX5_peopleOfAll_20 : decode cX5_peopleOfAll 20 = .ok (.istore_n 1, 1) := by decide +kernel
theorem dX5_peopleOfAll_21 : decode cX5_peopleOfAll 21 = .ok (.iinc 2 1, 3) := by decide +kernel
theorem dX5_peopleOfAll_24 : decode cX5_peopleOfAll 24 = .ok (.goto (-20), 3) := by decide +kernel
theorem dX5_peopleOfAll_27 : decode cX5_peopleOfAll 27 = .ok (.iload_n 1, 1) := by decide +kernel
theorem dX5_peopleOfAll_28 : decode cX5_peopleOfAll 28 = .ok (.ireturn, 1) := by decide +kernel
set_option maxRecDepth 20000 in
theorem ggX6_init_X5_init : GoodIn wsX6_init wsX5_init := goodIn_r _ [21, 22, 2, 3, 23, 24, 25, 26, 27, 28, 29, 46, 47, 48, 49, 50, 51] (by decide +kernel) (by decide +kernel)
set_option maxRecDepth 20000 in
theorem gX6_init_X5_init_n25 : GoodIn wsX6_init (wsX5_init) := ggX6_init_X5_init
set_option maxRecDepth 20000 in
theorem ggX6_init_X2_init : GoodIn wsX6_init wsX2_init := goodIn_r _ [31, 32, 2, 3, 23, 33, 34, 35, 36, 37, 52, 53, 54, 55, 56] (by decide +kernel) (by decide +kernel)
set_option maxRecDepth 20000 in
theorem gX6_init_X2_init_n32 : GoodIn wsX6_init (wsX2_init) := ggX6_init_X2_init
set_option maxRecDepth 20000 in
theorem ggX6_init_X5_add : GoodIn wsX6_init wsX5_add := goodIn_r _ [41, 29, 24, 25, 26, 27, 28, 46, 47, 48, 49, 50, 51] (by decide +kernel) (by decide +kernel)
set_option maxRecDepth 20000 in
theorem gX6_init_X5_add : GoodIn wsX6_init (wsV RX6 41 RX5 yX5_add wsX5_add) := goodIn_app (goodIn_of _ (by decide +kernel)) ggX6_init_X5_add
theorem dX6_init_0 : decode cX6_init 0 = .ok (.aload_n 0, 1) := by decide +kernel
theorem dX6_init_1 : decode cX6_init 1 = .ok (.invokespecial 3, 3) := by decide +kernel
theorem dX6_init_4 : decode cX6_init 4 = .ok (.aload_n 0, 1) := by decide +kernel
theorem dX6_init_5 : decode cX6_init 5 = .ok (.getstatic 9, 3) := by decide +kernel
theorem dX6_init_8 : decode cX6_init 8 = .ok (.invokevirtual 13, 3) := by decide +kernel
theorem dX6_init_11 : decode cX6_init 11 = .ok (.checkcast 14, 3) := by decide +kernel
theorem dX6_init_14 : decode cX6_init 14 = .ok (.putfield 18, 3) := by decide +kernel
theorem dX6_init_17 : decode cX6_init 17 = .ok (.aload_n 0, 1) := by decide +kernel
theorem dX6_init_18 : decode cX6_init 18 = .ok (.new 23, 3) := by decide +kernel
theorem dX6_init_21 : decode cX6_init 21 = .ok (.dup, 1) := by decide +kernel
theorem dX6_init_22 : decode cX6_init 22 = .ok (.invokespecial 25, 3) := by decide +kernel
theorem dX6_init_25 : decode cX6_init 25 = .ok (.putfield 26, 3) := by decide +kernel
theorem dX6_init_28 : decode cX6_init 28 = .ok (.aload_n 0, 1) := by decide +kernel
theorem dX6_init_29 : decode cX6_init 29 = .ok (.new 30, 3) := by decide +kernel
theorem dX6_init_32 : decode cX6_init 32 = .ok (.dup, 1) := by decide +kernel
theorem dX6_init_33 : decode cX6_init 33 = .ok (.invokespecial 32, 3) := by decide +kernel
theorem dX6_init_36 : decode cX6_init 36 = .ok (.putfield 33, 3) := by decide +kernel
theorem dX6_init_39 : decode cX6_init 39 = .ok (.aload_n 0, 1) := by decide +kernel
theorem dX6_init_40 : decode cX6_init 40 = .ok (.iconst 0, 1) := by decide +kernel
theorem dX6_init_41 : decode cX6_init 41 = .ok (.putfield 37, 3) := by decide +kernel
theorem dX6_init_44 : decode cX6_init 44 = .ok (.aload_n 0, 1) := by decide +kernel
theorem dX6_init_45 : decode cX6_init 45 = .ok (.getfield 26, 3) := by decide +kernel
theorem dX6_init_48 : decode cX6_init 48 = .ok (.bipush (-6), 2) := by decide +kernel
theorem dX6_init_50 : decode cX6_init 50 = .ok (.iconst 1, 1) := by decide +kernel
theorem dX6_init_51 : decode cX6_init 51 = .ok (.invokevirtual 41, 3) := by decide +kernel
theorem dX6_init_54 : decode cX6_init 54 = .ok (.pop, 1) := by decide +kernel
theorem dX6_init_55 : decode cX6_init 55 = .ok (.return_, 1) := by decide +kernel
set_option maxRecDepth 20000 in
theorem ggX6_copy_X7_copyRow : GoodIn wsX6_copy wsX7_copyRow := goodIn_r _ [7, 8, 9, 10, 11, 12, 13, 14, 15] (by decide +kernel) (by decide +kernel)
set_option maxRecDepth 20000 in
theorem gX6_copy_X7_copyRow_n45 : GoodIn wsX6_copy (wsX7_copyRow) := ggX6_copy_X7_copyRow
set_option maxRecDepth 20000 in
theorem ggX6_copy_X5_copy : GoodIn wsX6_copy wsX5_copy := goodIn_r _ [20, 21, 22, 23, 24, 25, 26, 5, 6, 7, 8, 9, 10, 11, 12, 13, 14, 15, 41, 42, 43, 44, 45, 46] (by decide +kernel) (by decide +kernel)
set_option maxRecDepth 20000 in
theorem gX6_copy_X5_copy : GoodIn wsX6_copy (wsV RX6 49 RX5 yX5_copy wsX5_copy) := goodIn_app (goodIn_of _ (by decide +kernel)) ggX6_copy_X5_copy
set_option maxRecDepth 20000 in
theorem ggX6_copy_X2_copy : GoodIn wsX6_copy wsX2_copy := goodIn_r _ [31, 32, 33, 34, 35, 36, 5, 6, 7, 8, 9, 10, 11, 12, 13, 14, 15, 47, 48, 49, 50, 51] (by decide +kernel) (by decide +kernel)
set_option maxRecDepth 20000 in
theorem gX6_copy_X2_copy : GoodIn wsX6_copy (wsV RX6 53 RX2 yX2_copy wsX2_copy) := goodIn_app (goodIn_of _ (by decide +kernel)) ggX6_copy_X2_copy
theorem dX6_copy_0 : decode cX6_copy 0 = .ok (.aload_n 1, 1) := by decide +kernel
theorem dX6_copy_1 : decode cX6_copy 1 = .ok (.getfield 18, 3) := by decide +kernel
theorem dX6_copy_4 : decode cX6_copy 4 = .ok (.aload_n 0, 1) := by decide +kernel
theorem dX6_copy_5 : decode cX6_copy 5 = .ok (.getfield 18, 3) := by decide +kernel
theorem dX6_copy_8 : decode cX6_copy 8 = .ok (.invokestatic 45, 3) := by decide +kernel
theorem dX6_copy_11 : decode cX6_copy 11 = .ok (.aload_n 0, 1) := by decide +kernel
theorem dX6_copy_12 : decode cX6_copy 12 = .ok (.getfield 26, 3) := by decide +kernel
theorem dX6_copy_15 : decode cX6_copy 15 = .ok (.aload_n 1, 1) := by decide +kernel
theorem dX6_copy_16 : decode cX6_copy 16 = .ok (.getfield 26, 3) := by decide +kernel
theorem dX6_copy_19 : decode cX6_copy 19 = .ok (.invokevirtual 49, 3) := by decide +kernel
theorem dX6_copy_22 : decode cX6_copy 22 = .ok (.aload_n 0, 1) := by decide +kernel
theorem dX6_copy_23 : decode cX6_copy 23 = .ok (.getfield 33, 3) := by decide +kernel
theorem dX6_copy_26 : decode cX6_copy 26 = .ok (.aload_n 1, 1) := by decide +kernel
theorem dX6_copy_27 : decode cX6_copy 27 = .ok (.getfield 33, 3) := by decide +kernel
theorem dX6_copy_30 : decode cX6_copy 30 = .ok (.invokevirtual 53, 3) := by decide +kernel
theorem dX6_copy_33 : decode cX6_copy 33 = .ok (.aload_n 0, 1) := by decide +kernel
theorem dX6_copy_34 : decode cX6_copy 34 = .ok (.aload_n 1, 1) := by decide +kernel
theorem dX6_copy_35 : decode cX6_copy 35 = .ok (.getfield 37, 3) := by decide +kernel
theorem dX6_copy_38 : decode cX6_copy 38 = .ok (.putfield 37, 3) := by decide +kernel
theorem dX6_copy_41 : decode cX6_copy 41 = .ok (.return_, 1) := by decide +kernel
