set_option maxRecDepth 20000 in
theorem ggX7_init_X6_init : GoodIn wsX7_init wsX6_init := goodIn_r _ [30, 31, 2, 3, 32, 33, 34, 35, 36, 37, 38, 39, 40, 41, 42, 43, 44, 45, 46, 47, 48, 49, 50, 51, 52, 53, 54, 55, 56, 57, 58, 59, 60, 61, 62, 63, 64, 65, 66, 67, 68, 69, 99, 100, 101, 102, 123, 124, 125, 126, 127, 128, 129, 130, 131, 132, 133] (by decide +kernel) (by decide +kernel)
set_option maxRecDepth 20000 in
theorem gX7_init_X6_init : GoodIn wsX7_init (wsX6_init) := ggX7_init_X6_init
set_option maxRecDepth 20000 in
theorem ggX7_init_X0_init : GoodIn wsX7_init wsX0_init := goodIn_r _ [71, 72, 2, 3, 51, 73, 74, 75, 111, 112, 113] (by decide +kernel) (by decide +kernel)
set_option maxRecDepth 20000 in
theorem gX7_init_X0_init_n18 : GoodIn wsX7_init (wsX0_init) := ggX7_init_X0_init
set_option maxRecDepth 20000 in
theorem ggX7_init_X1_init : GoodIn wsX7_init wsX1_init := goodIn_r _ [78, 79, 2, 3, 80, 81, 82, 83, 5, 6, 84, 29, 30, 31, 32, 33, 34, 35, 36, 37, 38, 39, 40, 41, 42, 43, 44, 45, 46, 47, 48, 49, 50, 51, 52, 53, 54, 55, 56, 57, 58, 59, 60, 61, 62, 63, 64, 65, 66, 67, 68, 69, 114, 115, 116, 99, 100, 101, 102, 123, 124, 125, 126, 127, 128, 129, 130, 131, 132, 133] (by decide +kernel) (by decide +kernel)
set_option maxRecDepth 20000 in
theorem gX7_init_X1_init : GoodIn wsX7_init (wsX1_init) := ggX7_init_X1_init
set_option maxRecDepth 20000 in
theorem ggX7_init_X3_init : GoodIn wsX7_init wsX3_init := goodIn_r _ [86, 87, 2, 3, 88, 89, 90, 91, 117, 118, 119] (by decide +kernel) (by decide +kernel)
set_option maxRecDepth 20000 in
theorem gX7_init_X3_init_n40 : GoodIn wsX7_init (wsX3_init) := ggX7_init_X3_init
set_option maxRecDepth 20000 in
theorem ggX7_init_X4_init : GoodIn wsX7_init wsX4_init := goodIn_r _ [93, 94, 2, 3, 95, 40, 41, 96, 97, 98, 48, 49, 50, 51, 52, 53, 54, 55, 56, 57, 123, 124, 125, 126, 127, 128, 120, 121, 122] (by decide +kernel) (by decide +kernel)
set_option maxRecDepth 20000 in
theorem gX7_init_X4_init_n50 : GoodIn wsX7_init (wsX4_init) := ggX7_init_X4_init
theorem dX7_init_0 : decode cX7_init 0 = .ok (.aload_n 0, 1) := by decide +kernel
theorem dX7_init_1 : decode cX7_init 1 = .ok (.invokespecial 1, 3) := by decide +kernel
theorem dX7_init_4 : decode cX7_init 4 = .ok (.aload_n 0, 1) := by decide +kernel
theorem dX7_init_5 : decode cX7_init 5 = .ok (.new 7, 3) := by decide +kernel
theorem dX7_init_8 : decode cX7_init 8 = .ok (.dup, 1) := by decide +kernel
theorem dX7_init_9 : decode cX7_init 9 = .ok (.invokespecial 9, 3) := by decide +kernel
theorem dX7_init_12 : decode cX7_init 12 = .ok (.putfield 10, 3) := by decide +kernel
theorem dX7_init_15 : decode cX7_init 15 = .ok (.aload_n 0, 1) := by decide +kernel
theorem dX7_init_16 : decode cX7_init 16 = .ok (.new 16, 3) := by decide +kernel
theorem dX7_init_19 : decode cX7_init 19 = .ok (.dup, 1) := by decide +kernel
theorem dX7_init_20 : decode cX7_init 20 = .ok (.invokespecial 18, 3) := by decide +kernel
theorem dX7_init_23 : decode cX7_init 23 = .ok (.putfield 19, 3) := by decide +kernel
theorem dX7_init_26 : decode cX7_init 26 = .ok (.aload_n 0, 1) := by decide +kernel
theorem dX7_init_27 : decode cX7_init 27 = .ok (.new 23, 3) := by decide +kernel
theorem dX7_init_30 : decode cX7_init 30 = .ok (.dup, 1) := by decide +kernel
theorem dX7_init_31 : decode cX7_init 31 = .ok (.invokespecial 25, 3) := by decide +kernel
theorem dX7_init_34 : decode cX7_init 34 = .ok (.putfield 26, 3) := by decide +kernel
theorem dX7_init_37 : decode cX7_init 37 = .ok (.aload_n 0, 1) := by decide +kernel
theorem dX7_init_38 : decode cX7_init 38 = .ok (.iconst 2, 1) := by decide +kernel
theorem dX7_init_39 : decode cX7_init 39 = .ok (.anewarray 7, 3) := by decide +kernel
theorem dX7_init_42 : decode cX7_init 42 = .ok (.putfield 30, 3) := by decide +kernel
theorem dX7_init_45 : decode cX7_init 45 = .ok (.aload_n 0, 1) := by decide +kernel
theorem dX7_init_46 : decode cX7_init 46 = .ok (.iconst 2, 1) := by decide +kernel
theorem dX7_init_47 : decode cX7_init 47 = .ok (.newarray .boolean, 2) := by decide +kernel
theorem dX7_init_49 : decode cX7_init 49 = .ok (.putfield 34, 3) := by decide +kernel
theorem dX7_init_52 : decode cX7_init 52 = .ok (.aload_n 0, 1) := by decide +kernel
theorem dX7_init_53 : decode cX7_init 53 = .ok (.new 38, 3) := by decide +kernel
theorem dX7_init_56 : decode cX7_init 56 = .ok (.dup, 1) := by decide +kernel
theorem dX7_init_57 : decode cX7_init 57 = .ok (.invokespecial 40, 3) := by decide +kernel
theorem dX7_init_60 : decode cX7_init 60 = .ok (.putfield 41, 3) := by decide +kernel
theorem dX7_init_63 : decode cX7_init 63 = .ok (.aload_n 0, 1) := by decide +kernel
theorem dX7_init_64 : decode cX7_init 64 = .ok (.new 38, 3) := by decide +kernel
theorem dX7_init_67 : decode cX7_init 67 = .ok (.dup, 1) := by decide +kernel
theorem dX7_init_68 : decode cX7_init 68 = .ok (.invokespecial 40, 3) := by decide +kernel
theorem dX7_init_71 : decode cX7_init 71 = .ok (.putfield 45, 3) := by decide +kernel
theorem dX7_init_74 : decode cX7_init 74 = .ok (.aload_n 0, 1) := by decide +kernel
theorem dX7_init_75 : decode cX7_init 75 = .ok (.new 48, 3) := by decide +kernel
theorem dX7_init_78 : decode cX7_init 78 = .ok (.dup, 1) := by decide +kernel
theorem dX7_init_79 : decode cX7_init 79 = .ok (.invokespecial 50, 3) := by decide +kernel
theorem dX7_init_82 : decode cX7_init 82 = .ok (.putfield 51, 3) := by decide +kernel
theorem dX7_init_85 : decode cX7_init 85 = .ok (.iconst 0, 1) := by decide +kernel
theorem dX7_init_86 : decode cX7_init 86 = .ok (.istore_n 1, 1) := by decide +kernel
theorem dX7_init_87 : decode cX7_init 87 = .ok (.iload_n 1, 1) := by decide +kernel
theorem dX7_init_88 : decode cX7_init 88 = .ok (.iconst 2, 1) := by decide +kernel
theorem dX7_init_89 : decode cX7_init 89 = .ok (.if_icmp .ge 22, 3) := by decide +kernel
theorem dX7_init_92 : decode cX7_init 92 = .ok (.aload_n 0, 1) := by decide +kernel
theorem dX7_init_93 : decode cX7_init 93 = .ok (.getfield 30, 3) := by decide +kernel
theorem dX7_init_96 : decode cX7_init 96 = .ok (.iload_n 1, 1) := by decide +kernel
theorem dX7_init_97 : decode cX7_init 97 = .ok (.new 7, 3) := by decide +kernel
theorem dX7_init_100 : decode cX7_init 100 = .ok (.dup, 1) := by decide +kernel
theorem dX7_init_101 : decode cX7_init 101 = .ok (.invokespecial 9, 3) := by decide +kernel
theorem dX7_init_104 : decode cX7_init 104 = .ok (.aastore, 1) := by decide +kernel
theorem dX7_init_105 : decode cX7_init 105 = .ok (.iinc 1 1, 3) := by decide +kernel
theorem dX7_init_108 : decode cX7_init 108 = .ok (.goto (-21), 3) := by decide +kernel
theorem dX7_init_111 : decode cX7_init 111 = .ok (.return_, 1) := by decide +kernel
set_option maxRecDepth 20000 in
theorem ggX7_set_X7_isIndexOf : GoodIn wsX7_set wsX7_isIndexOf := goodIn_r _ [10] (by decide +kernel) (by decide +kernel)
set_option maxRecDepth 20000 in
theorem gX7_set_X7_isIndexOf : GoodIn wsX7_set (va_wsS RX7 59 yX7_isIndexOf wsX7_isIndexOf) := goodIn_app (goodIn_of _ (by decide +kernel)) ggX7_set_X7_isIndexOf
set_option maxRecDepth 20000 in
theorem ggX7_set_X7_isWithin : GoodIn wsX7_set wsX7_isWithin := goodIn_r _ [13] (by decide +kernel) (by decide +kernel)
set_option maxRecDepth 20000 in
theorem gX7_set_X7_isWithin : GoodIn wsX7_set (va_wsS RX7 69 yX7_isWithin wsX7_isWithin) := goodIn_app (goodIn_of _ (by decide +kernel)) ggX7_set_X7_isWithin
set_option maxRecDepth 20000 in
theorem ggX7_set_X1_keep : GoodIn wsX7_set wsX1_keep := goodIn_r _ [18, 19, 20, 21, 22, 23, 24, 25, 26, 27, 28, 29, 30, 31, 9, 32, 33, 34, 35, 36, 37, 38, 39, 40, 41, 42, 43, 44, 45, 46, 47, 48, 49, 50, 51, 52, 53, 54, 55, 56, 57, 58, 59, 60, 61, 74, 75, 76, 70, 71, 72, 73, 77, 78, 79, 80, 81, 82, 83, 84, 85, 86, 87] (by decide +kernel) (by decide +kernel)
set_option maxRecDepth 20000 in
theorem gX7_set_X1_keep : GoodIn wsX7_set (wsV RX7 73 RX1 yX1_keep wsX1_keep) := goodIn_app (goodIn_of _ (by decide +kernel)) ggX7_set_X1_keep
theorem dX7_set_0 : decode cX7_set 0 = .ok (.iload_n 1, 1) := by decide +kernel
theorem dX7_set_1 : decode cX7_set 1 = .ok (.getstatic 55, 3) := by decide +kernel
theorem dX7_set_4 : decode cX7_set 4 = .ok (.arraylength, 1) := by decide +kernel
theorem dX7_set_5 : decode cX7_set 5 = .ok (.invokestatic 59, 3) := by decide +kernel
theorem dX7_set_8 : decode cX7_set 8 = .ok (.ifCond .ne 6, 3) := by decide +kernel
theorem dX7_set_11 : decode cX7_set 11 = .ok (.bipush (-2), 2) := by decide +kernel
theorem dX7_set_13 : decode cX7_set 13 = .ok (.ireturn, 1) := by decide +kernel
theorem dX7_set_14 : decode cX7_set 14 = .ok (.iload_n 2, 1) := by decide +kernel
theorem dX7_set_15 : decode cX7_set 15 = .ok (.getstatic 63, 3) := by decide +kernel
theorem dX7_set_18 : decode cX7_set 18 = .ok (.iload_n 1, 1) := by decide +kernel
theorem dX7_set_19 : decode cX7_set 19 = .ok (.iaload, 1) := by decide +kernel
theorem dX7_set_20 : decode cX7_set 20 = .ok (.getstatic 66, 3) := by decide +kernel
theorem dX7_set_23 : decode cX7_set 23 = .ok (.iload_n 1, 1) := by decide +kernel
theorem dX7_set_24 : decode cX7_set 24 = .ok (.iaload, 1) := by decide +kernel
theorem dX7_set_25 : decode cX7_set 25 = .ok (.invokestatic 69, 3) := by decide +kernel
theorem dX7_set_28 : decode cX7_set 28 = .ok (.ifCond .ne 6, 3) := by decide +kernel
theorem dX7_set_31 : decode cX7_set 31 = .ok (.bipush (-2), 2) := by decide +kernel
theorem dX7_set_33 : decode cX7_set 33 = .ok (.ireturn, 1) := by decide +kernel
theorem dX7_set_34 : decode cX7_set 34 = .ok (.aload_n 0, 1) := by decide +kernel
theorem dX7_set_35 : decode cX7_set 35 = .ok (.getfield 26, 3) := by decide +kernel
theorem dX7_set_38 : decode cX7_set 38 = .ok (.aload_n 0, 1) := by decide +kernel
theorem dX7_set_39 : decode cX7_set 39 = .ok (.getfield 10, 3) := by decide +kernel
theorem dX7_set_42 : decode cX7_set 42 = .ok (.invokevirtual 73, 3) := by decide +kernel
theorem dX7_set_45 : decode cX7_set 45 = .ok (.aload_n 0, 1) := by decide +kernel
theorem dX7_set_46 : decode cX7_set 46 = .ok (.getfield 10, 3) := by decide +kernel
theorem dX7_set_49 : decode cX7_set 49 = .ok (.getfield 77, 3) := by decide +kernel
theorem dX7_set_52 : decode cX7_set 52 = .ok (.iload_n 1, 1) := by decide +kernel
theorem dX7_set_53 : decode cX7_set 53 = .ok (.iaload, 1) := by decide +kernel
theorem dX7_set_54 : decode cX7_set 54 = .ok (.istore_n 3, 1) := by decide +kernel
theorem dX7_set_55 : decode cX7_set 55 = .ok (.aload_n 0, 1) := by decide +kernel
theorem dX7_set_56 : decode cX7_set 56 = .ok (.getfield 10, 3) := by decide +kernel
theorem dX7_set_59 : decode cX7_set 59 = .ok (.getfield 77, 3) := by decide +kernel
theorem dX7_set_62 : decode cX7_set 62 = .ok (.iload_n 1, 1) := by decide +kernel
theorem dX7_set_63 : decode cX7_set 63 = .ok (.iload_n 2, 1) := by decide +kernel
theorem dX7_set_64 : decode cX7_set 64 = .ok (.iastore, 1) := by decide +kernel
theorem dX7_set_65 : decode cX7_set 65 = .ok (.iload_n 3, 1) := by decide +kernel
theorem dX7_set_66 : decode cX7_set 66 = .ok (.ireturn, 1) := by decide +kernel
set_option maxRecDepth 20000 in
theorem ggX7_build_X4_read : GoodIn wsX7_build wsX4_read := goodIn_r _ [12, 13, 14, 15, 16, 17, 18, 19, 20, 21, 22, 23, 24, 25, 26, 11, 27, 28, 29, 30, 31, 32, 33, 34, 35, 36, 37, 38, 39, 40, 41, 42, 43, 44, 45, 46, 47, 48, 49, 50, 51, 52, 53, 54, 55, 56, 57, 58, 59, 60, 61, 62, 63, 64, 65, 66, 67, 68, 69, 70, 71, 72, 73, 74, 75, 76, 77, 78, 79, 80, 81, 82, 83, 84, 85, 86, 87, 88, 89, 90, 91, 92, 93, 94, 95, 96, 97, 98, 99, 100, 101, 102, 103, 104, 166, 167, 168, 175, 176, 177, 169, 170, 171, 172, 173, 174] (by decide +kernel) (by decide +kernel)
set_option maxRecDepth 20000 in
theorem gX7_build_X4_read : GoodIn wsX7_build (wsV RX7 80 RX4 yX4_read wsX4_read) := goodIn_app (goodIn_of _ (by decide +kernel)) ggX7_build_X4_read
set_option maxRecDepth 20000 in
theorem ggX7_build_X1_keep : GoodIn wsX7_build wsX1_keep := goodIn_r _ [109, 110, 111, 112, 113, 114, 115, 116, 117, 118, 119, 120, 121, 122, 34, 123, 124, 125, 126, 127, 128, 129, 130, 131, 132, 133, 134, 21, 135, 44, 56, 57, 58, 59, 23, 136, 137, 138, 139, 140, 141, 142, 143, 144, 145, 178, 179, 180, 162, 163, 164, 165, 169, 170, 171, 172, 173, 174, 181, 182, 183, 184, 185] (by decide +kernel) (by decide +kernel)
set_option maxRecDepth 20000 in
theorem gX7_build_X1_keep : GoodIn wsX7_build (wsV RX7 73 RX1 yX1_keep wsX1_keep) := goodIn_app (goodIn_of _ (by decide +kernel)) ggX7_build_X1_keep
set_option maxRecDepth 20000 in
theorem ggX7_build_X5_copy : GoodIn wsX7_build wsX5_copy := goodIn_r _ [135, 44, 56, 57, 58, 59, 23, 122, 34, 123, 124, 125, 126, 127, 128, 129, 130, 131, 169, 170, 171, 172, 173, 174] (by decide +kernel) (by decide +kernel)
set_option maxRecDepth 20000 in
theorem gX7_build_X5_copy : GoodIn wsX7_build (wsV RX7 89 RX5 yX5_copy wsX5_copy) := goodIn_app (goodIn_of _ (by decide +kernel)) ggX7_build_X5_copy
set_option maxRecDepth 20000 in
theorem ggX7_build_X3_clear : GoodIn wsX7_build wsX3_clear := goodIn_r _ [151, 152, 153, 175, 176, 177] (by decide +kernel) (by decide +kernel)
set_option maxRecDepth 20000 in
theorem gX7_build_X3_clear : GoodIn wsX7_build (wsV RX7 95 RX3 yX3_clear wsX3_clear) := goodIn_app (goodIn_of _ (by decide +kernel)) ggX7_build_X3_clear
theorem dX7_build_0 : decode cX7_build 0 = .ok (.aload_n 0, 1) := by decide +kernel
theorem dX7_build_1 : decode cX7_build 1 = .ok (.getfield 51, 3) := by decide +kernel
theorem dX7_build_4 : decode cX7_build 4 = .ok (.aload_n 0, 1) := by decide +kernel
theorem dX7_build_5 : decode cX7_build 5 = .ok (.getfield 41, 3) := by decide +kernel
theorem dX7_build_8 : decode cX7_build 8 = .ok (.invokevirtual 80, 3) := by decide +kernel
theorem dX7_build_11 : decode cX7_build 11 = .ok (.bipush (-6), 2) := by decide +kernel
theorem dX7_build_13 : decode cX7_build 13 = .ok (.if_icmp .eq 6, 3) := by decide +kernel
theorem dX7_build_16 : decode cX7_build 16 = .ok (.bipush (-3), 2) := by decide +kernel
theorem dX7_build_18 : decode cX7_build 18 = .ok (.ireturn, 1) := by decide +kernel
theorem dX7_build_19 : decode cX7_build 19 = .ok (.aload_n 0, 1) := by decide +kernel
theorem dX7_build_20 : decode cX7_build 20 = .ok (.getfield 26, 3) := by decide +kernel
theorem dX7_build_23 : decode cX7_build 23 = .ok (.aload_n 0, 1) := by decide +kernel
theorem dX7_build_24 : decode cX7_build 24 = .ok (.getfield 10, 3) := by decide +kernel
theorem dX7_build_27 : decode cX7_build 27 = .ok (.invokevirtual 73, 3) := by decide +kernel
theorem dX7_build_30 : decode cX7_build 30 = .ok (.aload_n 0, 1) := by decide +kernel
theorem dX7_build_31 : decode cX7_build 31 = .ok (.getfield 10, 3) := by decide +kernel
theorem dX7_build_34 : decode cX7_build 34 = .ok (.getfield 84, 3) := by decide +kernel
theorem dX7_build_37 : decode cX7_build 37 = .ok (.aload_n 0, 1) := by decide +kernel
theorem dX7_build_38 : decode cX7_build 38 = .ok (.getfield 51, 3) := by decide +kernel
theorem dX7_build_41 : decode cX7_build 41 = .ok (.getfield 88, 3) := by decide +kernel
theorem dX7_build_44 : decode cX7_build 44 = .ok (.invokevirtual 89, 3) := by decide +kernel
theorem dX7_build_47 : decode cX7_build 47 = .ok (.aload_n 0, 1) := by decide +kernel
theorem dX7_build_48 : decode cX7_build 48 = .ok (.getfield 41, 3) := by decide +kernel
theorem dX7_build_51 : decode cX7_build 51 = .ok (.invokevirtual 95, 3) := by decide +kernel
theorem dX7_build_54 : decode cX7_build 54 = .ok (.aload_n 0, 1) := by decide +kernel
theorem dX7_build_55 : decode cX7_build 55 = .ok (.getfield 10, 3) := by decide +kernel
theorem dX7_build_58 : decode cX7_build 58 = .ok (.getfield 84, 3) := by decide +kernel
theorem dX7_build_61 : decode cX7_build 61 = .ok (.getfield 98, 3) := by decide +kernel
theorem dX7_build_64 : decode cX7_build 64 = .ok (.ireturn, 1) := by decide +kernel
set_option maxRecDepth 20000 in
theorem ggX7_street_X5_has : GoodIn wsX7_street wsX5_has := goodIn_r _ [8, 9, 10, 11, 12, 93, 94, 95, 96, 97, 98] (by decide +kernel) (by decide +kernel)
set_option maxRecDepth 20000 in
theorem gX7_street_X5_has : GoodIn wsX7_street (wsV RX7 102 RX5 yX5_has wsX5_has) := goodIn_app (goodIn_of _ (by decide +kernel)) ggX7_street_X5_has
set_option maxRecDepth 20000 in
theorem ggX7_street_X7_isWithin : GoodIn wsX7_street wsX7_isWithin := goodIn_r _ [15] (by decide +kernel) (by decide +kernel)
set_option maxRecDepth 20000 in
theorem gX7_street_X7_isWithin : GoodIn wsX7_street (va_wsS RX7 69 yX7_isWithin wsX7_isWithin) := goodIn_app (goodIn_of _ (by decide +kernel)) ggX7_street_X7_isWithin
set_option maxRecDepth 20000 in
theorem ggX7_street_X5_hasRoomOff : GoodIn wsX7_street wsX5_hasRoomOff := goodIn_r _ [19, 9, 20, 21, 22, 7, 23, 24, 25, 26, 27, 28, 29, 30, 31, 93, 94, 95, 96, 97, 98] (by decide +kernel) (by decide +kernel)
set_option maxRecDepth 20000 in
theorem gX7_street_X5_hasRoomOff : GoodIn wsX7_street (wsV RX7 106 RX5 yX5_hasRoomOff wsX5_hasRoomOff) := goodIn_app (goodIn_of _ (by decide +kernel)) ggX7_street_X5_hasRoomOff
set_option maxRecDepth 20000 in
theorem ggX7_street_X1_keep : GoodIn wsX7_street wsX1_keep := goodIn_r _ [36, 37, 38, 39, 40, 41, 42, 43, 44, 45, 46, 47, 48, 49, 11, 50, 51, 52, 53, 54, 55, 56, 57, 58, 59, 60, 61, 7, 62, 24, 63, 64, 65, 66, 9, 67, 68, 69, 70, 71, 72, 73, 74, 75, 76, 99, 100, 101, 89, 90, 91, 92, 93, 94, 95, 96, 97, 98, 102, 103, 104, 105, 106] (by decide +kernel) (by decide +kernel)
set_option maxRecDepth 20000 in
theorem gX7_street_X1_keep : GoodIn wsX7_street (wsV RX7 73 RX1 yX1_keep wsX1_keep) := goodIn_app (goodIn_of _ (by decide +kernel)) ggX7_street_X1_keep
set_option maxRecDepth 20000 in
theorem ggX7_street_X5_add : GoodIn wsX7_street wsX5_add := goodIn_r _ [80, 9, 24, 63, 64, 65, 66, 93, 94, 95, 96, 97, 98] (by decide +kernel) (by decide +kernel)
set_option maxRecDepth 20000 in
theorem gX7_street_X5_add : GoodIn wsX7_street (wsV RX7 109 RX5 yX5_add wsX5_add) := goodIn_app (goodIn_of _ (by decide +kernel)) ggX7_street_X5_add
theorem dX7_street_0 : decode cX7_street 0 = .ok (.aload_n 0, 1) := by decide +kernel
theorem dX7_street_1 : decode cX7_street 1 = .ok (.getfield 10, 3) := by decide +kernel
theorem dX7_street_4 : decode cX7_street 4 = .ok (.getfield 84, 3) := by decide +kernel
theorem dX7_street_7 : decode cX7_street 7 = .ok (.iload_n 1, 1) := by decide +kernel
theorem dX7_street_8 : decode cX7_street 8 = .ok (.invokevirtual 102, 3) := by decide +kernel
theorem dX7_street_11 : decode cX7_street 11 = .ok (.ifCond .ne 5, 3) := by decide +kernel
theorem dX7_street_14 : decode cX7_street 14 = .ok (.iconst (-1), 1) := by decide +kernel
theorem dX7_street_15 : decode cX7_street 15 = .ok (.ireturn, 1) := by decide +kernel
theorem dX7_street_16 : decode cX7_street 16 = .ok (.iload_n 2, 1) := by decide +kernel
theorem dX7_street_17 : decode cX7_street 17 = .ok (.iconst 1, 1) := by decide +kernel
theorem dX7_street_18 : decode cX7_street 18 = .ok (.bipush 9, 2) := by decide +kernel
theorem dX7_street_20 : decode cX7_street 20 = .ok (.invokestatic 69, 3) := by decide +kernel
theorem dX7_street_23 : decode cX7_street 23 = .ok (.ifCond .ne 6, 3) := by decide +kernel
theorem dX7_street_26 : decode cX7_street 26 = .ok (.bipush (-2), 2) := by decide +kernel
theorem dX7_street_28 : decode cX7_street 28 = .ok (.ireturn, 1) := by decide +kernel
theorem dX7_street_29 : decode cX7_street 29 = .ok (.aload_n 0, 1) := by decide +kernel
theorem dX7_street_30 : decode cX7_street 30 = .ok (.getfield 10, 3) := by decide +kernel
theorem dX7_street_33 : decode cX7_street 33 = .ok (.getfield 84, 3) := by decide +kernel
theorem dX7_street_36 : decode cX7_street 36 = .ok (.iload_n 1, 1) := by decide +kernel
theorem dX7_street_37 : decode cX7_street 37 = .ok (.invokevirtual 106, 3) := by decide +kernel
theorem dX7_street_40 : decode cX7_street 40 = .ok (.ifCond .ne 6, 3) := by decide +kernel
theorem dX7_street_43 : decode cX7_street 43 = .ok (.bipush (-4), 2) := by decide +kernel
theorem dX7_street_45 : decode cX7_street 45 = .ok (.ireturn, 1) := by decide +kernel
theorem dX7_street_46 : decode cX7_street 46 = .ok (.aload_n 0, 1) := by decide +kernel
theorem dX7_street_47 : decode cX7_street 47 = .ok (.getfield 26, 3) := by decide +kernel
theorem dX7_street_50 : decode cX7_street 50 = .ok (.aload_n 0, 1) := by decide +kernel
theorem dX7_street_51 : decode cX7_street 51 = .ok (.getfield 10, 3) := by decide +kernel
theorem dX7_street_54 : decode cX7_street 54 = .ok (.invokevirtual 73, 3) := by decide +kernel
theorem dX7_street_57 : decode cX7_street 57 = .ok (.aload_n 0, 1) := by decide +kernel
theorem dX7_street_58 : decode cX7_street 58 = .ok (.getfield 10, 3) := by decide +kernel
theorem dX7_street_61 : decode cX7_street 61 = .ok (.getfield 84, 3) := by decide +kernel
theorem dX7_street_64 : decode cX7_street 64 = .ok (.iload_n 1, 1) := by decide +kernel
theorem dX7_street_65 : decode cX7_street 65 = .ok (.iload_n 2, 1) := by decide +kernel
theorem dX7_street_66 : decode cX7_street 66 = .ok (.invokevirtual 109, 3) := by decide +kernel
theorem dX7_street_69 : decode cX7_street 69 = .ok (.ireturn, 1) := by decide +kernel
set_option maxRecDepth 20000 in
theorem ggX7_change_X5_has : GoodIn wsX7_change wsX5_has := goodIn_r _ [10, 11, 12, 13, 14, 81, 82, 83, 84, 85, 86] (by decide +kernel) (by decide +kernel)
set_option maxRecDepth 20000 in
theorem gX7_change_X5_has : GoodIn wsX7_change (wsV RX7 102 RX5 yX5_has wsX5_has) := goodIn_app (goodIn_of _ (by decide +kernel)) ggX7_change_X5_has
set_option maxRecDepth 20000 in
theorem ggX7_change_X7_isIndexOf : GoodIn wsX7_change wsX7_isIndexOf := goodIn_r _ [14] (by decide +kernel) (by decide +kernel)
set_option maxRecDepth 20000 in
theorem gX7_change_X7_isIndexOf : GoodIn wsX7_change (va_wsS RX7 59 yX7_isIndexOf wsX7_isIndexOf) := goodIn_app (goodIn_of _ (by decide +kernel)) ggX7_change_X7_isIndexOf
set_option maxRecDepth 20000 in
theorem ggX7_change_X7_isWithin : GoodIn wsX7_change wsX7_isWithin := goodIn_r _ [18] (by decide +kernel) (by decide +kernel)
set_option maxRecDepth 20000 in
theorem gX7_change_X7_isWithin : GoodIn wsX7_change (va_wsS RX7 69 yX7_isWithin wsX7_isWithin) := goodIn_app (goodIn_of _ (by decide +kernel)) ggX7_change_X7_isWithin
set_option maxRecDepth 20000 in
theorem ggX7_change_X1_keep : GoodIn wsX7_change wsX1_keep := goodIn_r _ [23, 24, 25, 26, 27, 28, 29, 30, 31, 32, 33, 34, 35, 36, 13, 37, 38, 39, 40, 41, 42, 43, 44, 45, 46, 47, 48, 9, 49, 50, 51, 52, 53, 54, 11, 55, 56, 57, 58, 59, 60, 61, 62, 63, 64, 87, 88, 89, 77, 78, 79, 80, 81, 82, 83, 84, 85, 86, 90, 91, 92, 93, 94] (by decide +kernel) (by decide +kernel)
set_option maxRecDepth 20000 in
theorem gX7_change_X1_keep : GoodIn wsX7_change (wsV RX7 73 RX1 yX1_keep wsX1_keep) := goodIn_app (goodIn_of _ (by decide +kernel)) ggX7_change_X1_keep
set_option maxRecDepth 20000 in
theorem ggX7_change_X5_changeable : GoodIn wsX7_change wsX5_changeable := goodIn_r _ [68, 52, 53, 54, 51, 81, 82, 83, 84, 85, 86] (by decide +kernel) (by decide +kernel)
set_option maxRecDepth 20000 in
theorem gX7_change_X5_changeable : GoodIn wsX7_change (wsV RX7 119 RX5 yX5_changeable wsX5_changeable) := goodIn_app (goodIn_of _ (by decide +kernel)) ggX7_change_X5_changeable
theorem dX7_change_0 : decode cX7_change 0 = .ok (.aload_n 0, 1) := by decide +kernel
theorem dX7_change_1 : decode cX7_change 1 = .ok (.getfield 10, 3) := by decide +kernel
theorem dX7_change_4 : decode cX7_change 4 = .ok (.getfield 84, 3) := by decide +kernel
theorem dX7_change_7 : decode cX7_change 7 = .ok (.iload_n 1, 1) := by decide +kernel
theorem dX7_change_8 : decode cX7_change 8 = .ok (.invokevirtual 102, 3) := by decide +kernel
theorem dX7_change_11 : decode cX7_change 11 = .ok (.ifCond .ne 5, 3) := by decide +kernel
theorem dX7_change_14 : decode cX7_change 14 = .ok (.iconst (-1), 1) := by decide +kernel
theorem dX7_change_15 : decode cX7_change 15 = .ok (.ireturn, 1) := by decide +kernel
theorem dX7_change_16 : decode cX7_change 16 = .ok (.iload_n 2, 1) := by decide +kernel
theorem dX7_change_17 : decode cX7_change 17 = .ok (.getstatic 113, 3) := by decide +kernel
theorem dX7_change_20 : decode cX7_change 20 = .ok (.arraylength, 1) := by decide +kernel
theorem dX7_change_21 : decode cX7_change 21 = .ok (.invokestatic 59, 3) := by decide +kernel
theorem dX7_change_24 : decode cX7_change 24 = .ok (.ifCond .ne 6, 3) := by decide +kernel
theorem dX7_change_27 : decode cX7_change 27 = .ok (.bipush (-2), 2) := by decide +kernel
theorem dX7_change_29 : decode cX7_change 29 = .ok (.ireturn, 1) := by decide +kernel
theorem dX7_change_30 : decode cX7_change 30 = .ok (.iload_n 3, 1) := by decide +kernel
theorem dX7_change_31 : decode cX7_change 31 = .ok (.getstatic 113, 3) := by decide +kernel
theorem dX7_change_34 : decode cX7_change 34 = .ok (.iload_n 2, 1) := by decide +kernel
theorem dX7_change_35 : decode cX7_change 35 = .ok (.iaload, 1) := by decide +kernel
theorem dX7_change_36 : decode cX7_change 36 = .ok (.getstatic 116, 3) := by decide +kernel
theorem dX7_change_39 : decode cX7_change 39 = .ok (.iload_n 2, 1) := by decide +kernel
theorem dX7_change_40 : decode cX7_change 40 = .ok (.iaload, 1) := by decide +kernel
theorem dX7_change_41 : decode cX7_change 41 = .ok (.invokestatic 69, 3) := by decide +kernel
theorem dX7_change_44 : decode cX7_change 44 = .ok (.ifCond .ne 6, 3) := by decide +kernel
theorem dX7_change_47 : decode cX7_change 47 = .ok (.bipush (-2), 2) := by decide +kernel
theorem dX7_change_49 : decode cX7_change 49 = .ok (.ireturn, 1) := by decide +kernel
theorem dX7_change_50 : decode cX7_change 50 = .ok (.aload_n 0, 1) := by decide +kernel
theorem dX7_change_51 : decode cX7_change 51 = .ok (.getfield 26, 3) := by decide +kernel
theorem dX7_change_54 : decode cX7_change 54 = .ok (.aload_n 0, 1) := by decide +kernel
theorem dX7_change_55 : decode cX7_change 55 = .ok (.getfield 10, 3) := by decide +kernel
theorem dX7_change_58 : decode cX7_change 58 = .ok (.invokevirtual 73, 3) := by decide +kernel
theorem dX7_change_61 : decode cX7_change 61 = .ok (.aload_n 0, 1) := by decide +kernel
theorem dX7_change_62 : decode cX7_change 62 = .ok (.getfield 10, 3) := by decide +kernel
theorem dX7_change_65 : decode cX7_change 65 = .ok (.getfield 84, 3) := by decide +kernel
theorem dX7_change_68 : decode cX7_change 68 = .ok (.iload_n 2, 1) := by decide +kernel
theorem dX7_change_69 : decode cX7_change 69 = .ok (.invokevirtual 119, 3) := by decide +kernel
theorem dX7_change_72 : decode cX7_change 72 = .ok (.astore 4, 2) := by decide +kernel
theorem dX7_change_74 : decode cX7_change 74 = .ok (.aload 4, 2) := by decide +kernel
theorem dX7_change_76 : decode cX7_change 76 = .ok (.iload_n 1, 1) := by decide +kernel
theorem dX7_change_77 : decode cX7_change 77 = .ok (.iaload, 1) := by decide +kernel
theorem dX7_change_78 : decode cX7_change 78 = .ok (.istore 5, 2) := by decide +kernel
theorem dX7_change_80 : decode cX7_change 80 = .ok (.aload 4, 2) := by decide +kernel
theorem dX7_change_82 : decode cX7_change 82 = .ok (.iload_n 1, 1) := by decide +kernel
theorem dX7_change_83 : decode cX7_change 83 = .ok (.iload_n 3, 1) := by decide +kernel
theorem dX7_change_84 : decode cX7_change 84 = .ok (.iastore, 1) := by decide +kernel
theorem dX7_change_85 : decode cX7_change 85 = .ok (.iload 5, 2) := by decide +kernel
theorem dX7_change_87 : decode cX7_change 87 = .ok (.ireturn, 1) := by decide +kernel
set_option maxRecDepth 20000 in
theorem ggX7_wind_X7_isForce : GoodIn wsX7_wind wsX7_isForce := goodIn_r _ [7, 8, 9, 6, 10] (by decide +kernel) (by decide +kernel)
set_option maxRecDepth 20000 in
theorem gX7_wind_X7_isForce : GoodIn wsX7_wind (va_wsS RX7 123 yX7_isForce wsX7_isForce) := goodIn_app (goodIn_of _ (by decide +kernel)) ggX7_wind_X7_isForce
set_option maxRecDepth 20000 in
theorem ggX7_wind_X1_keep : GoodIn wsX7_wind wsX1_keep := goodIn_r _ [15, 16, 17, 18, 19, 20, 21, 22, 23, 24, 25, 26, 27, 28, 6, 29, 30, 31, 32, 33, 34, 35, 36, 37, 38, 39, 40, 41, 42, 43, 44, 45, 46, 47, 48, 49, 50, 51, 52, 53, 54, 55, 56, 57, 58, 71, 72, 73, 67, 68, 69, 70, 74, 75, 76, 77, 78, 79, 80, 81, 82, 83, 84] (by decide +kernel) (by decide +kernel)
set_option maxRecDepth 20000 in
theorem gX7_wind_X1_keep : GoodIn wsX7_wind (wsV RX7 73 RX1 yX1_keep wsX1_keep) := goodIn_app (goodIn_of _ (by decide +kernel)) ggX7_wind_X1_keep
theorem dX7_wind_0 : decode cX7_wind 0 = .ok (.iload_n 1, 1) := by decide +kernel
theorem dX7_wind_1 : decode cX7_wind 1 = .ok (.invokestatic 123, 3) := by decide +kernel
theorem dX7_wind_4 : decode cX7_wind 4 = .ok (.ifCond .ne 6, 3) := by decide +kernel
theorem dX7_wind_7 : decode cX7_wind 7 = .ok (.bipush (-2), 2) := by decide +kernel
theorem dX7_wind_9 : decode cX7_wind 9 = .ok (.ireturn, 1) := by decide +kernel
theorem dX7_wind_10 : decode cX7_wind 10 = .ok (.aload_n 0, 1) := by decide +kernel
theorem dX7_wind_11 : decode cX7_wind 11 = .ok (.getfield 26, 3) := by decide +kernel
theorem dX7_wind_14 : decode cX7_wind 14 = .ok (.aload_n 0, 1) := by decide +kernel
theorem dX7_wind_15 : decode cX7_wind 15 = .ok (.getfield 10, 3) := by decide +kernel
theorem dX7_wind_18 : decode cX7_wind 18 = .ok (.invokevirtual 73, 3) := by decide +kernel
theorem dX7_wind_21 : decode cX7_wind 21 = .ok (.aload_n 0, 1) := by decide +kernel
theorem dX7_wind_22 : decode cX7_wind 22 = .ok (.getfield 10, 3) := by decide +kernel
theorem dX7_wind_25 : decode cX7_wind 25 = .ok (.getfield 126, 3) := by decide +kernel
theorem dX7_wind_28 : decode cX7_wind 28 = .ok (.istore_n 2, 1) := by decide +kernel
theorem dX7_wind_29 : decode cX7_wind 29 = .ok (.aload_n 0, 1) := by decide +kernel
theorem dX7_wind_30 : decode cX7_wind 30 = .ok (.getfield 10, 3) := by decide +kernel
theorem dX7_wind_33 : decode cX7_wind 33 = .ok (.iload_n 1, 1) := by decide +kernel
theorem dX7_wind_34 : decode cX7_wind 34 = .ok (.putfield 126, 3) := by decide +kernel
theorem dX7_wind_37 : decode cX7_wind 37 = .ok (.iload_n 2, 1) := by decide +kernel
theorem dX7_wind_38 : decode cX7_wind 38 = .ok (.ireturn, 1) := by decide +kernel
set_option maxRecDepth 20000 in
theorem ggX7_pass_X7_isWithin : GoodIn wsX7_pass wsX7_isWithin := goodIn_r _ [10] (by decide +kernel) (by decide +kernel)
set_option maxRecDepth 20000 in
theorem gX7_pass_X7_isWithin : GoodIn wsX7_pass (va_wsS RX7 69 yX7_isWithin wsX7_isWithin) := goodIn_app (goodIn_of _ (by decide +kernel)) ggX7_pass_X7_isWithin
set_option maxRecDepth 20000 in
theorem ggX7_pass_X1_keep : GoodIn wsX7_pass wsX1_keep := goodIn_r _ [15, 16, 17, 18, 19, 20, 21, 22, 23, 24, 25, 26, 27, 28, 9, 29, 30, 31, 32, 33, 34, 35, 36, 37, 38, 39, 40, 41, 42, 43, 44, 45, 46, 47, 48, 49, 50, 51, 52, 53, 54, 55, 56, 57, 58, 135, 136, 137, 126, 127, 128, 129, 138, 139, 140, 141, 142, 143, 130, 131, 132, 133, 134] (by decide +kernel) (by decide +kernel)
set_option maxRecDepth 20000 in
theorem gX7_pass_X1_keep : GoodIn wsX7_pass (wsV RX7 73 RX1 yX1_keep wsX1_keep) := goodIn_app (goodIn_of _ (by decide +kernel)) ggX7_pass_X1_keep
set_option maxRecDepth 20000 in
theorem ggX7_pass_X0_blowIn : GoodIn wsX7_pass wsX0_blowIn := goodIn_r _ [63, 64, 65, 66, 67, 68, 62, 69, 70, 71, 72, 73, 74, 75, 76, 77, 78, 79, 80, 81, 82, 41, 83, 48, 84, 9, 85, 86, 87, 88, 89, 90, 31, 32, 33, 91, 92, 126, 127, 128, 129, 138, 139, 140, 141, 142, 143, 144, 145, 146] (by decide +kernel) (by decide +kernel)
set_option maxRecDepth 20000 in
theorem gX7_pass_X0_blowIn : GoodIn wsX7_pass (wsV RX7 138 RX0 yX0_blowIn wsX0_blowIn) := goodIn_app (goodIn_of _ (by decide +kernel)) ggX7_pass_X0_blowIn
set_option maxRecDepth 20000 in
theorem ggX7_pass_X0_hatsLost : GoodIn wsX7_pass wsX0_hatsLost := goodIn_r _ [96, 64, 70, 97, 98, 99, 62, 100, 101, 102, 90, 31, 32, 33, 103, 104, 105, 106, 79, 126, 127, 128, 129, 138, 139, 140, 141, 142, 143, 144, 145, 146] (by decide +kernel) (by decide +kernel)
set_option maxRecDepth 20000 in
theorem gX7_pass_X0_hatsLost : GoodIn wsX7_pass (wsV RX7 141 RX0 yX0_hatsLost wsX0_hatsLost) := goodIn_app (goodIn_of _ (by decide +kernel)) ggX7_pass_X0_hatsLost
set_option maxRecDepth 20000 in
theorem ggX7_pass_X0_worstStreet : GoodIn wsX7_pass wsX0_worstStreet := goodIn_r _ [110, 64, 70, 97, 98, 99, 62, 100, 101, 102, 90, 31, 32, 33, 103, 104, 105, 106, 79, 126, 127, 128, 129, 138, 139, 140, 141, 142, 143, 144, 145, 146] (by decide +kernel) (by decide +kernel)
set_option maxRecDepth 20000 in
theorem gX7_pass_X0_worstStreet : GoodIn wsX7_pass (wsV RX7 145 RX0 yX0_worstStreet wsX0_worstStreet) := goodIn_app (goodIn_of _ (by decide +kernel)) ggX7_pass_X0_worstStreet
set_option maxRecDepth 20000 in
theorem ggX7_pass_X2_add : GoodIn wsX7_pass wsX2_add := goodIn_r _ [114, 54, 55, 56, 57, 58, 115, 116, 52, 117, 130, 131, 132, 133, 134] (by decide +kernel) (by decide +kernel)
set_option maxRecDepth 20000 in
theorem gX7_pass_X2_add : GoodIn wsX7_pass (wsV RX7 148 RX2 yX2_add wsX2_add) := goodIn_app (goodIn_of _ (by decide +kernel)) ggX7_pass_X2_add
theorem dX7_pass_0 : decode cX7_pass 0 = .ok (.iload_n 1, 1) := by decide +kernel
theorem dX7_pass_1 : decode cX7_pass 1 = .ok (.iconst 1, 1) := by decide +kernel
theorem dX7_pass_2 : decode cX7_pass 2 = .ok (.bipush 24, 2) := by decide +kernel
theorem dX7_pass_4 : decode cX7_pass 4 = .ok (.invokestatic 69, 3) := by decide +kernel
theorem dX7_pass_7 : decode cX7_pass 7 = .ok (.ifCond .ne 6, 3) := by decide +kernel
theorem dX7_pass_10 : decode cX7_pass 10 = .ok (.bipush (-2), 2) := by decide +kernel
theorem dX7_pass_12 : decode cX7_pass 12 = .ok (.ireturn, 1) := by decide +kernel
theorem dX7_pass_13 : decode cX7_pass 13 = .ok (.aload_n 0, 1) := by decide +kernel
theorem dX7_pass_14 : decode cX7_pass 14 = .ok (.getfield 10, 3) := by decide +kernel
theorem dX7_pass_17 : decode cX7_pass 17 = .ok (.getfield 129, 3) := by decide +kernel
theorem dX7_pass_20 : decode cX7_pass 20 = .ok (.getfield 133, 3) := by decide +kernel
theorem dX7_pass_23 : decode cX7_pass 23 = .ok (.iload_n 1, 1) := by decide +kernel
theorem dX7_pass_24 : decode cX7_pass 24 = .ok (.iadd, 1) := by decide +kernel
theorem dX7_pass_25 : decode cX7_pass 25 = .ok (.sipush 999, 3) := by decide +kernel
theorem dX7_pass_28 : decode cX7_pass 28 = .ok (.if_icmp .le 6, 3) := by decide +kernel
theorem dX7_pass_31 : decode cX7_pass 31 = .ok (.bipush (-5), 2) := by decide +kernel
theorem dX7_pass_33 : decode cX7_pass 33 = .ok (.ireturn, 1) := by decide +kernel
theorem dX7_pass_34 : decode cX7_pass 34 = .ok (.aload_n 0, 1) := by decide +kernel
theorem dX7_pass_35 : decode cX7_pass 35 = .ok (.getfield 26, 3) := by decide +kernel
theorem dX7_pass_38 : decode cX7_pass 38 = .ok (.aload_n 0, 1) := by decide +kernel
theorem dX7_pass_39 : decode cX7_pass 39 = .ok (.getfield 10, 3) := by decide +kernel
theorem dX7_pass_42 : decode cX7_pass 42 = .ok (.invokevirtual 73, 3) := by decide +kernel
theorem dX7_pass_45 : decode cX7_pass 45 = .ok (.aload_n 0, 1) := by decide +kernel
theorem dX7_pass_46 : decode cX7_pass 46 = .ok (.getfield 19, 3) := by decide +kernel
theorem dX7_pass_49 : decode cX7_pass 49 = .ok (.aload_n 0, 1) := by decide +kernel
theorem dX7_pass_50 : decode cX7_pass 50 = .ok (.getfield 10, 3) := by decide +kernel
theorem dX7_pass_53 : decode cX7_pass 53 = .ok (.invokevirtual 138, 3) := by decide +kernel
theorem dX7_pass_56 : decode cX7_pass 56 = .ok (.aload_n 0, 1) := by decide +kernel
theorem dX7_pass_57 : decode cX7_pass 57 = .ok (.getfield 19, 3) := by decide +kernel
theorem dX7_pass_60 : decode cX7_pass 60 = .ok (.aload_n 0, 1) := by decide +kernel
theorem dX7_pass_61 : decode cX7_pass 61 = .ok (.getfield 10, 3) := by decide +kernel
theorem dX7_pass_64 : decode cX7_pass 64 = .ok (.invokevirtual 141, 3) := by decide +kernel
theorem dX7_pass_67 : decode cX7_pass 67 = .ok (.istore_n 2, 1) := by decide +kernel
theorem dX7_pass_68 : decode cX7_pass 68 = .ok (.aload_n 0, 1) := by decide +kernel
theorem dX7_pass_69 : decode cX7_pass 69 = .ok (.getfield 19, 3) := by decide +kernel
theorem dX7_pass_72 : decode cX7_pass 72 = .ok (.aload_n 0, 1) := by decide +kernel
theorem dX7_pass_73 : decode cX7_pass 73 = .ok (.getfield 10, 3) := by decide +kernel
theorem dX7_pass_76 : decode cX7_pass 76 = .ok (.invokevirtual 145, 3) := by decide +kernel
theorem dX7_pass_79 : decode cX7_pass 79 = .ok (.istore_n 3, 1) := by decide +kernel
theorem dX7_pass_80 : decode cX7_pass 80 = .ok (.iconst 0, 1) := by decide +kernel
theorem dX7_pass_81 : decode cX7_pass 81 = .ok (.istore 4, 2) := by decide +kernel
theorem dX7_pass_83 : decode cX7_pass 83 = .ok (.iload 4, 2) := by decide +kernel
theorem dX7_pass_85 : decode cX7_pass 85 = .ok (.iload_n 1, 1) := by decide +kernel
theorem dX7_pass_86 : decode cX7_pass 86 = .ok (.if_icmp .ge 28, 3) := by decide +kernel
theorem dX7_pass_89 : decode cX7_pass 89 = .ok (.aload_n 0, 1) := by decide +kernel
theorem dX7_pass_90 : decode cX7_pass 90 = .ok (.getfield 10, 3) := by decide +kernel
theorem dX7_pass_93 : decode cX7_pass 93 = .ok (.getfield 129, 3) := by decide +kernel
theorem dX7_pass_96 : decode cX7_pass 96 = .ok (.aload_n 0, 1) := by decide +kernel
theorem dX7_pass_97 : decode cX7_pass 97 = .ok (.getfield 10, 3) := by decide +kernel
theorem dX7_pass_100 : decode cX7_pass 100 = .ok (.getfield 126, 3) := by decide +kernel
theorem dX7_pass_103 : decode cX7_pass 103 = .ok (.iload_n 2, 1) := by decide +kernel
theorem dX7_pass_104 : decode cX7_pass 104 = .ok (.iload_n 3, 1) := by decide +kernel
theorem dX7_pass_105 : decode cX7_pass 105 = .ok (.invokevirtual 148, 3) := by decide +kernel
theorem dX7_pass_108 : decode cX7_pass 108 = .ok (.iinc 4 1, 3) := by decide +kernel
theorem dX7_pass_111 : decode cX7_pass 111 = .ok (.goto (-28), 3) := by decide +kernel
theorem dX7_pass_114 : decode cX7_pass 114 = .ok (.iload_n 1, 1) := by decide +kernel
theorem dX7_pass_115 : decode cX7_pass 115 = .ok (.iload_n 2, 1) := by decide +kernel
theorem dX7_pass_116 : decode cX7_pass 116 = .ok (.imul, 1) := by decide +kernel
theorem dX7_pass_117 : decode cX7_pass 117 = .ok (.ireturn, 1) := by decide +kernel
set_option maxRecDepth 20000 in
theorem ggX7_write_X3_clear : GoodIn wsX7_write wsX3_clear := goodIn_r _ [11, 12, 13, 60, 61, 62] (by decide +kernel) (by decide +kernel)
set_option maxRecDepth 20000 in
theorem gX7_write_X3_clear : GoodIn wsX7_write (wsV RX7 95 RX3 yX3_clear wsX3_clear) := goodIn_app (goodIn_of _ (by decide +kernel)) ggX7_write_X3_clear
set_option maxRecDepth 20000 in
theorem ggX7_write_X7_tell : GoodIn wsX7_write wsX7_tell := goodIn_r _ [17, 18, 19, 20, 21, 22, 23, 24, 25, 26, 16, 27, 28, 29, 30, 31, 32, 33, 34, 35, 36, 37, 10, 38, 12, 13, 39, 14, 15, 63, 64, 65, 66, 67, 68, 60, 61, 62] (by decide +kernel) (by decide +kernel)
set_option maxRecDepth 20000 in
theorem gX7_write_X7_tell : GoodIn wsX7_write (va_wsS RX7 151 yX7_tell wsX7_tell) := goodIn_app (goodIn_of _ (by decide +kernel)) ggX7_write_X7_tell
set_option maxRecDepth 20000 in
theorem ggX7_write_X3_copy : GoodIn wsX7_write wsX3_copy := goodIn_r _ [43, 39, 44, 45, 46, 47, 12, 13, 60, 61, 62] (by decide +kernel) (by decide +kernel)
set_option maxRecDepth 20000 in
theorem gX7_write_X3_copy : GoodIn wsX7_write (wsV RX7 159 RX3 yX3_copy wsX3_copy) := goodIn_app (goodIn_of _ (by decide +kernel)) ggX7_write_X3_copy
theorem dX7_write_0 : decode cX7_write 0 = .ok (.aload_n 0, 1) := by decide +kernel
theorem dX7_write_1 : decode cX7_write 1 = .ok (.getfield 45, 3) := by decide +kernel
theorem dX7_write_4 : decode cX7_write 4 = .ok (.invokevirtual 95, 3) := by decide +kernel
theorem dX7_write_7 : decode cX7_write 7 = .ok (.aload_n 0, 1) := by decide +kernel
theorem dX7_write_8 : decode cX7_write 8 = .ok (.getfield 10, 3) := by decide +kernel
theorem dX7_write_11 : decode cX7_write 11 = .ok (.getfield 84, 3) := by decide +kernel
theorem dX7_write_14 : decode cX7_write 14 = .ok (.iconst 0, 1) := by decide +kernel
theorem dX7_write_15 : decode cX7_write 15 = .ok (.iconst 0, 1) := by decide +kernel
theorem dX7_write_16 : decode cX7_write 16 = .ok (.aload_n 0, 1) := by decide +kernel
theorem dX7_write_17 : decode cX7_write 17 = .ok (.getfield 45, 3) := by decide +kernel
theorem dX7_write_20 : decode cX7_write 20 = .ok (.invokestatic 151, 3) := by decide +kernel
theorem dX7_write_23 : decode cX7_write 23 = .ok (.aload_n 0, 1) := by decide +kernel
theorem dX7_write_24 : decode cX7_write 24 = .ok (.getfield 45, 3) := by decide +kernel
theorem dX7_write_27 : decode cX7_write 27 = .ok (.getfield 155, 3) := by decide +kernel
theorem dX7_write_30 : decode cX7_write 30 = .ok (.ifCond .eq 6, 3) := by decide +kernel
theorem dX7_write_33 : decode cX7_write 33 = .ok (.bipush (-4), 2) := by decide +kernel
theorem dX7_write_35 : decode cX7_write 35 = .ok (.ireturn, 1) := by decide +kernel
theorem dX7_write_36 : decode cX7_write 36 = .ok (.aload_n 0, 1) := by decide +kernel
theorem dX7_write_37 : decode cX7_write 37 = .ok (.getfield 41, 3) := by decide +kernel
theorem dX7_write_40 : decode cX7_write 40 = .ok (.aload_n 0, 1) := by decide +kernel
theorem dX7_write_41 : decode cX7_write 41 = .ok (.getfield 45, 3) := by decide +kernel
theorem dX7_write_44 : decode cX7_write 44 = .ok (.invokevirtual 159, 3) := by decide +kernel
theorem dX7_write_47 : decode cX7_write 47 = .ok (.aload_n 0, 1) := by decide +kernel
theorem dX7_write_48 : decode cX7_write 48 = .ok (.getfield 41, 3) := by decide +kernel
theorem dX7_write_51 : decode cX7_write 51 = .ok (.getfield 162, 3) := by decide +kernel
theorem dX7_write_54 : decode cX7_write 54 = .ok (.ireturn, 1) := by decide +kernel
set_option maxRecDepth 20000 in
theorem ggX7_of_X5_has : GoodIn wsX7_of wsX5_has := goodIn_r _ [12, 13, 14, 15, 16, 50, 51, 52, 53, 54, 55] (by decide +kernel) (by decide +kernel)
set_option maxRecDepth 20000 in
theorem gX7_of_X5_has : GoodIn wsX7_of (wsV RX7 102 RX5 yX5_has wsX5_has) := goodIn_app (goodIn_of _ (by decide +kernel)) ggX7_of_X5_has
set_option maxRecDepth 20000 in
theorem ggX7_of_X5_branchesOff : GoodIn wsX7_of wsX5_branchesOff := goodIn_r _ [20, 13, 21, 50, 51, 52, 53, 54, 55] (by decide +kernel) (by decide +kernel)
set_option maxRecDepth 20000 in
theorem gX7_of_X5_branchesOff : GoodIn wsX7_of (wsV RX7 180 RX5 yX5_branchesOff wsX5_branchesOff) := goodIn_app (goodIn_of _ (by decide +kernel)) ggX7_of_X5_branchesOff
set_option maxRecDepth 20000 in
theorem ggX7_of_X5_howManyBehind : GoodIn wsX7_of wsX5_howManyBehind := goodIn_r _ [25, 13, 21, 26, 27, 28, 29, 30, 31, 32, 50, 51, 52, 53, 54, 55] (by decide +kernel) (by decide +kernel)
set_option maxRecDepth 20000 in
theorem gX7_of_X5_howManyBehind : GoodIn wsX7_of (wsV RX7 184 RX5 yX5_howManyBehind wsX5_howManyBehind) := goodIn_app (goodIn_of _ (by decide +kernel)) ggX7_of_X5_howManyBehind
set_option maxRecDepth 20000 in
theorem ggX7_of_X5_howFarOff : GoodIn wsX7_of wsX5_howFarOff := goodIn_r _ [36, 21, 37, 9, 10, 11, 12, 13, 14, 15, 16, 50, 51, 52, 53, 54, 55] (by decide +kernel) (by decide +kernel)
set_option maxRecDepth 20000 in
theorem gX7_of_X5_howFarOff : GoodIn wsX7_of (wsV RX7 187 RX5 yX5_howFarOff wsX5_howFarOff) := goodIn_app (goodIn_of _ (by decide +kernel)) ggX7_of_X5_howFarOff
theorem dX7_of_0 : decode cX7_of 0 = .ok (.aload_n 0, 1) := by decide +kernel
theorem dX7_of_1 : decode cX7_of 1 = .ok (.getfield 10, 3) := by decide +kernel
theorem dX7_of_4 : decode cX7_of 4 = .ok (.getfield 84, 3) := by decide +kernel
theorem dX7_of_7 : decode cX7_of 7 = .ok (.astore_n 3, 1) := by decide +kernel
theorem dX7_of_8 : decode cX7_of 8 = .ok (.aload_n 3, 1) := by decide +kernel
theorem dX7_of_9 : decode cX7_of 9 = .ok (.iload_n 1, 1) := by decide +kernel
theorem dX7_of_10 : decode cX7_of 10 = .ok (.invokevirtual 102, 3) := by decide +kernel
theorem dX7_of_13 : decode cX7_of 13 = .ok (.ifCond .ne 5, 3) := by decide +kernel
theorem dX7_of_16 : decode cX7_of 16 = .ok (.iconst (-1), 1) := by decide +kernel
theorem dX7_of_17 : decode cX7_of 17 = .ok (.ireturn, 1) := by decide +kernel
theorem dX7_of_18 : decode cX7_of 18 = .ok (.iload_n 2, 1) := by decide +kernel
theorem dX7_of_19 : decode cX7_of 19 = .ok (.tableswitch 98 0 7 #[45, 52, 59, 66, 73, 80, 86, 92], 45) := by decide +kernel
theorem dX7_of_64 : decode cX7_of 64 = .ok (.aload_n 3, 1) := by decide +kernel
theorem dX7_of_65 : decode cX7_of 65 = .ok (.getfield 165, 3) := by decide +kernel
theorem dX7_of_68 : decode cX7_of 68 = .ok (.iload_n 1, 1) := by decide +kernel
theorem dX7_of_69 : decode cX7_of 69 = .ok (.iaload, 1) := by decide +kernel
theorem dX7_of_70 : decode cX7_of 70 = .ok (.ireturn, 1) := by decide +kernel
theorem dX7_of_71 : decode cX7_of 71 = .ok (.aload_n 3, 1) := by decide +kernel
theorem dX7_of_72 : decode cX7_of 72 = .ok (.getfield 168, 3) := by decide +kernel
theorem dX7_of_75 : decode cX7_of 75 = .ok (.iload_n 1, 1) := by decide +kernel
theorem dX7_of_76 : decode cX7_of 76 = .ok (.iaload, 1) := by decide +kernel
theorem dX7_of_77 : decode cX7_of 77 = .ok (.ireturn, 1) := by decide +kernel
theorem dX7_of_78 : decode cX7_of 78 = .ok (.aload_n 3, 1) := by decide +kernel
theorem dX7_of_79 : decode cX7_of 79 = .ok (.getfield 171, 3) := by decide +kernel
theorem dX7_of_82 : decode cX7_of 82 = .ok (.iload_n 1, 1) := by decide +kernel
theorem dX7_of_83 : decode cX7_of 83 = .ok (.iaload, 1) := by decide +kernel
theorem dX7_of_84 : decode cX7_of 84 = .ok (.ireturn, 1) := by decide +kernel
theorem dX7_of_85 : decode cX7_of 85 = .ok (.aload_n 3, 1) := by decide +kernel
theorem dX7_of_86 : decode cX7_of 86 = .ok (.getfield 174, 3) := by decide +kernel
theorem dX7_of_89 : decode cX7_of 89 = .ok (.iload_n 1, 1) := by decide +kernel
theorem dX7_of_90 : decode cX7_of 90 = .ok (.iaload, 1) := by decide +kernel
theorem dX7_of_91 : decode cX7_of 91 = .ok (.ireturn, 1) := by decide +kernel
theorem dX7_of_92 : decode cX7_of 92 = .ok (.aload_n 3, 1) := by decide +kernel
theorem dX7_of_93 : decode cX7_of 93 = .ok (.getfield 177, 3) := by decide +kernel
theorem dX7_of_96 : decode cX7_of 96 = .ok (.iload_n 1, 1) := by decide +kernel
theorem dX7_of_97 : decode cX7_of 97 = .ok (.iaload, 1) := by decide +kernel
theorem dX7_of_98 : decode cX7_of 98 = .ok (.ireturn, 1) := by decide +kernel
theorem dX7_of_99 : decode cX7_of 99 = .ok (.aload_n 3, 1) := by decide +kernel
theorem dX7_of_100 : decode cX7_of 100 = .ok (.iload_n 1, 1) := by decide +kernel
theorem dX7_of_101 : decode cX7_of 101 = .ok (.invokevirtual 180, 3) := by decide +kernel
theorem dX7_of_104 : decode cX7_of 104 = .ok (.ireturn, 1) := by decide +kernel
theorem dX7_of_105 : decode cX7_of 105 = .ok (.aload_n 3, 1) := by decide +kernel
theorem dX7_of_106 : decode cX7_of 106 = .ok (.iload_n 1, 1) := by decide +kernel
theorem dX7_of_107 : decode cX7_of 107 = .ok (.invokevirtual 184, 3) := by decide +kernel
theorem dX7_of_110 : decode cX7_of 110 = .ok (.ireturn, 1) := by decide +kernel
theorem dX7_of_111 : decode cX7_of 111 = .ok (.aload_n 3, 1) := by decide +kernel
theorem dX7_of_112 : decode cX7_of 112 = .ok (.iload_n 1, 1) := by decide +kernel
theorem dX7_of_113 : decode cX7_of 113 = .ok (.invokevirtual 187, 3) := by decide +kernel
theorem dX7_of_116 : decode cX7_of 116 = .ok (.ireturn, 1) := by decide +kernel
theorem dX7_of_117 : decode cX7_of 117 = .ok (.bipush (-2), 2) := by decide +kernel
theorem dX7_of_119 : decode cX7_of 119 = .ok (.ireturn, 1) := by decide +kernel
set_option maxRecDepth 20000 in
theorem ggX7_now_X5_has : GoodIn wsX7_now wsX5_has := goodIn_r _ [9, 10, 11, 12, 13, 82, 83, 84, 85, 86, 87] (by decide +kernel) (by decide +kernel)
set_option maxRecDepth 20000 in
theorem gX7_now_X5_has : GoodIn wsX7_now (wsV RX7 102 RX5 yX5_has wsX5_has) := goodIn_app (goodIn_of _ (by decide +kernel)) ggX7_now_X5_has
set_option maxRecDepth 20000 in
theorem ggX7_now_X0_blowIn : GoodIn wsX7_now wsX0_blowIn := goodIn_r _ [18, 19, 20, 21, 22, 23, 17, 24, 25, 26, 27, 28, 29, 30, 31, 32, 33, 34, 35, 6, 7, 8, 9, 10, 11, 12, 13, 36, 37, 38, 39, 40, 41, 42, 43, 44, 45, 75, 76, 77, 78, 82, 83, 84, 85, 86, 87, 79, 80, 81] (by decide +kernel) (by decide +kernel)
set_option maxRecDepth 20000 in
theorem gX7_now_X0_blowIn : GoodIn wsX7_now (wsV RX7 138 RX0 yX0_blowIn wsX0_blowIn) := goodIn_app (goodIn_of _ (by decide +kernel)) ggX7_now_X0_blowIn
set_option maxRecDepth 20000 in
theorem ggX7_now_X0_gustIn : GoodIn wsX7_now wsX0_gustIn := goodIn_r _ [49, 34, 50, 79, 80, 81, 75, 76, 77, 78] (by decide +kernel) (by decide +kernel)
set_option maxRecDepth 20000 in
theorem gX7_now_X0_gustIn : GoodIn wsX7_now (wsV RX7 192 RX0 yX0_gustIn wsX0_gustIn) := goodIn_app (goodIn_of _ (by decide +kernel)) ggX7_now_X0_gustIn
set_option maxRecDepth 20000 in
theorem ggX7_now_X0_flagSteps : GoodIn wsX7_now wsX0_flagSteps := goodIn_r _ [54, 19, 55, 34, 50, 40, 41, 42, 43, 44, 12, 45, 75, 76, 77, 78, 82, 83, 84, 85, 86, 87, 79, 80, 81] (by decide +kernel) (by decide +kernel)
set_option maxRecDepth 20000 in
theorem gX7_now_X0_flagSteps : GoodIn wsX7_now (wsV RX7 196 RX0 yX0_flagSteps wsX0_flagSteps) := goodIn_app (goodIn_of _ (by decide +kernel)) ggX7_now_X0_flagSteps
set_option maxRecDepth 20000 in
theorem ggX7_now_X0_smokeSteps : GoodIn wsX7_now wsX0_smokeSteps := goodIn_r _ [59, 19, 60, 34, 50, 40, 41, 42, 43, 44, 12, 45, 75, 76, 77, 78, 82, 83, 84, 85, 86, 87, 79, 80, 81] (by decide +kernel) (by decide +kernel)
set_option maxRecDepth 20000 in
theorem gX7_now_X0_smokeSteps : GoodIn wsX7_now (wsV RX7 199 RX0 yX0_smokeSteps wsX0_smokeSteps) := goodIn_app (goodIn_of _ (by decide +kernel)) ggX7_now_X0_smokeSteps
set_option maxRecDepth 20000 in
theorem ggX7_now_X0_hatsLostIn : GoodIn wsX7_now wsX0_hatsLostIn := goodIn_r _ [64, 50, 19, 65, 40, 41, 42, 43, 66, 47, 48, 17, 49, 34, 75, 76, 77, 78, 82, 83, 84, 85, 86, 87, 79, 80, 81] (by decide +kernel) (by decide +kernel)
set_option maxRecDepth 20000 in
theorem gX7_now_X0_hatsLostIn : GoodIn wsX7_now (wsV RX7 202 RX0 yX0_hatsLostIn wsX0_hatsLostIn) := goodIn_app (goodIn_of _ (by decide +kernel)) ggX7_now_X0_hatsLostIn
theorem dX7_now_0 : decode cX7_now 0 = .ok (.aload_n 0, 1) := by decide +kernel
theorem dX7_now_1 : decode cX7_now 1 = .ok (.getfield 10, 3) := by decide +kernel
theorem dX7_now_4 : decode cX7_now 4 = .ok (.getfield 84, 3) := by decide +kernel
theorem dX7_now_7 : decode cX7_now 7 = .ok (.iload_n 1, 1) := by decide +kernel
theorem dX7_now_8 : decode cX7_now 8 = .ok (.invokevirtual 102, 3) := by decide +kernel
theorem dX7_now_11 : decode cX7_now 11 = .ok (.ifCond .ne 5, 3) := by decide +kernel
theorem dX7_now_14 : decode cX7_now 14 = .ok (.iconst (-1), 1) := by decide +kernel
theorem dX7_now_15 : decode cX7_now 15 = .ok (.ireturn, 1) := by decide +kernel
theorem dX7_now_16 : decode cX7_now 16 = .ok (.aload_n 0, 1) := by decide +kernel
theorem dX7_now_17 : decode cX7_now 17 = .ok (.getfield 19, 3) := by decide +kernel
theorem dX7_now_20 : decode cX7_now 20 = .ok (.aload_n 0, 1) := by decide +kernel
theorem dX7_now_21 : decode cX7_now 21 = .ok (.getfield 10, 3) := by decide +kernel
theorem dX7_now_24 : decode cX7_now 24 = .ok (.invokevirtual 138, 3) := by decide +kernel
theorem dX7_now_27 : decode cX7_now 27 = .ok (.iload_n 2, 1) := by decide +kernel
theorem dX7_now_28 : decode cX7_now 28 = .ok (.tableswitch 98 0 4 #[36, 46, 59, 72, 85], 36) := by decide +kernel
theorem dX7_now_64 : decode cX7_now 64 = .ok (.aload_n 0, 1) := by decide +kernel
theorem dX7_now_65 : decode cX7_now 65 = .ok (.getfield 19, 3) := by decide +kernel
theorem dX7_now_68 : decode cX7_now 68 = .ok (.getfield 190, 3) := by decide +kernel
theorem dX7_now_71 : decode cX7_now 71 = .ok (.iload_n 1, 1) := by decide +kernel
theorem dX7_now_72 : decode cX7_now 72 = .ok (.iaload, 1) := by decide +kernel
theorem dX7_now_73 : decode cX7_now 73 = .ok (.ireturn, 1) := by decide +kernel
theorem dX7_now_74 : decode cX7_now 74 = .ok (.aload_n 0, 1) := by decide +kernel
theorem dX7_now_75 : decode cX7_now 75 = .ok (.getfield 19, 3) := by decide +kernel
theorem dX7_now_78 : decode cX7_now 78 = .ok (.aload_n 0, 1) := by decide +kernel
theorem dX7_now_79 : decode cX7_now 79 = .ok (.getfield 10, 3) := by decide +kernel
theorem dX7_now_82 : decode cX7_now 82 = .ok (.iload_n 1, 1) := by decide +kernel
theorem dX7_now_83 : decode cX7_now 83 = .ok (.invokevirtual 192, 3) := by decide +kernel
theorem dX7_now_86 : decode cX7_now 86 = .ok (.ireturn, 1) := by decide +kernel
theorem dX7_now_87 : decode cX7_now 87 = .ok (.aload_n 0, 1) := by decide +kernel
theorem dX7_now_88 : decode cX7_now 88 = .ok (.getfield 19, 3) := by decide +kernel
theorem dX7_now_91 : decode cX7_now 91 = .ok (.aload_n 0, 1) := by decide +kernel
theorem dX7_now_92 : decode cX7_now 92 = .ok (.getfield 10, 3) := by decide +kernel
theorem dX7_now_95 : decode cX7_now 95 = .ok (.iload_n 1, 1) := by decide +kernel
theorem dX7_now_96 : decode cX7_now 96 = .ok (.invokevirtual 196, 3) := by decide +kernel
theorem dX7_now_99 : decode cX7_now 99 = .ok (.ireturn, 1) := by decide +kernel
theorem dX7_now_100 : decode cX7_now 100 = .ok (.aload_n 0, 1) := by decide +kernel
theorem dX7_now_101 : decode cX7_now 101 = .ok (.getfield 19, 3) := by decide +kernel
theorem dX7_now_104 : decode cX7_now 104 = .ok (.aload_n 0, 1) := by decide +kernel
theorem dX7_now_105 : decode cX7_now 105 = .ok (.getfield 10, 3) := by decide +kernel
theorem dX7_now_108 : decode cX7_now 108 = .ok (.iload_n 1, 1) := by decide +kernel
theorem dX7_now_109 : decode cX7_now 109 = .ok (.invokevirtual 199, 3) := by decide +kernel
theorem dX7_now_112 : decode cX7_now 112 = .ok (.ireturn, 1) := by decide +kernel
theorem dX7_now_113 : decode cX7_now 113 = .ok (.aload_n 0, 1) := by decide +kernel
theorem dX7_now_114 : decode cX7_now 114 = .ok (.getfield 19, 3) := by decide +kernel
theorem dX7_now_117 : decode cX7_now 117 = .ok (.aload_n 0, 1) := by decide +kernel
theorem dX7_now_118 : decode cX7_now 118 = .ok (.getfield 10, 3) := by decide +kernel
theorem dX7_now_121 : decode cX7_now 121 = .ok (.iload_n 1, 1) := by decide +kernel
theorem dX7_now_122 : decode cX7_now 122 = .ok (.invokevirtual 202, 3) := by decide +kernel
theorem dX7_now_125 : decode cX7_now 125 = .ok (.ireturn, 1) := by decide +kernel
theorem dX7_now_126 : decode cX7_now 126 = .ok (.bipush (-2), 2) := by decide +kernel
theorem dX7_now_128 : decode cX7_now 128 = .ok (.ireturn, 1) := by decide +kernel
set_option maxRecDepth 20000 in
theorem ggX7_record_X2_kept : GoodIn wsX7_record wsX2_kept := goodIn_r _ [10, 11, 12, 13, 14, 15, 32, 33, 34, 35, 36] (by decide +kernel) (by decide +kernel)
set_option maxRecDepth 20000 in
theorem gX7_record_X2_kept : GoodIn wsX7_record (wsV RX7 205 RX2 yX2_kept wsX2_kept) := goodIn_app (goodIn_of _ (by decide +kernel)) ggX7_record_X2_kept
set_option maxRecDepth 20000 in
theorem ggX7_record_X7_isIndexOf : GoodIn wsX7_record wsX7_isIndexOf := goodIn_r _ [19] (by decide +kernel) (by decide +kernel)
set_option maxRecDepth 20000 in
theorem gX7_record_X7_isIndexOf : GoodIn wsX7_record (va_wsS RX7 59 yX7_isIndexOf wsX7_isIndexOf) := goodIn_app (goodIn_of _ (by decide +kernel)) ggX7_record_X7_isIndexOf
theorem dX7_record_0 : decode cX7_record 0 = .ok (.aload_n 0, 1) := by decide +kernel
theorem dX7_record_1 : decode cX7_record 1 = .ok (.getfield 10, 3) := by decide +kernel
theorem dX7_record_4 : decode cX7_record 4 = .ok (.getfield 129, 3) := by decide +kernel
theorem dX7_record_7 : decode cX7_record 7 = .ok (.astore_n 3, 1) := by decide +kernel
theorem dX7_record_8 : decode cX7_record 8 = .ok (.iload_n 1, 1) := by decide +kernel
theorem dX7_record_9 : decode cX7_record 9 = .ok (.aload_n 3, 1) := by decide +kernel
theorem dX7_record_10 : decode cX7_record 10 = .ok (.invokevirtual 205, 3) := by decide +kernel
theorem dX7_record_13 : decode cX7_record 13 = .ok (.invokestatic 59, 3) := by decide +kernel
theorem dX7_record_16 : decode cX7_record 16 = .ok (.ifCond .ne 5, 3) := by decide +kernel
theorem dX7_record_19 : decode cX7_record 19 = .ok (.iconst (-1), 1) := by decide +kernel
theorem dX7_record_20 : decode cX7_record 20 = .ok (.ireturn, 1) := by decide +kernel
theorem dX7_record_21 : decode cX7_record 21 = .ok (.iload_n 2, 1) := by decide +kernel
theorem dX7_record_22 : decode cX7_record 22 = .ok (.tableswitch 47 0 2 #[26, 33, 40], 26) := by decide +kernel
theorem dX7_record_48 : decode cX7_record 48 = .ok (.aload_n 3, 1) := by decide +kernel
theorem dX7_record_49 : decode cX7_record 49 = .ok (.getfield 209, 3) := by decide +kernel
theorem dX7_record_52 : decode cX7_record 52 = .ok (.iload_n 1, 1) := by decide +kernel
theorem dX7_record_53 : decode cX7_record 53 = .ok (.iaload, 1) := by decide +kernel
theorem dX7_record_54 : decode cX7_record 54 = .ok (.ireturn, 1) := by decide +kernel
theorem dX7_record_55 : decode cX7_record 55 = .ok (.aload_n 3, 1) := by decide +kernel
theorem dX7_record_56 : decode cX7_record 56 = .ok (.getfield 212, 3) := by decide +kernel
theorem dX7_record_59 : decode cX7_record 59 = .ok (.iload_n 1, 1) := by decide +kernel
theorem dX7_record_60 : decode cX7_record 60 = .ok (.iaload, 1) := by decide +kernel
theorem dX7_record_61 : decode cX7_record 61 = .ok (.ireturn, 1) := by decide +kernel
theorem dX7_record_62 : decode cX7_record 62 = .ok (.aload_n 3, 1) := by decide +kernel
theorem dX7_record_63 : decode cX7_record 63 = .ok (.getfield 215, 3) := by decide +kernel
theorem dX7_record_66 : decode cX7_record 66 = .ok (.iload_n 1, 1) := by decide +kernel
theorem dX7_record_67 : decode cX7_record 67 = .ok (.iaload, 1) := by decide +kernel
theorem dX7_record_68 : decode cX7_record 68 = .ok (.ireturn, 1) := by decide +kernel
theorem dX7_record_69 : decode cX7_record 69 = .ok (.bipush (-2), 2) := by decide +kernel
theorem dX7_record_71 : decode cX7_record 71 = .ok (.ireturn, 1) := by decide +kernel
set_option maxRecDepth 20000 in
theorem ggX7_sign_X7_isIndexOf : GoodIn wsX7_sign wsX7_isIndexOf := goodIn_r _ [7] (by decide +kernel) (by decide +kernel)
set_option maxRecDepth 20000 in
theorem gX7_sign_X7_isIndexOf : GoodIn wsX7_sign (va_wsS RX7 59 yX7_isIndexOf wsX7_isIndexOf) := goodIn_app (goodIn_of _ (by decide +kernel)) ggX7_sign_X7_isIndexOf
theorem dX7_sign_0 : decode cX7_sign 0 = .ok (.iload_n 1, 1) := by decide +kernel
theorem dX7_sign_1 : decode cX7_sign 1 = .ok (.aload_n 0, 1) := by decide +kernel
theorem dX7_sign_2 : decode cX7_sign 2 = .ok (.getfield 41, 3) := by decide +kernel
theorem dX7_sign_5 : decode cX7_sign 5 = .ok (.getfield 162, 3) := by decide +kernel
theorem dX7_sign_8 : decode cX7_sign 8 = .ok (.invokestatic 59, 3) := by decide +kernel
theorem dX7_sign_11 : decode cX7_sign 11 = .ok (.ifCond .eq 15, 3) := by decide +kernel
theorem dX7_sign_14 : decode cX7_sign 14 = .ok (.aload_n 0, 1) := by decide +kernel
theorem dX7_sign_15 : decode cX7_sign 15 = .ok (.getfield 41, 3) := by decide +kernel
theorem dX7_sign_18 : decode cX7_sign 18 = .ok (.getfield 218, 3) := by decide +kernel
theorem dX7_sign_21 : decode cX7_sign 21 = .ok (.iload_n 1, 1) := by decide +kernel
theorem dX7_sign_22 : decode cX7_sign 22 = .ok (.caload, 1) := by decide +kernel
theorem dX7_sign_23 : decode cX7_sign 23 = .ok (.goto 4, 3) := by decide +kernel
theorem dX7_sign_26 : decode cX7_sign 26 = .ok (.iconst (-1), 1) := by decide +kernel
theorem dX7_sign_27 : decode cX7_sign 27 = .ok (.ireturn, 1) := by decide +kernel
set_option maxRecDepth 20000 in
theorem ggX7_count_X5_peopleOfAll : GoodIn wsX7_count wsX5_peopleOfAll := goodIn_r _ [17, 18, 19, 101, 102, 103, 104, 105, 106] (by decide +kernel) (by decide +kernel)
set_option maxRecDepth 20000 in
theorem gX7_count_X5_peopleOfAll : GoodIn wsX7_count (wsV RX7 225 RX5 yX5_peopleOfAll wsX5_peopleOfAll) := goodIn_app (goodIn_of _ (by decide +kernel)) ggX7_count_X5_peopleOfAll
set_option maxRecDepth 20000 in
theorem ggX7_count_X7_hatsBy : GoodIn wsX7_count wsX7_hatsBy := goodIn_r _ [24, 25, 1, 2, 26, 27, 28, 29, 30, 31, 32, 33, 34, 35, 36, 37, 38, 39, 40, 41, 42, 43, 16, 44, 18, 45, 23, 46, 47, 48, 49, 50, 51, 52, 53, 54, 55, 56, 57, 58, 59, 60, 61, 62, 63, 64, 65, 66, 67, 68, 69, 70, 71, 89, 90, 91, 92, 93, 94, 95, 96, 97, 98, 99, 100, 101, 102, 103, 104, 105, 106, 118, 119, 120] (by decide +kernel) (by decide +kernel)
set_option maxRecDepth 20000 in
theorem gX7_count_X7_hatsBy : GoodIn wsX7_count (wsV RX7 228 RX7 yX7_hatsBy wsX7_hatsBy) := goodIn_app (goodIn_of _ (by decide +kernel)) ggX7_count_X7_hatsBy
set_option maxRecDepth 20000 in
theorem ggX7_count_X7_shelters : GoodIn wsX7_count wsX7_shelters := goodIn_r _ [75, 25, 1, 2, 3, 76, 77, 78, 29, 79, 61, 80, 81, 27, 28, 30, 31, 32, 33, 34, 35, 82, 37, 38, 39, 40, 41, 42, 43, 16, 44, 18, 45, 23, 46, 47, 48, 49, 50, 51, 52, 53, 54, 55, 56, 83, 63, 64, 65, 66, 67, 68, 69, 70, 71, 89, 90, 91, 92, 93, 94, 95, 96, 97, 98, 99, 100, 101, 102, 103, 104, 105, 106, 118, 119, 120] (by decide +kernel) (by decide +kernel)
set_option maxRecDepth 20000 in
theorem gX7_count_X7_shelters : GoodIn wsX7_count (wsV RX7 231 RX7 yX7_shelters wsX7_shelters) := goodIn_app (goodIn_of _ (by decide +kernel)) ggX7_count_X7_shelters
set_option maxRecDepth 20000 in
theorem ggX7_count_X7_calmest : GoodIn wsX7_count wsX7_calmest := goodIn_r _ [87, 25, 1, 2, 3, 88, 76, 77, 78, 29, 79, 61, 80, 81, 27, 28, 30, 31, 32, 33, 34, 35, 82, 37, 38, 39, 40, 41, 42, 43, 16, 44, 18, 45, 23, 46, 47, 48, 49, 50, 51, 52, 53, 54, 55, 56, 89, 90, 91, 92, 93, 94, 95, 96, 97, 98, 99, 100, 101, 102, 103, 104, 105, 106, 118, 119, 120] (by decide +kernel) (by decide +kernel)
set_option maxRecDepth 20000 in
theorem gX7_count_X7_calmest : GoodIn wsX7_count (wsV RX7 234 RX7 yX7_calmest wsX7_calmest) := goodIn_app (goodIn_of _ (by decide +kernel)) ggX7_count_X7_calmest
theorem dX7_count_0 : decode cX7_count 0 = .ok (.iload_n 1, 1) := by decide +kernel
theorem dX7_count_1 : decode cX7_count 1 = .ok (.tableswitch 201 0 13 #[71, 82, 90, 101, 112, 123, 135, 140, 145, 155, 165, 175, 185, 193], 71) := by decide +kernel
theorem dX7_count_72 : decode cX7_count 72 = .ok (.aload_n 0, 1) := by decide +kernel
theorem dX7_count_73 : decode cX7_count 73 = .ok (.getfield 10, 3) := by decide +kernel
theorem dX7_count_76 : decode cX7_count 76 = .ok (.getfield 84, 3) := by decide +kernel
theorem dX7_count_79 : decode cX7_count 79 = .ok (.getfield 98, 3) := by decide +kernel
theorem dX7_count_82 : decode cX7_count 82 = .ok (.ireturn, 1) := by decide +kernel
theorem dX7_count_83 : decode cX7_count 83 = .ok (.aload_n 0, 1) := by decide +kernel
theorem dX7_count_84 : decode cX7_count 84 = .ok (.getfield 10, 3) := by decide +kernel
theorem dX7_count_87 : decode cX7_count 87 = .ok (.getfield 126, 3) := by decide +kernel
theorem dX7_count_90 : decode cX7_count 90 = .ok (.ireturn, 1) := by decide +kernel
theorem dX7_count_91 : decode cX7_count 91 = .ok (.aload_n 0, 1) := by decide +kernel
theorem dX7_count_92 : decode cX7_count 92 = .ok (.getfield 10, 3) := by decide +kernel
theorem dX7_count_95 : decode cX7_count 95 = .ok (.getfield 129, 3) := by decide +kernel
theorem dX7_count_98 : decode cX7_count 98 = .ok (.getfield 133, 3) := by decide +kernel
theorem dX7_count_101 : decode cX7_count 101 = .ok (.ireturn, 1) := by decide +kernel
theorem dX7_count_102 : decode cX7_count 102 = .ok (.aload_n 0, 1) := by decide +kernel
theorem dX7_count_103 : decode cX7_count 103 = .ok (.getfield 10, 3) := by decide +kernel
theorem dX7_count_106 : decode cX7_count 106 = .ok (.getfield 129, 3) := by decide +kernel
theorem dX7_count_109 : decode cX7_count 109 = .ok (.getfield 222, 3) := by decide +kernel
theorem dX7_count_112 : decode cX7_count 112 = .ok (.ireturn, 1) := by decide +kernel
theorem dX7_count_113 : decode cX7_count 113 = .ok (.aload_n 0, 1) := by decide +kernel
theorem dX7_count_114 : decode cX7_count 114 = .ok (.getfield 10, 3) := by decide +kernel
theorem dX7_count_117 : decode cX7_count 117 = .ok (.getfield 84, 3) := by decide +kernel
theorem dX7_count_120 : decode cX7_count 120 = .ok (.invokevirtual 225, 3) := by decide +kernel
theorem dX7_count_123 : decode cX7_count 123 = .ok (.ireturn, 1) := by decide +kernel
theorem dX7_count_124 : decode cX7_count 124 = .ok (.aload_n 0, 1) := by decide +kernel
theorem dX7_count_125 : decode cX7_count 125 = .ok (.aload_n 0, 1) := by decide +kernel
theorem dX7_count_126 : decode cX7_count 126 = .ok (.getfield 10, 3) := by decide +kernel
theorem dX7_count_129 : decode cX7_count 129 = .ok (.getfield 126, 3) := by decide +kernel
theorem dX7_count_132 : decode cX7_count 132 = .ok (.invokevirtual 228, 3) := by decide +kernel
theorem dX7_count_135 : decode cX7_count 135 = .ok (.ireturn, 1) := by decide +kernel
theorem dX7_count_136 : decode cX7_count 136 = .ok (.aload_n 0, 1) := by decide +kernel
theorem dX7_count_137 : decode cX7_count 137 = .ok (.invokevirtual 231, 3) := by decide +kernel
theorem dX7_count_140 : decode cX7_count 140 = .ok (.ireturn, 1) := by decide +kernel
theorem dX7_count_141 : decode cX7_count 141 = .ok (.aload_n 0, 1) := by decide +kernel
theorem dX7_count_142 : decode cX7_count 142 = .ok (.invokevirtual 234, 3) := by decide +kernel
theorem dX7_count_145 : decode cX7_count 145 = .ok (.ireturn, 1) := by decide +kernel
theorem dX7_count_146 : decode cX7_count 146 = .ok (.aload_n 0, 1) := by decide +kernel
theorem dX7_count_147 : decode cX7_count 147 = .ok (.getfield 10, 3) := by decide +kernel
theorem dX7_count_150 : decode cX7_count 150 = .ok (.getfield 77, 3) := by decide +kernel
theorem dX7_count_153 : decode cX7_count 153 = .ok (.iconst 0, 1) := by decide +kernel
theorem dX7_count_154 : decode cX7_count 154 = .ok (.iaload, 1) := by decide +kernel
theorem dX7_count_155 : decode cX7_count 155 = .ok (.ireturn, 1) := by decide +kernel
theorem dX7_count_156 : decode cX7_count 156 = .ok (.aload_n 0, 1) := by decide +kernel
theorem dX7_count_157 : decode cX7_count 157 = .ok (.getfield 10, 3) := by decide +kernel
theorem dX7_count_160 : decode cX7_count 160 = .ok (.getfield 77, 3) := by decide +kernel
theorem dX7_count_163 : decode cX7_count 163 = .ok (.iconst 1, 1) := by decide +kernel
theorem dX7_count_164 : decode cX7_count 164 = .ok (.iaload, 1) := by decide +kernel
theorem dX7_count_165 : decode cX7_count 165 = .ok (.ireturn, 1) := by decide +kernel
theorem dX7_count_166 : decode cX7_count 166 = .ok (.aload_n 0, 1) := by decide +kernel
theorem dX7_count_167 : decode cX7_count 167 = .ok (.getfield 10, 3) := by decide +kernel
theorem dX7_count_170 : decode cX7_count 170 = .ok (.getfield 77, 3) := by decide +kernel
theorem dX7_count_173 : decode cX7_count 173 = .ok (.iconst 2, 1) := by decide +kernel
theorem dX7_count_174 : decode cX7_count 174 = .ok (.iaload, 1) := by decide +kernel
theorem dX7_count_175 : decode cX7_count 175 = .ok (.ireturn, 1) := by decide +kernel
theorem dX7_count_176 : decode cX7_count 176 = .ok (.aload_n 0, 1) := by decide +kernel
theorem dX7_count_177 : decode cX7_count 177 = .ok (.getfield 10, 3) := by decide +kernel
theorem dX7_count_180 : decode cX7_count 180 = .ok (.getfield 77, 3) := by decide +kernel
theorem dX7_count_183 : decode cX7_count 183 = .ok (.iconst 3, 1) := by decide +kernel
theorem dX7_count_184 : decode cX7_count 184 = .ok (.iaload, 1) := by decide +kernel
theorem dX7_count_185 : decode cX7_count 185 = .ok (.ireturn, 1) := by decide +kernel
theorem dX7_count_186 : decode cX7_count 186 = .ok (.aload_n 0, 1) := by decide +kernel
theorem dX7_count_187 : decode cX7_count 187 = .ok (.getfield 41, 3) := by decide +kernel
theorem dX7_count_190 : decode cX7_count 190 = .ok (.getfield 162, 3) := by decide +kernel
theorem dX7_count_193 : decode cX7_count 193 = .ok (.ireturn, 1) := by decide +kernel
theorem dX7_count_194 : decode cX7_count 194 = .ok (.aload_n 0, 1) := by decide +kernel
theorem dX7_count_195 : decode cX7_count 195 = .ok (.getfield 26, 3) := by decide +kernel
theorem dX7_count_198 : decode cX7_count 198 = .ok (.getfield 237, 3) := by decide +kernel
theorem dX7_count_201 : decode cX7_count 201 = .ok (.ireturn, 1) := by decide +kernel
theorem dX7_count_202 : decode cX7_count 202 = .ok (.bipush (-2), 2) := by decide +kernel
theorem dX7_count_204 : decode cX7_count 204 = .ok (.ireturn, 1) := by decide +kernel
set_option maxRecDepth 20000 in
theorem ggX7_ifWind_X7_isForce : GoodIn wsX7_ifWind wsX7_isForce := goodIn_r _ [4, 5, 6, 3, 7] (by decide +kernel) (by decide +kernel)
set_option maxRecDepth 20000 in
theorem gX7_ifWind_X7_isForce : GoodIn wsX7_ifWind (va_wsS RX7 123 yX7_isForce wsX7_isForce) := goodIn_app (goodIn_of _ (by decide +kernel)) ggX7_ifWind_X7_isForce
set_option maxRecDepth 20000 in
theorem ggX7_ifWind_X7_hatsBy : GoodIn wsX7_ifWind wsX7_hatsBy := goodIn_r _ [11, 12, 13, 14, 15, 16, 17, 18, 19, 20, 21, 22, 23, 24, 25, 26, 27, 28, 29, 30, 31, 32, 33, 34, 35, 36, 3, 37, 38, 39, 40, 41, 42, 43, 44, 45, 46, 47, 48, 49, 50, 51, 52, 53, 54, 55, 56, 57, 58, 59, 60, 61, 62, 63, 64, 65, 66, 67, 68, 69, 70, 71, 72, 73, 74, 75, 76, 77, 78, 79, 80, 81, 82, 83] (by decide +kernel) (by decide +kernel)
set_option maxRecDepth 20000 in
theorem gX7_ifWind_X7_hatsBy : GoodIn wsX7_ifWind (wsV RX7 228 RX7 yX7_hatsBy wsX7_hatsBy) := goodIn_app (goodIn_of _ (by decide +kernel)) ggX7_ifWind_X7_hatsBy
theorem dX7_ifWind_0 : decode cX7_ifWind 0 = .ok (.iload_n 1, 1) := by decide +kernel
theorem dX7_ifWind_1 : decode cX7_ifWind 1 = .ok (.invokestatic 123, 3) := by decide +kernel
theorem dX7_ifWind_4 : decode cX7_ifWind 4 = .ok (.ifCond .eq 11, 3) := by decide +kernel
theorem dX7_ifWind_7 : decode cX7_ifWind 7 = .ok (.aload_n 0, 1) := by decide +kernel
theorem dX7_ifWind_8 : decode cX7_ifWind 8 = .ok (.iload_n 1, 1) := by decide +kernel
theorem dX7_ifWind_9 : decode cX7_ifWind 9 = .ok (.invokevirtual 228, 3) := by decide +kernel
theorem dX7_ifWind_12 : decode cX7_ifWind 12 = .ok (.goto 5, 3) := by decide +kernel
theorem dX7_ifWind_15 : decode cX7_ifWind 15 = .ok (.bipush (-2), 2) := by decide +kernel
theorem dX7_ifWind_17 : decode cX7_ifWind 17 = .ok (.ireturn, 1) := by decide +kernel
set_option maxRecDepth 20000 in
theorem ggX7_windFor_X7_isWithin : GoodIn wsX7_windFor wsX7_isWithin := goodIn_r _ [7] (by decide +kernel) (by decide +kernel)
set_option maxRecDepth 20000 in
theorem gX7_windFor_X7_isWithin : GoodIn wsX7_windFor (va_wsS RX7 69 yX7_isWithin wsX7_isWithin) := goodIn_app (goodIn_of _ (by decide +kernel)) ggX7_windFor_X7_isWithin
set_option maxRecDepth 20000 in
theorem ggX7_windFor_X0_part : GoodIn wsX7_windFor wsX0_part := goodIn_r _ [12, 13, 14, 15, 16, 17, 68, 69, 70, 71, 72, 73, 74, 75, 76] (by decide +kernel) (by decide +kernel)
set_option maxRecDepth 20000 in
theorem gX7_windFor_X0_part : GoodIn wsX7_windFor (wsV RX7 238 RX0 yX0_part wsX0_part) := goodIn_app (goodIn_of _ (by decide +kernel)) ggX7_windFor_X0_part
set_option maxRecDepth 20000 in
theorem ggX7_windFor_X0_blow : GoodIn wsX7_windFor wsX0_blow := goodIn_r _ [21, 13, 16, 22, 23, 24, 25, 26, 27, 28, 29, 6, 30, 31, 32, 33, 11, 34, 17, 14, 15, 35, 36, 37, 38, 39, 40, 68, 69, 70, 71, 72, 73, 74, 75, 76] (by decide +kernel) (by decide +kernel)
set_option maxRecDepth 20000 in
theorem gX7_windFor_X0_blow : GoodIn wsX7_windFor (wsV RX7 242 RX0 yX0_blow wsX0_blow) := goodIn_app (goodIn_of _ (by decide +kernel)) ggX7_windFor_X0_blow
set_option maxRecDepth 20000 in
theorem ggX7_windFor_X0_hatsLost : GoodIn wsX7_windFor wsX0_hatsLost := goodIn_r _ [44, 45, 13, 46, 47, 48, 11, 49, 50, 51, 35, 36, 37, 38, 52, 53, 54, 55, 22, 64, 65, 66, 67, 68, 69, 70, 71, 72, 73, 74, 75, 76] (by decide +kernel) (by decide +kernel)
set_option maxRecDepth 20000 in
theorem gX7_windFor_X0_hatsLost : GoodIn wsX7_windFor (wsV RX7 141 RX0 yX0_hatsLost wsX0_hatsLost) := goodIn_app (goodIn_of _ (by decide +kernel)) ggX7_windFor_X0_hatsLost
theorem dX7_windFor_0 : decode cX7_windFor 0 = .ok (.iload_n 1, 1) := by decide +kernel
theorem dX7_windFor_1 : decode cX7_windFor 1 = .ok (.iconst 1, 1) := by decide +kernel
theorem dX7_windFor_2 : decode cX7_windFor 2 = .ok (.sipush 999, 3) := by decide +kernel
theorem dX7_windFor_5 : decode cX7_windFor 5 = .ok (.invokestatic 69, 3) := by decide +kernel
theorem dX7_windFor_8 : decode cX7_windFor 8 = .ok (.ifCond .ne 6, 3) := by decide +kernel
theorem dX7_windFor_11 : decode cX7_windFor 11 = .ok (.bipush (-2), 2) := by decide +kernel
theorem dX7_windFor_13 : decode cX7_windFor 13 = .ok (.ireturn, 1) := by decide +kernel
theorem dX7_windFor_14 : decode cX7_windFor 14 = .ok (.aload_n 0, 1) := by decide +kernel
theorem dX7_windFor_15 : decode cX7_windFor 15 = .ok (.getfield 19, 3) := by decide +kernel
theorem dX7_windFor_18 : decode cX7_windFor 18 = .ok (.aload_n 0, 1) := by decide +kernel
theorem dX7_windFor_19 : decode cX7_windFor 19 = .ok (.getfield 10, 3) := by decide +kernel
theorem dX7_windFor_22 : decode cX7_windFor 22 = .ok (.getfield 84, 3) := by decide +kernel
theorem dX7_windFor_25 : decode cX7_windFor 25 = .ok (.bipush (-6), 2) := by decide +kernel
theorem dX7_windFor_27 : decode cX7_windFor 27 = .ok (.invokevirtual 238, 3) := by decide +kernel
theorem dX7_windFor_30 : decode cX7_windFor 30 = .ok (.iconst 0, 1) := by decide +kernel
theorem dX7_windFor_31 : decode cX7_windFor 31 = .ok (.istore_n 2, 1) := by decide +kernel
theorem dX7_windFor_32 : decode cX7_windFor 32 = .ok (.iload_n 2, 1) := by decide +kernel
theorem dX7_windFor_33 : decode cX7_windFor 33 = .ok (.sipush 200, 3) := by decide +kernel
theorem dX7_windFor_36 : decode cX7_windFor 36 = .ok (.if_icmp .gt 41, 3) := by decide +kernel
theorem dX7_windFor_39 : decode cX7_windFor 39 = .ok (.aload_n 0, 1) := by decide +kernel
theorem dX7_windFor_40 : decode cX7_windFor 40 = .ok (.getfield 19, 3) := by decide +kernel
theorem dX7_windFor_43 : decode cX7_windFor 43 = .ok (.aload_n 0, 1) := by decide +kernel
theorem dX7_windFor_44 : decode cX7_windFor 44 = .ok (.getfield 10, 3) := by decide +kernel
theorem dX7_windFor_47 : decode cX7_windFor 47 = .ok (.getfield 84, 3) := by decide +kernel
theorem dX7_windFor_50 : decode cX7_windFor 50 = .ok (.iload_n 2, 1) := by decide +kernel
theorem dX7_windFor_51 : decode cX7_windFor 51 = .ok (.invokevirtual 242, 3) := by decide +kernel
theorem dX7_windFor_54 : decode cX7_windFor 54 = .ok (.aload_n 0, 1) := by decide +kernel
theorem dX7_windFor_55 : decode cX7_windFor 55 = .ok (.getfield 19, 3) := by decide +kernel
theorem dX7_windFor_58 : decode cX7_windFor 58 = .ok (.aload_n 0, 1) := by decide +kernel
theorem dX7_windFor_59 : decode cX7_windFor 59 = .ok (.getfield 10, 3) := by decide +kernel
theorem dX7_windFor_62 : decode cX7_windFor 62 = .ok (.invokevirtual 141, 3) := by decide +kernel
theorem dX7_windFor_65 : decode cX7_windFor 65 = .ok (.iload_n 1, 1) := by decide +kernel
theorem dX7_windFor_66 : decode cX7_windFor 66 = .ok (.if_icmp .lt 5, 3) := by decide +kernel
theorem dX7_windFor_69 : decode cX7_windFor 69 = .ok (.iload_n 2, 1) := by decide +kernel
theorem dX7_windFor_70 : decode cX7_windFor 70 = .ok (.ireturn, 1) := by decide +kernel
theorem dX7_windFor_71 : decode cX7_windFor 71 = .ok (.iinc 2 1, 3) := by decide +kernel
theorem dX7_windFor_74 : decode cX7_windFor 74 = .ok (.goto (-42), 3) := by decide +kernel
theorem dX7_windFor_77 : decode cX7_windFor 77 = .ok (.bipush (-6), 2) := by decide +kernel
theorem dX7_windFor_79 : decode cX7_windFor 79 = .ok (.ireturn, 1) := by decide +kernel
set_option maxRecDepth 20000 in
theorem ggX7_windOfFlag_X5_has : GoodIn wsX7_windOfFlag wsX5_has := goodIn_r _ [9, 10, 11, 12, 13, 62, 63, 64, 65, 66, 67] (by decide +kernel) (by decide +kernel)
set_option maxRecDepth 20000 in
theorem gX7_windOfFlag_X5_has : GoodIn wsX7_windOfFlag (wsV RX7 102 RX5 yX5_has wsX5_has) := goodIn_app (goodIn_of _ (by decide +kernel)) ggX7_windOfFlag_X5_has
set_option maxRecDepth 20000 in
theorem ggX7_windOfFlag_X7_isWithin : GoodIn wsX7_windOfFlag wsX7_isWithin := goodIn_r _ [16] (by decide +kernel) (by decide +kernel)
set_option maxRecDepth 20000 in
theorem gX7_windOfFlag_X7_isWithin : GoodIn wsX7_windOfFlag (va_wsS RX7 69 yX7_isWithin wsX7_isWithin) := goodIn_app (goodIn_of _ (by decide +kernel)) ggX7_windOfFlag_X7_isWithin
set_option maxRecDepth 20000 in
theorem ggX7_windOfFlag_X0_part : GoodIn wsX7_windOfFlag wsX0_part := goodIn_r _ [21, 22, 23, 24, 25, 26, 62, 63, 64, 65, 66, 67, 68, 69, 70] (by decide +kernel) (by decide +kernel)
set_option maxRecDepth 20000 in
theorem gX7_windOfFlag_X0_part : GoodIn wsX7_windOfFlag (wsV RX7 238 RX0 yX0_part wsX0_part) := goodIn_app (goodIn_of _ (by decide +kernel)) ggX7_windOfFlag_X0_part
set_option maxRecDepth 20000 in
theorem ggX7_windOfFlag_X0_blow : GoodIn wsX7_windOfFlag wsX0_blow := goodIn_r _ [30, 22, 25, 31, 32, 6, 7, 8, 9, 10, 11, 12, 13, 33, 34, 35, 20, 36, 26, 23, 24, 37, 38, 39, 40, 41, 42, 62, 63, 64, 65, 66, 67, 68, 69, 70] (by decide +kernel) (by decide +kernel)
set_option maxRecDepth 20000 in
theorem gX7_windOfFlag_X0_blow : GoodIn wsX7_windOfFlag (wsV RX7 242 RX0 yX0_blow wsX0_blow) := goodIn_app (goodIn_of _ (by decide +kernel)) ggX7_windOfFlag_X0_blow
set_option maxRecDepth 20000 in
theorem ggX7_windOfFlag_X0_flagSteps : GoodIn wsX7_windOfFlag wsX0_flagSteps := goodIn_r _ [46, 47, 48, 31, 49, 37, 38, 39, 40, 41, 12, 42, 58, 59, 60, 61, 62, 63, 64, 65, 66, 67, 68, 69, 70] (by decide +kernel) (by decide +kernel)
set_option maxRecDepth 20000 in
theorem gX7_windOfFlag_X0_flagSteps : GoodIn wsX7_windOfFlag (wsV RX7 196 RX0 yX0_flagSteps wsX0_flagSteps) := goodIn_app (goodIn_of _ (by decide +kernel)) ggX7_windOfFlag_X0_flagSteps
theorem dX7_windOfFlag_0 : decode cX7_windOfFlag 0 = .ok (.aload_n 0, 1) := by decide +kernel
theorem dX7_windOfFlag_1 : decode cX7_windOfFlag 1 = .ok (.getfield 10, 3) := by decide +kernel
theorem dX7_windOfFlag_4 : decode cX7_windOfFlag 4 = .ok (.getfield 84, 3) := by decide +kernel
theorem dX7_windOfFlag_7 : decode cX7_windOfFlag 7 = .ok (.iload_n 1, 1) := by decide +kernel
theorem dX7_windOfFlag_8 : decode cX7_windOfFlag 8 = .ok (.invokevirtual 102, 3) := by decide +kernel
theorem dX7_windOfFlag_11 : decode cX7_windOfFlag 11 = .ok (.ifCond .ne 5, 3) := by decide +kernel
theorem dX7_windOfFlag_14 : decode cX7_windOfFlag 14 = .ok (.iconst (-1), 1) := by decide +kernel
theorem dX7_windOfFlag_15 : decode cX7_windOfFlag 15 = .ok (.ireturn, 1) := by decide +kernel
theorem dX7_windOfFlag_16 : decode cX7_windOfFlag 16 = .ok (.iload_n 2, 1) := by decide +kernel
theorem dX7_windOfFlag_17 : decode cX7_windOfFlag 17 = .ok (.iconst 1, 1) := by decide +kernel
theorem dX7_windOfFlag_18 : decode cX7_windOfFlag 18 = .ok (.bipush 12, 2) := by decide +kernel
theorem dX7_windOfFlag_20 : decode cX7_windOfFlag 20 = .ok (.invokestatic 69, 3) := by decide +kernel
theorem dX7_windOfFlag_23 : decode cX7_windOfFlag 23 = .ok (.ifCond .ne 6, 3) := by decide +kernel
theorem dX7_windOfFlag_26 : decode cX7_windOfFlag 26 = .ok (.bipush (-2), 2) := by decide +kernel
theorem dX7_windOfFlag_28 : decode cX7_windOfFlag 28 = .ok (.ireturn, 1) := by decide +kernel
theorem dX7_windOfFlag_29 : decode cX7_windOfFlag 29 = .ok (.aload_n 0, 1) := by decide +kernel
theorem dX7_windOfFlag_30 : decode cX7_windOfFlag 30 = .ok (.getfield 10, 3) := by decide +kernel
theorem dX7_windOfFlag_33 : decode cX7_windOfFlag 33 = .ok (.getfield 84, 3) := by decide +kernel
theorem dX7_windOfFlag_36 : decode cX7_windOfFlag 36 = .ok (.getfield 171, 3) := by decide +kernel
theorem dX7_windOfFlag_39 : decode cX7_windOfFlag 39 = .ok (.iload_n 1, 1) := by decide +kernel
theorem dX7_windOfFlag_40 : decode cX7_windOfFlag 40 = .ok (.iaload, 1) := by decide +kernel
theorem dX7_windOfFlag_41 : decode cX7_windOfFlag 41 = .ok (.ifCond .ne 6, 3) := by decide +kernel
theorem dX7_windOfFlag_44 : decode cX7_windOfFlag 44 = .ok (.bipush (-5), 2) := by decide +kernel
theorem dX7_windOfFlag_46 : decode cX7_windOfFlag 46 = .ok (.ireturn, 1) := by decide +kernel
theorem dX7_windOfFlag_47 : decode cX7_windOfFlag 47 = .ok (.aload_n 0, 1) := by decide +kernel
theorem dX7_windOfFlag_48 : decode cX7_windOfFlag 48 = .ok (.getfield 19, 3) := by decide +kernel
theorem dX7_windOfFlag_51 : decode cX7_windOfFlag 51 = .ok (.aload_n 0, 1) := by decide +kernel
theorem dX7_windOfFlag_52 : decode cX7_windOfFlag 52 = .ok (.getfield 10, 3) := by decide +kernel
theorem dX7_windOfFlag_55 : decode cX7_windOfFlag 55 = .ok (.getfield 84, 3) := by decide +kernel
theorem dX7_windOfFlag_58 : decode cX7_windOfFlag 58 = .ok (.bipush (-6), 2) := by decide +kernel
theorem dX7_windOfFlag_60 : decode cX7_windOfFlag 60 = .ok (.invokevirtual 238, 3) := by decide +kernel
theorem dX7_windOfFlag_63 : decode cX7_windOfFlag 63 = .ok (.iconst 0, 1) := by decide +kernel
theorem dX7_windOfFlag_64 : decode cX7_windOfFlag 64 = .ok (.istore_n 3, 1) := by decide +kernel
theorem dX7_windOfFlag_65 : decode cX7_windOfFlag 65 = .ok (.iload_n 3, 1) := by decide +kernel
theorem dX7_windOfFlag_66 : decode cX7_windOfFlag 66 = .ok (.sipush 200, 3) := by decide +kernel
theorem dX7_windOfFlag_69 : decode cX7_windOfFlag 69 = .ok (.if_icmp .gt 42, 3) := by decide +kernel
theorem dX7_windOfFlag_72 : decode cX7_windOfFlag 72 = .ok (.aload_n 0, 1) := by decide +kernel
theorem dX7_windOfFlag_73 : decode cX7_windOfFlag 73 = .ok (.getfield 19, 3) := by decide +kernel
theorem dX7_windOfFlag_76 : decode cX7_windOfFlag 76 = .ok (.aload_n 0, 1) := by decide +kernel
theorem dX7_windOfFlag_77 : decode cX7_windOfFlag 77 = .ok (.getfield 10, 3) := by decide +kernel
theorem dX7_windOfFlag_80 : decode cX7_windOfFlag 80 = .ok (.getfield 84, 3) := by decide +kernel
theorem dX7_windOfFlag_83 : decode cX7_windOfFlag 83 = .ok (.iload_n 3, 1) := by decide +kernel
theorem dX7_windOfFlag_84 : decode cX7_windOfFlag 84 = .ok (.invokevirtual 242, 3) := by decide +kernel
theorem dX7_windOfFlag_87 : decode cX7_windOfFlag 87 = .ok (.aload_n 0, 1) := by decide +kernel
theorem dX7_windOfFlag_88 : decode cX7_windOfFlag 88 = .ok (.getfield 19, 3) := by decide +kernel
theorem dX7_windOfFlag_91 : decode cX7_windOfFlag 91 = .ok (.aload_n 0, 1) := by decide +kernel
theorem dX7_windOfFlag_92 : decode cX7_windOfFlag 92 = .ok (.getfield 10, 3) := by decide +kernel
theorem dX7_windOfFlag_95 : decode cX7_windOfFlag 95 = .ok (.iload_n 1, 1) := by decide +kernel
theorem dX7_windOfFlag_96 : decode cX7_windOfFlag 96 = .ok (.invokevirtual 196, 3) := by decide +kernel
theorem dX7_windOfFlag_99 : decode cX7_windOfFlag 99 = .ok (.iload_n 2, 1) := by decide +kernel
theorem dX7_windOfFlag_100 : decode cX7_windOfFlag 100 = .ok (.if_icmp .lt 5, 3) := by decide +kernel
theorem dX7_windOfFlag_103 : decode cX7_windOfFlag 103 = .ok (.iload_n 3, 1) := by decide +kernel
theorem dX7_windOfFlag_104 : decode cX7_windOfFlag 104 = .ok (.ireturn, 1) := by decide +kernel
theorem dX7_windOfFlag_105 : decode cX7_windOfFlag 105 = .ok (.iinc 3 1, 3) := by decide +kernel
theorem dX7_windOfFlag_108 : decode cX7_windOfFlag 108 = .ok (.goto (-43), 3) := by decide +kernel
theorem dX7_windOfFlag_111 : decode cX7_windOfFlag 111 = .ok (.bipush (-6), 2) := by decide +kernel
theorem dX7_windOfFlag_113 : decode cX7_windOfFlag 113 = .ok (.ireturn, 1) := by decide +kernel
set_option maxRecDepth 20000 in
theorem ggX7_without_X5_has : GoodIn wsX7_without wsX5_has := goodIn_r _ [11, 12, 13, 14, 15, 62, 63, 64, 65, 66, 67] (by decide +kernel) (by decide +kernel)
set_option maxRecDepth 20000 in
theorem gX7_without_X5_has : GoodIn wsX7_without (wsV RX7 102 RX5 yX5_has wsX5_has) := goodIn_app (goodIn_of _ (by decide +kernel)) ggX7_without_X5_has
set_option maxRecDepth 20000 in
theorem ggX7_without_X0_blowIn : GoodIn wsX7_without wsX0_blowIn := goodIn_r _ [20, 21, 22, 23, 24, 25, 19, 26, 27, 28, 29, 30, 31, 32, 33, 34, 35, 36, 37, 8, 9, 10, 11, 12, 13, 14, 15, 38, 39, 40, 41, 42, 43, 44, 45, 46, 47, 58, 59, 60, 61, 62, 63, 64, 65, 66, 67, 68, 69, 70] (by decide +kernel) (by decide +kernel)
set_option maxRecDepth 20000 in
theorem gX7_without_X0_blowIn : GoodIn wsX7_without (wsV RX7 138 RX0 yX0_blowIn wsX0_blowIn) := goodIn_app (goodIn_of _ (by decide +kernel)) ggX7_without_X0_blowIn
set_option maxRecDepth 20000 in
theorem ggX7_without_X0_part : GoodIn wsX7_without wsX0_part := goodIn_r _ [26, 27, 28, 29, 30, 31, 62, 63, 64, 65, 66, 67, 68, 69, 70] (by decide +kernel) (by decide +kernel)
set_option maxRecDepth 20000 in
theorem gX7_without_X0_part : GoodIn wsX7_without (wsV RX7 238 RX0 yX0_part wsX0_part) := goodIn_app (goodIn_of _ (by decide +kernel)) ggX7_without_X0_part
set_option maxRecDepth 20000 in
theorem ggX7_without_X0_blow : GoodIn wsX7_without wsX0_blow := goodIn_r _ [35, 27, 30, 36, 37, 8, 9, 10, 11, 12, 13, 14, 15, 38, 39, 40, 19, 41, 31, 28, 29, 42, 43, 44, 45, 46, 47, 62, 63, 64, 65, 66, 67, 68, 69, 70] (by decide +kernel) (by decide +kernel)
set_option maxRecDepth 20000 in
theorem gX7_without_X0_blow : GoodIn wsX7_without (wsV RX7 242 RX0 yX0_blow wsX0_blow) := goodIn_app (goodIn_of _ (by decide +kernel)) ggX7_without_X0_blow
theorem dX7_without_0 : decode cX7_without 0 = .ok (.aload_n 0, 1) := by decide +kernel
theorem dX7_without_1 : decode cX7_without 1 = .ok (.getfield 10, 3) := by decide +kernel
theorem dX7_without_4 : decode cX7_without 4 = .ok (.getfield 84, 3) := by decide +kernel
theorem dX7_without_7 : decode cX7_without 7 = .ok (.astore_n 3, 1) := by decide +kernel
theorem dX7_without_8 : decode cX7_without 8 = .ok (.aload_n 3, 1) := by decide +kernel
theorem dX7_without_9 : decode cX7_without 9 = .ok (.iload_n 1, 1) := by decide +kernel
theorem dX7_without_10 : decode cX7_without 10 = .ok (.invokevirtual 102, 3) := by decide +kernel
theorem dX7_without_13 : decode cX7_without 13 = .ok (.ifCond .eq 11, 3) := by decide +kernel
theorem dX7_without_16 : decode cX7_without 16 = .ok (.aload_n 3, 1) := by decide +kernel
theorem dX7_without_17 : decode cX7_without 17 = .ok (.iload_n 2, 1) := by decide +kernel
theorem dX7_without_18 : decode cX7_without 18 = .ok (.invokevirtual 102, 3) := by decide +kernel
theorem dX7_without_21 : decode cX7_without 21 = .ok (.ifCond .ne 5, 3) := by decide +kernel
theorem dX7_without_24 : decode cX7_without 24 = .ok (.iconst (-1), 1) := by decide +kernel
theorem dX7_without_25 : decode cX7_without 25 = .ok (.ireturn, 1) := by decide +kernel
theorem dX7_without_26 : decode cX7_without 26 = .ok (.iload_n 1, 1) := by decide +kernel
theorem dX7_without_27 : decode cX7_without 27 = .ok (.iload_n 2, 1) := by decide +kernel
theorem dX7_without_28 : decode cX7_without 28 = .ok (.if_icmp .eq 18, 3) := by decide +kernel
theorem dX7_without_31 : decode cX7_without 31 = .ok (.aload_n 3, 1) := by decide +kernel
theorem dX7_without_32 : decode cX7_without 32 = .ok (.getfield 165, 3) := by decide +kernel
theorem dX7_without_35 : decode cX7_without 35 = .ok (.iload_n 1, 1) := by decide +kernel
theorem dX7_without_36 : decode cX7_without 36 = .ok (.iaload, 1) := by decide +kernel
theorem dX7_without_37 : decode cX7_without 37 = .ok (.aload_n 3, 1) := by decide +kernel
theorem dX7_without_38 : decode cX7_without 38 = .ok (.getfield 165, 3) := by decide +kernel
theorem dX7_without_41 : decode cX7_without 41 = .ok (.iload_n 2, 1) := by decide +kernel
theorem dX7_without_42 : decode cX7_without 42 = .ok (.iaload, 1) := by decide +kernel
theorem dX7_without_43 : decode cX7_without 43 = .ok (.if_icmp .eq 6, 3) := by decide +kernel
theorem dX7_without_46 : decode cX7_without 46 = .ok (.bipush (-5), 2) := by decide +kernel
theorem dX7_without_48 : decode cX7_without 48 = .ok (.ireturn, 1) := by decide +kernel
theorem dX7_without_49 : decode cX7_without 49 = .ok (.aload_n 0, 1) := by decide +kernel
theorem dX7_without_50 : decode cX7_without 50 = .ok (.getfield 19, 3) := by decide +kernel
theorem dX7_without_53 : decode cX7_without 53 = .ok (.aload_n 0, 1) := by decide +kernel
theorem dX7_without_54 : decode cX7_without 54 = .ok (.getfield 10, 3) := by decide +kernel
theorem dX7_without_57 : decode cX7_without 57 = .ok (.invokevirtual 138, 3) := by decide +kernel
theorem dX7_without_60 : decode cX7_without 60 = .ok (.aload_n 0, 1) := by decide +kernel
theorem dX7_without_61 : decode cX7_without 61 = .ok (.getfield 19, 3) := by decide +kernel
theorem dX7_without_64 : decode cX7_without 64 = .ok (.getfield 190, 3) := by decide +kernel
theorem dX7_without_67 : decode cX7_without 67 = .ok (.iload_n 1, 1) := by decide +kernel
theorem dX7_without_68 : decode cX7_without 68 = .ok (.iaload, 1) := by decide +kernel
theorem dX7_without_69 : decode cX7_without 69 = .ok (.istore 4, 2) := by decide +kernel
theorem dX7_without_71 : decode cX7_without 71 = .ok (.aload_n 0, 1) := by decide +kernel
theorem dX7_without_72 : decode cX7_without 72 = .ok (.getfield 19, 3) := by decide +kernel
theorem dX7_without_75 : decode cX7_without 75 = .ok (.aload_n 3, 1) := by decide +kernel
theorem dX7_without_76 : decode cX7_without 76 = .ok (.iload_n 2, 1) := by decide +kernel
theorem dX7_without_77 : decode cX7_without 77 = .ok (.invokevirtual 238, 3) := by decide +kernel
theorem dX7_without_80 : decode cX7_without 80 = .ok (.aload_n 0, 1) := by decide +kernel
theorem dX7_without_81 : decode cX7_without 81 = .ok (.getfield 19, 3) := by decide +kernel
theorem dX7_without_84 : decode cX7_without 84 = .ok (.aload_n 3, 1) := by decide +kernel
theorem dX7_without_85 : decode cX7_without 85 = .ok (.aload_n 0, 1) := by decide +kernel
theorem dX7_without_86 : decode cX7_without 86 = .ok (.getfield 10, 3) := by decide +kernel
theorem dX7_without_89 : decode cX7_without 89 = .ok (.getfield 126, 3) := by decide +kernel
theorem dX7_without_92 : decode cX7_without 92 = .ok (.invokevirtual 242, 3) := by decide +kernel
theorem dX7_without_95 : decode cX7_without 95 = .ok (.aload_n 0, 1) := by decide +kernel
theorem dX7_without_96 : decode cX7_without 96 = .ok (.getfield 19, 3) := by decide +kernel
theorem dX7_without_99 : decode cX7_without 99 = .ok (.getfield 190, 3) := by decide +kernel
theorem dX7_without_102 : decode cX7_without 102 = .ok (.iload_n 1, 1) := by decide +kernel
theorem dX7_without_103 : decode cX7_without 103 = .ok (.iaload, 1) := by decide +kernel
theorem dX7_without_104 : decode cX7_without 104 = .ok (.iload 4, 2) := by decide +kernel
theorem dX7_without_106 : decode cX7_without 106 = .ok (.isub, 1) := by decide +kernel
theorem dX7_without_107 : decode cX7_without 107 = .ok (.sipush 500, 3) := by decide +kernel
theorem dX7_without_110 : decode cX7_without 110 = .ok (.iadd, 1) := by decide +kernel
theorem dX7_without_111 : decode cX7_without 111 = .ok (.ireturn, 1) := by decide +kernel
set_option maxRecDepth 20000 in
theorem ggX7_windiest_X0_blowIn : GoodIn wsX7_windiest wsX0_blowIn := goodIn_r _ [10, 11, 12, 13, 14, 15, 9, 16, 17, 18, 19, 20, 21, 22, 23, 24, 25, 26, 27, 28, 29, 30, 31, 32, 33, 34, 35, 36, 37, 38, 39, 40, 41, 42, 43, 44, 45, 59, 60, 61, 62, 63, 64, 65, 66, 67, 68, 69, 70, 71] (by decide +kernel) (by decide +kernel)
set_option maxRecDepth 20000 in
theorem gX7_windiest_X0_blowIn : GoodIn wsX7_windiest (wsV RX7 138 RX0 yX0_blowIn wsX0_blowIn) := goodIn_app (goodIn_of _ (by decide +kernel)) ggX7_windiest_X0_blowIn
set_option maxRecDepth 20000 in
theorem ggX7_windiest_X5_branchesOff : GoodIn wsX7_windiest wsX5_branchesOff := goodIn_r _ [49, 32, 50, 63, 64, 65, 66, 67, 68] (by decide +kernel) (by decide +kernel)
set_option maxRecDepth 20000 in
theorem gX7_windiest_X5_branchesOff : GoodIn wsX7_windiest (wsV RX7 180 RX5 yX5_branchesOff wsX5_branchesOff) := goodIn_app (goodIn_of _ (by decide +kernel)) ggX7_windiest_X5_branchesOff
theorem dX7_windiest_0 : decode cX7_windiest 0 = .ok (.aload_n 0, 1) := by decide +kernel
theorem dX7_windiest_1 : decode cX7_windiest 1 = .ok (.getfield 19, 3) := by decide +kernel
theorem dX7_windiest_4 : decode cX7_windiest 4 = .ok (.aload_n 0, 1) := by decide +kernel
theorem dX7_windiest_5 : decode cX7_windiest 5 = .ok (.getfield 10, 3) := by decide +kernel
theorem dX7_windiest_8 : decode cX7_windiest 8 = .ok (.invokevirtual 138, 3) := by decide +kernel
theorem dX7_windiest_11 : decode cX7_windiest 11 = .ok (.bipush (-6), 2) := by decide +kernel
theorem dX7_windiest_13 : decode cX7_windiest 13 = .ok (.istore_n 1, 1) := by decide +kernel
theorem dX7_windiest_14 : decode cX7_windiest 14 = .ok (.iconst 0, 1) := by decide +kernel
theorem dX7_windiest_15 : decode cX7_windiest 15 = .ok (.istore_n 2, 1) := by decide +kernel
theorem dX7_windiest_16 : decode cX7_windiest 16 = .ok (.iload_n 2, 1) := by decide +kernel
theorem dX7_windiest_17 : decode cX7_windiest 17 = .ok (.aload_n 0, 1) := by decide +kernel
theorem dX7_windiest_18 : decode cX7_windiest 18 = .ok (.getfield 10, 3) := by decide +kernel
theorem dX7_windiest_21 : decode cX7_windiest 21 = .ok (.getfield 84, 3) := by decide +kernel
theorem dX7_windiest_24 : decode cX7_windiest 24 = .ok (.getfield 98, 3) := by decide +kernel
theorem dX7_windiest_27 : decode cX7_windiest 27 = .ok (.if_icmp .ge 62, 3) := by decide +kernel
theorem dX7_windiest_30 : decode cX7_windiest 30 = .ok (.aload_n 0, 1) := by decide +kernel
theorem dX7_windiest_31 : decode cX7_windiest 31 = .ok (.getfield 10, 3) := by decide +kernel
theorem dX7_windiest_34 : decode cX7_windiest 34 = .ok (.getfield 84, 3) := by decide +kernel
theorem dX7_windiest_37 : decode cX7_windiest 37 = .ok (.iload_n 2, 1) := by decide +kernel
theorem dX7_windiest_38 : decode cX7_windiest 38 = .ok (.invokevirtual 180, 3) := by decide +kernel
theorem dX7_windiest_41 : decode cX7_windiest 41 = .ok (.ifCond .ne 7, 3) := by decide +kernel
theorem dX7_windiest_44 : decode cX7_windiest 44 = .ok (.iconst 1, 1) := by decide +kernel
theorem dX7_windiest_45 : decode cX7_windiest 45 = .ok (.goto 4, 3) := by decide +kernel
theorem dX7_windiest_48 : decode cX7_windiest 48 = .ok (.iconst 0, 1) := by decide +kernel
theorem dX7_windiest_49 : decode cX7_windiest 49 = .ok (.istore_n 3, 1) := by decide +kernel
theorem dX7_windiest_50 : decode cX7_windiest 50 = .ok (.iload_n 3, 1) := by decide +kernel
theorem dX7_windiest_51 : decode cX7_windiest 51 = .ok (.ifCond .eq 32, 3) := by decide +kernel
theorem dX7_windiest_54 : decode cX7_windiest 54 = .ok (.iload_n 1, 1) := by decide +kernel
theorem dX7_windiest_55 : decode cX7_windiest 55 = .ok (.bipush (-6), 2) := by decide +kernel
theorem dX7_windiest_57 : decode cX7_windiest 57 = .ok (.if_icmp .eq 24, 3) := by decide +kernel
theorem dX7_windiest_60 : decode cX7_windiest 60 = .ok (.aload_n 0, 1) := by decide +kernel
theorem dX7_windiest_61 : decode cX7_windiest 61 = .ok (.getfield 19, 3) := by decide +kernel
theorem dX7_windiest_64 : decode cX7_windiest 64 = .ok (.getfield 190, 3) := by decide +kernel
theorem dX7_windiest_67 : decode cX7_windiest 67 = .ok (.iload_n 2, 1) := by decide +kernel
theorem dX7_windiest_68 : decode cX7_windiest 68 = .ok (.iaload, 1) := by decide +kernel
theorem dX7_windiest_69 : decode cX7_windiest 69 = .ok (.aload_n 0, 1) := by decide +kernel
theorem dX7_windiest_70 : decode cX7_windiest 70 = .ok (.getfield 19, 3) := by decide +kernel
theorem dX7_windiest_73 : decode cX7_windiest 73 = .ok (.getfield 190, 3) := by decide +kernel
theorem dX7_windiest_76 : decode cX7_windiest 76 = .ok (.iload_n 1, 1) := by decide +kernel
theorem dX7_windiest_77 : decode cX7_windiest 77 = .ok (.iaload, 1) := by decide +kernel
theorem dX7_windiest_78 : decode cX7_windiest 78 = .ok (.if_icmp .le 5, 3) := by decide +kernel
theorem dX7_windiest_81 : decode cX7_windiest 81 = .ok (.iload_n 2, 1) := by decide +kernel
theorem dX7_windiest_82 : decode cX7_windiest 82 = .ok (.istore_n 1, 1) := by decide +kernel
theorem dX7_windiest_83 : decode cX7_windiest 83 = .ok (.iinc 2 1, 3) := by decide +kernel
theorem dX7_windiest_86 : decode cX7_windiest 86 = .ok (.goto (-70), 3) := by decide +kernel
theorem dX7_windiest_89 : decode cX7_windiest 89 = .ok (.iload_n 1, 1) := by decide +kernel
theorem dX7_windiest_90 : decode cX7_windiest 90 = .ok (.ireturn, 1) := by decide +kernel
set_option maxRecDepth 20000 in
theorem ggX7_wipe_X3_clear : GoodIn wsX7_wipe wsX3_clear := goodIn_r _ [7, 8, 9, 18, 19, 20] (by decide +kernel) (by decide +kernel)
set_option maxRecDepth 20000 in
theorem gX7_wipe_X3_clear : GoodIn wsX7_wipe (wsV RX7 95 RX3 yX3_clear wsX3_clear) := goodIn_app (goodIn_of _ (by decide +kernel)) ggX7_wipe_X3_clear
theorem dX7_wipe_0 : decode cX7_wipe 0 = .ok (.aload_n 0, 1) := by decide +kernel
theorem dX7_wipe_1 : decode cX7_wipe 1 = .ok (.getfield 41, 3) := by decide +kernel
theorem dX7_wipe_4 : decode cX7_wipe 4 = .ok (.getfield 162, 3) := by decide +kernel
theorem dX7_wipe_7 : decode cX7_wipe 7 = .ok (.istore_n 1, 1) := by decide +kernel
theorem dX7_wipe_8 : decode cX7_wipe 8 = .ok (.aload_n 0, 1) := by decide +kernel
theorem dX7_wipe_9 : decode cX7_wipe 9 = .ok (.getfield 41, 3) := by decide +kernel
theorem dX7_wipe_12 : decode cX7_wipe 12 = .ok (.invokevirtual 95, 3) := by decide +kernel
theorem dX7_wipe_15 : decode cX7_wipe 15 = .ok (.iload_n 1, 1) := by decide +kernel
theorem dX7_wipe_16 : decode cX7_wipe 16 = .ok (.ireturn, 1) := by decide +kernel
set_option maxRecDepth 20000 in
theorem ggX7_fault_X4_read : GoodIn wsX7_fault wsX4_read := goodIn_r _ [7, 8, 9, 10, 11, 12, 13, 14, 15, 16, 17, 18, 19, 20, 21, 6, 22, 23, 24, 25, 26, 27, 28, 29, 30, 31, 32, 33, 34, 35, 36, 37, 38, 39, 40, 41, 42, 43, 44, 45, 46, 47, 48, 49, 50, 51, 52, 53, 54, 55, 56, 57, 58, 59, 60, 61, 62, 63, 64, 65, 66, 67, 68, 69, 70, 71, 72, 73, 74, 75, 76, 77, 78, 79, 80, 81, 82, 83, 84, 85, 86, 87, 88, 89, 90, 91, 92, 93, 94, 95, 96, 97, 98, 99, 108, 109, 110, 111, 112, 113, 114, 115, 116, 117, 118, 119] (by decide +kernel) (by decide +kernel)
set_option maxRecDepth 20000 in
theorem gX7_fault_X4_read : GoodIn wsX7_fault (wsV RX7 80 RX4 yX4_read wsX4_read) := goodIn_app (goodIn_of _ (by decide +kernel)) ggX7_fault_X4_read
theorem dX7_fault_0 : decode cX7_fault 0 = .ok (.aload_n 0, 1) := by decide +kernel
theorem dX7_fault_1 : decode cX7_fault 1 = .ok (.getfield 51, 3) := by decide +kernel
theorem dX7_fault_4 : decode cX7_fault 4 = .ok (.aload_n 0, 1) := by decide +kernel
theorem dX7_fault_5 : decode cX7_fault 5 = .ok (.getfield 41, 3) := by decide +kernel
theorem dX7_fault_8 : decode cX7_fault 8 = .ok (.invokevirtual 80, 3) := by decide +kernel
theorem dX7_fault_11 : decode cX7_fault 11 = .ok (.ireturn, 1) := by decide +kernel
set_option maxRecDepth 20000 in
theorem ggX7_undo_X1_takeBack : GoodIn wsX7_undo wsX1_takeBack := goodIn_r _ [8, 9, 10, 11, 12, 13, 14, 15, 16, 17, 18, 19, 20, 21, 22, 23, 24, 25, 26, 27, 28, 29, 30, 31, 32, 33, 34, 35, 36, 37, 38, 39, 40, 41, 42, 43, 44, 45, 46, 47, 48, 49, 50, 51, 52, 61, 62, 63, 64, 65, 66, 67, 68, 69, 70, 71, 72, 73, 74, 75, 76, 77, 78] (by decide +kernel) (by decide +kernel)
set_option maxRecDepth 20000 in
theorem gX7_undo_X1_takeBack : GoodIn wsX7_undo (wsV RX7 254 RX1 yX1_takeBack wsX1_takeBack) := goodIn_app (goodIn_of _ (by decide +kernel)) ggX7_undo_X1_takeBack
theorem dX7_undo_0 : decode cX7_undo 0 = .ok (.aload_n 0, 1) := by decide +kernel
theorem dX7_undo_1 : decode cX7_undo 1 = .ok (.getfield 26, 3) := by decide +kernel
theorem dX7_undo_4 : decode cX7_undo 4 = .ok (.getfield 237, 3) := by decide +kernel
theorem dX7_undo_7 : decode cX7_undo 7 = .ok (.ifCond .ne 6, 3) := by decide +kernel
theorem dX7_undo_10 : decode cX7_undo 10 = .ok (.bipush (-5), 2) := by decide +kernel
theorem dX7_undo_12 : decode cX7_undo 12 = .ok (.ireturn, 1) := by decide +kernel
theorem dX7_undo_13 : decode cX7_undo 13 = .ok (.aload_n 0, 1) := by decide +kernel
theorem dX7_undo_14 : decode cX7_undo 14 = .ok (.getfield 26, 3) := by decide +kernel
theorem dX7_undo_17 : decode cX7_undo 17 = .ok (.aload_n 0, 1) := by decide +kernel
theorem dX7_undo_18 : decode cX7_undo 18 = .ok (.getfield 10, 3) := by decide +kernel
theorem dX7_undo_21 : decode cX7_undo 21 = .ok (.invokevirtual 254, 3) := by decide +kernel
theorem dX7_undo_24 : decode cX7_undo 24 = .ok (.aload_n 0, 1) := by decide +kernel
theorem dX7_undo_25 : decode cX7_undo 25 = .ok (.getfield 26, 3) := by decide +kernel
theorem dX7_undo_28 : decode cX7_undo 28 = .ok (.getfield 237, 3) := by decide +kernel
theorem dX7_undo_31 : decode cX7_undo 31 = .ok (.ireturn, 1) := by decide +kernel
set_option maxRecDepth 20000 in
theorem ggX7_hatsBy_X0_part : GoodIn wsX7_hatsBy wsX0_part := goodIn_r _ [8, 9, 10, 11, 12, 13, 65, 66, 67, 68, 69, 70, 71, 72, 73] (by decide +kernel) (by decide +kernel)
set_option maxRecDepth 20000 in
theorem gX7_hatsBy_X0_part : GoodIn wsX7_hatsBy (wsV RX7 238 RX0 yX0_part wsX0_part) := goodIn_app (goodIn_of _ (by decide +kernel)) ggX7_hatsBy_X0_part
set_option maxRecDepth 20000 in
theorem ggX7_hatsBy_X0_blow : GoodIn wsX7_hatsBy wsX0_blow := goodIn_r _ [17, 9, 12, 18, 19, 20, 21, 22, 23, 24, 25, 26, 27, 28, 29, 30, 7, 31, 13, 10, 11, 32, 33, 34, 35, 36, 37, 65, 66, 67, 68, 69, 70, 71, 72, 73] (by decide +kernel) (by decide +kernel)
set_option maxRecDepth 20000 in
theorem gX7_hatsBy_X0_blow : GoodIn wsX7_hatsBy (wsV RX7 242 RX0 yX0_blow wsX0_blow) := goodIn_app (goodIn_of _ (by decide +kernel)) ggX7_hatsBy_X0_blow
set_option maxRecDepth 20000 in
theorem ggX7_hatsBy_X0_hatsLost : GoodIn wsX7_hatsBy wsX0_hatsLost := goodIn_r _ [41, 42, 9, 43, 44, 45, 7, 46, 47, 48, 32, 33, 34, 35, 49, 50, 51, 52, 18, 61, 62, 63, 64, 65, 66, 67, 68, 69, 70, 71, 72, 73] (by decide +kernel) (by decide +kernel)
set_option maxRecDepth 20000 in
theorem gX7_hatsBy_X0_hatsLost : GoodIn wsX7_hatsBy (wsV RX7 141 RX0 yX0_hatsLost wsX0_hatsLost) := goodIn_app (goodIn_of _ (by decide +kernel)) ggX7_hatsBy_X0_hatsLost
theorem dX7_hatsBy_0 : decode cX7_hatsBy 0 = .ok (.aload_n 0, 1) := by decide +kernel
theorem dX7_hatsBy_1 : decode cX7_hatsBy 1 = .ok (.getfield 19, 3) := by decide +kernel
theorem dX7_hatsBy_4 : decode cX7_hatsBy 4 = .ok (.aload_n 0, 1) := by decide +kernel
theorem dX7_hatsBy_5 : decode cX7_hatsBy 5 = .ok (.getfield 10, 3) := by decide +kernel
theorem dX7_hatsBy_8 : decode cX7_hatsBy 8 = .ok (.getfield 84, 3) := by decide +kernel
theorem dX7_hatsBy_11 : decode cX7_hatsBy 11 = .ok (.bipush (-6), 2) := by decide +kernel
theorem dX7_hatsBy_13 : decode cX7_hatsBy 13 = .ok (.invokevirtual 238, 3) := by decide +kernel
theorem dX7_hatsBy_16 : decode cX7_hatsBy 16 = .ok (.aload_n 0, 1) := by decide +kernel
theorem dX7_hatsBy_17 : decode cX7_hatsBy 17 = .ok (.getfield 19, 3) := by decide +kernel
theorem dX7_hatsBy_20 : decode cX7_hatsBy 20 = .ok (.aload_n 0, 1) := by decide +kernel
theorem dX7_hatsBy_21 : decode cX7_hatsBy 21 = .ok (.getfield 10, 3) := by decide +kernel
theorem dX7_hatsBy_24 : decode cX7_hatsBy 24 = .ok (.getfield 84, 3) := by decide +kernel
theorem dX7_hatsBy_27 : decode cX7_hatsBy 27 = .ok (.iload_n 1, 1) := by decide +kernel
theorem dX7_hatsBy_28 : decode cX7_hatsBy 28 = .ok (.invokevirtual 242, 3) := by decide +kernel
theorem dX7_hatsBy_31 : decode cX7_hatsBy 31 = .ok (.aload_n 0, 1) := by decide +kernel
theorem dX7_hatsBy_32 : decode cX7_hatsBy 32 = .ok (.getfield 19, 3) := by decide +kernel
theorem dX7_hatsBy_35 : decode cX7_hatsBy 35 = .ok (.aload_n 0, 1) := by decide +kernel
theorem dX7_hatsBy_36 : decode cX7_hatsBy 36 = .ok (.getfield 10, 3) := by decide +kernel
theorem dX7_hatsBy_39 : decode cX7_hatsBy 39 = .ok (.invokevirtual 141, 3) := by decide +kernel
theorem dX7_hatsBy_42 : decode cX7_hatsBy 42 = .ok (.ireturn, 1) := by decide +kernel
set_option maxRecDepth 20000 in
theorem ggX7_shelters_X0_blowIn : GoodIn wsX7_shelters wsX0_blowIn := goodIn_r _ [9, 10, 11, 12, 13, 14, 8, 15, 16, 17, 18, 19, 20, 21, 22, 23, 24, 25, 26, 27, 28, 29, 30, 31, 32, 33, 34, 35, 36, 37, 38, 39, 40, 41, 42, 43, 44, 63, 64, 65, 66, 67, 68, 69, 70, 71, 72, 73, 74, 75] (by decide +kernel) (by decide +kernel)
set_option maxRecDepth 20000 in
theorem gX7_shelters_X0_blowIn : GoodIn wsX7_shelters (wsV RX7 138 RX0 yX0_blowIn wsX0_blowIn) := goodIn_app (goodIn_of _ (by decide +kernel)) ggX7_shelters_X0_blowIn
set_option maxRecDepth 20000 in
theorem ggX7_shelters_X0_hatsLostIn : GoodIn wsX7_shelters wsX0_hatsLostIn := goodIn_r _ [48, 49, 10, 50, 39, 40, 41, 42, 51, 52, 53, 8, 54, 25, 63, 64, 65, 66, 67, 68, 69, 70, 71, 72, 73, 74, 75] (by decide +kernel) (by decide +kernel)
set_option maxRecDepth 20000 in
theorem gX7_shelters_X0_hatsLostIn : GoodIn wsX7_shelters (wsV RX7 202 RX0 yX0_hatsLostIn wsX0_hatsLostIn) := goodIn_app (goodIn_of _ (by decide +kernel)) ggX7_shelters_X0_hatsLostIn
theorem dX7_shelters_0 : decode cX7_shelters 0 = .ok (.aload_n 0, 1) := by decide +kernel
theorem dX7_shelters_1 : decode cX7_shelters 1 = .ok (.getfield 19, 3) := by decide +kernel
theorem dX7_shelters_4 : decode cX7_shelters 4 = .ok (.aload_n 0, 1) := by decide +kernel
theorem dX7_shelters_5 : decode cX7_shelters 5 = .ok (.getfield 10, 3) := by decide +kernel
theorem dX7_shelters_8 : decode cX7_shelters 8 = .ok (.invokevirtual 138, 3) := by decide +kernel
theorem dX7_shelters_11 : decode cX7_shelters 11 = .ok (.iconst 0, 1) := by decide +kernel
theorem dX7_shelters_12 : decode cX7_shelters 12 = .ok (.istore_n 1, 1) := by decide +kernel
theorem dX7_shelters_13 : decode cX7_shelters 13 = .ok (.iconst 0, 1) := by decide +kernel
theorem dX7_shelters_14 : decode cX7_shelters 14 = .ok (.istore_n 2, 1) := by decide +kernel
theorem dX7_shelters_15 : decode cX7_shelters 15 = .ok (.iload_n 2, 1) := by decide +kernel
theorem dX7_shelters_16 : decode cX7_shelters 16 = .ok (.aload_n 0, 1) := by decide +kernel
theorem dX7_shelters_17 : decode cX7_shelters 17 = .ok (.getfield 10, 3) := by decide +kernel
theorem dX7_shelters_20 : decode cX7_shelters 20 = .ok (.getfield 84, 3) := by decide +kernel
theorem dX7_shelters_23 : decode cX7_shelters 23 = .ok (.getfield 98, 3) := by decide +kernel
theorem dX7_shelters_26 : decode cX7_shelters 26 = .ok (.if_icmp .ge 30, 3) := by decide +kernel
theorem dX7_shelters_29 : decode cX7_shelters 29 = .ok (.aload_n 0, 1) := by decide +kernel
theorem dX7_shelters_30 : decode cX7_shelters 30 = .ok (.getfield 19, 3) := by decide +kernel
theorem dX7_shelters_33 : decode cX7_shelters 33 = .ok (.aload_n 0, 1) := by decide +kernel
theorem dX7_shelters_34 : decode cX7_shelters 34 = .ok (.getfield 10, 3) := by decide +kernel
theorem dX7_shelters_37 : decode cX7_shelters 37 = .ok (.iload_n 2, 1) := by decide +kernel
theorem dX7_shelters_38 : decode cX7_shelters 38 = .ok (.invokevirtual 202, 3) := by decide +kernel
theorem dX7_shelters_41 : decode cX7_shelters 41 = .ok (.ifCond .ne 9, 3) := by decide +kernel
theorem dX7_shelters_44 : decode cX7_shelters 44 = .ok (.iload_n 1, 1) := by decide +kernel
theorem dX7_shelters_45 : decode cX7_shelters 45 = .ok (.iconst 1, 1) := by decide +kernel
theorem dX7_shelters_46 : decode cX7_shelters 46 = .ok (.iload_n 2, 1) := by decide +kernel
theorem dX7_shelters_47 : decode cX7_shelters 47 = .ok (.ishl, 1) := by decide +kernel
theorem dX7_shelters_48 : decode cX7_shelters 48 = .ok (.ior, 1) := by decide +kernel
theorem dX7_shelters_49 : decode cX7_shelters 49 = .ok (.istore_n 1, 1) := by decide +kernel
theorem dX7_shelters_50 : decode cX7_shelters 50 = .ok (.iinc 2 1, 3) := by decide +kernel
theorem dX7_shelters_53 : decode cX7_shelters 53 = .ok (.goto (-38), 3) := by decide +kernel
theorem dX7_shelters_56 : decode cX7_shelters 56 = .ok (.iload_n 1, 1) := by decide +kernel
theorem dX7_shelters_57 : decode cX7_shelters 57 = .ok (.ireturn, 1) := by decide +kernel
set_option maxRecDepth 20000 in
theorem ggX7_calmest_X0_blowIn : GoodIn wsX7_calmest wsX0_blowIn := goodIn_r _ [10, 11, 12, 13, 14, 15, 9, 16, 17, 18, 19, 20, 21, 22, 23, 24, 25, 26, 27, 28, 29, 30, 31, 32, 33, 34, 35, 36, 37, 38, 39, 40, 41, 42, 43, 44, 45, 54, 55, 56, 57, 58, 59, 60, 61, 62, 63, 64, 65, 66] (by decide +kernel) (by decide +kernel)
set_option maxRecDepth 20000 in
theorem gX7_calmest_X0_blowIn : GoodIn wsX7_calmest (wsV RX7 138 RX0 yX0_blowIn wsX0_blowIn) := goodIn_app (goodIn_of _ (by decide +kernel)) ggX7_calmest_X0_blowIn
theorem dX7_calmest_0 : decode cX7_calmest 0 = .ok (.aload_n 0, 1) := by decide +kernel
theorem dX7_calmest_1 : decode cX7_calmest 1 = .ok (.getfield 19, 3) := by decide +kernel
theorem dX7_calmest_4 : decode cX7_calmest 4 = .ok (.aload_n 0, 1) := by decide +kernel
theorem dX7_calmest_5 : decode cX7_calmest 5 = .ok (.getfield 10, 3) := by decide +kernel
theorem dX7_calmest_8 : decode cX7_calmest 8 = .ok (.invokevirtual 138, 3) := by decide +kernel
theorem dX7_calmest_11 : decode cX7_calmest 11 = .ok (.iconst 0, 1) := by decide +kernel
theorem dX7_calmest_12 : decode cX7_calmest 12 = .ok (.istore_n 1, 1) := by decide +kernel
theorem dX7_calmest_13 : decode cX7_calmest 13 = .ok (.iconst 1, 1) := by decide +kernel
theorem dX7_calmest_14 : decode cX7_calmest 14 = .ok (.istore_n 2, 1) := by decide +kernel
theorem dX7_calmest_15 : decode cX7_calmest 15 = .ok (.iload_n 2, 1) := by decide +kernel
theorem dX7_calmest_16 : decode cX7_calmest 16 = .ok (.aload_n 0, 1) := by decide +kernel
theorem dX7_calmest_17 : decode cX7_calmest 17 = .ok (.getfield 10, 3) := by decide +kernel
theorem dX7_calmest_20 : decode cX7_calmest 20 = .ok (.getfield 84, 3) := by decide +kernel
theorem dX7_calmest_23 : decode cX7_calmest 23 = .ok (.getfield 98, 3) := by decide +kernel
theorem dX7_calmest_26 : decode cX7_calmest 26 = .ok (.if_icmp .ge 32, 3) := by decide +kernel
theorem dX7_calmest_29 : decode cX7_calmest 29 = .ok (.aload_n 0, 1) := by decide +kernel
theorem dX7_calmest_30 : decode cX7_calmest 30 = .ok (.getfield 19, 3) := by decide +kernel
theorem dX7_calmest_33 : decode cX7_calmest 33 = .ok (.getfield 190, 3) := by decide +kernel
theorem dX7_calmest_36 : decode cX7_calmest 36 = .ok (.iload_n 2, 1) := by decide +kernel
theorem dX7_calmest_37 : decode cX7_calmest 37 = .ok (.iaload, 1) := by decide +kernel
theorem dX7_calmest_38 : decode cX7_calmest 38 = .ok (.aload_n 0, 1) := by decide +kernel
theorem dX7_calmest_39 : decode cX7_calmest 39 = .ok (.getfield 19, 3) := by decide +kernel
theorem dX7_calmest_42 : decode cX7_calmest 42 = .ok (.getfield 190, 3) := by decide +kernel
theorem dX7_calmest_45 : decode cX7_calmest 45 = .ok (.iload_n 1, 1) := by decide +kernel
theorem dX7_calmest_46 : decode cX7_calmest 46 = .ok (.iaload, 1) := by decide +kernel
theorem dX7_calmest_47 : decode cX7_calmest 47 = .ok (.if_icmp .ge 5, 3) := by decide +kernel
theorem dX7_calmest_50 : decode cX7_calmest 50 = .ok (.iload_n 2, 1) := by decide +kernel
theorem dX7_calmest_51 : decode cX7_calmest 51 = .ok (.istore_n 1, 1) := by decide +kernel
theorem dX7_calmest_52 : decode cX7_calmest 52 = .ok (.iinc 2 1, 3) := by decide +kernel
theorem dX7_calmest_55 : decode cX7_calmest 55 = .ok (.goto (-40), 3) := by decide +kernel
theorem dX7_calmest_58 : decode cX7_calmest 58 = .ok (.iload_n 1, 1) := by decide +kernel
theorem dX7_calmest_59 : decode cX7_calmest 59 = .ok (.ireturn, 1) := by decide +kernel
theorem dX7_isWithin_0 : decode cX7_isWithin 0 = .ok (.iload_n 0, 1) := by decide +kernel
theorem dX7_isWithin_1 : decode cX7_isWithin 1 = .ok (.iload_n 1, 1) := by decide +kernel
theorem dX7_isWithin_2 : decode cX7_isWithin 2 = .ok (.if_icmp .lt 12, 3) := by decide +kernel
theorem dX7_isWithin_5 : decode cX7_isWithin 5 = .ok (.iload_n 0, 1) := by decide +kernel
theorem dX7_isWithin_6 : decode cX7_isWithin 6 = .ok (.iload_n 2, 1) := by decide +kernel
theorem dX7_isWithin_7 : decode cX7_isWithin 7 = .ok (.if_icmp .gt 7, 3) := by decide +kernel
theorem dX7_isWithin_10 : decode cX7_isWithin 10 = .ok (.iconst 1, 1) := by decide +kernel
theorem dX7_isWithin_11 : decode cX7_isWithin 11 = .ok (.goto 4, 3) := by decide +kernel
theorem dX7_isWithin_14 : decode cX7_isWithin 14 = .ok (.iconst 0, 1) := by decide +kernel
theorem dX7_isWithin_15 : decode cX7_isWithin 15 = .ok (.ireturn, 1) := by decide +kernel
theorem dX7_isIndexOf_0 : decode cX7_isIndexOf 0 = .ok (.iload_n 0, 1) := by decide +kernel
theorem dX7_isIndexOf_1 : decode cX7_isIndexOf 1 = .ok (.ifCond .lt 12, 3) := by decide +kernel
theorem dX7_isIndexOf_4 : decode cX7_isIndexOf 4 = .ok (.iload_n 0, 1) := by decide +kernel
theorem dX7_isIndexOf_5 : decode cX7_isIndexOf 5 = .ok (.iload_n 1, 1) := by decide +kernel
theorem dX7_isIndexOf_6 : decode cX7_isIndexOf 6 = .ok (.if_icmp .ge 7, 3) := by decide +kernel
theorem dX7_isIndexOf_9 : decode cX7_isIndexOf 9 = .ok (.iconst 1, 1) := by decide +kernel
theorem dX7_isIndexOf_10 : decode cX7_isIndexOf 10 = .ok (.goto 4, 3) := by decide +kernel
theorem dX7_isIndexOf_13 : decode cX7_isIndexOf 13 = .ok (.iconst 0, 1) := by decide +kernel
theorem dX7_isIndexOf_14 : decode cX7_isIndexOf 14 = .ok (.ireturn, 1) := by decide +kernel
set_option maxRecDepth 20000 in
theorem ggX7_isForce_X7_isWithin : GoodIn wsX7_isForce wsX7_isWithin := goodIn_r _ [4] (by decide +kernel) (by decide +kernel)
set_option maxRecDepth 20000 in
theorem gX7_isForce_X7_isWithin : GoodIn wsX7_isForce (va_wsS RX7 69 yX7_isWithin wsX7_isWithin) := goodIn_app (goodIn_of _ (by decide +kernel)) ggX7_isForce_X7_isWithin
theorem dX7_isForce_0 : decode cX7_isForce 0 = .ok (.iload_n 0, 1) := by decide +kernel
theorem dX7_isForce_1 : decode cX7_isForce 1 = .ok (.iconst 0, 1) := by decide +kernel
theorem dX7_isForce_2 : decode cX7_isForce 2 = .ok (.sipush 200, 3) := by decide +kernel
theorem dX7_isForce_5 : decode cX7_isForce 5 = .ok (.invokestatic 69, 3) := by decide +kernel
theorem dX7_isForce_8 : decode cX7_isForce 8 = .ok (.ireturn, 1) := by decide +kernel
theorem dX7_quotient_0 : decode cX7_quotient 0 = .ok (.iload_n 1, 1) := by decide +kernel
theorem dX7_quotient_1 : decode cX7_quotient 1 = .ok (.ifCond .le 9, 3) := by decide +kernel
theorem dX7_quotient_4 : decode cX7_quotient 4 = .ok (.iload_n 0, 1) := by decide +kernel
theorem dX7_quotient_5 : decode cX7_quotient 5 = .ok (.iload_n 1, 1) := by decide +kernel
theorem dX7_quotient_6 : decode cX7_quotient 6 = .ok (.idiv, 1) := by decide +kernel
theorem dX7_quotient_7 : decode cX7_quotient 7 = .ok (.goto 4, 3) := by decide +kernel
theorem dX7_quotient_10 : decode cX7_quotient 10 = .ok (.iconst 0, 1) := by decide +kernel
theorem dX7_quotient_11 : decode cX7_quotient 11 = .ok (.ireturn, 1) := by decide +kernel
set_option maxRecDepth 20000 in
theorem ggX7_tell_X5_has : GoodIn wsX7_tell wsX5_has := goodIn_r _ [7, 8, 9, 10, 11, 29, 30, 31, 32, 33, 34] (by decide +kernel) (by decide +kernel)
set_option maxRecDepth 20000 in
theorem gX7_tell_X5_has : GoodIn wsX7_tell (wsV RX7 102 RX5 yX5_has wsX5_has) := goodIn_app (goodIn_of _ (by decide +kernel)) ggX7_tell_X5_has
set_option maxRecDepth 20000 in
theorem ggX7_tell_X7_tellAlone : GoodIn wsX7_tell wsX7_tellAlone := goodIn_r _ [14, 15, 16, 17, 18, 19, 20, 21, 22, 23, 24, 25, 26, 29, 30, 31, 32, 33, 34, 35, 36, 37] (by decide +kernel) (by decide +kernel)
set_option maxRecDepth 20000 in
theorem gX7_tell_X7_tellAlone : GoodIn wsX7_tell (va_wsS RX7 259 yX7_tellAlone wsX7_tellAlone) := goodIn_app (goodIn_of _ (by decide +kernel)) ggX7_tell_X7_tellAlone
set_option maxRecDepth 20000 in
theorem ggX7_tell_X3_add : GoodIn wsX7_tell wsX3_add := goodIn_r _ [23, 24, 25, 26, 35, 36, 37] (by decide +kernel) (by decide +kernel)
set_option maxRecDepth 20000 in
theorem gX7_tell_X3_add : GoodIn wsX7_tell (wsV RX7 251 RX3 yX3_add wsX3_add) := goodIn_app (goodIn_of _ (by decide +kernel)) ggX7_tell_X3_add
set_option maxRecDepth 20000 in
theorem ggX7_tell_X7_tell : GoodIn wsX7_tell wsX7_tell := goodIn_r _ [0, 1, 2, 3, 4, 5, 6, 7, 8, 9, 10, 11, 12, 13, 14, 15, 16, 17, 18, 19, 20, 21, 22, 23, 24, 25, 26, 27, 28, 29, 30, 31, 32, 33, 34, 35, 36, 37] (by decide +kernel) (by decide +kernel)
set_option maxRecDepth 20000 in
theorem gX7_tell_X7_tell : GoodIn wsX7_tell (va_wsS RX7 151 yX7_tell wsX7_tell) := goodIn_app (goodIn_of _ (by decide +kernel)) ggX7_tell_X7_tell
theorem dX7_tell_0 : decode cX7_tell 0 = .ok (.iload_n 2, 1) := by decide +kernel
theorem dX7_tell_1 : decode cX7_tell 1 = .ok (.bipush 20, 2) := by decide +kernel
theorem dX7_tell_3 : decode cX7_tell 3 = .ok (.if_icmp .ge 11, 3) := by decide +kernel
theorem dX7_tell_6 : decode cX7_tell 6 = .ok (.aload_n 0, 1) := by decide +kernel
theorem dX7_tell_7 : decode cX7_tell 7 = .ok (.iload_n 1, 1) := by decide +kernel
theorem dX7_tell_8 : decode cX7_tell 8 = .ok (.invokevirtual 102, 3) := by decide +kernel
theorem dX7_tell_11 : decode cX7_tell 11 = .ok (.ifCond .ne 4, 3) := by decide +kernel
theorem dX7_tell_14 : decode cX7_tell 14 = .ok (.return_, 1) := by decide +kernel
theorem dX7_tell_15 : decode cX7_tell 15 = .ok (.aload_n 0, 1) := by decide +kernel
theorem dX7_tell_16 : decode cX7_tell 16 = .ok (.iload_n 1, 1) := by decide +kernel
theorem dX7_tell_17 : decode cX7_tell 17 = .ok (.aload_n 3, 1) := by decide +kernel
theorem dX7_tell_18 : decode cX7_tell 18 = .ok (.invokestatic 259, 3) := by decide +kernel
theorem dX7_tell_21 : decode cX7_tell 21 = .ok (.iconst 0, 1) := by decide +kernel
theorem dX7_tell_22 : decode cX7_tell 22 = .ok (.istore 4, 2) := by decide +kernel
theorem dX7_tell_24 : decode cX7_tell 24 = .ok (.iload_n 1, 1) := by decide +kernel
theorem dX7_tell_25 : decode cX7_tell 25 = .ok (.iconst 1, 1) := by decide +kernel
theorem dX7_tell_26 : decode cX7_tell 26 = .ok (.iadd, 1) := by decide +kernel
theorem dX7_tell_27 : decode cX7_tell 27 = .ok (.istore 5, 2) := by decide +kernel
theorem dX7_tell_29 : decode cX7_tell 29 = .ok (.iload 5, 2) := by decide +kernel
theorem dX7_tell_31 : decode cX7_tell 31 = .ok (.aload_n 0, 1) := by decide +kernel
theorem dX7_tell_32 : decode cX7_tell 32 = .ok (.getfield 98, 3) := by decide +kernel
theorem dX7_tell_35 : decode cX7_tell 35 = .ok (.if_icmp .ge 49, 3) := by decide +kernel
theorem dX7_tell_38 : decode cX7_tell 38 = .ok (.aload_n 0, 1) := by decide +kernel
theorem dX7_tell_39 : decode cX7_tell 39 = .ok (.getfield 165, 3) := by decide +kernel
theorem dX7_tell_42 : decode cX7_tell 42 = .ok (.iload 5, 2) := by decide +kernel
theorem dX7_tell_44 : decode cX7_tell 44 = .ok (.iaload, 1) := by decide +kernel
theorem dX7_tell_45 : decode cX7_tell 45 = .ok (.iload_n 1, 1) := by decide +kernel
theorem dX7_tell_46 : decode cX7_tell 46 = .ok (.if_icmp .ne 32, 3) := by decide +kernel
theorem dX7_tell_49 : decode cX7_tell 49 = .ok (.aload_n 3, 1) := by decide +kernel
theorem dX7_tell_50 : decode cX7_tell 50 = .ok (.iload 4, 2) := by decide +kernel
theorem dX7_tell_52 : decode cX7_tell 52 = .ok (.ifCond .eq 8, 3) := by decide +kernel
theorem dX7_tell_55 : decode cX7_tell 55 = .ok (.bipush 44, 2) := by decide +kernel
theorem dX7_tell_57 : decode cX7_tell 57 = .ok (.goto 5, 3) := by decide +kernel
theorem dX7_tell_60 : decode cX7_tell 60 = .ok (.bipush 40, 2) := by decide +kernel
theorem dX7_tell_62 : decode cX7_tell 62 = .ok (.invokevirtual 251, 3) := by decide +kernel
theorem dX7_tell_65 : decode cX7_tell 65 = .ok (.iconst 1, 1) := by decide +kernel
theorem dX7_tell_66 : decode cX7_tell 66 = .ok (.istore 4, 2) := by decide +kernel
theorem dX7_tell_68 : decode cX7_tell 68 = .ok (.aload_n 0, 1) := by decide +kernel
theorem dX7_tell_69 : decode cX7_tell 69 = .ok (.iload 5, 2) := by decide +kernel
theorem dX7_tell_71 : decode cX7_tell 71 = .ok (.iload_n 2, 1) := by decide +kernel
theorem dX7_tell_72 : decode cX7_tell 72 = .ok (.iconst 1, 1) := by decide +kernel
theorem dX7_tell_73 : decode cX7_tell 73 = .ok (.iadd, 1) := by decide +kernel
theorem dX7_tell_74 : decode cX7_tell 74 = .ok (.aload_n 3, 1) := by decide +kernel
theorem dX7_tell_75 : decode cX7_tell 75 = .ok (.invokestatic 151, 3) := by decide +kernel
theorem dX7_tell_78 : decode cX7_tell 78 = .ok (.iinc 5 1, 3) := by decide +kernel
theorem dX7_tell_81 : decode cX7_tell 81 = .ok (.goto (-52), 3) := by decide +kernel
theorem dX7_tell_84 : decode cX7_tell 84 = .ok (.iload 4, 2) := by decide +kernel
theorem dX7_tell_86 : decode cX7_tell 86 = .ok (.ifCond .eq 9, 3) := by decide +kernel
theorem dX7_tell_89 : decode cX7_tell 89 = .ok (.aload_n 3, 1) := by decide +kernel
theorem dX7_tell_90 : decode cX7_tell 90 = .ok (.bipush 41, 2) := by decide +kernel
theorem dX7_tell_92 : decode cX7_tell 92 = .ok (.invokevirtual 251, 3) := by decide +kernel
theorem dX7_tell_95 : decode cX7_tell 95 = .ok (.return_, 1) := by decide +kernel
set_option maxRecDepth 20000 in
theorem ggX7_tellAlone_X3_add : GoodIn wsX7_tellAlone wsX3_add := goodIn_r _ [9, 10, 11, 12, 19, 20, 21] (by decide +kernel) (by decide +kernel)
set_option maxRecDepth 20000 in
theorem gX7_tellAlone_X3_add : GoodIn wsX7_tellAlone (wsV RX7 251 RX3 yX3_add wsX3_add) := goodIn_app (goodIn_of _ (by decide +kernel)) ggX7_tellAlone_X3_add
theorem dX7_tellAlone_0 : decode cX7_tellAlone 0 = .ok (.aload_n 2, 1) := by decide +kernel
theorem dX7_tellAlone_1 : decode cX7_tellAlone 1 = .ok (.bipush 48, 2) := by decide +kernel
theorem dX7_tellAlone_3 : decode cX7_tellAlone 3 = .ok (.aload_n 0, 1) := by decide +kernel
theorem dX7_tellAlone_4 : decode cX7_tellAlone 4 = .ok (.getfield 168, 3) := by decide +kernel
theorem dX7_tellAlone_7 : decode cX7_tellAlone 7 = .ok (.iload_n 1, 1) := by decide +kernel
theorem dX7_tellAlone_8 : decode cX7_tellAlone 8 = .ok (.iaload, 1) := by decide +kernel
theorem dX7_tellAlone_9 : decode cX7_tellAlone 9 = .ok (.iadd, 1) := by decide +kernel
theorem dX7_tellAlone_10 : decode cX7_tellAlone 10 = .ok (.invokevirtual 251, 3) := by decide +kernel
theorem dX7_tellAlone_13 : decode cX7_tellAlone 13 = .ok (.aload_n 0, 1) := by decide +kernel
theorem dX7_tellAlone_14 : decode cX7_tellAlone 14 = .ok (.getfield 171, 3) := by decide +kernel
theorem dX7_tellAlone_17 : decode cX7_tellAlone 17 = .ok (.iload_n 1, 1) := by decide +kernel
theorem dX7_tellAlone_18 : decode cX7_tellAlone 18 = .ok (.iaload, 1) := by decide +kernel
theorem dX7_tellAlone_19 : decode cX7_tellAlone 19 = .ok (.ifCond .le 18, 3) := by decide +kernel
theorem dX7_tellAlone_22 : decode cX7_tellAlone 22 = .ok (.aload_n 2, 1) := by decide +kernel
theorem dX7_tellAlone_23 : decode cX7_tellAlone 23 = .ok (.bipush 97, 2) := by decide +kernel
theorem dX7_tellAlone_25 : decode cX7_tellAlone 25 = .ok (.aload_n 0, 1) := by decide +kernel
theorem dX7_tellAlone_26 : decode cX7_tellAlone 26 = .ok (.getfield 171, 3) := by decide +kernel
theorem dX7_tellAlone_29 : decode cX7_tellAlone 29 = .ok (.iload_n 1, 1) := by decide +kernel
theorem dX7_tellAlone_30 : decode cX7_tellAlone 30 = .ok (.iaload, 1) := by decide +kernel
theorem dX7_tellAlone_31 : decode cX7_tellAlone 31 = .ok (.iadd, 1) := by decide +kernel
theorem dX7_tellAlone_32 : decode cX7_tellAlone 32 = .ok (.iconst 1, 1) := by decide +kernel
theorem dX7_tellAlone_33 : decode cX7_tellAlone 33 = .ok (.isub, 1) := by decide +kernel
theorem dX7_tellAlone_34 : decode cX7_tellAlone 34 = .ok (.invokevirtual 251, 3) := by decide +kernel
theorem dX7_tellAlone_37 : decode cX7_tellAlone 37 = .ok (.aload_n 0, 1) := by decide +kernel
theorem dX7_tellAlone_38 : decode cX7_tellAlone 38 = .ok (.getfield 174, 3) := by decide +kernel
theorem dX7_tellAlone_41 : decode cX7_tellAlone 41 = .ok (.iload_n 1, 1) := by decide +kernel
theorem dX7_tellAlone_42 : decode cX7_tellAlone 42 = .ok (.iaload, 1) := by decide +kernel
theorem dX7_tellAlone_43 : decode cX7_tellAlone 43 = .ok (.ifCond .le 9, 3) := by decide +kernel
theorem dX7_tellAlone_46 : decode cX7_tellAlone 46 = .ok (.aload_n 2, 1) := by decide +kernel
theorem dX7_tellAlone_47 : decode cX7_tellAlone 47 = .ok (.bipush 33, 2) := by decide +kernel
theorem dX7_tellAlone_49 : decode cX7_tellAlone 49 = .ok (.invokevirtual 251, 3) := by decide +kernel
theorem dX7_tellAlone_52 : decode cX7_tellAlone 52 = .ok (.aload_n 0, 1) := by decide +kernel
theorem dX7_tellAlone_53 : decode cX7_tellAlone 53 = .ok (.getfield 177, 3) := by decide +kernel
theorem dX7_tellAlone_56 : decode cX7_tellAlone 56 = .ok (.iload_n 1, 1) := by decide +kernel
theorem dX7_tellAlone_57 : decode cX7_tellAlone 57 = .ok (.iaload, 1) := by decide +kernel
theorem dX7_tellAlone_58 : decode cX7_tellAlone 58 = .ok (.istore_n 3, 1) := by decide +kernel
theorem dX7_tellAlone_59 : decode cX7_tellAlone 59 = .ok (.iload_n 3, 1) := by decide +kernel
theorem dX7_tellAlone_60 : decode cX7_tellAlone 60 = .ok (.ifCond .le 37, 3) := by decide +kernel
theorem dX7_tellAlone_63 : decode cX7_tellAlone 63 = .ok (.aload_n 2, 1) := by decide +kernel
theorem dX7_tellAlone_64 : decode cX7_tellAlone 64 = .ok (.bipush 42, 2) := by decide +kernel
theorem dX7_tellAlone_66 : decode cX7_tellAlone 66 = .ok (.invokevirtual 251, 3) := by decide +kernel
theorem dX7_tellAlone_69 : decode cX7_tellAlone 69 = .ok (.iload_n 3, 1) := by decide +kernel
theorem dX7_tellAlone_70 : decode cX7_tellAlone 70 = .ok (.bipush 10, 2) := by decide +kernel
theorem dX7_tellAlone_72 : decode cX7_tellAlone 72 = .ok (.if_icmp .lt 14, 3) := by decide +kernel
theorem dX7_tellAlone_75 : decode cX7_tellAlone 75 = .ok (.aload_n 2, 1) := by decide +kernel
theorem dX7_tellAlone_76 : decode cX7_tellAlone 76 = .ok (.bipush 48, 2) := by decide +kernel
theorem dX7_tellAlone_78 : decode cX7_tellAlone 78 = .ok (.iload_n 3, 1) := by decide +kernel
theorem dX7_tellAlone_79 : decode cX7_tellAlone 79 = .ok (.bipush 10, 2) := by decide +kernel
theorem dX7_tellAlone_81 : decode cX7_tellAlone 81 = .ok (.idiv, 1) := by decide +kernel
theorem dX7_tellAlone_82 : decode cX7_tellAlone 82 = .ok (.iadd, 1) := by decide +kernel
theorem dX7_tellAlone_83 : decode cX7_tellAlone 83 = .ok (.invokevirtual 251, 3) := by decide +kernel
theorem dX7_tellAlone_86 : decode cX7_tellAlone 86 = .ok (.aload_n 2, 1) := by decide +kernel
theorem dX7_tellAlone_87 : decode cX7_tellAlone 87 = .ok (.bipush 48, 2) := by decide +kernel
theorem dX7_tellAlone_89 : decode cX7_tellAlone 89 = .ok (.iload_n 3, 1) := by decide +kernel
theorem dX7_tellAlone_90 : decode cX7_tellAlone 90 = .ok (.bipush 10, 2) := by decide +kernel
theorem dX7_tellAlone_92 : decode cX7_tellAlone 92 = .ok (.irem, 1) := by decide +kernel
theorem dX7_tellAlone_93 : decode cX7_tellAlone 93 = .ok (.iadd, 1) := by decide +kernel
theorem dX7_tellAlone_94 : decode cX7_tellAlone 94 = .ok (.invokevirtual 251, 3) := by decide +kernel
theorem dX7_tellAlone_97 : decode cX7_tellAlone 97 = .ok (.return_, 1) := by decide +kernel
theorem dX7_copyRow_0 : decode cX7_copyRow 0 = .ok (.aload_n 0, 1) := by decide +kernel
theorem dX7_copyRow_1 : decode cX7_copyRow 1 = .ok (.iconst 0, 1) := by decide +kernel
theorem dX7_copyRow_2 : decode cX7_copyRow 2 = .ok (.aload_n 1, 1) := by decide +kernel
theorem dX7_copyRow_3 : decode cX7_copyRow 3 = .ok (.iconst 0, 1) := by decide +kernel
theorem dX7_copyRow_4 : decode cX7_copyRow 4 = .ok (.aload_n 0, 1) := by decide +kernel
theorem dX7_copyRow_5 : decode cX7_copyRow 5 = .ok (.arraylength, 1) := by decide +kernel
theorem dX7_copyRow_6 : decode cX7_copyRow 6 = .ok (.aload_n 1, 1) := by decide +kernel
theorem dX7_copyRow_7 : decode cX7_copyRow 7 = .ok (.arraylength, 1) := by decide +kernel
theorem dX7_copyRow_8 : decode cX7_copyRow 8 = .ok (.invokestatic 263, 3) := by decide +kernel
theorem dX7_copyRow_11 : decode cX7_copyRow 11 = .ok (.invokestatic 268, 3) := by decide +kernel
theorem dX7_copyRow_14 : decode cX7_copyRow 14 = .ok (.return_, 1) := by decide +kernel
