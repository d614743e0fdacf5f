set_option maxRecDepth 100000 in
theorem hgL_isPassed_X7_count_0 : ∀ w ∈ wsX7_count_r1, w ∈ wsL_isPassed := xw_in _ [6, 7, 8, 9, 10, 11, 12, 13, 14, 15, 16, 17, 18, 19, 20, 21, 22, 23, 24, 25, 26, 27, 4, 28] rfl
set_option maxRecDepth 100000 in
theorem hgL_isPassed_X7_count_1 : ∀ w ∈ wsX7_count_r2, w ∈ wsL_isPassed := xw_in _ [29, 30, 31, 32, 33, 34, 35, 36, 37, 38, 39, 40, 41, 42, 43, 44, 45, 46, 47, 48, 49, 50, 51, 52] rfl
set_option maxRecDepth 100000 in
theorem hgL_isPassed_X7_count_2 : ∀ w ∈ wsX7_count_r3, w ∈ wsL_isPassed := xw_in _ [53, 54, 55, 56, 57, 58, 59, 60, 61, 62, 63, 64, 65, 66, 67, 68, 69, 70, 71, 72, 73, 74, 75, 76] rfl
set_option maxRecDepth 100000 in
theorem hgL_isPassed_X7_count_3 : ∀ w ∈ wsX7_count_r4, w ∈ wsL_isPassed := xw_in _ [77, 78, 79, 80, 81, 82, 83, 84, 85, 86, 87, 88, 89, 90, 91, 92] rfl
set_option maxRecDepth 100000 in
theorem hgL_isPassed_X7_count_4 : ∀ w ∈ wsX70, w ∈ wsL_isPassed := xw_in _ [182, 183, 184, 185, 186, 187, 188, 189] rfl
set_option maxRecDepth 100000 in
theorem hgL_isPassed_X7_count_5 : ∀ w ∈ wsX60, w ∈ wsL_isPassed := xw_in _ [190, 191, 192, 193] rfl
set_option maxRecDepth 100000 in
theorem hgL_isPassed_X7_count_6 : ∀ w ∈ wsX50, w ∈ wsL_isPassed := xw_in _ [194, 195, 196, 197, 198, 199] rfl
set_option maxRecDepth 100000 in
theorem hgL_isPassed_X7_count_7 : ∀ w ∈ wsX20, w ∈ wsL_isPassed := xw_in _ [200, 201, 202, 203, 204] rfl
set_option maxRecDepth 100000 in
theorem hgL_isPassed_X7_count_8 : ∀ w ∈ wsX30, w ∈ wsL_isPassed := xw_in _ [205, 206, 207] rfl
set_option maxRecDepth 100000 in
theorem hgL_isPassed_X7_count_9 : ∀ w ∈ wsX10, w ∈ wsL_isPassed := xw_in _ [208, 209, 210] rfl
set_option maxRecDepth 100000 in
theorem hgL_isPassed_X7_count_10 : ∀ w ∈ wsX00, w ∈ wsL_isPassed := xw_in _ [211, 212, 213] rfl
set_option maxRecDepth 100000 in
theorem ggL_isPassed_X7_count : GoodIn wsL_isPassed wsX7_count := goodIn_sub (List.forall_mem_cons.mpr ⟨List.mem_of_getElem? (i := 5) rfl, List.forall_mem_append.mpr ⟨List.forall_mem_append.mpr ⟨List.forall_mem_append.mpr ⟨List.forall_mem_append.mpr ⟨List.forall_mem_append.mpr ⟨List.forall_mem_append.mpr ⟨List.forall_mem_append.mpr ⟨List.forall_mem_append.mpr ⟨hgL_isPassed_X7_count_0, List.forall_mem_append.mpr ⟨hgL_isPassed_X7_count_1, List.forall_mem_append.mpr ⟨hgL_isPassed_X7_count_2, hgL_isPassed_X7_count_3⟩⟩⟩, hgL_isPassed_X7_count_4⟩, hgL_isPassed_X7_count_5⟩, hgL_isPassed_X7_count_6⟩, hgL_isPassed_X7_count_7⟩, hgL_isPassed_X7_count_8⟩, hgL_isPassed_X7_count_9⟩, hgL_isPassed_X7_count_10⟩⟩) (by decide +kernel)
set_option maxRecDepth 20000 in
theorem gL_isPassed_X7_count : GoodIn wsL_isPassed (wsV RL 8 RX7 yX7_count wsX7_count) := goodIn_app (goodIn_of _ (by decide +kernel)) ggL_isPassed_X7_count
set_option maxRecDepth 100000 in
theorem hgL_isPassed_X7_record_0 : ∀ w ∈ ([.fieldLink RX7 10 "HatWinds" "town" "LHatWinds$Town;", .fieldLink RX7 129 "HatWinds$Town" "hours" "LHatWinds$Hours;", .fieldLink RX7 209 "HatWinds$Hours" "forces" "[I", .fieldLink RX7 212 "HatWinds$Hours" "lost" "[I", .fieldLink RX7 215 "HatWinds$Hours" "worst" "[I", .methodLink RX7 205 yX2_kept, .instanceMethod yX2_kept, .selects RX2 yX2_kept yX2_kept, .initialized RX2, .code yX2_kept cX2_kept 1 (some .int), .fieldLink RX2 21 "HatWinds$Hours" "passed" "I", .methodLink RX2 32 Lib.Math.min.name, .static Lib.Math.min.name, .initialized "java/lang/Math", .code Lib.Math.min.name Lib.Math.min.code 2 (some .int), .methodLink RX7 59 yX7_isIndexOf, .static yX7_isIndexOf, .initialized RX7, .code yX7_isIndexOf cX7_isIndexOf 2 (some .boolean)] : List Cond), w ∈ wsL_isPassed := xw_in _ [6, 10, 97, 98, 99, 100, 101, 102, 103, 104, 105, 106, 56, 57, 58, 107, 49, 4, 50] rfl
set_option maxRecDepth 100000 in
theorem hgL_isPassed_X7_record_1 : ∀ w ∈ wsX70, w ∈ wsL_isPassed := xw_in _ [182, 183, 184, 185, 186, 187, 188, 189] rfl
set_option maxRecDepth 100000 in
theorem hgL_isPassed_X7_record_2 : ∀ w ∈ wsX60, w ∈ wsL_isPassed := xw_in _ [190, 191, 192, 193] rfl
set_option maxRecDepth 100000 in
theorem hgL_isPassed_X7_record_3 : ∀ w ∈ wsX20, w ∈ wsL_isPassed := xw_in _ [200, 201, 202, 203, 204] rfl
set_option maxRecDepth 100000 in
theorem ggL_isPassed_X7_record : GoodIn wsL_isPassed wsX7_record := goodIn_sub (List.forall_mem_cons.mpr ⟨List.mem_of_getElem? (i := 96) rfl, List.forall_mem_append.mpr ⟨List.forall_mem_append.mpr ⟨List.forall_mem_append.mpr ⟨hgL_isPassed_X7_record_0, hgL_isPassed_X7_record_1⟩, hgL_isPassed_X7_record_2⟩, hgL_isPassed_X7_record_3⟩⟩) (by decide +kernel)
set_option maxRecDepth 20000 in
theorem gL_isPassed_X7_record : GoodIn wsL_isPassed (wsV RL 28 RX7 yX7_record wsX7_record) := goodIn_app (goodIn_of _ (by decide +kernel)) ggL_isPassed_X7_record
set_option maxRecDepth 100000 in
theorem hgL_isPassed_X7_now_0 : ∀ w ∈ wsX7_now_r1, w ∈ wsL_isPassed := xw_in _ [6, 7, 29, 92, 112, 46, 47, 21, 48, 23, 49, 4, 50, 80, 81, 82, 33, 83, 65, 84, 85, 31, 32, 34] rfl
set_option maxRecDepth 100000 in
theorem hgL_isPassed_X7_now_1 : ∀ w ∈ wsX7_now_r2, w ∈ wsL_isPassed := xw_in _ [35, 36, 37, 38, 39, 86, 41, 42, 43, 44, 45, 51, 52, 53, 54, 55, 56, 57, 58, 59, 60, 113, 73, 74] rfl
set_option maxRecDepth 100000 in
theorem hgL_isPassed_X7_now_2 : ∀ w ∈ wsX7_now_r3, w ∈ wsL_isPassed := xw_in _ [75, 70, 114, 115, 116, 117, 118, 119, 120, 121, 122, 123, 87, 67, 68, 69, 71, 72] rfl
set_option maxRecDepth 100000 in
theorem hgL_isPassed_X7_now_3 : ∀ w ∈ wsX70, w ∈ wsL_isPassed := xw_in _ [182, 183, 184, 185, 186, 187, 188, 189] rfl
set_option maxRecDepth 100000 in
theorem hgL_isPassed_X7_now_4 : ∀ w ∈ wsX60, w ∈ wsL_isPassed := xw_in _ [190, 191, 192, 193] rfl
set_option maxRecDepth 100000 in
theorem hgL_isPassed_X7_now_5 : ∀ w ∈ wsX00, w ∈ wsL_isPassed := xw_in _ [211, 212, 213] rfl
set_option maxRecDepth 100000 in
theorem hgL_isPassed_X7_now_6 : ∀ w ∈ wsX50, w ∈ wsL_isPassed := xw_in _ [194, 195, 196, 197, 198, 199] rfl
set_option maxRecDepth 100000 in
theorem ggL_isPassed_X7_now : GoodIn wsL_isPassed wsX7_now := goodIn_sub (List.forall_mem_cons.mpr ⟨List.mem_of_getElem? (i := 111) rfl, List.forall_mem_append.mpr ⟨List.forall_mem_append.mpr ⟨List.forall_mem_append.mpr ⟨List.forall_mem_append.mpr ⟨List.forall_mem_append.mpr ⟨hgL_isPassed_X7_now_0, List.forall_mem_append.mpr ⟨hgL_isPassed_X7_now_1, hgL_isPassed_X7_now_2⟩⟩, hgL_isPassed_X7_now_3⟩, hgL_isPassed_X7_now_4⟩, hgL_isPassed_X7_now_5⟩, hgL_isPassed_X7_now_6⟩⟩) (by decide +kernel)
set_option maxRecDepth 20000 in
theorem gL_isPassed_X7_now : GoodIn wsL_isPassed (wsV RL 18 RX7 yX7_now wsX7_now) := goodIn_app (goodIn_of _ (by decide +kernel)) ggL_isPassed_X7_now
set_option maxRecDepth 100000 in
theorem hgL_isPassed_X7_pass_0 : ∀ w ∈ wsX7_pass_r1, w ∈ wsL_isPassed := xw_in _ [6, 10, 11, 16, 29, 9, 128, 129, 4, 130, 131, 132, 133, 134, 135, 136, 137, 138, 139, 140, 141, 142, 143, 144] rfl
set_option maxRecDepth 100000 in
theorem hgL_isPassed_X7_pass_1 : ∀ w ∈ wsX7_pass_r2, w ∈ wsL_isPassed := xw_in _ [145, 146, 147, 148, 149, 150, 56, 57, 58, 151, 152, 153, 154, 155, 156, 157, 21, 158, 159, 160, 161, 162, 24, 23] rfl
set_option maxRecDepth 100000 in
theorem hgL_isPassed_X7_pass_2 : ∀ w ∈ wsX7_pass_r3, w ∈ wsL_isPassed := xw_in _ [163, 164, 165, 103, 166, 167, 168, 169, 105, 170, 80, 81, 82, 33, 83, 65, 84, 85, 31, 32, 34, 35, 36, 37] rfl
set_option maxRecDepth 100000 in
theorem hgL_isPassed_X7_pass_3 : ∀ w ∈ wsX7_pass_r4, w ∈ wsL_isPassed := xw_in _ [38, 39, 86, 41, 42, 43, 44, 45, 46, 47, 48, 49, 50, 51, 52, 53, 54, 55, 59, 60, 61, 62, 63, 64] rfl
set_option maxRecDepth 100000 in
theorem hgL_isPassed_X7_pass_4 : ∀ w ∈ wsX7_pass_r5, w ∈ wsL_isPassed := xw_in _ [66, 67, 68, 69, 70, 71, 72, 73, 74, 75, 171, 172, 173, 174, 175, 176, 177, 178, 179, 180, 181] rfl
set_option maxRecDepth 100000 in
theorem hgL_isPassed_X7_pass_5 : ∀ w ∈ wsX70, w ∈ wsL_isPassed := xw_in _ [182, 183, 184, 185, 186, 187, 188, 189] rfl
set_option maxRecDepth 100000 in
theorem hgL_isPassed_X7_pass_6 : ∀ w ∈ wsX60, w ∈ wsL_isPassed := xw_in _ [190, 191, 192, 193] rfl
set_option maxRecDepth 100000 in
theorem hgL_isPassed_X7_pass_7 : ∀ w ∈ wsX20, w ∈ wsL_isPassed := xw_in _ [200, 201, 202, 203, 204] rfl
set_option maxRecDepth 100000 in
theorem hgL_isPassed_X7_pass_8 : ∀ w ∈ wsX10, w ∈ wsL_isPassed := xw_in _ [208, 209, 210] rfl
set_option maxRecDepth 100000 in
theorem hgL_isPassed_X7_pass_9 : ∀ w ∈ wsX50, w ∈ wsL_isPassed := xw_in _ [194, 195, 196, 197, 198, 199] rfl
set_option maxRecDepth 100000 in
theorem hgL_isPassed_X7_pass_10 : ∀ w ∈ wsX00, w ∈ wsL_isPassed := xw_in _ [211, 212, 213] rfl
set_option maxRecDepth 100000 in
theorem ggL_isPassed_X7_pass : GoodIn wsL_isPassed wsX7_pass := goodIn_sub (List.forall_mem_cons.mpr ⟨List.mem_of_getElem? (i := 127) rfl, List.forall_mem_append.mpr ⟨List.forall_mem_append.mpr ⟨List.forall_mem_append.mpr ⟨List.forall_mem_append.mpr ⟨List.forall_mem_append.mpr ⟨List.forall_mem_append.mpr ⟨List.forall_mem_append.mpr ⟨hgL_isPassed_X7_pass_0, List.forall_mem_append.mpr ⟨hgL_isPassed_X7_pass_1, List.forall_mem_append.mpr ⟨hgL_isPassed_X7_pass_2, List.forall_mem_append.mpr ⟨hgL_isPassed_X7_pass_3, hgL_isPassed_X7_pass_4⟩⟩⟩⟩, hgL_isPassed_X7_pass_5⟩, hgL_isPassed_X7_pass_6⟩, hgL_isPassed_X7_pass_7⟩, hgL_isPassed_X7_pass_8⟩, hgL_isPassed_X7_pass_9⟩, hgL_isPassed_X7_pass_10⟩⟩) (by decide +kernel)
set_option maxRecDepth 20000 in
theorem gL_isPassed_X7_pass : GoodIn wsL_isPassed (wsV RL 31 RX7 yX7_pass wsX7_pass) := goodIn_app (goodIn_of _ (by decide +kernel)) ggL_isPassed_X7_pass
theorem dL_isPassed_0 : decode cL_isPassed 0 = .ok (.aload_n 0, 1) := by decide +kernel
theorem dL_isPassed_1 : decode cL_isPassed 1 = .ok (.iconst 2, 1) := by decide +kernel
theorem dL_isPassed_2 : decode cL_isPassed 2 = .ok (.invokevirtual 8, 3) := by decide +kernel
theorem dL_isPassed_5 : decode cL_isPassed 5 = .ok (.istore_n 2, 1) := by decide +kernel
theorem dL_isPassed_6 : decode cL_isPassed 6 = .ok (.aload_n 0, 1) := by decide +kernel
theorem dL_isPassed_7 : decode cL_isPassed 7 = .ok (.iconst 3, 1) := by decide +kernel
theorem dL_isPassed_8 : decode cL_isPassed 8 = .ok (.invokevirtual 8, 3) := by decide +kernel
theorem dL_isPassed_11 : decode cL_isPassed 11 = .ok (.istore_n 3, 1) := by decide +kernel
theorem dL_isPassed_12 : decode cL_isPassed 12 = .ok (.aload_n 0, 1) := by decide +kernel
theorem dL_isPassed_13 : decode cL_isPassed 13 = .ok (.iconst 5, 1) := by decide +kernel
theorem dL_isPassed_14 : decode cL_isPassed 14 = .ok (.invokevirtual 8, 3) := by decide +kernel
theorem dL_isPassed_17 : decode cL_isPassed 17 = .ok (.istore 4, 2) := by decide +kernel
theorem dL_isPassed_19 : decode cL_isPassed 19 = .ok (.bipush (-6), 2) := by decide +kernel
theorem dL_isPassed_21 : decode cL_isPassed 21 = .ok (.istore 5, 2) := by decide +kernel
theorem dL_isPassed_23 : decode cL_isPassed 23 = .ok (.iconst 0, 1) := by decide +kernel
theorem dL_isPassed_24 : decode cL_isPassed 24 = .ok (.istore 6, 2) := by decide +kernel
theorem dL_isPassed_26 : decode cL_isPassed 26 = .ok (.iload_n 2, 1) := by decide +kernel
theorem dL_isPassed_27 : decode cL_isPassed 27 = .ok (.ifCond .ne 7, 3) := by decide +kernel
theorem dL_isPassed_30 : decode cL_isPassed 30 = .ok (.iconst 0, 1) := by decide +kernel
theorem dL_isPassed_31 : decode cL_isPassed 31 = .ok (.goto 9, 3) := by decide +kernel
theorem dL_isPassed_34 : decode cL_isPassed 34 = .ok (.aload_n 0, 1) := by decide +kernel
theorem dL_isPassed_35 : decode cL_isPassed 35 = .ok (.iconst 0, 1) := by decide +kernel
theorem dL_isPassed_36 : decode cL_isPassed 36 = .ok (.iconst 1, 1) := by decide +kernel
theorem dL_isPassed_37 : decode cL_isPassed 37 = .ok (.invokevirtual 28, 3) := by decide +kernel
theorem dL_isPassed_40 : decode cL_isPassed 40 = .ok (.istore 7, 2) := by decide +kernel
theorem dL_isPassed_42 : decode cL_isPassed 42 = .ok (.iconst 0, 1) := by decide +kernel
theorem dL_isPassed_43 : decode cL_isPassed 43 = .ok (.istore 8, 2) := by decide +kernel
theorem dL_isPassed_45 : decode cL_isPassed 45 = .ok (.iload 8, 2) := by decide +kernel
theorem dL_isPassed_47 : decode cL_isPassed 47 = .ok (.aload_n 0, 1) := by decide +kernel
theorem dL_isPassed_48 : decode cL_isPassed 48 = .ok (.iconst 0, 1) := by decide +kernel
theorem dL_isPassed_49 : decode cL_isPassed 49 = .ok (.invokevirtual 8, 3) := by decide +kernel
theorem dL_isPassed_52 : decode cL_isPassed 52 = .ok (.if_icmp .ge 56, 3) := by decide +kernel
theorem dL_isPassed_55 : decode cL_isPassed 55 = .ok (.aload_n 0, 1) := by decide +kernel
theorem dL_isPassed_56 : decode cL_isPassed 56 = .ok (.iload 8, 2) := by decide +kernel
theorem dL_isPassed_58 : decode cL_isPassed 58 = .ok (.iconst 4, 1) := by decide +kernel
theorem dL_isPassed_59 : decode cL_isPassed 59 = .ok (.invokevirtual 18, 3) := by decide +kernel
theorem dL_isPassed_62 : decode cL_isPassed 62 = .ok (.iload 6, 2) := by decide +kernel
theorem dL_isPassed_64 : decode cL_isPassed 64 = .ok (.if_icmp .le 8, 3) := by decide +kernel
theorem dL_isPassed_67 : decode cL_isPassed 67 = .ok (.iload 8, 2) := by decide +kernel
theorem dL_isPassed_69 : decode cL_isPassed 69 = .ok (.goto 5, 3) := by decide +kernel
theorem dL_isPassed_72 : decode cL_isPassed 72 = .ok (.iload 5, 2) := by decide +kernel
theorem dL_isPassed_74 : decode cL_isPassed 74 = .ok (.istore 5, 2) := by decide +kernel
theorem dL_isPassed_76 : decode cL_isPassed 76 = .ok (.aload_n 0, 1) := by decide +kernel
theorem dL_isPassed_77 : decode cL_isPassed 77 = .ok (.iload 8, 2) := by decide +kernel
theorem dL_isPassed_79 : decode cL_isPassed 79 = .ok (.iconst 4, 1) := by decide +kernel
theorem dL_isPassed_80 : decode cL_isPassed 80 = .ok (.invokevirtual 18, 3) := by decide +kernel
theorem dL_isPassed_83 : decode cL_isPassed 83 = .ok (.iload 6, 2) := by decide +kernel
theorem dL_isPassed_85 : decode cL_isPassed 85 = .ok (.if_icmp .le 13, 3) := by decide +kernel
theorem dL_isPassed_88 : decode cL_isPassed 88 = .ok (.aload_n 0, 1) := by decide +kernel
theorem dL_isPassed_89 : decode cL_isPassed 89 = .ok (.iload 8, 2) := by decide +kernel
theorem dL_isPassed_91 : decode cL_isPassed 91 = .ok (.iconst 4, 1) := by decide +kernel
theorem dL_isPassed_92 : decode cL_isPassed 92 = .ok (.invokevirtual 18, 3) := by decide +kernel
theorem dL_isPassed_95 : decode cL_isPassed 95 = .ok (.goto 5, 3) := by decide +kernel
theorem dL_isPassed_98 : decode cL_isPassed 98 = .ok (.iload 6, 2) := by decide +kernel
theorem dL_isPassed_100 : decode cL_isPassed 100 = .ok (.istore 6, 2) := by decide +kernel
theorem dL_isPassed_102 : decode cL_isPassed 102 = .ok (.iinc 8 1, 3) := by decide +kernel
theorem dL_isPassed_105 : decode cL_isPassed 105 = .ok (.goto (-60), 3) := by decide +kernel
theorem dL_isPassed_108 : decode cL_isPassed 108 = .ok (.aload_n 0, 1) := by decide +kernel
theorem dL_isPassed_109 : decode cL_isPassed 109 = .ok (.iload_n 1, 1) := by decide +kernel
theorem dL_isPassed_110 : decode cL_isPassed 110 = .ok (.invokevirtual 31, 3) := by decide +kernel
theorem dL_isPassed_113 : decode cL_isPassed 113 = .ok (.istore 8, 2) := by decide +kernel
theorem dL_isPassed_115 : decode cL_isPassed 115 = .ok (.iload_n 2, 1) := by decide +kernel
theorem dL_isPassed_116 : decode cL_isPassed 116 = .ok (.iload_n 1, 1) := by decide +kernel
theorem dL_isPassed_117 : decode cL_isPassed 117 = .ok (.iadd, 1) := by decide +kernel
theorem dL_isPassed_118 : decode cL_isPassed 118 = .ok (.sipush 999, 3) := by decide +kernel
theorem dL_isPassed_121 : decode cL_isPassed 121 = .ok (.if_icmp .le 25, 3) := by decide +kernel
theorem dL_isPassed_124 : decode cL_isPassed 124 = .ok (.iload 8, 2) := by decide +kernel
theorem dL_isPassed_126 : decode cL_isPassed 126 = .ok (.bipush (-5), 2) := by decide +kernel
theorem dL_isPassed_128 : decode cL_isPassed 128 = .ok (.if_icmp .ne 16, 3) := by decide +kernel
theorem dL_isPassed_131 : decode cL_isPassed 131 = .ok (.aload_n 0, 1) := by decide +kernel
theorem dL_isPassed_132 : decode cL_isPassed 132 = .ok (.iconst 2, 1) := by decide +kernel
theorem dL_isPassed_133 : decode cL_isPassed 133 = .ok (.invokevirtual 8, 3) := by decide +kernel
theorem dL_isPassed_136 : decode cL_isPassed 136 = .ok (.iload_n 2, 1) := by decide +kernel
theorem dL_isPassed_137 : decode cL_isPassed 137 = .ok (.if_icmp .ne 7, 3) := by decide +kernel
theorem dL_isPassed_140 : decode cL_isPassed 140 = .ok (.iconst 1, 1) := by decide +kernel
theorem dL_isPassed_141 : decode cL_isPassed 141 = .ok (.goto 4, 3) := by decide +kernel
theorem dL_isPassed_144 : decode cL_isPassed 144 = .ok (.iconst 0, 1) := by decide +kernel
theorem dL_isPassed_145 : decode cL_isPassed 145 = .ok (.ireturn, 1) := by decide +kernel
theorem dL_isPassed_146 : decode cL_isPassed 146 = .ok (.iconst 0, 1) := by decide +kernel
theorem dL_isPassed_147 : decode cL_isPassed 147 = .ok (.istore 9, 2) := by decide +kernel
theorem dL_isPassed_149 : decode cL_isPassed 149 = .ok (.iload 9, 2) := by decide +kernel
theorem dL_isPassed_151 : decode cL_isPassed 151 = .ok (.iload_n 1, 1) := by decide +kernel
theorem dL_isPassed_152 : decode cL_isPassed 152 = .ok (.if_icmp .ge 57, 3) := by decide +kernel
theorem dL_isPassed_155 : decode cL_isPassed 155 = .ok (.iload 9, 2) := by decide +kernel
theorem dL_isPassed_157 : decode cL_isPassed 157 = .ok (.bipush 8, 2) := by decide +kernel
theorem dL_isPassed_159 : decode cL_isPassed 159 = .ok (.if_icmp .ge 50, 3) := by decide +kernel
theorem dL_isPassed_162 : decode cL_isPassed 162 = .ok (.aload_n 0, 1) := by decide +kernel
theorem dL_isPassed_163 : decode cL_isPassed 163 = .ok (.iload 9, 2) := by decide +kernel
theorem dL_isPassed_165 : decode cL_isPassed 165 = .ok (.iconst 0, 1) := by decide +kernel
theorem dL_isPassed_166 : decode cL_isPassed 166 = .ok (.invokevirtual 28, 3) := by decide +kernel
theorem dL_isPassed_169 : decode cL_isPassed 169 = .ok (.aload_n 0, 1) := by decide +kernel
theorem dL_isPassed_170 : decode cL_isPassed 170 = .ok (.iconst 1, 1) := by decide +kernel
theorem dL_isPassed_171 : decode cL_isPassed 171 = .ok (.invokevirtual 8, 3) := by decide +kernel
theorem dL_isPassed_174 : decode cL_isPassed 174 = .ok (.if_icmp .ne 27, 3) := by decide +kernel
theorem dL_isPassed_177 : decode cL_isPassed 177 = .ok (.aload_n 0, 1) := by decide +kernel
theorem dL_isPassed_178 : decode cL_isPassed 178 = .ok (.iload 9, 2) := by decide +kernel
theorem dL_isPassed_180 : decode cL_isPassed 180 = .ok (.iconst 1, 1) := by decide +kernel
theorem dL_isPassed_181 : decode cL_isPassed 181 = .ok (.invokevirtual 28, 3) := by decide +kernel
theorem dL_isPassed_184 : decode cL_isPassed 184 = .ok (.iload 4, 2) := by decide +kernel
theorem dL_isPassed_186 : decode cL_isPassed 186 = .ok (.if_icmp .ne 15, 3) := by decide +kernel
theorem dL_isPassed_189 : decode cL_isPassed 189 = .ok (.aload_n 0, 1) := by decide +kernel
theorem dL_isPassed_190 : decode cL_isPassed 190 = .ok (.iload 9, 2) := by decide +kernel
theorem dL_isPassed_192 : decode cL_isPassed 192 = .ok (.iconst 2, 1) := by decide +kernel
theorem dL_isPassed_193 : decode cL_isPassed 193 = .ok (.invokevirtual 28, 3) := by decide +kernel
theorem dL_isPassed_196 : decode cL_isPassed 196 = .ok (.iload 5, 2) := by decide +kernel
theorem dL_isPassed_198 : decode cL_isPassed 198 = .ok (.if_icmp .eq 5, 3) := by decide +kernel
theorem dL_isPassed_201 : decode cL_isPassed 201 = .ok (.iconst 0, 1) := by decide +kernel
theorem dL_isPassed_202 : decode cL_isPassed 202 = .ok (.ireturn, 1) := by decide +kernel
theorem dL_isPassed_203 : decode cL_isPassed 203 = .ok (.iinc 9 1, 3) := by decide +kernel
theorem dL_isPassed_206 : decode cL_isPassed 206 = .ok (.goto (-57), 3) := by decide +kernel
theorem dL_isPassed_209 : decode cL_isPassed 209 = .ok (.iload_n 1, 1) := by decide +kernel
theorem dL_isPassed_210 : decode cL_isPassed 210 = .ok (.bipush 7, 2) := by decide +kernel
theorem dL_isPassed_212 : decode cL_isPassed 212 = .ok (.if_icmp .gt 7, 3) := by decide +kernel
theorem dL_isPassed_215 : decode cL_isPassed 215 = .ok (.iload_n 2, 1) := by decide +kernel
theorem dL_isPassed_216 : decode cL_isPassed 216 = .ok (.ifCond .ne 27, 3) := by decide +kernel
theorem dL_isPassed_219 : decode cL_isPassed 219 = .ok (.iload_n 1, 1) := by decide +kernel
theorem dL_isPassed_220 : decode cL_isPassed 220 = .ok (.bipush 7, 2) := by decide +kernel
theorem dL_isPassed_222 : decode cL_isPassed 222 = .ok (.if_icmp .gt 13, 3) := by decide +kernel
theorem dL_isPassed_225 : decode cL_isPassed 225 = .ok (.aload_n 0, 1) := by decide +kernel
theorem dL_isPassed_226 : decode cL_isPassed 226 = .ok (.iload_n 1, 1) := by decide +kernel
theorem dL_isPassed_227 : decode cL_isPassed 227 = .ok (.iconst 0, 1) := by decide +kernel
theorem dL_isPassed_228 : decode cL_isPassed 228 = .ok (.invokevirtual 28, 3) := by decide +kernel
theorem dL_isPassed_231 : decode cL_isPassed 231 = .ok (.iconst (-1), 1) := by decide +kernel
theorem dL_isPassed_232 : decode cL_isPassed 232 = .ok (.if_icmp .ne 7, 3) := by decide +kernel
theorem dL_isPassed_235 : decode cL_isPassed 235 = .ok (.iconst 1, 1) := by decide +kernel
theorem dL_isPassed_236 : decode cL_isPassed 236 = .ok (.goto 23, 3) := by decide +kernel
theorem dL_isPassed_239 : decode cL_isPassed 239 = .ok (.iconst 0, 1) := by decide +kernel
theorem dL_isPassed_240 : decode cL_isPassed 240 = .ok (.goto 19, 3) := by decide +kernel
theorem dL_isPassed_243 : decode cL_isPassed 243 = .ok (.aload_n 0, 1) := by decide +kernel
theorem dL_isPassed_244 : decode cL_isPassed 244 = .ok (.iload_n 1, 1) := by decide +kernel
theorem dL_isPassed_245 : decode cL_isPassed 245 = .ok (.iconst 1, 1) := by decide +kernel
theorem dL_isPassed_246 : decode cL_isPassed 246 = .ok (.invokevirtual 28, 3) := by decide +kernel
theorem dL_isPassed_249 : decode cL_isPassed 249 = .ok (.iload 7, 2) := by decide +kernel
theorem dL_isPassed_251 : decode cL_isPassed 251 = .ok (.if_icmp .ne 7, 3) := by decide +kernel
theorem dL_isPassed_254 : decode cL_isPassed 254 = .ok (.iconst 1, 1) := by decide +kernel
theorem dL_isPassed_255 : decode cL_isPassed 255 = .ok (.goto 4, 3) := by decide +kernel
theorem dL_isPassed_258 : decode cL_isPassed 258 = .ok (.iconst 0, 1) := by decide +kernel
theorem dL_isPassed_259 : decode cL_isPassed 259 = .ok (.istore 9, 2) := by decide +kernel
theorem dL_isPassed_261 : decode cL_isPassed 261 = .ok (.iload 9, 2) := by decide +kernel
theorem dL_isPassed_263 : decode cL_isPassed 263 = .ok (.ifCond .eq 49, 3) := by decide +kernel
theorem dL_isPassed_266 : decode cL_isPassed 266 = .ok (.iload 8, 2) := by decide +kernel
theorem dL_isPassed_268 : decode cL_isPassed 268 = .ok (.iload_n 1, 1) := by decide +kernel
theorem dL_isPassed_269 : decode cL_isPassed 269 = .ok (.iload 4, 2) := by decide +kernel
theorem dL_isPassed_271 : decode cL_isPassed 271 = .ok (.imul, 1) := by decide +kernel
theorem dL_isPassed_272 : decode cL_isPassed 272 = .ok (.if_icmp .ne 40, 3) := by decide +kernel
theorem dL_isPassed_275 : decode cL_isPassed 275 = .ok (.aload_n 0, 1) := by decide +kernel
theorem dL_isPassed_276 : decode cL_isPassed 276 = .ok (.iconst 2, 1) := by decide +kernel
theorem dL_isPassed_277 : decode cL_isPassed 277 = .ok (.invokevirtual 8, 3) := by decide +kernel
theorem dL_isPassed_280 : decode cL_isPassed 280 = .ok (.iload_n 2, 1) := by decide +kernel
theorem dL_isPassed_281 : decode cL_isPassed 281 = .ok (.iload_n 1, 1) := by decide +kernel
theorem dL_isPassed_282 : decode cL_isPassed 282 = .ok (.iadd, 1) := by decide +kernel
theorem dL_isPassed_283 : decode cL_isPassed 283 = .ok (.if_icmp .ne 29, 3) := by decide +kernel
theorem dL_isPassed_286 : decode cL_isPassed 286 = .ok (.aload_n 0, 1) := by decide +kernel
theorem dL_isPassed_287 : decode cL_isPassed 287 = .ok (.iconst 3, 1) := by decide +kernel
theorem dL_isPassed_288 : decode cL_isPassed 288 = .ok (.invokevirtual 8, 3) := by decide +kernel
theorem dL_isPassed_291 : decode cL_isPassed 291 = .ok (.iload_n 3, 1) := by decide +kernel
theorem dL_isPassed_292 : decode cL_isPassed 292 = .ok (.iload 8, 2) := by decide +kernel
theorem dL_isPassed_294 : decode cL_isPassed 294 = .ok (.iadd, 1) := by decide +kernel
theorem dL_isPassed_295 : decode cL_isPassed 295 = .ok (.if_icmp .ne 17, 3) := by decide +kernel
theorem dL_isPassed_298 : decode cL_isPassed 298 = .ok (.aload_n 0, 1) := by decide +kernel
theorem dL_isPassed_299 : decode cL_isPassed 299 = .ok (.iconst 5, 1) := by decide +kernel
theorem dL_isPassed_300 : decode cL_isPassed 300 = .ok (.invokevirtual 8, 3) := by decide +kernel
theorem dL_isPassed_303 : decode cL_isPassed 303 = .ok (.iload 4, 2) := by decide +kernel
theorem dL_isPassed_305 : decode cL_isPassed 305 = .ok (.if_icmp .ne 7, 3) := by decide +kernel
theorem dL_isPassed_308 : decode cL_isPassed 308 = .ok (.iconst 1, 1) := by decide +kernel
theorem dL_isPassed_309 : decode cL_isPassed 309 = .ok (.goto 4, 3) := by decide +kernel
theorem dL_isPassed_312 : decode cL_isPassed 312 = .ok (.iconst 0, 1) := by decide +kernel
theorem dL_isPassed_313 : decode cL_isPassed 313 = .ok (.ireturn, 1) := by decide +kernel
set_option maxRecDepth 100000 in
theorem hgL_isLeast_X7_windFor_0 : ∀ w ∈ wsX7_windFor_r1, w ∈ wsL_isLeast := xw_in _ [6, 7, 8, 9, 10, 4, 11, 12, 13, 14, 15, 16, 17, 18, 19, 20, 21, 22, 23, 24, 25, 26, 27, 28] rfl
set_option maxRecDepth 100000 in
theorem hgL_isLeast_X7_windFor_1 : ∀ w ∈ wsX7_windFor_r2, w ∈ wsL_isLeast := xw_in _ [29, 30, 31, 32, 33, 34, 35, 36, 37, 38, 39, 40, 41, 42, 43, 44, 45, 46, 47, 48, 49, 50, 51, 52] rfl
set_option maxRecDepth 100000 in
theorem hgL_isLeast_X7_windFor_2 : ∀ w ∈ wsX7_windFor_r3, w ∈ wsL_isLeast := xw_in _ [53, 54, 55, 56, 57, 58, 59] rfl
set_option maxRecDepth 100000 in
theorem hgL_isLeast_X7_windFor_3 : ∀ w ∈ wsX70, w ∈ wsL_isLeast := xw_in _ [202, 203, 204, 205, 206, 207, 208, 209] rfl
set_option maxRecDepth 100000 in
theorem hgL_isLeast_X7_windFor_4 : ∀ w ∈ wsX60, w ∈ wsL_isLeast := xw_in _ [210, 211, 212, 213] rfl
set_option maxRecDepth 100000 in
theorem hgL_isLeast_X7_windFor_5 : ∀ w ∈ wsX50, w ∈ wsL_isLeast := xw_in _ [214, 215, 216, 217, 218, 219] rfl
set_option maxRecDepth 100000 in
theorem hgL_isLeast_X7_windFor_6 : ∀ w ∈ wsX00, w ∈ wsL_isLeast := xw_in _ [220, 221, 222] rfl
set_option maxRecDepth 100000 in
theorem ggL_isLeast_X7_windFor : GoodIn wsL_isLeast wsX7_windFor := goodIn_sub (List.forall_mem_cons.mpr ⟨List.mem_of_getElem? (i := 5) rfl, List.forall_mem_append.mpr ⟨List.forall_mem_append.mpr ⟨List.forall_mem_append.mpr ⟨List.forall_mem_append.mpr ⟨List.forall_mem_append.mpr ⟨hgL_isLeast_X7_windFor_0, List.forall_mem_append.mpr ⟨hgL_isLeast_X7_windFor_1, hgL_isLeast_X7_windFor_2⟩⟩, hgL_isLeast_X7_windFor_3⟩, hgL_isLeast_X7_windFor_4⟩, hgL_isLeast_X7_windFor_5⟩, hgL_isLeast_X7_windFor_6⟩⟩) (by decide +kernel)
set_option maxRecDepth 20000 in
theorem gL_isLeast_X7_windFor : GoodIn wsL_isLeast (wsV RL 34 RX7 yX7_windFor wsX7_windFor) := goodIn_app (goodIn_of _ (by decide +kernel)) ggL_isLeast_X7_windFor
set_option maxRecDepth 100000 in
theorem hgL_isLeast_X7_ifWind_0 : ∀ w ∈ wsX7_ifWind_r1, w ∈ wsL_isLeast := xw_in _ [64, 65, 4, 66, 9, 10, 11, 67, 68, 69, 70, 6, 7, 8, 12, 13, 14, 15, 16, 17, 18, 19, 20, 21] rfl
set_option maxRecDepth 100000 in
theorem hgL_isLeast_X7_ifWind_1 : ∀ w ∈ wsX7_ifWind_r2, w ∈ wsL_isLeast := xw_in _ [22, 23, 24, 25, 26, 27, 28, 29, 30, 31, 32, 33, 34, 35, 36, 37, 38, 39, 40, 41, 42, 43, 44, 45] rfl
set_option maxRecDepth 100000 in
theorem hgL_isLeast_X7_ifWind_2 : ∀ w ∈ wsX7_ifWind_r3, w ∈ wsL_isLeast := xw_in _ [46, 47, 48, 49, 50, 51, 52, 53, 54, 55, 56, 57, 58, 59] rfl
set_option maxRecDepth 100000 in
theorem hgL_isLeast_X7_ifWind_3 : ∀ w ∈ wsX70, w ∈ wsL_isLeast := xw_in _ [202, 203, 204, 205, 206, 207, 208, 209] rfl
set_option maxRecDepth 100000 in
theorem hgL_isLeast_X7_ifWind_4 : ∀ w ∈ wsX60, w ∈ wsL_isLeast := xw_in _ [210, 211, 212, 213] rfl
set_option maxRecDepth 100000 in
theorem hgL_isLeast_X7_ifWind_5 : ∀ w ∈ wsX50, w ∈ wsL_isLeast := xw_in _ [214, 215, 216, 217, 218, 219] rfl
set_option maxRecDepth 100000 in
theorem hgL_isLeast_X7_ifWind_6 : ∀ w ∈ wsX00, w ∈ wsL_isLeast := xw_in _ [220, 221, 222] rfl
set_option maxRecDepth 100000 in
theorem ggL_isLeast_X7_ifWind : GoodIn wsL_isLeast wsX7_ifWind := goodIn_sub (List.forall_mem_cons.mpr ⟨List.mem_of_getElem? (i := 63) rfl, List.forall_mem_append.mpr ⟨List.forall_mem_append.mpr ⟨List.forall_mem_append.mpr ⟨List.forall_mem_append.mpr ⟨List.forall_mem_append.mpr ⟨hgL_isLeast_X7_ifWind_0, List.forall_mem_append.mpr ⟨hgL_isLeast_X7_ifWind_1, hgL_isLeast_X7_ifWind_2⟩⟩, hgL_isLeast_X7_ifWind_3⟩, hgL_isLeast_X7_ifWind_4⟩, hgL_isLeast_X7_ifWind_5⟩, hgL_isLeast_X7_ifWind_6⟩⟩) (by decide +kernel)
set_option maxRecDepth 20000 in
theorem gL_isLeast_X7_ifWind : GoodIn wsL_isLeast (wsV RL 25 RX7 yX7_ifWind wsX7_ifWind) := goodIn_app (goodIn_of _ (by decide +kernel)) ggL_isLeast_X7_ifWind
set_option maxRecDepth 100000 in
theorem hgL_isLeast_X7_windOfFlag_0 : ∀ w ∈ wsX7_windOfFlag_r1, w ∈ wsL_isLeast := xw_in _ [7, 8, 75, 6, 76, 28, 29, 30, 31, 32, 33, 4, 34, 9, 10, 11, 12, 13, 14, 15, 16, 17, 18, 19] rfl
set_option maxRecDepth 100000 in
theorem hgL_isLeast_X7_windOfFlag_1 : ∀ w ∈ wsX7_windOfFlag_r2, w ∈ wsL_isLeast := xw_in _ [20, 21, 22, 23, 24, 25, 26, 27, 35, 36, 37, 38, 39, 40, 41, 42, 43, 44, 77, 78, 79, 80, 49, 81] rfl
set_option maxRecDepth 100000 in
theorem hgL_isLeast_X7_windOfFlag_2 : ∀ w ∈ wsX7_windOfFlag_r3, w ∈ wsL_isLeast := xw_in _ [54] rfl
set_option maxRecDepth 100000 in
theorem hgL_isLeast_X7_windOfFlag_3 : ∀ w ∈ wsX70, w ∈ wsL_isLeast := xw_in _ [202, 203, 204, 205, 206, 207, 208, 209] rfl
set_option maxRecDepth 100000 in
theorem hgL_isLeast_X7_windOfFlag_4 : ∀ w ∈ wsX60, w ∈ wsL_isLeast := xw_in _ [210, 211, 212, 213] rfl
set_option maxRecDepth 100000 in
theorem hgL_isLeast_X7_windOfFlag_5 : ∀ w ∈ wsX50, w ∈ wsL_isLeast := xw_in _ [214, 215, 216, 217, 218, 219] rfl
set_option maxRecDepth 100000 in
theorem hgL_isLeast_X7_windOfFlag_6 : ∀ w ∈ wsX00, w ∈ wsL_isLeast := xw_in _ [220, 221, 222] rfl
set_option maxRecDepth 100000 in
theorem ggL_isLeast_X7_windOfFlag : GoodIn wsL_isLeast wsX7_windOfFlag := goodIn_sub (List.forall_mem_cons.mpr ⟨List.mem_of_getElem? (i := 74) rfl, List.forall_mem_append.mpr ⟨List.forall_mem_append.mpr ⟨List.forall_mem_append.mpr ⟨List.forall_mem_append.mpr ⟨List.forall_mem_append.mpr ⟨hgL_isLeast_X7_windOfFlag_0, List.forall_mem_append.mpr ⟨hgL_isLeast_X7_windOfFlag_1, hgL_isLeast_X7_windOfFlag_2⟩⟩, hgL_isLeast_X7_windOfFlag_3⟩, hgL_isLeast_X7_windOfFlag_4⟩, hgL_isLeast_X7_windOfFlag_5⟩, hgL_isLeast_X7_windOfFlag_6⟩⟩) (by decide +kernel)
set_option maxRecDepth 20000 in
theorem gL_isLeast_X7_windOfFlag : GoodIn wsL_isLeast (wsV RL 37 RX7 yX7_windOfFlag wsX7_windOfFlag) := goodIn_app (goodIn_of _ (by decide +kernel)) ggL_isLeast_X7_windOfFlag
set_option maxRecDepth 100000 in
theorem hgL_isLeast_X7_of_0 : ∀ w ∈ wsX7_of_r1, w ∈ wsL_isLeast := xw_in _ [7, 8, 86, 87, 75, 88, 89, 76, 28, 29, 30, 31, 32, 33, 4, 34, 90, 91, 92, 93, 94, 95, 96, 97] rfl
set_option maxRecDepth 100000 in
theorem hgL_isLeast_X7_of_1 : ∀ w ∈ wsX7_of_r2, w ∈ wsL_isLeast := xw_in _ [98, 99, 100, 101, 102, 103, 104, 105, 106, 107, 108, 109, 110] rfl
set_option maxRecDepth 100000 in
theorem hgL_isLeast_X7_of_2 : ∀ w ∈ wsX70, w ∈ wsL_isLeast := xw_in _ [202, 203, 204, 205, 206, 207, 208, 209] rfl
set_option maxRecDepth 100000 in
theorem hgL_isLeast_X7_of_3 : ∀ w ∈ wsX60, w ∈ wsL_isLeast := xw_in _ [210, 211, 212, 213] rfl
set_option maxRecDepth 100000 in
theorem hgL_isLeast_X7_of_4 : ∀ w ∈ wsX50, w ∈ wsL_isLeast := xw_in _ [214, 215, 216, 217, 218, 219] rfl
set_option maxRecDepth 100000 in
theorem ggL_isLeast_X7_of : GoodIn wsL_isLeast wsX7_of := goodIn_sub (List.forall_mem_cons.mpr ⟨List.mem_of_getElem? (i := 85) rfl, List.forall_mem_append.mpr ⟨List.forall_mem_append.mpr ⟨List.forall_mem_append.mpr ⟨List.forall_mem_append.mpr ⟨hgL_isLeast_X7_of_0, hgL_isLeast_X7_of_1⟩, hgL_isLeast_X7_of_2⟩, hgL_isLeast_X7_of_3⟩, hgL_isLeast_X7_of_4⟩⟩) (by decide +kernel)
set_option maxRecDepth 20000 in
theorem gL_isLeast_X7_of : GoodIn wsL_isLeast (wsV RL 14 RX7 yX7_of wsX7_of) := goodIn_app (goodIn_of _ (by decide +kernel)) ggL_isLeast_X7_of
set_option maxRecDepth 100000 in
theorem hgL_isLeast_X7_wind_0 : ∀ w ∈ wsX7_wind_r1, w ∈ wsL_isLeast := xw_in _ [115, 7, 116, 64, 65, 4, 66, 9, 10, 11, 117, 118, 119, 120, 121, 122, 123, 124, 125, 126, 127, 128, 129, 130] rfl
set_option maxRecDepth 100000 in
theorem hgL_isLeast_X7_wind_1 : ∀ w ∈ wsX7_wind_r2, w ∈ wsL_isLeast := xw_in _ [131, 132, 133, 134, 135, 136, 40, 41, 42, 137, 138, 139, 140, 141, 142, 143, 30, 144, 94, 145, 146, 147, 148, 32] rfl
set_option maxRecDepth 100000 in
theorem hgL_isLeast_X7_wind_2 : ∀ w ∈ wsX7_wind_r3, w ∈ wsL_isLeast := xw_in _ [149, 150, 151, 152, 153, 154, 155, 156, 157, 158] rfl
set_option maxRecDepth 100000 in
theorem hgL_isLeast_X7_wind_3 : ∀ w ∈ wsX70, w ∈ wsL_isLeast := xw_in _ [202, 203, 204, 205, 206, 207, 208, 209] rfl
set_option maxRecDepth 100000 in
theorem hgL_isLeast_X7_wind_4 : ∀ w ∈ wsX60, w ∈ wsL_isLeast := xw_in _ [210, 211, 212, 213] rfl
set_option maxRecDepth 100000 in
theorem hgL_isLeast_X7_wind_5 : ∀ w ∈ wsX10, w ∈ wsL_isLeast := xw_in _ [223, 224, 225] rfl
set_option maxRecDepth 100000 in
theorem hgL_isLeast_X7_wind_6 : ∀ w ∈ wsX50, w ∈ wsL_isLeast := xw_in _ [214, 215, 216, 217, 218, 219] rfl
set_option maxRecDepth 100000 in
theorem hgL_isLeast_X7_wind_7 : ∀ w ∈ wsX20, w ∈ wsL_isLeast := xw_in _ [226, 227, 228, 229, 230] rfl
set_option maxRecDepth 100000 in
theorem ggL_isLeast_X7_wind : GoodIn wsL_isLeast wsX7_wind := goodIn_sub (List.forall_mem_cons.mpr ⟨List.mem_of_getElem? (i := 114) rfl, List.forall_mem_append.mpr ⟨List.forall_mem_append.mpr ⟨List.forall_mem_append.mpr ⟨List.forall_mem_append.mpr ⟨List.forall_mem_append.mpr ⟨List.forall_mem_append.mpr ⟨hgL_isLeast_X7_wind_0, List.forall_mem_append.mpr ⟨hgL_isLeast_X7_wind_1, hgL_isLeast_X7_wind_2⟩⟩, hgL_isLeast_X7_wind_3⟩, hgL_isLeast_X7_wind_4⟩, hgL_isLeast_X7_wind_5⟩, hgL_isLeast_X7_wind_6⟩, hgL_isLeast_X7_wind_7⟩⟩) (by decide +kernel)
set_option maxRecDepth 20000 in
theorem gL_isLeast_X7_wind : GoodIn wsL_isLeast (wsV RL 40 RX7 yX7_wind wsX7_wind) := goodIn_app (goodIn_of _ (by decide +kernel)) ggL_isLeast_X7_wind
set_option maxRecDepth 100000 in
theorem hgL_isLeast_X7_now_0 : ∀ w ∈ wsX7_now_r1, w ∈ wsL_isLeast := xw_in _ [7, 8, 6, 163, 76, 28, 29, 30, 31, 32, 33, 4, 34, 164, 165, 166, 15, 167, 49, 168, 169, 13, 14, 16] rfl
set_option maxRecDepth 100000 in
theorem hgL_isLeast_X7_now_1 : ∀ w ∈ wsX7_now_r2, w ∈ wsL_isLeast := xw_in _ [17, 18, 19, 20, 21, 170, 23, 24, 25, 26, 27, 35, 36, 37, 38, 39, 40, 41, 42, 43, 44, 171, 57, 58] rfl
set_option maxRecDepth 100000 in
theorem hgL_isLeast_X7_now_2 : ∀ w ∈ wsX7_now_r3, w ∈ wsL_isLeast := xw_in _ [59, 54, 77, 78, 79, 80, 81, 172, 173, 174, 175, 176, 177, 51, 52, 53, 55, 56] rfl
set_option maxRecDepth 100000 in
theorem hgL_isLeast_X7_now_3 : ∀ w ∈ wsX70, w ∈ wsL_isLeast := xw_in _ [202, 203, 204, 205, 206, 207, 208, 209] rfl
set_option maxRecDepth 100000 in
theorem hgL_isLeast_X7_now_4 : ∀ w ∈ wsX60, w ∈ wsL_isLeast := xw_in _ [210, 211, 212, 213] rfl
set_option maxRecDepth 100000 in
theorem hgL_isLeast_X7_now_5 : ∀ w ∈ wsX00, w ∈ wsL_isLeast := xw_in _ [220, 221, 222] rfl
set_option maxRecDepth 100000 in
theorem hgL_isLeast_X7_now_6 : ∀ w ∈ wsX50, w ∈ wsL_isLeast := xw_in _ [214, 215, 216, 217, 218, 219] rfl
set_option maxRecDepth 100000 in
theorem ggL_isLeast_X7_now : GoodIn wsL_isLeast wsX7_now := goodIn_sub (List.forall_mem_cons.mpr ⟨List.mem_of_getElem? (i := 162) rfl, List.forall_mem_append.mpr ⟨List.forall_mem_append.mpr ⟨List.forall_mem_append.mpr ⟨List.forall_mem_append.mpr ⟨List.forall_mem_append.mpr ⟨hgL_isLeast_X7_now_0, List.forall_mem_append.mpr ⟨hgL_isLeast_X7_now_1, hgL_isLeast_X7_now_2⟩⟩, hgL_isLeast_X7_now_3⟩, hgL_isLeast_X7_now_4⟩, hgL_isLeast_X7_now_5⟩, hgL_isLeast_X7_now_6⟩⟩) (by decide +kernel)
set_option maxRecDepth 20000 in
theorem gL_isLeast_X7_now : GoodIn wsL_isLeast (wsV RL 18 RX7 yX7_now wsX7_now) := goodIn_app (goodIn_of _ (by decide +kernel)) ggL_isLeast_X7_now
set_option maxRecDepth 100000 in
theorem hgL_isLeast_X7_count_0 : ∀ w ∈ wsX7_count_r1, w ∈ wsL_isLeast := xw_in _ [7, 8, 182, 116, 183, 184, 185, 186, 187, 188, 115, 189, 190, 191, 192, 30, 193, 32, 148, 67, 68, 69, 4, 70] rfl
set_option maxRecDepth 100000 in
theorem hgL_isLeast_X7_count_1 : ∀ w ∈ wsX7_count_r2, w ∈ wsL_isLeast := xw_in _ [6, 12, 13, 14, 15, 16, 17, 18, 19, 20, 21, 22, 23, 24, 25, 26, 27, 28, 29, 31, 33, 34, 35, 36] rfl
set_option maxRecDepth 100000 in
theorem hgL_isLeast_X7_count_2 : ∀ w ∈ wsX7_count_r3, w ∈ wsL_isLeast := xw_in _ [37, 38, 39, 40, 41, 42, 43, 44, 45, 46, 47, 48, 49, 50, 51, 52, 53, 54, 55, 56, 57, 58, 59, 194] rfl
set_option maxRecDepth 100000 in
theorem hgL_isLeast_X7_count_3 : ∀ w ∈ wsX7_count_r4, w ∈ wsL_isLeast := xw_in _ [195, 196, 197, 164, 165, 166, 167, 168, 169, 170, 177, 198, 199, 200, 201, 163] rfl
set_option maxRecDepth 100000 in
theorem hgL_isLeast_X7_count_4 : ∀ w ∈ wsX70, w ∈ wsL_isLeast := xw_in _ [202, 203, 204, 205, 206, 207, 208, 209] rfl
set_option maxRecDepth 100000 in
theorem hgL_isLeast_X7_count_5 : ∀ w ∈ wsX60, w ∈ wsL_isLeast := xw_in _ [210, 211, 212, 213] rfl
set_option maxRecDepth 100000 in
theorem hgL_isLeast_X7_count_6 : ∀ w ∈ wsX50, w ∈ wsL_isLeast := xw_in _ [214, 215, 216, 217, 218, 219] rfl
set_option maxRecDepth 100000 in
theorem hgL_isLeast_X7_count_7 : ∀ w ∈ wsX20, w ∈ wsL_isLeast := xw_in _ [226, 227, 228, 229, 230] rfl
set_option maxRecDepth 100000 in
theorem hgL_isLeast_X7_count_8 : ∀ w ∈ wsX30, w ∈ wsL_isLeast := xw_in _ [231, 232, 233] rfl
set_option maxRecDepth 100000 in
theorem hgL_isLeast_X7_count_9 : ∀ w ∈ wsX10, w ∈ wsL_isLeast := xw_in _ [223, 224, 225] rfl
set_option maxRecDepth 100000 in
theorem hgL_isLeast_X7_count_10 : ∀ w ∈ wsX00, w ∈ wsL_isLeast := xw_in _ [220, 221, 222] rfl
set_option maxRecDepth 100000 in
theorem ggL_isLeast_X7_count : GoodIn wsL_isLeast wsX7_count := goodIn_sub (List.forall_mem_cons.mpr ⟨List.mem_of_getElem? (i := 181) rfl, List.forall_mem_append.mpr ⟨List.forall_mem_append.mpr ⟨List.forall_mem_append.mpr ⟨List.forall_mem_append.mpr ⟨List.forall_mem_append.mpr ⟨List.forall_mem_append.mpr ⟨List.forall_mem_append.mpr ⟨List.forall_mem_append.mpr ⟨hgL_isLeast_X7_count_0, List.forall_mem_append.mpr ⟨hgL_isLeast_X7_count_1, List.forall_mem_append.mpr ⟨hgL_isLeast_X7_count_2, hgL_isLeast_X7_count_3⟩⟩⟩, hgL_isLeast_X7_count_4⟩, hgL_isLeast_X7_count_5⟩, hgL_isLeast_X7_count_6⟩, hgL_isLeast_X7_count_7⟩, hgL_isLeast_X7_count_8⟩, hgL_isLeast_X7_count_9⟩, hgL_isLeast_X7_count_10⟩⟩) (by decide +kernel)
set_option maxRecDepth 20000 in
theorem gL_isLeast_X7_count : GoodIn wsL_isLeast (wsV RL 8 RX7 yX7_count wsX7_count) := goodIn_app (goodIn_of _ (by decide +kernel)) ggL_isLeast_X7_count
theorem dL_isLeast_0 : decode cL_isLeast 0 = .ok (.aload_n 0, 1) := by decide +kernel
theorem dL_isLeast_1 : decode cL_isLeast 1 = .ok (.iload_n 1, 1) := by decide +kernel
theorem dL_isLeast_2 : decode cL_isLeast 2 = .ok (.invokevirtual 34, 3) := by decide +kernel
theorem dL_isLeast_5 : decode cL_isLeast 5 = .ok (.istore 4, 2) := by decide +kernel
theorem dL_isLeast_7 : decode cL_isLeast 7 = .ok (.bipush (-6), 2) := by decide +kernel
theorem dL_isLeast_9 : decode cL_isLeast 9 = .ok (.istore 5, 2) := by decide +kernel
theorem dL_isLeast_11 : decode cL_isLeast 11 = .ok (.sipush 200, 3) := by decide +kernel
theorem dL_isLeast_14 : decode cL_isLeast 14 = .ok (.istore 6, 2) := by decide +kernel
theorem dL_isLeast_16 : decode cL_isLeast 16 = .ok (.iload 6, 2) := by decide +kernel
theorem dL_isLeast_18 : decode cL_isLeast 18 = .ok (.ifCond .lt 28, 3) := by decide +kernel
theorem dL_isLeast_21 : decode cL_isLeast 21 = .ok (.aload_n 0, 1) := by decide +kernel
theorem dL_isLeast_22 : decode cL_isLeast 22 = .ok (.iload 6, 2) := by decide +kernel
theorem dL_isLeast_24 : decode cL_isLeast 24 = .ok (.invokevirtual 25, 3) := by decide +kernel
theorem dL_isLeast_27 : decode cL_isLeast 27 = .ok (.iload_n 1, 1) := by decide +kernel
theorem dL_isLeast_28 : decode cL_isLeast 28 = .ok (.if_icmp .lt 8, 3) := by decide +kernel
theorem dL_isLeast_31 : decode cL_isLeast 31 = .ok (.iload 6, 2) := by decide +kernel
theorem dL_isLeast_33 : decode cL_isLeast 33 = .ok (.goto 5, 3) := by decide +kernel
theorem dL_isLeast_36 : decode cL_isLeast 36 = .ok (.iload 5, 2) := by decide +kernel
theorem dL_isLeast_38 : decode cL_isLeast 38 = .ok (.istore 5, 2) := by decide +kernel
theorem dL_isLeast_40 : decode cL_isLeast 40 = .ok (.iinc 6 (-1), 3) := by decide +kernel
theorem dL_isLeast_43 : decode cL_isLeast 43 = .ok (.goto (-27), 3) := by decide +kernel
theorem dL_isLeast_46 : decode cL_isLeast 46 = .ok (.iload 4, 2) := by decide +kernel
theorem dL_isLeast_48 : decode cL_isLeast 48 = .ok (.iload 5, 2) := by decide +kernel
theorem dL_isLeast_50 : decode cL_isLeast 50 = .ok (.if_icmp .eq 5, 3) := by decide +kernel
theorem dL_isLeast_53 : decode cL_isLeast 53 = .ok (.iconst 0, 1) := by decide +kernel
theorem dL_isLeast_54 : decode cL_isLeast 54 = .ok (.ireturn, 1) := by decide +kernel
theorem dL_isLeast_55 : decode cL_isLeast 55 = .ok (.aload_n 0, 1) := by decide +kernel
theorem dL_isLeast_56 : decode cL_isLeast 56 = .ok (.iload_n 2, 1) := by decide +kernel
theorem dL_isLeast_57 : decode cL_isLeast 57 = .ok (.iload_n 3, 1) := by decide +kernel
theorem dL_isLeast_58 : decode cL_isLeast 58 = .ok (.invokevirtual 37, 3) := by decide +kernel
theorem dL_isLeast_61 : decode cL_isLeast 61 = .ok (.istore 6, 2) := by decide +kernel
theorem dL_isLeast_63 : decode cL_isLeast 63 = .ok (.aload_n 0, 1) := by decide +kernel
theorem dL_isLeast_64 : decode cL_isLeast 64 = .ok (.iload_n 2, 1) := by decide +kernel
theorem dL_isLeast_65 : decode cL_isLeast 65 = .ok (.iconst 2, 1) := by decide +kernel
theorem dL_isLeast_66 : decode cL_isLeast 66 = .ok (.invokevirtual 14, 3) := by decide +kernel
theorem dL_isLeast_69 : decode cL_isLeast 69 = .ok (.ifCond .ne 16, 3) := by decide +kernel
theorem dL_isLeast_72 : decode cL_isLeast 72 = .ok (.iload 6, 2) := by decide +kernel
theorem dL_isLeast_74 : decode cL_isLeast 74 = .ok (.bipush (-5), 2) := by decide +kernel
theorem dL_isLeast_76 : decode cL_isLeast 76 = .ok (.if_icmp .ne 7, 3) := by decide +kernel
theorem dL_isLeast_79 : decode cL_isLeast 79 = .ok (.iconst 1, 1) := by decide +kernel
theorem dL_isLeast_80 : decode cL_isLeast 80 = .ok (.goto 4, 3) := by decide +kernel
theorem dL_isLeast_83 : decode cL_isLeast 83 = .ok (.iconst 0, 1) := by decide +kernel
theorem dL_isLeast_84 : decode cL_isLeast 84 = .ok (.ireturn, 1) := by decide +kernel
theorem dL_isLeast_85 : decode cL_isLeast 85 = .ok (.aload_n 0, 1) := by decide +kernel
theorem dL_isLeast_86 : decode cL_isLeast 86 = .ok (.sipush 200, 3) := by decide +kernel
theorem dL_isLeast_89 : decode cL_isLeast 89 = .ok (.invokevirtual 40, 3) := by decide +kernel
theorem dL_isLeast_92 : decode cL_isLeast 92 = .ok (.istore 7, 2) := by decide +kernel
theorem dL_isLeast_94 : decode cL_isLeast 94 = .ok (.iload 6, 2) := by decide +kernel
theorem dL_isLeast_96 : decode cL_isLeast 96 = .ok (.bipush (-6), 2) := by decide +kernel
theorem dL_isLeast_98 : decode cL_isLeast 98 = .ok (.if_icmp .ne 13, 3) := by decide +kernel
theorem dL_isLeast_101 : decode cL_isLeast 101 = .ok (.aload_n 0, 1) := by decide +kernel
theorem dL_isLeast_102 : decode cL_isLeast 102 = .ok (.iload_n 2, 1) := by decide +kernel
theorem dL_isLeast_103 : decode cL_isLeast 103 = .ok (.iconst 2, 1) := by decide +kernel
theorem dL_isLeast_104 : decode cL_isLeast 104 = .ok (.invokevirtual 18, 3) := by decide +kernel
theorem dL_isLeast_107 : decode cL_isLeast 107 = .ok (.iload_n 3, 1) := by decide +kernel
theorem dL_isLeast_108 : decode cL_isLeast 108 = .ok (.if_icmp .ge 7, 3) := by decide +kernel
theorem dL_isLeast_111 : decode cL_isLeast 111 = .ok (.iconst 1, 1) := by decide +kernel
theorem dL_isLeast_112 : decode cL_isLeast 112 = .ok (.goto 4, 3) := by decide +kernel
theorem dL_isLeast_115 : decode cL_isLeast 115 = .ok (.iconst 0, 1) := by decide +kernel
theorem dL_isLeast_116 : decode cL_isLeast 116 = .ok (.istore 8, 2) := by decide +kernel
theorem dL_isLeast_118 : decode cL_isLeast 118 = .ok (.iload 6, 2) := by decide +kernel
theorem dL_isLeast_120 : decode cL_isLeast 120 = .ok (.bipush (-6), 2) := by decide +kernel
theorem dL_isLeast_122 : decode cL_isLeast 122 = .ok (.if_icmp .ne 9, 3) := by decide +kernel
theorem dL_isLeast_125 : decode cL_isLeast 125 = .ok (.sipush 200, 3) := by decide +kernel
theorem dL_isLeast_128 : decode cL_isLeast 128 = .ok (.goto 5, 3) := by decide +kernel
theorem dL_isLeast_131 : decode cL_isLeast 131 = .ok (.iload 6, 2) := by decide +kernel
theorem dL_isLeast_133 : decode cL_isLeast 133 = .ok (.istore 9, 2) := by decide +kernel
theorem dL_isLeast_135 : decode cL_isLeast 135 = .ok (.aload_n 0, 1) := by decide +kernel
theorem dL_isLeast_136 : decode cL_isLeast 136 = .ok (.iload 9, 2) := by decide +kernel
theorem dL_isLeast_138 : decode cL_isLeast 138 = .ok (.invokevirtual 40, 3) := by decide +kernel
theorem dL_isLeast_141 : decode cL_isLeast 141 = .ok (.istore 10, 2) := by decide +kernel
theorem dL_isLeast_143 : decode cL_isLeast 143 = .ok (.iload 8, 2) := by decide +kernel
theorem dL_isLeast_145 : decode cL_isLeast 145 = .ok (.ifCond .eq 32, 3) := by decide +kernel
theorem dL_isLeast_148 : decode cL_isLeast 148 = .ok (.iload 10, 2) := by decide +kernel
theorem dL_isLeast_150 : decode cL_isLeast 150 = .ok (.sipush 200, 3) := by decide +kernel
theorem dL_isLeast_153 : decode cL_isLeast 153 = .ok (.if_icmp .ne 24, 3) := by decide +kernel
theorem dL_isLeast_156 : decode cL_isLeast 156 = .ok (.iload 6, 2) := by decide +kernel
theorem dL_isLeast_158 : decode cL_isLeast 158 = .ok (.bipush (-6), 2) := by decide +kernel
theorem dL_isLeast_160 : decode cL_isLeast 160 = .ok (.if_icmp .eq 13, 3) := by decide +kernel
theorem dL_isLeast_163 : decode cL_isLeast 163 = .ok (.aload_n 0, 1) := by decide +kernel
theorem dL_isLeast_164 : decode cL_isLeast 164 = .ok (.iload_n 2, 1) := by decide +kernel
theorem dL_isLeast_165 : decode cL_isLeast 165 = .ok (.iconst 2, 1) := by decide +kernel
theorem dL_isLeast_166 : decode cL_isLeast 166 = .ok (.invokevirtual 18, 3) := by decide +kernel
theorem dL_isLeast_169 : decode cL_isLeast 169 = .ok (.iload_n 3, 1) := by decide +kernel
theorem dL_isLeast_170 : decode cL_isLeast 170 = .ok (.if_icmp .lt 7, 3) := by decide +kernel
theorem dL_isLeast_173 : decode cL_isLeast 173 = .ok (.iconst 1, 1) := by decide +kernel
theorem dL_isLeast_174 : decode cL_isLeast 174 = .ok (.goto 4, 3) := by decide +kernel
theorem dL_isLeast_177 : decode cL_isLeast 177 = .ok (.iconst 0, 1) := by decide +kernel
theorem dL_isLeast_178 : decode cL_isLeast 178 = .ok (.istore 8, 2) := by decide +kernel
theorem dL_isLeast_180 : decode cL_isLeast 180 = .ok (.iload 6, 2) := by decide +kernel
theorem dL_isLeast_182 : decode cL_isLeast 182 = .ok (.ifCond .le 42, 3) := by decide +kernel
theorem dL_isLeast_185 : decode cL_isLeast 185 = .ok (.aload_n 0, 1) := by decide +kernel
theorem dL_isLeast_186 : decode cL_isLeast 186 = .ok (.iload 6, 2) := by decide +kernel
theorem dL_isLeast_188 : decode cL_isLeast 188 = .ok (.iconst 1, 1) := by decide +kernel
theorem dL_isLeast_189 : decode cL_isLeast 189 = .ok (.isub, 1) := by decide +kernel
theorem dL_isLeast_190 : decode cL_isLeast 190 = .ok (.invokevirtual 40, 3) := by decide +kernel
theorem dL_isLeast_193 : decode cL_isLeast 193 = .ok (.istore 11, 2) := by decide +kernel
theorem dL_isLeast_195 : decode cL_isLeast 195 = .ok (.iload 8, 2) := by decide +kernel
theorem dL_isLeast_197 : decode cL_isLeast 197 = .ok (.ifCond .eq 24, 3) := by decide +kernel
theorem dL_isLeast_200 : decode cL_isLeast 200 = .ok (.iload 11, 2) := by decide +kernel
theorem dL_isLeast_202 : decode cL_isLeast 202 = .ok (.iload 6, 2) := by decide +kernel
theorem dL_isLeast_204 : decode cL_isLeast 204 = .ok (.if_icmp .ne 17, 3) := by decide +kernel
theorem dL_isLeast_207 : decode cL_isLeast 207 = .ok (.aload_n 0, 1) := by decide +kernel
theorem dL_isLeast_208 : decode cL_isLeast 208 = .ok (.iload_n 2, 1) := by decide +kernel
theorem dL_isLeast_209 : decode cL_isLeast 209 = .ok (.iconst 2, 1) := by decide +kernel
theorem dL_isLeast_210 : decode cL_isLeast 210 = .ok (.invokevirtual 18, 3) := by decide +kernel
theorem dL_isLeast_213 : decode cL_isLeast 213 = .ok (.iload_n 3, 1) := by decide +kernel
theorem dL_isLeast_214 : decode cL_isLeast 214 = .ok (.if_icmp .ge 7, 3) := by decide +kernel
theorem dL_isLeast_217 : decode cL_isLeast 217 = .ok (.iconst 1, 1) := by decide +kernel
theorem dL_isLeast_218 : decode cL_isLeast 218 = .ok (.goto 4, 3) := by decide +kernel
theorem dL_isLeast_221 : decode cL_isLeast 221 = .ok (.iconst 0, 1) := by decide +kernel
theorem dL_isLeast_222 : decode cL_isLeast 222 = .ok (.istore 8, 2) := by decide +kernel
theorem dL_isLeast_224 : decode cL_isLeast 224 = .ok (.aload_n 0, 1) := by decide +kernel
theorem dL_isLeast_225 : decode cL_isLeast 225 = .ok (.iload 7, 2) := by decide +kernel
theorem dL_isLeast_227 : decode cL_isLeast 227 = .ok (.invokevirtual 40, 3) := by decide +kernel
theorem dL_isLeast_230 : decode cL_isLeast 230 = .ok (.istore 11, 2) := by decide +kernel
theorem dL_isLeast_232 : decode cL_isLeast 232 = .ok (.iload 8, 2) := by decide +kernel
theorem dL_isLeast_234 : decode cL_isLeast 234 = .ok (.ifCond .eq 22, 3) := by decide +kernel
theorem dL_isLeast_237 : decode cL_isLeast 237 = .ok (.iload 11, 2) := by decide +kernel
theorem dL_isLeast_239 : decode cL_isLeast 239 = .ok (.ifCond .lt 17, 3) := by decide +kernel
theorem dL_isLeast_242 : decode cL_isLeast 242 = .ok (.aload_n 0, 1) := by decide +kernel
theorem dL_isLeast_243 : decode cL_isLeast 243 = .ok (.iconst 1, 1) := by decide +kernel
theorem dL_isLeast_244 : decode cL_isLeast 244 = .ok (.invokevirtual 8, 3) := by decide +kernel
theorem dL_isLeast_247 : decode cL_isLeast 247 = .ok (.iload 7, 2) := by decide +kernel
theorem dL_isLeast_249 : decode cL_isLeast 249 = .ok (.if_icmp .ne 7, 3) := by decide +kernel
theorem dL_isLeast_252 : decode cL_isLeast 252 = .ok (.iconst 1, 1) := by decide +kernel
theorem dL_isLeast_253 : decode cL_isLeast 253 = .ok (.goto 4, 3) := by decide +kernel
theorem dL_isLeast_256 : decode cL_isLeast 256 = .ok (.iconst 0, 1) := by decide +kernel
theorem dL_isLeast_257 : decode cL_isLeast 257 = .ok (.ireturn, 1) := by decide +kernel
set_option maxRecDepth 100000 in
theorem hgL_isWithout_X7_without_0 : ∀ w ∈ wsX7_without_r1, w ∈ wsL_isWithout := xw_in _ [6, 7, 8, 9, 10, 11, 12, 13, 14, 15, 16, 17, 18, 4, 19, 20, 21, 22, 23, 24, 25, 26, 27, 28] rfl
set_option maxRecDepth 100000 in
theorem hgL_isWithout_X7_without_1 : ∀ w ∈ wsX7_without_r2, w ∈ wsL_isWithout := xw_in _ [29, 30, 31, 32, 33, 34, 35, 36, 37, 38, 39, 40, 41, 42, 43, 44, 45, 46, 47, 48, 49, 50, 51, 52] rfl
set_option maxRecDepth 100000 in
theorem hgL_isWithout_X7_without_2 : ∀ w ∈ wsX7_without_r3, w ∈ wsL_isWithout := xw_in _ [53] rfl
set_option maxRecDepth 100000 in
theorem hgL_isWithout_X7_without_3 : ∀ w ∈ wsX70, w ∈ wsL_isWithout := xw_in _ [143, 144, 145, 146, 147, 148, 149, 150] rfl
set_option maxRecDepth 100000 in
theorem hgL_isWithout_X7_without_4 : ∀ w ∈ wsX60, w ∈ wsL_isWithout := xw_in _ [151, 152, 153, 154] rfl
set_option maxRecDepth 100000 in
theorem hgL_isWithout_X7_without_5 : ∀ w ∈ wsX50, w ∈ wsL_isWithout := xw_in _ [155, 156, 157, 158, 159, 160] rfl
set_option maxRecDepth 100000 in
theorem hgL_isWithout_X7_without_6 : ∀ w ∈ wsX00, w ∈ wsL_isWithout := xw_in _ [161, 162, 163] rfl
set_option maxRecDepth 100000 in
theorem ggL_isWithout_X7_without : GoodIn wsL_isWithout wsX7_without := goodIn_sub (List.forall_mem_cons.mpr ⟨List.mem_of_getElem? (i := 5) rfl, List.forall_mem_append.mpr ⟨List.forall_mem_append.mpr ⟨List.forall_mem_append.mpr ⟨List.forall_mem_append.mpr ⟨List.forall_mem_append.mpr ⟨hgL_isWithout_X7_without_0, List.forall_mem_append.mpr ⟨hgL_isWithout_X7_without_1, hgL_isWithout_X7_without_2⟩⟩, hgL_isWithout_X7_without_3⟩, hgL_isWithout_X7_without_4⟩, hgL_isWithout_X7_without_5⟩, hgL_isWithout_X7_without_6⟩⟩) (by decide +kernel)
set_option maxRecDepth 20000 in
theorem gL_isWithout_X7_without : GoodIn wsL_isWithout (wsV RL 43 RX7 yX7_without wsX7_without) := goodIn_app (goodIn_of _ (by decide +kernel)) ggL_isWithout_X7_without
set_option maxRecDepth 100000 in
theorem hgL_isWithout_X7_of_0 : ∀ w ∈ wsX7_of_r1, w ∈ wsL_isWithout := xw_in _ [6, 7, 8, 58, 59, 60, 61, 12, 13, 14, 15, 16, 17, 18, 4, 19, 62, 63, 64, 65, 66, 67, 68, 69] rfl
set_option maxRecDepth 100000 in
theorem hgL_isWithout_X7_of_1 : ∀ w ∈ wsX7_of_r2, w ∈ wsL_isWithout := xw_in _ [70, 71, 72, 73, 74, 75, 76, 77, 78, 79, 80, 81, 82] rfl
set_option maxRecDepth 100000 in
theorem hgL_isWithout_X7_of_2 : ∀ w ∈ wsX70, w ∈ wsL_isWithout := xw_in _ [143, 144, 145, 146, 147, 148, 149, 150] rfl
set_option maxRecDepth 100000 in
theorem hgL_isWithout_X7_of_3 : ∀ w ∈ wsX60, w ∈ wsL_isWithout := xw_in _ [151, 152, 153, 154] rfl
set_option maxRecDepth 100000 in
theorem hgL_isWithout_X7_of_4 : ∀ w ∈ wsX50, w ∈ wsL_isWithout := xw_in _ [155, 156, 157, 158, 159, 160] rfl
set_option maxRecDepth 100000 in
theorem ggL_isWithout_X7_of : GoodIn wsL_isWithout wsX7_of := goodIn_sub (List.forall_mem_cons.mpr ⟨List.mem_of_getElem? (i := 57) rfl, List.forall_mem_append.mpr ⟨List.forall_mem_append.mpr ⟨List.forall_mem_append.mpr ⟨List.forall_mem_append.mpr ⟨hgL_isWithout_X7_of_0, hgL_isWithout_X7_of_1⟩, hgL_isWithout_X7_of_2⟩, hgL_isWithout_X7_of_3⟩, hgL_isWithout_X7_of_4⟩⟩) (by decide +kernel)
set_option maxRecDepth 20000 in
theorem gL_isWithout_X7_of : GoodIn wsL_isWithout (wsV RL 14 RX7 yX7_of wsX7_of) := goodIn_app (goodIn_of _ (by decide +kernel)) ggL_isWithout_X7_of
set_option maxRecDepth 100000 in
theorem hgL_isWithout_X7_count_0 : ∀ w ∈ wsX7_count_r1, w ∈ wsL_isWithout := xw_in _ [6, 7, 87, 11, 88, 89, 90, 91, 92, 93, 94, 95, 96, 97, 98, 15, 99, 17, 100, 101, 102, 103, 4, 104] rfl
set_option maxRecDepth 100000 in
theorem hgL_isWithout_X7_count_1 : ∀ w ∈ wsX7_count_r2, w ∈ wsL_isWithout := xw_in _ [9, 52, 28, 29, 23, 30, 31, 32, 33, 34, 35, 53, 37, 38, 39, 40, 41, 13, 14, 16, 18, 19, 42, 43] rfl
set_option maxRecDepth 100000 in
theorem hgL_isWithout_X7_count_2 : ∀ w ∈ wsX7_count_r3, w ∈ wsL_isWithout := xw_in _ [44, 45, 46, 47, 48, 49, 50, 51, 105, 106, 107, 108, 25, 109, 110, 111, 112, 113, 114, 115, 116, 117, 118, 119] rfl
set_option maxRecDepth 100000 in
theorem hgL_isWithout_X7_count_3 : ∀ w ∈ wsX7_count_r4, w ∈ wsL_isWithout := xw_in _ [120, 121, 122, 20, 21, 22, 24, 26, 27, 36, 123, 124, 125, 126, 127, 10] rfl
set_option maxRecDepth 100000 in
theorem hgL_isWithout_X7_count_4 : ∀ w ∈ wsX70, w ∈ wsL_isWithout := xw_in _ [143, 144, 145, 146, 147, 148, 149, 150] rfl
set_option maxRecDepth 100000 in
theorem hgL_isWithout_X7_count_5 : ∀ w ∈ wsX60, w ∈ wsL_isWithout := xw_in _ [151, 152, 153, 154] rfl
set_option maxRecDepth 100000 in
theorem hgL_isWithout_X7_count_6 : ∀ w ∈ wsX50, w ∈ wsL_isWithout := xw_in _ [155, 156, 157, 158, 159, 160] rfl
set_option maxRecDepth 100000 in
theorem hgL_isWithout_X7_count_7 : ∀ w ∈ wsX20, w ∈ wsL_isWithout := xw_in _ [164, 165, 166, 167, 168] rfl
set_option maxRecDepth 100000 in
theorem hgL_isWithout_X7_count_8 : ∀ w ∈ wsX30, w ∈ wsL_isWithout := xw_in _ [169, 170, 171] rfl
set_option maxRecDepth 100000 in
theorem hgL_isWithout_X7_count_9 : ∀ w ∈ wsX10, w ∈ wsL_isWithout := xw_in _ [172, 173, 174] rfl
set_option maxRecDepth 100000 in
theorem hgL_isWithout_X7_count_10 : ∀ w ∈ wsX00, w ∈ wsL_isWithout := xw_in _ [161, 162, 163] rfl
set_option maxRecDepth 100000 in
theorem ggL_isWithout_X7_count : GoodIn wsL_isWithout wsX7_count := goodIn_sub (List.forall_mem_cons.mpr ⟨List.mem_of_getElem? (i := 86) rfl, List.forall_mem_append.mpr ⟨List.forall_mem_append.mpr ⟨List.forall_mem_append.mpr ⟨List.forall_mem_append.mpr ⟨List.forall_mem_append.mpr ⟨List.forall_mem_append.mpr ⟨List.forall_mem_append.mpr ⟨List.forall_mem_append.mpr ⟨hgL_isWithout_X7_count_0, List.forall_mem_append.mpr ⟨hgL_isWithout_X7_count_1, List.forall_mem_append.mpr ⟨hgL_isWithout_X7_count_2, hgL_isWithout_X7_count_3⟩⟩⟩, hgL_isWithout_X7_count_4⟩, hgL_isWithout_X7_count_5⟩, hgL_isWithout_X7_count_6⟩, hgL_isWithout_X7_count_7⟩, hgL_isWithout_X7_count_8⟩, hgL_isWithout_X7_count_9⟩, hgL_isWithout_X7_count_10⟩⟩) (by decide +kernel)
set_option maxRecDepth 20000 in
theorem gL_isWithout_X7_count : GoodIn wsL_isWithout (wsV RL 8 RX7 yX7_count wsX7_count) := goodIn_app (goodIn_of _ (by decide +kernel)) ggL_isWithout_X7_count
set_option maxRecDepth 100000 in
theorem hgL_isWithout_X7_now_0 : ∀ w ∈ wsX7_now_r1, w ∈ wsL_isWithout := xw_in _ [6, 7, 9, 10, 12, 13, 14, 15, 16, 17, 18, 4, 19, 20, 21, 22, 23, 24, 25, 26, 27, 28, 29, 30] rfl
set_option maxRecDepth 100000 in
theorem hgL_isWithout_X7_now_1 : ∀ w ∈ wsX7_now_r2, w ∈ wsL_isWithout := xw_in _ [31, 32, 33, 34, 35, 36, 37, 38, 39, 40, 41, 42, 43, 44, 45, 46, 47, 48, 49, 50, 51, 132, 116, 117] rfl
set_option maxRecDepth 100000 in
theorem hgL_isWithout_X7_now_2 : ∀ w ∈ wsX7_now_r3, w ∈ wsL_isWithout := xw_in _ [118, 113, 133, 134, 135, 136, 137, 138, 139, 140, 141, 142, 123, 110, 111, 112, 114, 115] rfl
set_option maxRecDepth 100000 in
theorem hgL_isWithout_X7_now_3 : ∀ w ∈ wsX70, w ∈ wsL_isWithout := xw_in _ [143, 144, 145, 146, 147, 148, 149, 150] rfl
set_option maxRecDepth 100000 in
theorem hgL_isWithout_X7_now_4 : ∀ w ∈ wsX60, w ∈ wsL_isWithout := xw_in _ [151, 152, 153, 154] rfl
set_option maxRecDepth 100000 in
theorem hgL_isWithout_X7_now_5 : ∀ w ∈ wsX00, w ∈ wsL_isWithout := xw_in _ [161, 162, 163] rfl
set_option maxRecDepth 100000 in
theorem hgL_isWithout_X7_now_6 : ∀ w ∈ wsX50, w ∈ wsL_isWithout := xw_in _ [155, 156, 157, 158, 159, 160] rfl
set_option maxRecDepth 100000 in
theorem ggL_isWithout_X7_now : GoodIn wsL_isWithout wsX7_now := goodIn_sub (List.forall_mem_cons.mpr ⟨List.mem_of_getElem? (i := 131) rfl, List.forall_mem_append.mpr ⟨List.forall_mem_append.mpr ⟨List.forall_mem_append.mpr ⟨List.forall_mem_append.mpr ⟨List.forall_mem_append.mpr ⟨hgL_isWithout_X7_now_0, List.forall_mem_append.mpr ⟨hgL_isWithout_X7_now_1, hgL_isWithout_X7_now_2⟩⟩, hgL_isWithout_X7_now_3⟩, hgL_isWithout_X7_now_4⟩, hgL_isWithout_X7_now_5⟩, hgL_isWithout_X7_now_6⟩⟩) (by decide +kernel)
set_option maxRecDepth 20000 in
theorem gL_isWithout_X7_now : GoodIn wsL_isWithout (wsV RL 18 RX7 yX7_now wsX7_now) := goodIn_app (goodIn_of _ (by decide +kernel)) ggL_isWithout_X7_now
theorem dL_isWithout_0 : decode cL_isWithout 0 = .ok (.aload_n 0, 1) := by decide +kernel
theorem dL_isWithout_1 : decode cL_isWithout 1 = .ok (.iload_n 1, 1) := by decide +kernel
theorem dL_isWithout_2 : decode cL_isWithout 2 = .ok (.iload_n 2, 1) := by decide +kernel
theorem dL_isWithout_3 : decode cL_isWithout 3 = .ok (.invokevirtual 43, 3) := by decide +kernel
theorem dL_isWithout_6 : decode cL_isWithout 6 = .ok (.istore_n 3, 1) := by decide +kernel
theorem dL_isWithout_7 : decode cL_isWithout 7 = .ok (.aload_n 0, 1) := by decide +kernel
theorem dL_isWithout_8 : decode cL_isWithout 8 = .ok (.iload_n 1, 1) := by decide +kernel
theorem dL_isWithout_9 : decode cL_isWithout 9 = .ok (.iconst 0, 1) := by decide +kernel
theorem dL_isWithout_10 : decode cL_isWithout 10 = .ok (.invokevirtual 14, 3) := by decide +kernel
theorem dL_isWithout_13 : decode cL_isWithout 13 = .ok (.istore 4, 2) := by decide +kernel
theorem dL_isWithout_15 : decode cL_isWithout 15 = .ok (.iload_n 1, 1) := by decide +kernel
theorem dL_isWithout_16 : decode cL_isWithout 16 = .ok (.iload_n 2, 1) := by decide +kernel
theorem dL_isWithout_17 : decode cL_isWithout 17 = .ok (.if_icmp .eq 22, 3) := by decide +kernel
theorem dL_isWithout_20 : decode cL_isWithout 20 = .ok (.iload_n 1, 1) := by decide +kernel
theorem dL_isWithout_21 : decode cL_isWithout 21 = .ok (.ifCond .eq 18, 3) := by decide +kernel
theorem dL_isWithout_24 : decode cL_isWithout 24 = .ok (.iload_n 2, 1) := by decide +kernel
theorem dL_isWithout_25 : decode cL_isWithout 25 = .ok (.ifCond .eq 14, 3) := by decide +kernel
theorem dL_isWithout_28 : decode cL_isWithout 28 = .ok (.iload 4, 2) := by decide +kernel
theorem dL_isWithout_30 : decode cL_isWithout 30 = .ok (.aload_n 0, 1) := by decide +kernel
theorem dL_isWithout_31 : decode cL_isWithout 31 = .ok (.iload_n 2, 1) := by decide +kernel
theorem dL_isWithout_32 : decode cL_isWithout 32 = .ok (.iconst 0, 1) := by decide +kernel
theorem dL_isWithout_33 : decode cL_isWithout 33 = .ok (.invokevirtual 14, 3) := by decide +kernel
theorem dL_isWithout_36 : decode cL_isWithout 36 = .ok (.if_icmp .eq 15, 3) := by decide +kernel
theorem dL_isWithout_39 : decode cL_isWithout 39 = .ok (.iload_n 3, 1) := by decide +kernel
theorem dL_isWithout_40 : decode cL_isWithout 40 = .ok (.bipush (-5), 2) := by decide +kernel
theorem dL_isWithout_42 : decode cL_isWithout 42 = .ok (.if_icmp .ne 7, 3) := by decide +kernel
theorem dL_isWithout_45 : decode cL_isWithout 45 = .ok (.iconst 1, 1) := by decide +kernel
theorem dL_isWithout_46 : decode cL_isWithout 46 = .ok (.goto 4, 3) := by decide +kernel
theorem dL_isWithout_49 : decode cL_isWithout 49 = .ok (.iconst 0, 1) := by decide +kernel
theorem dL_isWithout_50 : decode cL_isWithout 50 = .ok (.ireturn, 1) := by decide +kernel
theorem dL_isWithout_51 : decode cL_isWithout 51 = .ok (.iconst 0, 1) := by decide +kernel
theorem dL_isWithout_52 : decode cL_isWithout 52 = .ok (.istore 5, 2) := by decide +kernel
theorem dL_isWithout_54 : decode cL_isWithout 54 = .ok (.iconst 0, 1) := by decide +kernel
theorem dL_isWithout_55 : decode cL_isWithout 55 = .ok (.istore 6, 2) := by decide +kernel
theorem dL_isWithout_57 : decode cL_isWithout 57 = .ok (.iconst 1, 1) := by decide +kernel
theorem dL_isWithout_58 : decode cL_isWithout 58 = .ok (.istore 7, 2) := by decide +kernel
theorem dL_isWithout_60 : decode cL_isWithout 60 = .ok (.iload 7, 2) := by decide +kernel
theorem dL_isWithout_62 : decode cL_isWithout 62 = .ok (.aload_n 0, 1) := by decide +kernel
theorem dL_isWithout_63 : decode cL_isWithout 63 = .ok (.iconst 0, 1) := by decide +kernel
theorem dL_isWithout_64 : decode cL_isWithout 64 = .ok (.invokevirtual 8, 3) := by decide +kernel
theorem dL_isWithout_67 : decode cL_isWithout 67 = .ok (.if_icmp .ge 86, 3) := by decide +kernel
theorem dL_isWithout_70 : decode cL_isWithout 70 = .ok (.iload 7, 2) := by decide +kernel
theorem dL_isWithout_72 : decode cL_isWithout 72 = .ok (.iload_n 2, 1) := by decide +kernel
theorem dL_isWithout_73 : decode cL_isWithout 73 = .ok (.if_icmp .eq 19, 3) := by decide +kernel
theorem dL_isWithout_76 : decode cL_isWithout 76 = .ok (.aload_n 0, 1) := by decide +kernel
theorem dL_isWithout_77 : decode cL_isWithout 77 = .ok (.iload 7, 2) := by decide +kernel
theorem dL_isWithout_79 : decode cL_isWithout 79 = .ok (.iconst 0, 1) := by decide +kernel
theorem dL_isWithout_80 : decode cL_isWithout 80 = .ok (.invokevirtual 14, 3) := by decide +kernel
theorem dL_isWithout_83 : decode cL_isWithout 83 = .ok (.iload 4, 2) := by decide +kernel
theorem dL_isWithout_85 : decode cL_isWithout 85 = .ok (.if_icmp .ne 7, 3) := by decide +kernel
theorem dL_isWithout_88 : decode cL_isWithout 88 = .ok (.iconst 1, 1) := by decide +kernel
theorem dL_isWithout_89 : decode cL_isWithout 89 = .ok (.goto 4, 3) := by decide +kernel
theorem dL_isWithout_92 : decode cL_isWithout 92 = .ok (.iconst 0, 1) := by decide +kernel
theorem dL_isWithout_93 : decode cL_isWithout 93 = .ok (.istore 8, 2) := by decide +kernel
theorem dL_isWithout_95 : decode cL_isWithout 95 = .ok (.iload 5, 2) := by decide +kernel
theorem dL_isWithout_97 : decode cL_isWithout 97 = .ok (.iload 8, 2) := by decide +kernel
theorem dL_isWithout_99 : decode cL_isWithout 99 = .ok (.ifCond .eq 13, 3) := by decide +kernel
theorem dL_isWithout_102 : decode cL_isWithout 102 = .ok (.aload_n 0, 1) := by decide +kernel
theorem dL_isWithout_103 : decode cL_isWithout 103 = .ok (.iload 7, 2) := by decide +kernel
theorem dL_isWithout_105 : decode cL_isWithout 105 = .ok (.iconst 1, 1) := by decide +kernel
theorem dL_isWithout_106 : decode cL_isWithout 106 = .ok (.invokevirtual 14, 3) := by decide +kernel
theorem dL_isWithout_109 : decode cL_isWithout 109 = .ok (.goto 4, 3) := by decide +kernel
theorem dL_isWithout_112 : decode cL_isWithout 112 = .ok (.iconst 0, 1) := by decide +kernel
theorem dL_isWithout_113 : decode cL_isWithout 113 = .ok (.iadd, 1) := by decide +kernel
theorem dL_isWithout_114 : decode cL_isWithout 114 = .ok (.istore 5, 2) := by decide +kernel
theorem dL_isWithout_116 : decode cL_isWithout 116 = .ok (.iload 6, 2) := by decide +kernel
theorem dL_isWithout_118 : decode cL_isWithout 118 = .ok (.iload 8, 2) := by decide +kernel
theorem dL_isWithout_120 : decode cL_isWithout 120 = .ok (.ifCond .eq 23, 3) := by decide +kernel
theorem dL_isWithout_123 : decode cL_isWithout 123 = .ok (.aload_n 0, 1) := by decide +kernel
theorem dL_isWithout_124 : decode cL_isWithout 124 = .ok (.iload 7, 2) := by decide +kernel
theorem dL_isWithout_126 : decode cL_isWithout 126 = .ok (.iconst 1, 1) := by decide +kernel
theorem dL_isWithout_127 : decode cL_isWithout 127 = .ok (.invokevirtual 14, 3) := by decide +kernel
theorem dL_isWithout_130 : decode cL_isWithout 130 = .ok (.aload_n 0, 1) := by decide +kernel
theorem dL_isWithout_131 : decode cL_isWithout 131 = .ok (.iload_n 1, 1) := by decide +kernel
theorem dL_isWithout_132 : decode cL_isWithout 132 = .ok (.iconst 1, 1) := by decide +kernel
theorem dL_isWithout_133 : decode cL_isWithout 133 = .ok (.invokevirtual 14, 3) := by decide +kernel
theorem dL_isWithout_136 : decode cL_isWithout 136 = .ok (.if_icmp .ge 7, 3) := by decide +kernel
theorem dL_isWithout_139 : decode cL_isWithout 139 = .ok (.iconst 1, 1) := by decide +kernel
theorem dL_isWithout_140 : decode cL_isWithout 140 = .ok (.goto 4, 3) := by decide +kernel
theorem dL_isWithout_143 : decode cL_isWithout 143 = .ok (.iconst 0, 1) := by decide +kernel
theorem dL_isWithout_144 : decode cL_isWithout 144 = .ok (.iadd, 1) := by decide +kernel
theorem dL_isWithout_145 : decode cL_isWithout 145 = .ok (.istore 6, 2) := by decide +kernel
theorem dL_isWithout_147 : decode cL_isWithout 147 = .ok (.iinc 7 1, 3) := by decide +kernel
theorem dL_isWithout_150 : decode cL_isWithout 150 = .ok (.goto (-90), 3) := by decide +kernel
theorem dL_isWithout_153 : decode cL_isWithout 153 = .ok (.aload_n 0, 1) := by decide +kernel
theorem dL_isWithout_154 : decode cL_isWithout 154 = .ok (.iload 4, 2) := by decide +kernel
theorem dL_isWithout_156 : decode cL_isWithout 156 = .ok (.iconst 0, 1) := by decide +kernel
theorem dL_isWithout_157 : decode cL_isWithout 157 = .ok (.invokevirtual 18, 3) := by decide +kernel
theorem dL_isWithout_160 : decode cL_isWithout 160 = .ok (.istore 7, 2) := by decide +kernel
theorem dL_isWithout_162 : decode cL_isWithout 162 = .ok (.iload 7, 2) := by decide +kernel
theorem dL_isWithout_164 : decode cL_isWithout 164 = .ok (.aload_n 0, 1) := by decide +kernel
theorem dL_isWithout_165 : decode cL_isWithout 165 = .ok (.iload_n 1, 1) := by decide +kernel
theorem dL_isWithout_166 : decode cL_isWithout 166 = .ok (.iconst 1, 1) := by decide +kernel
theorem dL_isWithout_167 : decode cL_isWithout 167 = .ok (.invokevirtual 14, 3) := by decide +kernel
theorem dL_isWithout_170 : decode cL_isWithout 170 = .ok (.imul, 1) := by decide +kernel
theorem dL_isWithout_171 : decode cL_isWithout 171 = .ok (.iload 5, 2) := by decide +kernel
theorem dL_isWithout_173 : decode cL_isWithout 173 = .ok (.idiv, 1) := by decide +kernel
theorem dL_isWithout_174 : decode cL_isWithout 174 = .ok (.iconst 5, 1) := by decide +kernel
theorem dL_isWithout_175 : decode cL_isWithout 175 = .ok (.iload 6, 2) := by decide +kernel
theorem dL_isWithout_177 : decode cL_isWithout 177 = .ok (.imul, 1) := by decide +kernel
theorem dL_isWithout_178 : decode cL_isWithout 178 = .ok (.iadd, 1) := by decide +kernel
theorem dL_isWithout_179 : decode cL_isWithout 179 = .ok (.istore 8, 2) := by decide +kernel
theorem dL_isWithout_181 : decode cL_isWithout 181 = .ok (.iload_n 3, 1) := by decide +kernel
theorem dL_isWithout_182 : decode cL_isWithout 182 = .ok (.iload 8, 2) := by decide +kernel
theorem dL_isWithout_184 : decode cL_isWithout 184 = .ok (.iload 7, 2) := by decide +kernel
theorem dL_isWithout_186 : decode cL_isWithout 186 = .ok (.if_icmp .le 8, 3) := by decide +kernel
theorem dL_isWithout_189 : decode cL_isWithout 189 = .ok (.iload 7, 2) := by decide +kernel
theorem dL_isWithout_191 : decode cL_isWithout 191 = .ok (.goto 5, 3) := by decide +kernel
theorem dL_isWithout_194 : decode cL_isWithout 194 = .ok (.iload 8, 2) := by decide +kernel
theorem dL_isWithout_196 : decode cL_isWithout 196 = .ok (.aload_n 0, 1) := by decide +kernel
theorem dL_isWithout_197 : decode cL_isWithout 197 = .ok (.iload_n 1, 1) := by decide +kernel
theorem dL_isWithout_198 : decode cL_isWithout 198 = .ok (.iconst 0, 1) := by decide +kernel
theorem dL_isWithout_199 : decode cL_isWithout 199 = .ok (.invokevirtual 18, 3) := by decide +kernel
theorem dL_isWithout_202 : decode cL_isWithout 202 = .ok (.isub, 1) := by decide +kernel
theorem dL_isWithout_203 : decode cL_isWithout 203 = .ok (.sipush 500, 3) := by decide +kernel
theorem dL_isWithout_206 : decode cL_isWithout 206 = .ok (.iadd, 1) := by decide +kernel
theorem dL_isWithout_207 : decode cL_isWithout 207 = .ok (.if_icmp .ne 7, 3) := by decide +kernel
theorem dL_isWithout_210 : decode cL_isWithout 210 = .ok (.iconst 1, 1) := by decide +kernel
theorem dL_isWithout_211 : decode cL_isWithout 211 = .ok (.goto 4, 3) := by decide +kernel
theorem dL_isWithout_214 : decode cL_isWithout 214 = .ok (.iconst 0, 1) := by decide +kernel
theorem dL_isWithout_215 : decode cL_isWithout 215 = .ok (.ireturn, 1) := by decide +kernel
set_option maxRecDepth 100000 in
theorem hgL_isWritten_X7_count_0 : ∀ w ∈ wsX7_count_r1, w ∈ wsL_isWritten := xw_in _ [6, 7, 8, 9, 10, 11, 12, 13, 14, 15, 16, 17, 18, 19, 20, 21, 22, 23, 24, 25, 26, 27, 4, 28] rfl
set_option maxRecDepth 100000 in
theorem hgL_isWritten_X7_count_1 : ∀ w ∈ wsX7_count_r2, w ∈ wsL_isWritten := xw_in _ [29, 30, 31, 32, 33, 34, 35, 36, 37, 38, 39, 40, 41, 42, 43, 44, 45, 46, 47, 48, 49, 50, 51, 52] rfl
set_option maxRecDepth 100000 in
theorem hgL_isWritten_X7_count_2 : ∀ w ∈ wsX7_count_r3, w ∈ wsL_isWritten := xw_in _ [53, 54, 55, 56, 57, 58, 59, 60, 61, 62, 63, 64, 65, 66, 67, 68, 69, 70, 71, 72, 73, 74, 75, 76] rfl
set_option maxRecDepth 100000 in
theorem hgL_isWritten_X7_count_3 : ∀ w ∈ wsX7_count_r4, w ∈ wsL_isWritten := xw_in _ [77, 78, 79, 80, 81, 82, 83, 84, 85, 86, 87, 88, 89, 90, 91, 92] rfl
set_option maxRecDepth 100000 in
theorem hgL_isWritten_X7_count_4 : ∀ w ∈ wsX70, w ∈ wsL_isWritten := xw_in _ [301, 302, 303, 304, 305, 306, 307, 308] rfl
set_option maxRecDepth 100000 in
theorem hgL_isWritten_X7_count_5 : ∀ w ∈ wsX60, w ∈ wsL_isWritten := xw_in _ [309, 310, 311, 312] rfl
set_option maxRecDepth 100000 in
theorem hgL_isWritten_X7_count_6 : ∀ w ∈ wsX50, w ∈ wsL_isWritten := xw_in _ [313, 314, 315, 316, 317, 318] rfl
set_option maxRecDepth 100000 in
theorem hgL_isWritten_X7_count_7 : ∀ w ∈ wsX20, w ∈ wsL_isWritten := xw_in _ [319, 320, 321, 322, 323] rfl
set_option maxRecDepth 100000 in
theorem hgL_isWritten_X7_count_8 : ∀ w ∈ wsX30, w ∈ wsL_isWritten := xw_in _ [324, 325, 326] rfl
set_option maxRecDepth 100000 in
theorem hgL_isWritten_X7_count_9 : ∀ w ∈ wsX10, w ∈ wsL_isWritten := xw_in _ [327, 328, 329] rfl
set_option maxRecDepth 100000 in
theorem hgL_isWritten_X7_count_10 : ∀ w ∈ wsX00, w ∈ wsL_isWritten := xw_in _ [330, 331, 332] rfl
set_option maxRecDepth 100000 in
theorem ggL_isWritten_X7_count : GoodIn wsL_isWritten wsX7_count := goodIn_sub (List.forall_mem_cons.mpr ⟨List.mem_of_getElem? (i := 5) rfl, List.forall_mem_append.mpr ⟨List.forall_mem_append.mpr ⟨List.forall_mem_append.mpr ⟨List.forall_mem_append.mpr ⟨List.forall_mem_append.mpr ⟨List.forall_mem_append.mpr ⟨List.forall_mem_append.mpr ⟨List.forall_mem_append.mpr ⟨hgL_isWritten_X7_count_0, List.forall_mem_append.mpr ⟨hgL_isWritten_X7_count_1, List.forall_mem_append.mpr ⟨hgL_isWritten_X7_count_2, hgL_isWritten_X7_count_3⟩⟩⟩, hgL_isWritten_X7_count_4⟩, hgL_isWritten_X7_count_5⟩, hgL_isWritten_X7_count_6⟩, hgL_isWritten_X7_count_7⟩, hgL_isWritten_X7_count_8⟩, hgL_isWritten_X7_count_9⟩, hgL_isWritten_X7_count_10⟩⟩) (by decide +kernel)
set_option maxRecDepth 20000 in
theorem gL_isWritten_X7_count : GoodIn wsL_isWritten (wsV RL 8 RX7 yX7_count wsX7_count) := goodIn_app (goodIn_of _ (by decide +kernel)) ggL_isWritten_X7_count
set_option maxRecDepth 100000 in
theorem hgL_isWritten_X7_of_0 : ∀ w ∈ wsX7_of_r1, w ∈ wsL_isWritten := xw_in _ [6, 7, 97, 98, 99, 100, 101, 102, 46, 47, 21, 48, 23, 49, 4, 50, 103, 104, 105, 106, 107, 108, 109, 110] rfl
set_option maxRecDepth 100000 in
theorem hgL_isWritten_X7_of_1 : ∀ w ∈ wsX7_of_r2, w ∈ wsL_isWritten := xw_in _ [111, 112, 113, 114, 115, 116, 117, 118, 119, 120, 121, 122, 123] rfl
set_option maxRecDepth 100000 in
theorem hgL_isWritten_X7_of_2 : ∀ w ∈ wsX70, w ∈ wsL_isWritten := xw_in _ [301, 302, 303, 304, 305, 306, 307, 308] rfl
set_option maxRecDepth 100000 in
theorem hgL_isWritten_X7_of_3 : ∀ w ∈ wsX60, w ∈ wsL_isWritten := xw_in _ [309, 310, 311, 312] rfl
set_option maxRecDepth 100000 in
theorem hgL_isWritten_X7_of_4 : ∀ w ∈ wsX50, w ∈ wsL_isWritten := xw_in _ [313, 314, 315, 316, 317, 318] rfl
set_option maxRecDepth 100000 in
theorem ggL_isWritten_X7_of : GoodIn wsL_isWritten wsX7_of := goodIn_sub (List.forall_mem_cons.mpr ⟨List.mem_of_getElem? (i := 96) rfl, List.forall_mem_append.mpr ⟨List.forall_mem_append.mpr ⟨List.forall_mem_append.mpr ⟨List.forall_mem_append.mpr ⟨hgL_isWritten_X7_of_0, hgL_isWritten_X7_of_1⟩, hgL_isWritten_X7_of_2⟩, hgL_isWritten_X7_of_3⟩, hgL_isWritten_X7_of_4⟩⟩) (by decide +kernel)
set_option maxRecDepth 20000 in
theorem gL_isWritten_X7_of : GoodIn wsL_isWritten (wsV RL 14 RX7 yX7_of wsX7_of) := goodIn_app (goodIn_of _ (by decide +kernel)) ggL_isWritten_X7_of
set_option maxRecDepth 100000 in
theorem hgL_isWritten_X7_write_0 : ∀ w ∈ wsX7_write_r1, w ∈ wsL_isWritten := xw_in _ [128, 6, 7, 129, 14, 15, 130, 131, 132, 133, 134, 135, 136, 137, 138, 4, 139, 8, 97, 102, 46, 47, 21, 48] rfl
set_option maxRecDepth 100000 in
theorem hgL_isWritten_X7_write_1 : ∀ w ∈ wsX7_write_r2, w ∈ wsL_isWritten := xw_in _ [23, 49, 50, 140, 141, 142, 98, 99, 100, 101, 143, 144, 145, 146, 147, 148, 149, 150, 151, 152, 153, 154, 155] rfl
set_option maxRecDepth 100000 in
theorem hgL_isWritten_X7_write_2 : ∀ w ∈ wsX70, w ∈ wsL_isWritten := xw_in _ [301, 302, 303, 304, 305, 306, 307, 308] rfl
set_option maxRecDepth 100000 in
theorem hgL_isWritten_X7_write_3 : ∀ w ∈ wsX60, w ∈ wsL_isWritten := xw_in _ [309, 310, 311, 312] rfl
set_option maxRecDepth 100000 in
theorem hgL_isWritten_X7_write_4 : ∀ w ∈ wsX30, w ∈ wsL_isWritten := xw_in _ [324, 325, 326] rfl
set_option maxRecDepth 100000 in
theorem hgL_isWritten_X7_write_5 : ∀ w ∈ wsX50, w ∈ wsL_isWritten := xw_in _ [313, 314, 315, 316, 317, 318] rfl
set_option maxRecDepth 100000 in
theorem ggL_isWritten_X7_write : GoodIn wsL_isWritten wsX7_write := goodIn_sub (List.forall_mem_cons.mpr ⟨List.mem_of_getElem? (i := 127) rfl, List.forall_mem_append.mpr ⟨List.forall_mem_append.mpr ⟨List.forall_mem_append.mpr ⟨List.forall_mem_append.mpr ⟨List.forall_mem_append.mpr ⟨hgL_isWritten_X7_write_0, hgL_isWritten_X7_write_1⟩, hgL_isWritten_X7_write_2⟩, hgL_isWritten_X7_write_3⟩, hgL_isWritten_X7_write_4⟩, hgL_isWritten_X7_write_5⟩⟩) (by decide +kernel)
set_option maxRecDepth 20000 in
theorem gL_isWritten_X7_write : GoodIn wsL_isWritten (wsV RL 46 RX7 yX7_write wsX7_write) := goodIn_app (goodIn_of _ (by decide +kernel)) ggL_isWritten_X7_write
set_option maxRecDepth 100000 in
theorem hgL_isWritten_X7_fault_0 : ∀ w ∈ wsX7_fault_r1, w ∈ wsL_isWritten := xw_in _ [160, 14, 161, 162, 163, 164, 165, 166, 167, 168, 169, 170, 171, 172, 173, 21, 174, 23, 175, 176, 177, 178, 179, 180] rfl
set_option maxRecDepth 100000 in
theorem hgL_isWritten_X7_fault_1 : ∀ w ∈ wsX7_fault_r2, w ∈ wsL_isWritten := xw_in _ [181, 182, 183, 184, 4, 185, 186, 187, 188, 189, 190, 104, 105, 106, 107, 112, 113, 114, 115, 116, 117, 118, 191, 192] rfl
set_option maxRecDepth 100000 in
theorem hgL_isWritten_X7_fault_2 : ∀ w ∈ wsX7_fault_r3, w ∈ wsL_isWritten := xw_in _ [193, 194, 195, 196, 197, 24, 198, 199, 200, 201, 202, 203, 204, 205, 206, 207, 208, 209, 210, 211, 212, 213, 214, 215] rfl
set_option maxRecDepth 100000 in
theorem hgL_isWritten_X7_fault_3 : ∀ w ∈ wsX7_fault_r4, w ∈ wsL_isWritten := xw_in _ [216, 217, 218, 219, 220, 221, 222, 223, 46, 47, 48, 49, 50, 224, 225, 226, 227, 228, 229, 230, 231, 232, 233, 234] rfl
set_option maxRecDepth 100000 in
theorem hgL_isWritten_X7_fault_4 : ∀ w ∈ wsX7_fault_r5, w ∈ wsL_isWritten := xw_in _ [235, 236, 237] rfl
set_option maxRecDepth 100000 in
theorem hgL_isWritten_X7_fault_5 : ∀ w ∈ wsX70, w ∈ wsL_isWritten := xw_in _ [301, 302, 303, 304, 305, 306, 307, 308] rfl
set_option maxRecDepth 100000 in
theorem hgL_isWritten_X7_fault_6 : ∀ w ∈ wsX40, w ∈ wsL_isWritten := xw_in _ [333, 334, 335] rfl
set_option maxRecDepth 100000 in
theorem hgL_isWritten_X7_fault_7 : ∀ w ∈ wsX30, w ∈ wsL_isWritten := xw_in _ [324, 325, 326] rfl
set_option maxRecDepth 100000 in
theorem hgL_isWritten_X7_fault_8 : ∀ w ∈ wsX50, w ∈ wsL_isWritten := xw_in _ [313, 314, 315, 316, 317, 318] rfl
set_option maxRecDepth 100000 in
theorem ggL_isWritten_X7_fault : GoodIn wsL_isWritten wsX7_fault := goodIn_sub (List.forall_mem_cons.mpr ⟨List.mem_of_getElem? (i := 159) rfl, List.forall_mem_append.mpr ⟨List.forall_mem_append.mpr ⟨List.forall_mem_append.mpr ⟨List.forall_mem_append.mpr ⟨List.forall_mem_append.mpr ⟨hgL_isWritten_X7_fault_0, List.forall_mem_append.mpr ⟨hgL_isWritten_X7_fault_1, List.forall_mem_append.mpr ⟨hgL_isWritten_X7_fault_2, List.forall_mem_append.mpr ⟨hgL_isWritten_X7_fault_3, hgL_isWritten_X7_fault_4⟩⟩⟩⟩, hgL_isWritten_X7_fault_5⟩, hgL_isWritten_X7_fault_6⟩, hgL_isWritten_X7_fault_7⟩, hgL_isWritten_X7_fault_8⟩⟩) (by decide +kernel)
set_option maxRecDepth 20000 in
theorem gL_isWritten_X7_fault : GoodIn wsL_isWritten (wsV RL 49 RX7 yX7_fault wsX7_fault) := goodIn_app (goodIn_of _ (by decide +kernel)) ggL_isWritten_X7_fault
set_option maxRecDepth 100000 in
theorem hgL_isWritten_X7_sign_0 : ∀ w ∈ ([.fieldLink RX7 41 "HatWinds" "pad" "LHatWinds$Pad;", .fieldLink RX7 162 "HatWinds$Pad" "length" "I", .fieldLink RX7 218 "HatWinds$Pad" "signs" "[C", .methodLink RX7 59 yX7_isIndexOf, .static yX7_isIndexOf, .initialized RX7, .code yX7_isIndexOf cX7_isIndexOf 2 (some .boolean)] : List Cond), w ∈ wsL_isWritten := xw_in _ [14, 15, 242, 243, 49, 4, 50] rfl
set_option maxRecDepth 100000 in
theorem hgL_isWritten_X7_sign_1 : ∀ w ∈ wsX70, w ∈ wsL_isWritten := xw_in _ [301, 302, 303, 304, 305, 306, 307, 308] rfl
set_option maxRecDepth 100000 in
theorem hgL_isWritten_X7_sign_2 : ∀ w ∈ wsX30, w ∈ wsL_isWritten := xw_in _ [324, 325, 326] rfl
set_option maxRecDepth 100000 in
theorem ggL_isWritten_X7_sign : GoodIn wsL_isWritten wsX7_sign := goodIn_sub (List.forall_mem_cons.mpr ⟨List.mem_of_getElem? (i := 241) rfl, List.forall_mem_append.mpr ⟨List.forall_mem_append.mpr ⟨hgL_isWritten_X7_sign_0, hgL_isWritten_X7_sign_1⟩, hgL_isWritten_X7_sign_2⟩⟩) (by decide +kernel)
set_option maxRecDepth 20000 in
theorem gL_isWritten_X7_sign : GoodIn wsL_isWritten (wsV RL 52 RX7 yX7_sign wsX7_sign) := goodIn_app (goodIn_of _ (by decide +kernel)) ggL_isWritten_X7_sign
set_option maxRecDepth 100000 in
theorem hgL_isWritten_X7_build_0 : ∀ w ∈ wsX7_build_r1, w ∈ wsL_isWritten := xw_in _ [160, 14, 16, 6, 7, 248, 8, 161, 162, 163, 164, 165, 166, 167, 168, 169, 170, 171, 172, 173, 21, 174, 23, 175] rfl
set_option maxRecDepth 100000 in
theorem hgL_isWritten_X7_build_1 : ∀ w ∈ wsX7_build_r2, w ∈ wsL_isWritten := xw_in _ [176, 177, 178, 179, 180, 181, 182, 183, 184, 4, 185, 186, 187, 188, 189, 190, 104, 105, 106, 107, 112, 113, 114, 115] rfl
set_option maxRecDepth 100000 in
theorem hgL_isWritten_X7_build_2 : ∀ w ∈ wsX7_build_r3, w ∈ wsL_isWritten := xw_in _ [116, 117, 118, 191, 192, 193, 194, 195, 196, 197, 24, 198, 199, 200, 201, 202, 203, 204, 205, 206, 207, 208, 209, 210] rfl
set_option maxRecDepth 100000 in
theorem hgL_isWritten_X7_build_3 : ∀ w ∈ wsX7_build_r4, w ∈ wsL_isWritten := xw_in _ [211, 212, 213, 214, 215, 216, 217, 218, 219, 220, 221, 222, 223, 46, 47, 48, 49, 50, 224, 225, 226, 227, 228, 229] rfl
set_option maxRecDepth 100000 in
theorem hgL_isWritten_X7_build_4 : ∀ w ∈ wsX7_build_r5, w ∈ wsL_isWritten := xw_in _ [230, 231, 232, 233, 234, 235, 236, 237, 249, 250, 251, 252, 253, 254, 255, 256, 257, 258, 259, 260, 261, 262, 263, 264] rfl
set_option maxRecDepth 100000 in
theorem hgL_isWritten_X7_build_5 : ∀ w ∈ wsX7_build_r6, w ∈ wsL_isWritten := xw_in _ [265, 266, 267, 268, 56, 57, 58, 269, 153, 154, 155, 270, 271, 272, 273, 274, 275, 276, 277, 278, 279, 280, 281, 282] rfl
set_option maxRecDepth 100000 in
theorem hgL_isWritten_X7_build_6 : ∀ w ∈ wsX7_build_r7, w ∈ wsL_isWritten := xw_in _ [283, 284, 130, 131, 132, 133, 134, 135, 136] rfl
set_option maxRecDepth 100000 in
theorem hgL_isWritten_X7_build_7 : ∀ w ∈ wsX70, w ∈ wsL_isWritten := xw_in _ [301, 302, 303, 304, 305, 306, 307, 308] rfl
set_option maxRecDepth 100000 in
theorem hgL_isWritten_X7_build_8 : ∀ w ∈ wsX60, w ∈ wsL_isWritten := xw_in _ [309, 310, 311, 312] rfl
set_option maxRecDepth 100000 in
theorem hgL_isWritten_X7_build_9 : ∀ w ∈ wsX40, w ∈ wsL_isWritten := xw_in _ [333, 334, 335] rfl
set_option maxRecDepth 100000 in
theorem hgL_isWritten_X7_build_10 : ∀ w ∈ wsX50, w ∈ wsL_isWritten := xw_in _ [313, 314, 315, 316, 317, 318] rfl
set_option maxRecDepth 100000 in
theorem hgL_isWritten_X7_build_11 : ∀ w ∈ wsX30, w ∈ wsL_isWritten := xw_in _ [324, 325, 326] rfl
set_option maxRecDepth 100000 in
theorem hgL_isWritten_X7_build_12 : ∀ w ∈ wsX10, w ∈ wsL_isWritten := xw_in _ [327, 328, 329] rfl
set_option maxRecDepth 100000 in
theorem hgL_isWritten_X7_build_13 : ∀ w ∈ wsX20, w ∈ wsL_isWritten := xw_in _ [319, 320, 321, 322, 323] rfl
set_option maxRecDepth 100000 in
theorem ggL_isWritten_X7_build : GoodIn wsL_isWritten wsX7_build := goodIn_sub (List.forall_mem_cons.mpr ⟨List.mem_of_getElem? (i := 247) rfl, List.forall_mem_append.mpr ⟨List.forall_mem_append.mpr ⟨List.forall_mem_append.mpr ⟨List.forall_mem_append.mpr ⟨List.forall_mem_append.mpr ⟨List.forall_mem_append.mpr ⟨List.forall_mem_append.mpr ⟨List.forall_mem_append.mpr ⟨hgL_isWritten_X7_build_0, List.forall_mem_append.mpr ⟨hgL_isWritten_X7_build_1, List.forall_mem_append.mpr ⟨hgL_isWritten_X7_build_2, List.forall_mem_append.mpr ⟨hgL_isWritten_X7_build_3, List.forall_mem_append.mpr ⟨hgL_isWritten_X7_build_4, List.forall_mem_append.mpr ⟨hgL_isWritten_X7_build_5, hgL_isWritten_X7_build_6⟩⟩⟩⟩⟩⟩, hgL_isWritten_X7_build_7⟩, hgL_isWritten_X7_build_8⟩, hgL_isWritten_X7_build_9⟩, hgL_isWritten_X7_build_10⟩, hgL_isWritten_X7_build_11⟩, hgL_isWritten_X7_build_12⟩, hgL_isWritten_X7_build_13⟩⟩) (by decide +kernel)
set_option maxRecDepth 20000 in
theorem gL_isWritten_X7_build : GoodIn wsL_isWritten (wsV RL 55 RX7 yX7_build wsX7_build) := goodIn_app (goodIn_of _ (by decide +kernel)) ggL_isWritten_X7_build
set_option maxRecDepth 100000 in
theorem ggL_isWritten_L_ones : GoodIn wsL_isWritten wsL_ones := goodIn_sub (List.forall_mem_cons.mpr ⟨List.mem_of_getElem? (i := 288) rfl, (fun _ h => absurd h List.not_mem_nil)⟩) (by decide +kernel)
set_option maxRecDepth 20000 in
theorem gL_isWritten_L_ones : GoodIn wsL_isWritten (va_wsS RL 58 yL_ones wsL_ones) := goodIn_app (goodIn_of _ (by decide +kernel)) ggL_isWritten_L_ones
set_option maxRecDepth 100000 in
theorem hgL_isWritten_X7_wipe_0 : ∀ w ∈ ([.fieldLink RX7 41 "HatWinds" "pad" "LHatWinds$Pad;", .fieldLink RX7 162 "HatWinds$Pad" "length" "I", .methodLink RX7 95 yX3_clear, .instanceMethod yX3_clear, .selects RX3 yX3_clear yX3_clear, .initialized RX3, .code yX3_clear cX3_clear 1 none, .fieldLink RX3 15 "HatWinds$Pad" "length" "I", .fieldLink RX3 19 "HatWinds$Pad" "overflowed" "Z"] : List Cond), w ∈ wsL_isWritten := xw_in _ [14, 15, 130, 131, 132, 133, 134, 135, 136] rfl
set_option maxRecDepth 100000 in
theorem hgL_isWritten_X7_wipe_1 : ∀ w ∈ wsX70, w ∈ wsL_isWritten := xw_in _ [301, 302, 303, 304, 305, 306, 307, 308] rfl
set_option maxRecDepth 100000 in
theorem hgL_isWritten_X7_wipe_2 : ∀ w ∈ wsX30, w ∈ wsL_isWritten := xw_in _ [324, 325, 326] rfl
set_option maxRecDepth 100000 in
theorem ggL_isWritten_X7_wipe : GoodIn wsL_isWritten wsX7_wipe := goodIn_sub (List.forall_mem_cons.mpr ⟨List.mem_of_getElem? (i := 292) rfl, List.forall_mem_append.mpr ⟨List.forall_mem_append.mpr ⟨hgL_isWritten_X7_wipe_0, hgL_isWritten_X7_wipe_1⟩, hgL_isWritten_X7_wipe_2⟩⟩) (by decide +kernel)
set_option maxRecDepth 20000 in
theorem gL_isWritten_X7_wipe : GoodIn wsL_isWritten (wsV RL 63 RX7 yX7_wipe wsX7_wipe) := goodIn_app (goodIn_of _ (by decide +kernel)) ggL_isWritten_X7_wipe
set_option maxRecDepth 100000 in
theorem hgL_isWritten_X7_undo_0 : ∀ w ∈ wsX7_undo_r1, w ∈ wsL_isWritten := xw_in _ [16, 17, 6, 297, 298, 299, 252, 300, 254, 256, 255, 257, 258, 259, 260, 261, 262, 263, 264, 265, 266, 4, 267, 268] rfl
set_option maxRecDepth 100000 in
theorem hgL_isWritten_X7_undo_1 : ∀ w ∈ wsX7_undo_r2, w ∈ wsL_isWritten := xw_in _ [56, 57, 58, 269, 153, 154, 155, 270, 271, 272, 21, 273, 107, 195, 196, 197, 24, 23, 274, 275, 276, 277, 278, 279] rfl
set_option maxRecDepth 100000 in
theorem hgL_isWritten_X7_undo_2 : ∀ w ∈ wsX7_undo_r3, w ∈ wsL_isWritten := xw_in _ [280, 281, 282, 283] rfl
set_option maxRecDepth 100000 in
theorem hgL_isWritten_X7_undo_3 : ∀ w ∈ wsX70, w ∈ wsL_isWritten := xw_in _ [301, 302, 303, 304, 305, 306, 307, 308] rfl
set_option maxRecDepth 100000 in
theorem hgL_isWritten_X7_undo_4 : ∀ w ∈ wsX10, w ∈ wsL_isWritten := xw_in _ [327, 328, 329] rfl
set_option maxRecDepth 100000 in
theorem hgL_isWritten_X7_undo_5 : ∀ w ∈ wsX60, w ∈ wsL_isWritten := xw_in _ [309, 310, 311, 312] rfl
set_option maxRecDepth 100000 in
theorem hgL_isWritten_X7_undo_6 : ∀ w ∈ wsX50, w ∈ wsL_isWritten := xw_in _ [313, 314, 315, 316, 317, 318] rfl
set_option maxRecDepth 100000 in
theorem hgL_isWritten_X7_undo_7 : ∀ w ∈ wsX20, w ∈ wsL_isWritten := xw_in _ [319, 320, 321, 322, 323] rfl
set_option maxRecDepth 100000 in
theorem ggL_isWritten_X7_undo : GoodIn wsL_isWritten wsX7_undo := goodIn_sub (List.forall_mem_cons.mpr ⟨List.mem_of_getElem? (i := 296) rfl, List.forall_mem_append.mpr ⟨List.forall_mem_append.mpr ⟨List.forall_mem_append.mpr ⟨List.forall_mem_append.mpr ⟨List.forall_mem_append.mpr ⟨List.forall_mem_append.mpr ⟨hgL_isWritten_X7_undo_0, List.forall_mem_append.mpr ⟨hgL_isWritten_X7_undo_1, hgL_isWritten_X7_undo_2⟩⟩, hgL_isWritten_X7_undo_3⟩, hgL_isWritten_X7_undo_4⟩, hgL_isWritten_X7_undo_5⟩, hgL_isWritten_X7_undo_6⟩, hgL_isWritten_X7_undo_7⟩⟩) (by decide +kernel)
set_option maxRecDepth 20000 in
theorem gL_isWritten_X7_undo : GoodIn wsL_isWritten (wsV RL 66 RX7 yX7_undo wsX7_undo) := goodIn_app (goodIn_of _ (by decide +kernel)) ggL_isWritten_X7_undo
theorem dL_isWritten_0 : decode cL_isWritten 0 = .ok (.aload_n 0, 1) := by decide +kernel
theorem dL_isWritten_1 : decode cL_isWritten 1 = .ok (.iconst 0, 1) := by decide +kernel
theorem dL_isWritten_2 : decode cL_isWritten 2 = .ok (.invokevirtual 8, 3) := by decide +kernel
theorem dL_isWritten_5 : decode cL_isWritten 5 = .ok (.istore_n 1, 1) := by decide +kernel
theorem dL_isWritten_6 : decode cL_isWritten 6 = .ok (.aload_n 0, 1) := by decide +kernel
theorem dL_isWritten_7 : decode cL_isWritten 7 = .ok (.iconst 5, 1) := by decide +kernel
theorem dL_isWritten_8 : decode cL_isWritten 8 = .ok (.invokevirtual 8, 3) := by decide +kernel
theorem dL_isWritten_11 : decode cL_isWritten 11 = .ok (.istore_n 2, 1) := by decide +kernel
theorem dL_isWritten_12 : decode cL_isWritten 12 = .ok (.aload_n 0, 1) := by decide +kernel
theorem dL_isWritten_13 : decode cL_isWritten 13 = .ok (.iconst 4, 1) := by decide +kernel
theorem dL_isWritten_14 : decode cL_isWritten 14 = .ok (.invokevirtual 8, 3) := by decide +kernel
theorem dL_isWritten_17 : decode cL_isWritten 17 = .ok (.istore_n 3, 1) := by decide +kernel
theorem dL_isWritten_18 : decode cL_isWritten 18 = .ok (.aload_n 0, 1) := by decide +kernel
theorem dL_isWritten_19 : decode cL_isWritten 19 = .ok (.iconst 0, 1) := by decide +kernel
theorem dL_isWritten_20 : decode cL_isWritten 20 = .ok (.iconst 1, 1) := by decide +kernel
theorem dL_isWritten_21 : decode cL_isWritten 21 = .ok (.invokevirtual 14, 3) := by decide +kernel
theorem dL_isWritten_24 : decode cL_isWritten 24 = .ok (.istore 4, 2) := by decide +kernel
theorem dL_isWritten_26 : decode cL_isWritten 26 = .ok (.aload_n 0, 1) := by decide +kernel
theorem dL_isWritten_27 : decode cL_isWritten 27 = .ok (.iconst 0, 1) := by decide +kernel
theorem dL_isWritten_28 : decode cL_isWritten 28 = .ok (.iconst 5, 1) := by decide +kernel
theorem dL_isWritten_29 : decode cL_isWritten 29 = .ok (.invokevirtual 14, 3) := by decide +kernel
theorem dL_isWritten_32 : decode cL_isWritten 32 = .ok (.istore 5, 2) := by decide +kernel
theorem dL_isWritten_34 : decode cL_isWritten 34 = .ok (.aload_n 0, 1) := by decide +kernel
theorem dL_isWritten_35 : decode cL_isWritten 35 = .ok (.invokevirtual 46, 3) := by decide +kernel
theorem dL_isWritten_38 : decode cL_isWritten 38 = .ok (.istore 6, 2) := by decide +kernel
theorem dL_isWritten_40 : decode cL_isWritten 40 = .ok (.iload 6, 2) := by decide +kernel
theorem dL_isWritten_42 : decode cL_isWritten 42 = .ok (.bipush (-4), 2) := by decide +kernel
theorem dL_isWritten_44 : decode cL_isWritten 44 = .ok (.if_icmp .ne 15, 3) := by decide +kernel
theorem dL_isWritten_47 : decode cL_isWritten 47 = .ok (.iload_n 1, 1) := by decide +kernel
theorem dL_isWritten_48 : decode cL_isWritten 48 = .ok (.bipush 10, 2) := by decide +kernel
theorem dL_isWritten_50 : decode cL_isWritten 50 = .ok (.if_icmp .le 7, 3) := by decide +kernel
theorem dL_isWritten_53 : decode cL_isWritten 53 = .ok (.iconst 1, 1) := by decide +kernel
theorem dL_isWritten_54 : decode cL_isWritten 54 = .ok (.goto 4, 3) := by decide +kernel
theorem dL_isWritten_57 : decode cL_isWritten 57 = .ok (.iconst 0, 1) := by decide +kernel
theorem dL_isWritten_58 : decode cL_isWritten 58 = .ok (.ireturn, 1) := by decide +kernel
theorem dL_isWritten_59 : decode cL_isWritten 59 = .ok (.aload_n 0, 1) := by decide +kernel
theorem dL_isWritten_60 : decode cL_isWritten 60 = .ok (.bipush 12, 2) := by decide +kernel
theorem dL_isWritten_62 : decode cL_isWritten 62 = .ok (.invokevirtual 8, 3) := by decide +kernel
theorem dL_isWritten_65 : decode cL_isWritten 65 = .ok (.iload 6, 2) := by decide +kernel
theorem dL_isWritten_67 : decode cL_isWritten 67 = .ok (.if_icmp .ne 56, 3) := by decide +kernel
theorem dL_isWritten_70 : decode cL_isWritten 70 = .ok (.aload_n 0, 1) := by decide +kernel
theorem dL_isWritten_71 : decode cL_isWritten 71 = .ok (.invokevirtual 49, 3) := by decide +kernel
theorem dL_isWritten_74 : decode cL_isWritten 74 = .ok (.bipush (-6), 2) := by decide +kernel
theorem dL_isWritten_76 : decode cL_isWritten 76 = .ok (.if_icmp .ne 47, 3) := by decide +kernel
theorem dL_isWritten_79 : decode cL_isWritten 79 = .ok (.aload_n 0, 1) := by decide +kernel
theorem dL_isWritten_80 : decode cL_isWritten 80 = .ok (.iconst 0, 1) := by decide +kernel
theorem dL_isWritten_81 : decode cL_isWritten 81 = .ok (.invokevirtual 52, 3) := by decide +kernel
theorem dL_isWritten_84 : decode cL_isWritten 84 = .ok (.bipush 48, 2) := by decide +kernel
theorem dL_isWritten_86 : decode cL_isWritten 86 = .ok (.iload 4, 2) := by decide +kernel
theorem dL_isWritten_88 : decode cL_isWritten 88 = .ok (.iadd, 1) := by decide +kernel
theorem dL_isWritten_89 : decode cL_isWritten 89 = .ok (.if_icmp .ne 34, 3) := by decide +kernel
theorem dL_isWritten_92 : decode cL_isWritten 92 = .ok (.aload_n 0, 1) := by decide +kernel
theorem dL_isWritten_93 : decode cL_isWritten 93 = .ok (.iload 6, 2) := by decide +kernel
theorem dL_isWritten_95 : decode cL_isWritten 95 = .ok (.invokevirtual 52, 3) := by decide +kernel
theorem dL_isWritten_98 : decode cL_isWritten 98 = .ok (.iconst (-1), 1) := by decide +kernel
theorem dL_isWritten_99 : decode cL_isWritten 99 = .ok (.if_icmp .ne 24, 3) := by decide +kernel
theorem dL_isWritten_102 : decode cL_isWritten 102 = .ok (.aload_n 0, 1) := by decide +kernel
theorem dL_isWritten_103 : decode cL_isWritten 103 = .ok (.invokevirtual 55, 3) := by decide +kernel
theorem dL_isWritten_106 : decode cL_isWritten 106 = .ok (.iload_n 1, 1) := by decide +kernel
theorem dL_isWritten_107 : decode cL_isWritten 107 = .ok (.if_icmp .ne 16, 3) := by decide +kernel
theorem dL_isWritten_110 : decode cL_isWritten 110 = .ok (.aload_n 0, 1) := by decide +kernel
theorem dL_isWritten_111 : decode cL_isWritten 111 = .ok (.bipush 12, 2) := by decide +kernel
theorem dL_isWritten_113 : decode cL_isWritten 113 = .ok (.invokevirtual 8, 3) := by decide +kernel
theorem dL_isWritten_116 : decode cL_isWritten 116 = .ok (.ifCond .ne 7, 3) := by decide +kernel
theorem dL_isWritten_119 : decode cL_isWritten 119 = .ok (.iconst 1, 1) := by decide +kernel
theorem dL_isWritten_120 : decode cL_isWritten 120 = .ok (.goto 4, 3) := by decide +kernel
theorem dL_isWritten_123 : decode cL_isWritten 123 = .ok (.iconst 0, 1) := by decide +kernel
theorem dL_isWritten_124 : decode cL_isWritten 124 = .ok (.istore 7, 2) := by decide +kernel
theorem dL_isWritten_126 : decode cL_isWritten 126 = .ok (.iload 7, 2) := by decide +kernel
theorem dL_isWritten_128 : decode cL_isWritten 128 = .ok (.ifCond .eq 53, 3) := by decide +kernel
theorem dL_isWritten_131 : decode cL_isWritten 131 = .ok (.aload_n 0, 1) := by decide +kernel
theorem dL_isWritten_132 : decode cL_isWritten 132 = .ok (.iconst 5, 1) := by decide +kernel
theorem dL_isWritten_133 : decode cL_isWritten 133 = .ok (.invokevirtual 8, 3) := by decide +kernel
theorem dL_isWritten_136 : decode cL_isWritten 136 = .ok (.iload_n 2, 1) := by decide +kernel
theorem dL_isWritten_137 : decode cL_isWritten 137 = .ok (.if_icmp .ne 44, 3) := by decide +kernel
theorem dL_isWritten_140 : decode cL_isWritten 140 = .ok (.aload_n 0, 1) := by decide +kernel
theorem dL_isWritten_141 : decode cL_isWritten 141 = .ok (.iconst 4, 1) := by decide +kernel
theorem dL_isWritten_142 : decode cL_isWritten 142 = .ok (.invokevirtual 8, 3) := by decide +kernel
theorem dL_isWritten_145 : decode cL_isWritten 145 = .ok (.iload_n 3, 1) := by decide +kernel
theorem dL_isWritten_146 : decode cL_isWritten 146 = .ok (.if_icmp .ne 35, 3) := by decide +kernel
theorem dL_isWritten_149 : decode cL_isWritten 149 = .ok (.aload_n 0, 1) := by decide +kernel
theorem dL_isWritten_150 : decode cL_isWritten 150 = .ok (.iconst 0, 1) := by decide +kernel
theorem dL_isWritten_151 : decode cL_isWritten 151 = .ok (.iconst 1, 1) := by decide +kernel
theorem dL_isWritten_152 : decode cL_isWritten 152 = .ok (.invokevirtual 14, 3) := by decide +kernel
theorem dL_isWritten_155 : decode cL_isWritten 155 = .ok (.iload 4, 2) := by decide +kernel
theorem dL_isWritten_157 : decode cL_isWritten 157 = .ok (.if_icmp .ne 24, 3) := by decide +kernel
theorem dL_isWritten_160 : decode cL_isWritten 160 = .ok (.aload_n 0, 1) := by decide +kernel
theorem dL_isWritten_161 : decode cL_isWritten 161 = .ok (.iconst 0, 1) := by decide +kernel
theorem dL_isWritten_162 : decode cL_isWritten 162 = .ok (.iconst 5, 1) := by decide +kernel
theorem dL_isWritten_163 : decode cL_isWritten 163 = .ok (.invokevirtual 14, 3) := by decide +kernel
theorem dL_isWritten_166 : decode cL_isWritten 166 = .ok (.invokestatic 58, 3) := by decide +kernel
theorem dL_isWritten_169 : decode cL_isWritten 169 = .ok (.iload 5, 2) := by decide +kernel
theorem dL_isWritten_171 : decode cL_isWritten 171 = .ok (.invokestatic 58, 3) := by decide +kernel
theorem dL_isWritten_174 : decode cL_isWritten 174 = .ok (.if_icmp .ne 7, 3) := by decide +kernel
theorem dL_isWritten_177 : decode cL_isWritten 177 = .ok (.iconst 1, 1) := by decide +kernel
theorem dL_isWritten_178 : decode cL_isWritten 178 = .ok (.goto 4, 3) := by decide +kernel
theorem dL_isWritten_181 : decode cL_isWritten 181 = .ok (.iconst 0, 1) := by decide +kernel
theorem dL_isWritten_182 : decode cL_isWritten 182 = .ok (.istore 7, 2) := by decide +kernel
theorem dL_isWritten_184 : decode cL_isWritten 184 = .ok (.aload_n 0, 1) := by decide +kernel
theorem dL_isWritten_185 : decode cL_isWritten 185 = .ok (.invokevirtual 46, 3) := by decide +kernel
theorem dL_isWritten_188 : decode cL_isWritten 188 = .ok (.istore 8, 2) := by decide +kernel
theorem dL_isWritten_190 : decode cL_isWritten 190 = .ok (.iload 7, 2) := by decide +kernel
theorem dL_isWritten_192 : decode cL_isWritten 192 = .ok (.ifCond .eq 50, 3) := by decide +kernel
theorem dL_isWritten_195 : decode cL_isWritten 195 = .ok (.iload 8, 2) := by decide +kernel
theorem dL_isWritten_197 : decode cL_isWritten 197 = .ok (.iload 6, 2) := by decide +kernel
theorem dL_isWritten_199 : decode cL_isWritten 199 = .ok (.if_icmp .ne 43, 3) := by decide +kernel
theorem dL_isWritten_202 : decode cL_isWritten 202 = .ok (.aload_n 0, 1) := by decide +kernel
theorem dL_isWritten_203 : decode cL_isWritten 203 = .ok (.invokevirtual 63, 3) := by decide +kernel
theorem dL_isWritten_206 : decode cL_isWritten 206 = .ok (.iload 6, 2) := by decide +kernel
theorem dL_isWritten_208 : decode cL_isWritten 208 = .ok (.if_icmp .ne 34, 3) := by decide +kernel
theorem dL_isWritten_211 : decode cL_isWritten 211 = .ok (.aload_n 0, 1) := by decide +kernel
theorem dL_isWritten_212 : decode cL_isWritten 212 = .ok (.invokevirtual 66, 3) := by decide +kernel
theorem dL_isWritten_215 : decode cL_isWritten 215 = .ok (.ifCond .lt 27, 3) := by decide +kernel
theorem dL_isWritten_218 : decode cL_isWritten 218 = .ok (.aload_n 0, 1) := by decide +kernel
theorem dL_isWritten_219 : decode cL_isWritten 219 = .ok (.iconst 0, 1) := by decide +kernel
theorem dL_isWritten_220 : decode cL_isWritten 220 = .ok (.iconst 5, 1) := by decide +kernel
theorem dL_isWritten_221 : decode cL_isWritten 221 = .ok (.invokevirtual 14, 3) := by decide +kernel
theorem dL_isWritten_224 : decode cL_isWritten 224 = .ok (.iload 5, 2) := by decide +kernel
theorem dL_isWritten_226 : decode cL_isWritten 226 = .ok (.if_icmp .ne 16, 3) := by decide +kernel
theorem dL_isWritten_229 : decode cL_isWritten 229 = .ok (.aload_n 0, 1) := by decide +kernel
theorem dL_isWritten_230 : decode cL_isWritten 230 = .ok (.iconst 0, 1) := by decide +kernel
theorem dL_isWritten_231 : decode cL_isWritten 231 = .ok (.invokevirtual 8, 3) := by decide +kernel
theorem dL_isWritten_234 : decode cL_isWritten 234 = .ok (.iload_n 1, 1) := by decide +kernel
theorem dL_isWritten_235 : decode cL_isWritten 235 = .ok (.if_icmp .ne 7, 3) := by decide +kernel
theorem dL_isWritten_238 : decode cL_isWritten 238 = .ok (.iconst 1, 1) := by decide +kernel
theorem dL_isWritten_239 : decode cL_isWritten 239 = .ok (.goto 4, 3) := by decide +kernel
theorem dL_isWritten_242 : decode cL_isWritten 242 = .ok (.iconst 0, 1) := by decide +kernel
theorem dL_isWritten_243 : decode cL_isWritten 243 = .ok (.ireturn, 1) := by decide +kernel
theorem dL_ones_0 : decode cL_ones 0 = .ok (.iconst 0, 1) := by decide +kernel
theorem dL_ones_1 : decode cL_ones 1 = .ok (.istore_n 1, 1) := by decide +kernel
theorem dL_ones_2 : decode cL_ones 2 = .ok (.iconst 0, 1) := by decide +kernel
theorem dL_ones_3 : decode cL_ones 3 = .ok (.istore_n 2, 1) := by decide +kernel
theorem dL_ones_4 : decode cL_ones 4 = .ok (.iload_n 2, 1) := by decide +kernel
theorem dL_ones_5 : decode cL_ones 5 = .ok (.bipush 20, 2) := by decide +kernel
theorem dL_ones_7 : decode cL_ones 7 = .ok (.if_icmp .ge 17, 3) := by decide +kernel
theorem dL_ones_10 : decode cL_ones 10 = .ok (.iload_n 1, 1) := by decide +kernel
theorem dL_ones_11 : decode cL_ones 11 = .ok (.iload_n 0, 1) := by decide +kernel
theorem dL_ones_12 : decode cL_ones 12 = .ok (.iload_n 2, 1) := by decide +kernel
theorem dL_ones_13 : decode cL_ones 13 = .ok (.ishr, 1) := by decide +kernel
theorem dL_ones_14 : decode cL_ones 14 = .ok (.iconst 1, 1) := by decide +kernel
theorem dL_ones_15 : decode cL_ones 15 = .ok (.iand, 1) := by decide +kernel
theorem dL_ones_16 : decode cL_ones 16 = .ok (.iadd, 1) := by decide +kernel
theorem dL_ones_17 : decode cL_ones 17 = .ok (.istore_n 1, 1) := by decide +kernel
theorem dL_ones_18 : decode cL_ones 18 = .ok (.iinc 2 1, 3) := by decide +kernel
theorem dL_ones_21 : decode cL_ones 21 = .ok (.goto (-17), 3) := by decide +kernel
theorem dL_ones_24 : decode cL_ones 24 = .ok (.iload_n 1, 1) := by decide +kernel
theorem dL_ones_25 : decode cL_ones 25 = .ok (.ireturn, 1) := by decide +kernel
