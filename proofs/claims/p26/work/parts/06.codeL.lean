theorem dJ6_bitCount_0f7a4_0 : decode cJ6_bitCount_0f7a4 0 = .ok (.iload_n 0, 1) := by decide +kernel
theorem dJ6_bitCount_0f7a4_1 : decode cJ6_bitCount_0f7a4 1 = .ok (.iload_n 0, 1) := by decide +kernel
theorem dJ6_bitCount_0f7a4_2 : decode cJ6_bitCount_0f7a4 2 = .ok (.iconst 1, 1) := by decide +kernel
theorem dJ6_bitCount_0f7a4_3 : decode cJ6_bitCount_0f7a4 3 = .ok (.iushr, 1) := by decide +kernel
theorem dJ6_bitCount_0f7a4_4 : decode cJ6_bitCount_0f7a4 4 = .ok (.ldc_w 265, 3) := by decide +kernel
theorem dJ6_bitCount_0f7a4_7 : decode cJ6_bitCount_0f7a4 7 = .ok (.iand, 1) := by decide +kernel
theorem dJ6_bitCount_0f7a4_8 : decode cJ6_bitCount_0f7a4 8 = .ok (.isub, 1) := by decide +kernel
theorem dJ6_bitCount_0f7a4_9 : decode cJ6_bitCount_0f7a4 9 = .ok (.istore_n 0, 1) := by decide +kernel
theorem dJ6_bitCount_0f7a4_10 : decode cJ6_bitCount_0f7a4 10 = .ok (.iload_n 0, 1) := by decide +kernel
theorem dJ6_bitCount_0f7a4_11 : decode cJ6_bitCount_0f7a4 11 = .ok (.ldc_w 266, 3) := by decide +kernel
theorem dJ6_bitCount_0f7a4_14 : decode cJ6_bitCount_0f7a4 14 = .ok (.iand, 1) := by decide +kernel
theorem dJ6_bitCount_0f7a4_15 : decode cJ6_bitCount_0f7a4 15 = .ok (.iload_n 0, 1) := by decide +kernel
theorem dJ6_bitCount_0f7a4_16 : decode cJ6_bitCount_0f7a4 16 = .ok (.iconst 2, 1) := by decide +kernel
theorem dJ6_bitCount_0f7a4_17 : decode cJ6_bitCount_0f7a4 17 = .ok (.iushr, 1) := by decide +kernel
theorem dJ6_bitCount_0f7a4_18 : decode cJ6_bitCount_0f7a4 18 = .ok (.ldc_w 266, 3) := by decide +kernel
theorem dJ6_bitCount_0f7a4_21 : decode cJ6_bitCount_0f7a4 21 = .ok (.iand, 1) := by decide +kernel
theorem dJ6_bitCount_0f7a4_22 : decode cJ6_bitCount_0f7a4 22 = .ok (.iadd, 1) := by decide +kernel
theorem dJ6_bitCount_0f7a4_23 : decode cJ6_bitCount_0f7a4 23 = .ok (.istore_n 0, 1) := by decide +kernel
theorem dJ6_bitCount_0f7a4_24 : decode cJ6_bitCount_0f7a4 24 = .ok (.iload_n 0, 1) := by decide +kernel
theorem dJ6_bitCount_0f7a4_25 : decode cJ6_bitCount_0f7a4 25 = .ok (.iload_n 0, 1) := by decide +kernel
theorem dJ6_bitCount_0f7a4_26 : decode cJ6_bitCount_0f7a4 26 = .ok (.iconst 4, 1) := by decide +kernel
theorem dJ6_bitCount_0f7a4_27 : decode cJ6_bitCount_0f7a4 27 = .ok (.iushr, 1) := by decide +kernel
theorem dJ6_bitCount_0f7a4_28 : decode cJ6_bitCount_0f7a4 28 = .ok (.iadd, 1) := by decide +kernel
theorem dJ6_bitCount_0f7a4_29 : decode cJ6_bitCount_0f7a4 29 = .ok (.ldc_w 267, 3) := by decide +kernel
theorem dJ6_bitCount_0f7a4_32 : decode cJ6_bitCount_0f7a4 32 = .ok (.iand, 1) := by decide +kernel
theorem dJ6_bitCount_0f7a4_33 : decode cJ6_bitCount_0f7a4 33 = .ok (.istore_n 0, 1) := by decide +kernel
theorem dJ6_bitCount_0f7a4_34 : decode cJ6_bitCount_0f7a4 34 = .ok (.iload_n 0, 1) := by decide +kernel
theorem dJ6_bitCount_0f7a4_35 : decode cJ6_bitCount_0f7a4 35 = .ok (.iload_n 0, 1) := by decide +kernel
theorem dJ6_bitCount_0f7a4_36 : decode cJ6_bitCount_0f7a4 36 = .ok (.bipush 8, 2) := by decide +kernel
theorem dJ6_bitCount_0f7a4_38 : decode cJ6_bitCount_0f7a4 38 = .ok (.iushr, 1) := by decide +kernel
theorem dJ6_bitCount_0f7a4_39 : decode cJ6_bitCount_0f7a4 39 = .ok (.iadd, 1) := by decide +kernel
theorem dJ6_bitCount_0f7a4_40 : decode cJ6_bitCount_0f7a4 40 = .ok (.istore_n 0, 1) := by decide +kernel
theorem dJ6_bitCount_0f7a4_41 : decode cJ6_bitCount_0f7a4 41 = .ok (.iload_n 0, 1) := by decide +kernel
theorem dJ6_bitCount_0f7a4_42 : decode cJ6_bitCount_0f7a4 42 = .ok (.iload_n 0, 1) := by decide +kernel
theorem dJ6_bitCount_0f7a4_43 : decode cJ6_bitCount_0f7a4 43 = .ok (.bipush 16, 2) := by decide +kernel
theorem dJ6_bitCount_0f7a4_45 : decode cJ6_bitCount_0f7a4 45 = .ok (.iushr, 1) := by decide +kernel
theorem dJ6_bitCount_0f7a4_46 : decode cJ6_bitCount_0f7a4 46 = .ok (.iadd, 1) := by decide +kernel
theorem dJ6_bitCount_0f7a4_47 : decode cJ6_bitCount_0f7a4 47 = .ok (.istore_n 0, 1) := by decide +kernel
theorem dJ6_bitCount_0f7a4_48 : decode cJ6_bitCount_0f7a4 48 = .ok (.iload_n 0, 1) := by decide +kernel
theorem dJ6_bitCount_0f7a4_49 : decode cJ6_bitCount_0f7a4 49 = .ok (.bipush 63, 2) := by decide +kernel
theorem dJ6_bitCount_0f7a4_51 : decode cJ6_bitCount_0f7a4 51 = .ok (.iand, 1) := by decide +kernel
theorem dJ6_bitCount_0f7a4_52 : decode cJ6_bitCount_0f7a4 52 = .ok (.ireturn, 1) := by decide +kernel
theorem dJ9_min_7cf53_0 : decode cJ9_min_7cf53 0 = .ok (.iload_n 0, 1) := by decide +kernel
theorem dJ9_min_7cf53_1 : decode cJ9_min_7cf53 1 = .ok (.iload_n 1, 1) := by decide +kernel
theorem dJ9_min_7cf53_2 : decode cJ9_min_7cf53 2 = .ok (.if_icmp .gt 7, 3) := by decide +kernel
theorem dJ9_min_7cf53_5 : decode cJ9_min_7cf53 5 = .ok (.iload_n 0, 1) := by decide +kernel
theorem dJ9_min_7cf53_6 : decode cJ9_min_7cf53 6 = .ok (.goto 4, 3) := by decide +kernel
theorem dJ9_min_7cf53_9 : decode cJ9_min_7cf53 9 = .ok (.iload_n 1, 1) := by decide +kernel
theorem dJ9_min_7cf53_10 : decode cJ9_min_7cf53 10 = .ok (.ireturn, 1) := by decide +kernel
theorem dL_cell_0 : decode cL_cell 0 = .ok (.iload_n 1, 1) := by decide +kernel
theorem dL_cell_1 : decode cL_cell 1 = .ok (.aload_n 0, 1) := by decide +kernel
theorem dL_cell_2 : decode cL_cell 2 = .ok (.arraylength, 1) := by decide +kernel
theorem dL_cell_3 : decode cL_cell 3 = .ok (.if_icmp .ge 9, 3) := by decide +kernel
theorem dL_cell_6 : decode cL_cell 6 = .ok (.aload_n 0, 1) := by decide +kernel
theorem dL_cell_7 : decode cL_cell 7 = .ok (.iload_n 1, 1) := by decide +kernel
theorem dL_cell_8 : decode cL_cell 8 = .ok (.iaload, 1) := by decide +kernel
theorem dL_cell_9 : decode cL_cell 9 = .ok (.goto 15, 3) := by decide +kernel
theorem dL_cell_12 : decode cL_cell 12 = .ok (.sipush 7919, 3) := by decide +kernel
theorem dL_cell_15 : decode cL_cell 15 = .ok (.iload_n 1, 1) := by decide +kernel
theorem dL_cell_16 : decode cL_cell 16 = .ok (.iconst 3, 1) := by decide +kernel
theorem dL_cell_17 : decode cL_cell 17 = .ok (.iadd, 1) := by decide +kernel
theorem dL_cell_18 : decode cL_cell 18 = .ok (.imul, 1) := by decide +kernel
theorem dL_cell_19 : decode cL_cell 19 = .ok (.iload_n 1, 1) := by decide +kernel
theorem dL_cell_20 : decode cL_cell 20 = .ok (.bipush 11, 2) := by decide +kernel
theorem dL_cell_22 : decode cL_cell 22 = .ok (.iadd, 1) := by decide +kernel
theorem dL_cell_23 : decode cL_cell 23 = .ok (.imul, 1) := by decide +kernel
theorem dL_cell_24 : decode cL_cell 24 = .ok (.ireturn, 1) := by decide +kernel
theorem dL_low_0 : decode cL_low 0 = .ok (.iload_n 0, 1) := by decide +kernel
theorem dL_low_1 : decode cL_low 1 = .ok (.ldc 7, 2) := by decide +kernel
theorem dL_low_3 : decode cL_low 3 = .ok (.iand, 1) := by decide +kernel
theorem dL_low_4 : decode cL_low 4 = .ok (.iload_n 1, 1) := by decide +kernel
theorem dL_low_5 : decode cL_low 5 = .ok (.irem, 1) := by decide +kernel
theorem dL_low_6 : decode cL_low 6 = .ok (.ireturn, 1) := by decide +kernel
set_option maxRecDepth 100000 in
theorem hgL_isStreet_X7_count_0 : ∀ w ∈ wsX7_count_r1, w ∈ wsL_isStreet := xw_in _ [6, 7, 8, 9, 10, 11, 12, 13, 14, 15, 16, 17, 18, 19, 20, 21, 22, 23, 24, 25, 26, 27, 4, 28] rfl
set_option maxRecDepth 100000 in
theorem hgL_isStreet_X7_count_1 : ∀ w ∈ wsX7_count_r2, w ∈ wsL_isStreet := xw_in _ [29, 30, 31, 32, 33, 34, 35, 36, 37, 38, 39, 40, 41, 42, 43, 44, 45, 46, 47, 48, 49, 50, 51, 52] rfl
set_option maxRecDepth 100000 in
theorem hgL_isStreet_X7_count_2 : ∀ w ∈ wsX7_count_r3, w ∈ wsL_isStreet := xw_in _ [53, 54, 55, 56, 57, 58, 59, 60, 61, 62, 63, 64, 65, 66, 67, 68, 69, 70, 71, 72, 73, 74, 75, 76] rfl
set_option maxRecDepth 100000 in
theorem hgL_isStreet_X7_count_3 : ∀ w ∈ wsX7_count_r4, w ∈ wsL_isStreet := xw_in _ [77, 78, 79, 80, 81, 82, 83, 84, 85, 86, 87, 88, 89, 90, 91, 92] rfl
set_option maxRecDepth 100000 in
theorem hgL_isStreet_X7_count_4 : ∀ w ∈ wsX70, w ∈ wsL_isStreet := xw_in _ [139, 140, 141, 142, 143, 144, 145, 146] rfl
set_option maxRecDepth 100000 in
theorem hgL_isStreet_X7_count_5 : ∀ w ∈ wsX60, w ∈ wsL_isStreet := xw_in _ [147, 148, 149, 150] rfl
set_option maxRecDepth 100000 in
theorem hgL_isStreet_X7_count_6 : ∀ w ∈ wsX50, w ∈ wsL_isStreet := xw_in _ [151, 152, 153, 154, 155, 156] rfl
set_option maxRecDepth 100000 in
theorem hgL_isStreet_X7_count_7 : ∀ w ∈ wsX20, w ∈ wsL_isStreet := xw_in _ [157, 158, 159, 160, 161] rfl
set_option maxRecDepth 100000 in
theorem hgL_isStreet_X7_count_8 : ∀ w ∈ wsX30, w ∈ wsL_isStreet := xw_in _ [162, 163, 164] rfl
set_option maxRecDepth 100000 in
theorem hgL_isStreet_X7_count_9 : ∀ w ∈ wsX10, w ∈ wsL_isStreet := xw_in _ [165, 166, 167] rfl
set_option maxRecDepth 100000 in
theorem hgL_isStreet_X7_count_10 : ∀ w ∈ wsX00, w ∈ wsL_isStreet := xw_in _ [168, 169, 170] rfl
set_option maxRecDepth 100000 in
theorem ggL_isStreet_X7_count : GoodIn wsL_isStreet wsX7_count := goodIn_sub (List.forall_mem_cons.mpr ⟨List.mem_of_getElem? (i := 5) rfl, List.forall_mem_append.mpr ⟨List.forall_mem_append.mpr ⟨List.forall_mem_append.mpr ⟨List.forall_mem_append.mpr ⟨List.forall_mem_append.mpr ⟨List.forall_mem_append.mpr ⟨List.forall_mem_append.mpr ⟨List.forall_mem_append.mpr ⟨hgL_isStreet_X7_count_0, List.forall_mem_append.mpr ⟨hgL_isStreet_X7_count_1, List.forall_mem_append.mpr ⟨hgL_isStreet_X7_count_2, hgL_isStreet_X7_count_3⟩⟩⟩, hgL_isStreet_X7_count_4⟩, hgL_isStreet_X7_count_5⟩, hgL_isStreet_X7_count_6⟩, hgL_isStreet_X7_count_7⟩, hgL_isStreet_X7_count_8⟩, hgL_isStreet_X7_count_9⟩, hgL_isStreet_X7_count_10⟩⟩) (by decide +kernel)
set_option maxRecDepth 20000 in
theorem gL_isStreet_X7_count : GoodIn wsL_isStreet (wsV RL 8 RX7 yX7_count wsX7_count) := goodIn_app (goodIn_of _ (by decide +kernel)) ggL_isStreet_X7_count
set_option maxRecDepth 100000 in
theorem hgL_isStreet_X7_of_0 : ∀ w ∈ wsX7_of_r1, w ∈ wsL_isStreet := xw_in _ [6, 7, 97, 98, 99, 100, 101, 102, 46, 47, 21, 48, 23, 49, 4, 50, 103, 104, 105, 106, 107, 108, 109, 110] rfl
set_option maxRecDepth 100000 in
theorem hgL_isStreet_X7_of_1 : ∀ w ∈ wsX7_of_r2, w ∈ wsL_isStreet := xw_in _ [111, 112, 113, 114, 115, 116, 117, 118, 119, 120, 121, 122, 123] rfl
set_option maxRecDepth 100000 in
theorem hgL_isStreet_X7_of_2 : ∀ w ∈ wsX70, w ∈ wsL_isStreet := xw_in _ [139, 140, 141, 142, 143, 144, 145, 146] rfl
set_option maxRecDepth 100000 in
theorem hgL_isStreet_X7_of_3 : ∀ w ∈ wsX60, w ∈ wsL_isStreet := xw_in _ [147, 148, 149, 150] rfl
set_option maxRecDepth 100000 in
theorem hgL_isStreet_X7_of_4 : ∀ w ∈ wsX50, w ∈ wsL_isStreet := xw_in _ [151, 152, 153, 154, 155, 156] rfl
set_option maxRecDepth 100000 in
theorem ggL_isStreet_X7_of : GoodIn wsL_isStreet wsX7_of := goodIn_sub (List.forall_mem_cons.mpr ⟨List.mem_of_getElem? (i := 96) rfl, List.forall_mem_append.mpr ⟨List.forall_mem_append.mpr ⟨List.forall_mem_append.mpr ⟨List.forall_mem_append.mpr ⟨hgL_isStreet_X7_of_0, hgL_isStreet_X7_of_1⟩, hgL_isStreet_X7_of_2⟩, hgL_isStreet_X7_of_3⟩, hgL_isStreet_X7_of_4⟩⟩) (by decide +kernel)
set_option maxRecDepth 20000 in
theorem gL_isStreet_X7_of : GoodIn wsL_isStreet (wsV RL 14 RX7 yX7_of wsX7_of) := goodIn_app (goodIn_of _ (by decide +kernel)) ggL_isStreet_X7_of
set_option maxRecDepth 100000 in
theorem hgL_isStreet_X7_now_0 : ∀ w ∈ wsX7_now_r1, w ∈ wsL_isStreet := xw_in _ [6, 7, 29, 92, 102, 46, 47, 21, 48, 23, 49, 4, 50, 80, 81, 82, 33, 83, 65, 84, 85, 31, 32, 34] rfl
set_option maxRecDepth 100000 in
theorem hgL_isStreet_X7_now_1 : ∀ w ∈ wsX7_now_r2, w ∈ wsL_isStreet := xw_in _ [35, 36, 37, 38, 39, 86, 41, 42, 43, 44, 45, 51, 52, 53, 54, 55, 56, 57, 58, 59, 60, 128, 73, 74] rfl
set_option maxRecDepth 100000 in
theorem hgL_isStreet_X7_now_2 : ∀ w ∈ wsX7_now_r3, w ∈ wsL_isStreet := xw_in _ [75, 70, 129, 130, 131, 132, 133, 134, 135, 136, 137, 138, 87, 67, 68, 69, 71, 72] rfl
set_option maxRecDepth 100000 in
theorem hgL_isStreet_X7_now_3 : ∀ w ∈ wsX70, w ∈ wsL_isStreet := xw_in _ [139, 140, 141, 142, 143, 144, 145, 146] rfl
set_option maxRecDepth 100000 in
theorem hgL_isStreet_X7_now_4 : ∀ w ∈ wsX60, w ∈ wsL_isStreet := xw_in _ [147, 148, 149, 150] rfl
set_option maxRecDepth 100000 in
theorem hgL_isStreet_X7_now_5 : ∀ w ∈ wsX00, w ∈ wsL_isStreet := xw_in _ [168, 169, 170] rfl
set_option maxRecDepth 100000 in
theorem hgL_isStreet_X7_now_6 : ∀ w ∈ wsX50, w ∈ wsL_isStreet := xw_in _ [151, 152, 153, 154, 155, 156] rfl
set_option maxRecDepth 100000 in
theorem ggL_isStreet_X7_now : GoodIn wsL_isStreet wsX7_now := goodIn_sub (List.forall_mem_cons.mpr ⟨List.mem_of_getElem? (i := 127) rfl, List.forall_mem_append.mpr ⟨List.forall_mem_append.mpr ⟨List.forall_mem_append.mpr ⟨List.forall_mem_append.mpr ⟨List.forall_mem_append.mpr ⟨hgL_isStreet_X7_now_0, List.forall_mem_append.mpr ⟨hgL_isStreet_X7_now_1, hgL_isStreet_X7_now_2⟩⟩, hgL_isStreet_X7_now_3⟩, hgL_isStreet_X7_now_4⟩, hgL_isStreet_X7_now_5⟩, hgL_isStreet_X7_now_6⟩⟩) (by decide +kernel)
set_option maxRecDepth 20000 in
theorem gL_isStreet_X7_now : GoodIn wsL_isStreet (wsV RL 18 RX7 yX7_now wsX7_now) := goodIn_app (goodIn_of _ (by decide +kernel)) ggL_isStreet_X7_now
theorem dL_isStreet_0 : decode cL_isStreet 0 = .ok (.aload_n 0, 1) := by decide +kernel
theorem dL_isStreet_1 : decode cL_isStreet 1 = .ok (.iconst 0, 1) := by decide +kernel
theorem dL_isStreet_2 : decode cL_isStreet 2 = .ok (.invokevirtual 8, 3) := by decide +kernel
theorem dL_isStreet_5 : decode cL_isStreet 5 = .ok (.istore_n 2, 1) := by decide +kernel
theorem dL_isStreet_6 : decode cL_isStreet 6 = .ok (.aload_n 0, 1) := by decide +kernel
theorem dL_isStreet_7 : decode cL_isStreet 7 = .ok (.iload_n 1, 1) := by decide +kernel
theorem dL_isStreet_8 : decode cL_isStreet 8 = .ok (.iconst 0, 1) := by decide +kernel
theorem dL_isStreet_9 : decode cL_isStreet 9 = .ok (.invokevirtual 14, 3) := by decide +kernel
theorem dL_isStreet_12 : decode cL_isStreet 12 = .ok (.istore_n 3, 1) := by decide +kernel
theorem dL_isStreet_13 : decode cL_isStreet 13 = .ok (.aload_n 0, 1) := by decide +kernel
theorem dL_isStreet_14 : decode cL_isStreet 14 = .ok (.iload_n 1, 1) := by decide +kernel
theorem dL_isStreet_15 : decode cL_isStreet 15 = .ok (.iconst 0, 1) := by decide +kernel
theorem dL_isStreet_16 : decode cL_isStreet 16 = .ok (.invokevirtual 18, 3) := by decide +kernel
theorem dL_isStreet_19 : decode cL_isStreet 19 = .ok (.istore 4, 2) := by decide +kernel
theorem dL_isStreet_21 : decode cL_isStreet 21 = .ok (.iload 4, 2) := by decide +kernel
theorem dL_isStreet_23 : decode cL_isStreet 23 = .ok (.iload 4, 2) := by decide +kernel
theorem dL_isStreet_25 : decode cL_isStreet 25 = .ok (.aload_n 0, 1) := by decide +kernel
theorem dL_isStreet_26 : decode cL_isStreet 26 = .ok (.bipush 10, 2) := by decide +kernel
theorem dL_isStreet_28 : decode cL_isStreet 28 = .ok (.invokevirtual 8, 3) := by decide +kernel
theorem dL_isStreet_31 : decode cL_isStreet 31 = .ok (.imul, 1) := by decide +kernel
theorem dL_isStreet_32 : decode cL_isStreet 32 = .ok (.bipush 100, 2) := by decide +kernel
theorem dL_isStreet_34 : decode cL_isStreet 34 = .ok (.idiv, 1) := by decide +kernel
theorem dL_isStreet_35 : decode cL_isStreet 35 = .ok (.iadd, 1) := by decide +kernel
theorem dL_isStreet_36 : decode cL_isStreet 36 = .ok (.istore 5, 2) := by decide +kernel
theorem dL_isStreet_38 : decode cL_isStreet 38 = .ok (.iload 5, 2) := by decide +kernel
theorem dL_isStreet_40 : decode cL_isStreet 40 = .ok (.aload_n 0, 1) := by decide +kernel
theorem dL_isStreet_41 : decode cL_isStreet 41 = .ok (.bipush 9, 2) := by decide +kernel
theorem dL_isStreet_43 : decode cL_isStreet 43 = .ok (.invokevirtual 8, 3) := by decide +kernel
theorem dL_isStreet_46 : decode cL_isStreet 46 = .ok (.isub, 1) := by decide +kernel
theorem dL_isStreet_47 : decode cL_isStreet 47 = .ok (.istore 6, 2) := by decide +kernel
theorem dL_isStreet_49 : decode cL_isStreet 49 = .ok (.iload 6, 2) := by decide +kernel
theorem dL_isStreet_51 : decode cL_isStreet 51 = .ok (.ifCond .gt 7, 3) := by decide +kernel
theorem dL_isStreet_54 : decode cL_isStreet 54 = .ok (.iconst 0, 1) := by decide +kernel
theorem dL_isStreet_55 : decode cL_isStreet 55 = .ok (.goto 33, 3) := by decide +kernel
theorem dL_isStreet_58 : decode cL_isStreet 58 = .ok (.iload 6, 2) := by decide +kernel
theorem dL_isStreet_60 : decode cL_isStreet 60 = .ok (.iconst 4, 1) := by decide +kernel
theorem dL_isStreet_61 : decode cL_isStreet 61 = .ok (.idiv, 1) := by decide +kernel
theorem dL_isStreet_62 : decode cL_isStreet 62 = .ok (.iconst 1, 1) := by decide +kernel
theorem dL_isStreet_63 : decode cL_isStreet 63 = .ok (.iadd, 1) := by decide +kernel
theorem dL_isStreet_64 : decode cL_isStreet 64 = .ok (.aload_n 0, 1) := by decide +kernel
theorem dL_isStreet_65 : decode cL_isStreet 65 = .ok (.iload_n 1, 1) := by decide +kernel
theorem dL_isStreet_66 : decode cL_isStreet 66 = .ok (.iconst 4, 1) := by decide +kernel
theorem dL_isStreet_67 : decode cL_isStreet 67 = .ok (.invokevirtual 14, 3) := by decide +kernel
theorem dL_isStreet_70 : decode cL_isStreet 70 = .ok (.if_icmp .ge 12, 3) := by decide +kernel
theorem dL_isStreet_73 : decode cL_isStreet 73 = .ok (.iload 6, 2) := by decide +kernel
theorem dL_isStreet_75 : decode cL_isStreet 75 = .ok (.iconst 4, 1) := by decide +kernel
theorem dL_isStreet_76 : decode cL_isStreet 76 = .ok (.idiv, 1) := by decide +kernel
theorem dL_isStreet_77 : decode cL_isStreet 77 = .ok (.iconst 1, 1) := by decide +kernel
theorem dL_isStreet_78 : decode cL_isStreet 78 = .ok (.iadd, 1) := by decide +kernel
theorem dL_isStreet_79 : decode cL_isStreet 79 = .ok (.goto 9, 3) := by decide +kernel
theorem dL_isStreet_82 : decode cL_isStreet 82 = .ok (.aload_n 0, 1) := by decide +kernel
theorem dL_isStreet_83 : decode cL_isStreet 83 = .ok (.iload_n 1, 1) := by decide +kernel
theorem dL_isStreet_84 : decode cL_isStreet 84 = .ok (.iconst 4, 1) := by decide +kernel
theorem dL_isStreet_85 : decode cL_isStreet 85 = .ok (.invokevirtual 14, 3) := by decide +kernel
theorem dL_isStreet_88 : decode cL_isStreet 88 = .ok (.istore 7, 2) := by decide +kernel
theorem dL_isStreet_90 : decode cL_isStreet 90 = .ok (.aload_n 0, 1) := by decide +kernel
theorem dL_isStreet_91 : decode cL_isStreet 91 = .ok (.iload_n 1, 1) := by decide +kernel
theorem dL_isStreet_92 : decode cL_isStreet 92 = .ok (.iconst 2, 1) := by decide +kernel
theorem dL_isStreet_93 : decode cL_isStreet 93 = .ok (.invokevirtual 14, 3) := by decide +kernel
theorem dL_isStreet_96 : decode cL_isStreet 96 = .ok (.istore 8, 2) := by decide +kernel
theorem dL_isStreet_98 : decode cL_isStreet 98 = .ok (.iload 8, 2) := by decide +kernel
theorem dL_isStreet_100 : decode cL_isStreet 100 = .ok (.ifCond .ne 7, 3) := by decide +kernel
theorem dL_isStreet_103 : decode cL_isStreet 103 = .ok (.iconst 0, 1) := by decide +kernel
theorem dL_isStreet_104 : decode cL_isStreet 104 = .ok (.goto 15, 3) := by decide +kernel
theorem dL_isStreet_107 : decode cL_isStreet 107 = .ok (.iload 4, 2) := by decide +kernel
theorem dL_isStreet_109 : decode cL_isStreet 109 = .ok (.aload_n 0, 1) := by decide +kernel
theorem dL_isStreet_110 : decode cL_isStreet 110 = .ok (.bipush 8, 2) := by decide +kernel
theorem dL_isStreet_112 : decode cL_isStreet 112 = .ok (.invokevirtual 8, 3) := by decide +kernel
theorem dL_isStreet_115 : decode cL_isStreet 115 = .ok (.iload 8, 2) := by decide +kernel
theorem dL_isStreet_117 : decode cL_isStreet 117 = .ok (.imul, 1) := by decide +kernel
theorem dL_isStreet_118 : decode cL_isStreet 118 = .ok (.idiv, 1) := by decide +kernel
theorem dL_isStreet_119 : decode cL_isStreet 119 = .ok (.istore 9, 2) := by decide +kernel
theorem dL_isStreet_121 : decode cL_isStreet 121 = .ok (.iload 4, 2) := by decide +kernel
theorem dL_isStreet_123 : decode cL_isStreet 123 = .ok (.aload_n 0, 1) := by decide +kernel
theorem dL_isStreet_124 : decode cL_isStreet 124 = .ok (.bipush 11, 2) := by decide +kernel
theorem dL_isStreet_126 : decode cL_isStreet 126 = .ok (.invokevirtual 8, 3) := by decide +kernel
theorem dL_isStreet_129 : decode cL_isStreet 129 = .ok (.idiv, 1) := by decide +kernel
theorem dL_isStreet_130 : decode cL_isStreet 130 = .ok (.istore 10, 2) := by decide +kernel
theorem dL_isStreet_132 : decode cL_isStreet 132 = .ok (.iconst 0, 1) := by decide +kernel
theorem dL_isStreet_133 : decode cL_isStreet 133 = .ok (.istore 11, 2) := by decide +kernel
theorem dL_isStreet_135 : decode cL_isStreet 135 = .ok (.iconst 0, 1) := by decide +kernel
theorem dL_isStreet_136 : decode cL_isStreet 136 = .ok (.istore 12, 2) := by decide +kernel
theorem dL_isStreet_138 : decode cL_isStreet 138 = .ok (.iconst 0, 1) := by decide +kernel
theorem dL_isStreet_139 : decode cL_isStreet 139 = .ok (.istore 13, 2) := by decide +kernel
theorem dL_isStreet_141 : decode cL_isStreet 141 = .ok (.iconst 0, 1) := by decide +kernel
theorem dL_isStreet_142 : decode cL_isStreet 142 = .ok (.istore 14, 2) := by decide +kernel
theorem dL_isStreet_144 : decode cL_isStreet 144 = .ok (.iconst 0, 1) := by decide +kernel
theorem dL_isStreet_145 : decode cL_isStreet 145 = .ok (.istore 15, 2) := by decide +kernel
theorem dL_isStreet_147 : decode cL_isStreet 147 = .ok (.iload 15, 2) := by decide +kernel
theorem dL_isStreet_149 : decode cL_isStreet 149 = .ok (.iload_n 2, 1) := by decide +kernel
theorem dL_isStreet_150 : decode cL_isStreet 150 = .ok (.if_icmp .ge 148, 3) := by decide +kernel
theorem dL_isStreet_153 : decode cL_isStreet 153 = .ok (.aload_n 0, 1) := by decide +kernel
theorem dL_isStreet_154 : decode cL_isStreet 154 = .ok (.iload 15, 2) := by decide +kernel
theorem dL_isStreet_156 : decode cL_isStreet 156 = .ok (.iconst 0, 1) := by decide +kernel
theorem dL_isStreet_157 : decode cL_isStreet 157 = .ok (.invokevirtual 14, 3) := by decide +kernel
theorem dL_isStreet_160 : decode cL_isStreet 160 = .ok (.iload_n 1, 1) := by decide +kernel
theorem dL_isStreet_161 : decode cL_isStreet 161 = .ok (.if_icmp .ne 7, 3) := by decide +kernel
theorem dL_isStreet_164 : decode cL_isStreet 164 = .ok (.iconst 1, 1) := by decide +kernel
theorem dL_isStreet_165 : decode cL_isStreet 165 = .ok (.goto 4, 3) := by decide +kernel
theorem dL_isStreet_168 : decode cL_isStreet 168 = .ok (.iconst 0, 1) := by decide +kernel
theorem dL_isStreet_169 : decode cL_isStreet 169 = .ok (.istore 16, 2) := by decide +kernel
theorem dL_isStreet_171 : decode cL_isStreet 171 = .ok (.iload 11, 2) := by decide +kernel
theorem dL_isStreet_173 : decode cL_isStreet 173 = .ok (.iload 16, 2) := by decide +kernel
theorem dL_isStreet_175 : decode cL_isStreet 175 = .ok (.ifCond .eq 10, 3) := by decide +kernel
theorem dL_isStreet_178 : decode cL_isStreet 178 = .ok (.iconst 1, 1) := by decide +kernel
theorem dL_isStreet_179 : decode cL_isStreet 179 = .ok (.iload 15, 2) := by decide +kernel
theorem dL_isStreet_181 : decode cL_isStreet 181 = .ok (.ishl, 1) := by decide +kernel
theorem dL_isStreet_182 : decode cL_isStreet 182 = .ok (.goto 4, 3) := by decide +kernel
theorem dL_isStreet_185 : decode cL_isStreet 185 = .ok (.iconst 0, 1) := by decide +kernel
theorem dL_isStreet_186 : decode cL_isStreet 186 = .ok (.ior, 1) := by decide +kernel
theorem dL_isStreet_187 : decode cL_isStreet 187 = .ok (.istore 11, 2) := by decide +kernel
theorem dL_isStreet_189 : decode cL_isStreet 189 = .ok (.iload 12, 2) := by decide +kernel
theorem dL_isStreet_191 : decode cL_isStreet 191 = .ok (.iload 16, 2) := by decide +kernel
theorem dL_isStreet_193 : decode cL_isStreet 193 = .ok (.ifCond .eq 16, 3) := by decide +kernel
theorem dL_isStreet_196 : decode cL_isStreet 196 = .ok (.iconst 1, 1) := by decide +kernel
theorem dL_isStreet_197 : decode cL_isStreet 197 = .ok (.aload_n 0, 1) := by decide +kernel
theorem dL_isStreet_198 : decode cL_isStreet 198 = .ok (.iload 15, 2) := by decide +kernel
theorem dL_isStreet_200 : decode cL_isStreet 200 = .ok (.bipush 6, 2) := by decide +kernel
theorem dL_isStreet_202 : decode cL_isStreet 202 = .ok (.invokevirtual 14, 3) := by decide +kernel
theorem dL_isStreet_205 : decode cL_isStreet 205 = .ok (.iadd, 1) := by decide +kernel
theorem dL_isStreet_206 : decode cL_isStreet 206 = .ok (.goto 4, 3) := by decide +kernel
theorem dL_isStreet_209 : decode cL_isStreet 209 = .ok (.iconst 0, 1) := by decide +kernel
theorem dL_isStreet_210 : decode cL_isStreet 210 = .ok (.iadd, 1) := by decide +kernel
theorem dL_isStreet_211 : decode cL_isStreet 211 = .ok (.istore 12, 2) := by decide +kernel
theorem dL_isStreet_213 : decode cL_isStreet 213 = .ok (.iload_n 1, 1) := by decide +kernel
theorem dL_isStreet_214 : decode cL_isStreet 214 = .ok (.ifCond .le 23, 3) := by decide +kernel
theorem dL_isStreet_217 : decode cL_isStreet 217 = .ok (.iload 15, 2) := by decide +kernel
theorem dL_isStreet_219 : decode cL_isStreet 219 = .ok (.ifCond .le 18, 3) := by decide +kernel
theorem dL_isStreet_222 : decode cL_isStreet 222 = .ok (.aload_n 0, 1) := by decide +kernel
theorem dL_isStreet_223 : decode cL_isStreet 223 = .ok (.iload 15, 2) := by decide +kernel
theorem dL_isStreet_225 : decode cL_isStreet 225 = .ok (.iconst 0, 1) := by decide +kernel
theorem dL_isStreet_226 : decode cL_isStreet 226 = .ok (.invokevirtual 14, 3) := by decide +kernel
theorem dL_isStreet_229 : decode cL_isStreet 229 = .ok (.iload_n 3, 1) := by decide +kernel
theorem dL_isStreet_230 : decode cL_isStreet 230 = .ok (.if_icmp .ne 7, 3) := by decide +kernel
theorem dL_isStreet_233 : decode cL_isStreet 233 = .ok (.iconst 1, 1) := by decide +kernel
theorem dL_isStreet_234 : decode cL_isStreet 234 = .ok (.goto 4, 3) := by decide +kernel
theorem dL_isStreet_237 : decode cL_isStreet 237 = .ok (.iconst 0, 1) := by decide +kernel
theorem dL_isStreet_238 : decode cL_isStreet 238 = .ok (.istore 17, 2) := by decide +kernel
theorem dL_isStreet_240 : decode cL_isStreet 240 = .ok (.iload 13, 2) := by decide +kernel
theorem dL_isStreet_242 : decode cL_isStreet 242 = .ok (.iload 17, 2) := by decide +kernel
theorem dL_isStreet_244 : decode cL_isStreet 244 = .ok (.ifCond .eq 13, 3) := by decide +kernel
theorem dL_isStreet_247 : decode cL_isStreet 247 = .ok (.aload_n 0, 1) := by decide +kernel
theorem dL_isStreet_248 : decode cL_isStreet 248 = .ok (.iload 15, 2) := by decide +kernel
theorem dL_isStreet_250 : decode cL_isStreet 250 = .ok (.iconst 1, 1) := by decide +kernel
theorem dL_isStreet_251 : decode cL_isStreet 251 = .ok (.invokevirtual 14, 3) := by decide +kernel
theorem dL_isStreet_254 : decode cL_isStreet 254 = .ok (.goto 4, 3) := by decide +kernel
theorem dL_isStreet_257 : decode cL_isStreet 257 = .ok (.iconst 0, 1) := by decide +kernel
theorem dL_isStreet_258 : decode cL_isStreet 258 = .ok (.iadd, 1) := by decide +kernel
theorem dL_isStreet_259 : decode cL_isStreet 259 = .ok (.istore 13, 2) := by decide +kernel
theorem dL_isStreet_261 : decode cL_isStreet 261 = .ok (.iload 14, 2) := by decide +kernel
theorem dL_isStreet_263 : decode cL_isStreet 263 = .ok (.iload 17, 2) := by decide +kernel
theorem dL_isStreet_265 : decode cL_isStreet 265 = .ok (.ifCond .eq 23, 3) := by decide +kernel
theorem dL_isStreet_268 : decode cL_isStreet 268 = .ok (.aload_n 0, 1) := by decide +kernel
theorem dL_isStreet_269 : decode cL_isStreet 269 = .ok (.iload 15, 2) := by decide +kernel
theorem dL_isStreet_271 : decode cL_isStreet 271 = .ok (.iconst 1, 1) := by decide +kernel
theorem dL_isStreet_272 : decode cL_isStreet 272 = .ok (.invokevirtual 14, 3) := by decide +kernel
theorem dL_isStreet_275 : decode cL_isStreet 275 = .ok (.aload_n 0, 1) := by decide +kernel
theorem dL_isStreet_276 : decode cL_isStreet 276 = .ok (.iload_n 1, 1) := by decide +kernel
theorem dL_isStreet_277 : decode cL_isStreet 277 = .ok (.iconst 1, 1) := by decide +kernel
theorem dL_isStreet_278 : decode cL_isStreet 278 = .ok (.invokevirtual 14, 3) := by decide +kernel
theorem dL_isStreet_281 : decode cL_isStreet 281 = .ok (.if_icmp .ge 7, 3) := by decide +kernel
theorem dL_isStreet_284 : decode cL_isStreet 284 = .ok (.iconst 1, 1) := by decide +kernel
theorem dL_isStreet_285 : decode cL_isStreet 285 = .ok (.goto 4, 3) := by decide +kernel
theorem dL_isStreet_288 : decode cL_isStreet 288 = .ok (.iconst 0, 1) := by decide +kernel
theorem dL_isStreet_289 : decode cL_isStreet 289 = .ok (.iadd, 1) := by decide +kernel
theorem dL_isStreet_290 : decode cL_isStreet 290 = .ok (.istore 14, 2) := by decide +kernel
theorem dL_isStreet_292 : decode cL_isStreet 292 = .ok (.iinc 15 1, 3) := by decide +kernel
theorem dL_isStreet_295 : decode cL_isStreet 295 = .ok (.goto (-148), 3) := by decide +kernel
theorem dL_isStreet_298 : decode cL_isStreet 298 = .ok (.iload_n 1, 1) := by decide +kernel
theorem dL_isStreet_299 : decode cL_isStreet 299 = .ok (.ifCond .ne 39, 3) := by decide +kernel
theorem dL_isStreet_302 : decode cL_isStreet 302 = .ok (.iload_n 3, 1) := by decide +kernel
theorem dL_isStreet_303 : decode cL_isStreet 303 = .ok (.bipush (-6), 2) := by decide +kernel
theorem dL_isStreet_305 : decode cL_isStreet 305 = .ok (.if_icmp .ne 31, 3) := by decide +kernel
theorem dL_isStreet_308 : decode cL_isStreet 308 = .ok (.iload 4, 2) := by decide +kernel
theorem dL_isStreet_310 : decode cL_isStreet 310 = .ok (.aload_n 0, 1) := by decide +kernel
theorem dL_isStreet_311 : decode cL_isStreet 311 = .ok (.iconst 1, 1) := by decide +kernel
theorem dL_isStreet_312 : decode cL_isStreet 312 = .ok (.invokevirtual 8, 3) := by decide +kernel
theorem dL_isStreet_315 : decode cL_isStreet 315 = .ok (.if_icmp .ne 21, 3) := by decide +kernel
theorem dL_isStreet_318 : decode cL_isStreet 318 = .ok (.aload_n 0, 1) := by decide +kernel
theorem dL_isStreet_319 : decode cL_isStreet 319 = .ok (.iconst 0, 1) := by decide +kernel
theorem dL_isStreet_320 : decode cL_isStreet 320 = .ok (.bipush 7, 2) := by decide +kernel
theorem dL_isStreet_322 : decode cL_isStreet 322 = .ok (.invokevirtual 14, 3) := by decide +kernel
theorem dL_isStreet_325 : decode cL_isStreet 325 = .ok (.ifCond .ne 11, 3) := by decide +kernel
theorem dL_isStreet_328 : decode cL_isStreet 328 = .ok (.iload 12, 2) := by decide +kernel
theorem dL_isStreet_330 : decode cL_isStreet 330 = .ok (.iload_n 2, 1) := by decide +kernel
theorem dL_isStreet_331 : decode cL_isStreet 331 = .ok (.iconst 1, 1) := by decide +kernel
theorem dL_isStreet_332 : decode cL_isStreet 332 = .ok (.isub, 1) := by decide +kernel
theorem dL_isStreet_333 : decode cL_isStreet 333 = .ok (.if_icmp .eq 81, 3) := by decide +kernel
theorem dL_isStreet_336 : decode cL_isStreet 336 = .ok (.iconst 0, 1) := by decide +kernel
theorem dL_isStreet_337 : decode cL_isStreet 337 = .ok (.ireturn, 1) := by decide +kernel
theorem dL_isStreet_338 : decode cL_isStreet 338 = .ok (.aload_n 0, 1) := by decide +kernel
theorem dL_isStreet_339 : decode cL_isStreet 339 = .ok (.iload_n 3, 1) := by decide +kernel
theorem dL_isStreet_340 : decode cL_isStreet 340 = .ok (.iconst 0, 1) := by decide +kernel
theorem dL_isStreet_341 : decode cL_isStreet 341 = .ok (.invokevirtual 18, 3) := by decide +kernel
theorem dL_isStreet_344 : decode cL_isStreet 344 = .ok (.istore 15, 2) := by decide +kernel
theorem dL_isStreet_346 : decode cL_isStreet 346 = .ok (.iload 15, 2) := by decide +kernel
theorem dL_isStreet_348 : decode cL_isStreet 348 = .ok (.aload_n 0, 1) := by decide +kernel
theorem dL_isStreet_349 : decode cL_isStreet 349 = .ok (.iload_n 1, 1) := by decide +kernel
theorem dL_isStreet_350 : decode cL_isStreet 350 = .ok (.iconst 1, 1) := by decide +kernel
theorem dL_isStreet_351 : decode cL_isStreet 351 = .ok (.invokevirtual 14, 3) := by decide +kernel
theorem dL_isStreet_354 : decode cL_isStreet 354 = .ok (.imul, 1) := by decide +kernel
theorem dL_isStreet_355 : decode cL_isStreet 355 = .ok (.iload 13, 2) := by decide +kernel
theorem dL_isStreet_357 : decode cL_isStreet 357 = .ok (.idiv, 1) := by decide +kernel
theorem dL_isStreet_358 : decode cL_isStreet 358 = .ok (.iconst 5, 1) := by decide +kernel
theorem dL_isStreet_359 : decode cL_isStreet 359 = .ok (.iload 14, 2) := by decide +kernel
theorem dL_isStreet_361 : decode cL_isStreet 361 = .ok (.imul, 1) := by decide +kernel
theorem dL_isStreet_362 : decode cL_isStreet 362 = .ok (.iadd, 1) := by decide +kernel
theorem dL_isStreet_363 : decode cL_isStreet 363 = .ok (.istore 16, 2) := by decide +kernel
theorem dL_isStreet_365 : decode cL_isStreet 365 = .ok (.iload_n 3, 1) := by decide +kernel
theorem dL_isStreet_366 : decode cL_isStreet 366 = .ok (.ifCond .lt 46, 3) := by decide +kernel
theorem dL_isStreet_369 : decode cL_isStreet 369 = .ok (.iload_n 3, 1) := by decide +kernel
theorem dL_isStreet_370 : decode cL_isStreet 370 = .ok (.iload_n 1, 1) := by decide +kernel
theorem dL_isStreet_371 : decode cL_isStreet 371 = .ok (.if_icmp .ge 41, 3) := by decide +kernel
theorem dL_isStreet_374 : decode cL_isStreet 374 = .ok (.iload 4, 2) := by decide +kernel
theorem dL_isStreet_376 : decode cL_isStreet 376 = .ok (.iload 16, 2) := by decide +kernel
theorem dL_isStreet_378 : decode cL_isStreet 378 = .ok (.iload 15, 2) := by decide +kernel
theorem dL_isStreet_380 : decode cL_isStreet 380 = .ok (.if_icmp .le 8, 3) := by decide +kernel
theorem dL_isStreet_383 : decode cL_isStreet 383 = .ok (.iload 15, 2) := by decide +kernel
theorem dL_isStreet_385 : decode cL_isStreet 385 = .ok (.goto 5, 3) := by decide +kernel
theorem dL_isStreet_388 : decode cL_isStreet 388 = .ok (.iload 16, 2) := by decide +kernel
theorem dL_isStreet_390 : decode cL_isStreet 390 = .ok (.if_icmp .ne 22, 3) := by decide +kernel
theorem dL_isStreet_393 : decode cL_isStreet 393 = .ok (.aload_n 0, 1) := by decide +kernel
theorem dL_isStreet_394 : decode cL_isStreet 394 = .ok (.iload_n 1, 1) := by decide +kernel
theorem dL_isStreet_395 : decode cL_isStreet 395 = .ok (.bipush 7, 2) := by decide +kernel
theorem dL_isStreet_397 : decode cL_isStreet 397 = .ok (.invokevirtual 14, 3) := by decide +kernel
theorem dL_isStreet_400 : decode cL_isStreet 400 = .ok (.aload_n 0, 1) := by decide +kernel
theorem dL_isStreet_401 : decode cL_isStreet 401 = .ok (.iload_n 3, 1) := by decide +kernel
theorem dL_isStreet_402 : decode cL_isStreet 402 = .ok (.bipush 7, 2) := by decide +kernel
theorem dL_isStreet_404 : decode cL_isStreet 404 = .ok (.invokevirtual 14, 3) := by decide +kernel
theorem dL_isStreet_407 : decode cL_isStreet 407 = .ok (.iconst 1, 1) := by decide +kernel
theorem dL_isStreet_408 : decode cL_isStreet 408 = .ok (.iadd, 1) := by decide +kernel
theorem dL_isStreet_409 : decode cL_isStreet 409 = .ok (.if_icmp .eq 5, 3) := by decide +kernel
theorem dL_isStreet_412 : decode cL_isStreet 412 = .ok (.iconst 0, 1) := by decide +kernel
theorem dL_isStreet_413 : decode cL_isStreet 413 = .ok (.ireturn, 1) := by decide +kernel
theorem dL_isStreet_414 : decode cL_isStreet 414 = .ok (.aload_n 0, 1) := by decide +kernel
theorem dL_isStreet_415 : decode cL_isStreet 415 = .ok (.iload_n 1, 1) := by decide +kernel
theorem dL_isStreet_416 : decode cL_isStreet 416 = .ok (.iconst 5, 1) := by decide +kernel
theorem dL_isStreet_417 : decode cL_isStreet 417 = .ok (.invokevirtual 14, 3) := by decide +kernel
theorem dL_isStreet_420 : decode cL_isStreet 420 = .ok (.iload 11, 2) := by decide +kernel
theorem dL_isStreet_422 : decode cL_isStreet 422 = .ok (.if_icmp .ne 111, 3) := by decide +kernel
theorem dL_isStreet_425 : decode cL_isStreet 425 = .ok (.aload_n 0, 1) := by decide +kernel
theorem dL_isStreet_426 : decode cL_isStreet 426 = .ok (.iload_n 1, 1) := by decide +kernel
theorem dL_isStreet_427 : decode cL_isStreet 427 = .ok (.bipush 6, 2) := by decide +kernel
theorem dL_isStreet_429 : decode cL_isStreet 429 = .ok (.invokevirtual 14, 3) := by decide +kernel
theorem dL_isStreet_432 : decode cL_isStreet 432 = .ok (.iload 12, 2) := by decide +kernel
theorem dL_isStreet_434 : decode cL_isStreet 434 = .ok (.if_icmp .ne 99, 3) := by decide +kernel
theorem dL_isStreet_437 : decode cL_isStreet 437 = .ok (.aload_n 0, 1) := by decide +kernel
theorem dL_isStreet_438 : decode cL_isStreet 438 = .ok (.iload_n 1, 1) := by decide +kernel
theorem dL_isStreet_439 : decode cL_isStreet 439 = .ok (.iconst 1, 1) := by decide +kernel
theorem dL_isStreet_440 : decode cL_isStreet 440 = .ok (.invokevirtual 18, 3) := by decide +kernel
theorem dL_isStreet_443 : decode cL_isStreet 443 = .ok (.iload 5, 2) := by decide +kernel
theorem dL_isStreet_445 : decode cL_isStreet 445 = .ok (.if_icmp .ne 88, 3) := by decide +kernel
theorem dL_isStreet_448 : decode cL_isStreet 448 = .ok (.aload_n 0, 1) := by decide +kernel
theorem dL_isStreet_449 : decode cL_isStreet 449 = .ok (.iload_n 1, 1) := by decide +kernel
theorem dL_isStreet_450 : decode cL_isStreet 450 = .ok (.iconst 2, 1) := by decide +kernel
theorem dL_isStreet_451 : decode cL_isStreet 451 = .ok (.invokevirtual 18, 3) := by decide +kernel
theorem dL_isStreet_454 : decode cL_isStreet 454 = .ok (.iload 8, 2) := by decide +kernel
theorem dL_isStreet_456 : decode cL_isStreet 456 = .ok (.ifCond .ne 8, 3) := by decide +kernel
theorem dL_isStreet_459 : decode cL_isStreet 459 = .ok (.bipush (-6), 2) := by decide +kernel
theorem dL_isStreet_461 : decode cL_isStreet 461 = .ok (.goto 17, 3) := by decide +kernel
theorem dL_isStreet_464 : decode cL_isStreet 464 = .ok (.iload 9, 2) := by decide +kernel
theorem dL_isStreet_466 : decode cL_isStreet 466 = .ok (.bipush 12, 2) := by decide +kernel
theorem dL_isStreet_468 : decode cL_isStreet 468 = .ok (.if_icmp .le 8, 3) := by decide +kernel
theorem dL_isStreet_471 : decode cL_isStreet 471 = .ok (.bipush 12, 2) := by decide +kernel
theorem dL_isStreet_473 : decode cL_isStreet 473 = .ok (.goto 5, 3) := by decide +kernel
theorem dL_isStreet_476 : decode cL_isStreet 476 = .ok (.iload 9, 2) := by decide +kernel
theorem dL_isStreet_478 : decode cL_isStreet 478 = .ok (.if_icmp .ne 55, 3) := by decide +kernel
theorem dL_isStreet_481 : decode cL_isStreet 481 = .ok (.aload_n 0, 1) := by decide +kernel
theorem dL_isStreet_482 : decode cL_isStreet 482 = .ok (.iload_n 1, 1) := by decide +kernel
theorem dL_isStreet_483 : decode cL_isStreet 483 = .ok (.iconst 3, 1) := by decide +kernel
theorem dL_isStreet_484 : decode cL_isStreet 484 = .ok (.invokevirtual 18, 3) := by decide +kernel
theorem dL_isStreet_487 : decode cL_isStreet 487 = .ok (.aload_n 0, 1) := by decide +kernel
theorem dL_isStreet_488 : decode cL_isStreet 488 = .ok (.iload_n 1, 1) := by decide +kernel
theorem dL_isStreet_489 : decode cL_isStreet 489 = .ok (.iconst 3, 1) := by decide +kernel
theorem dL_isStreet_490 : decode cL_isStreet 490 = .ok (.invokevirtual 14, 3) := by decide +kernel
theorem dL_isStreet_493 : decode cL_isStreet 493 = .ok (.ifCond .ne 8, 3) := by decide +kernel
theorem dL_isStreet_496 : decode cL_isStreet 496 = .ok (.bipush (-6), 2) := by decide +kernel
theorem dL_isStreet_498 : decode cL_isStreet 498 = .ok (.goto 17, 3) := by decide +kernel
theorem dL_isStreet_501 : decode cL_isStreet 501 = .ok (.iload 10, 2) := by decide +kernel
theorem dL_isStreet_503 : decode cL_isStreet 503 = .ok (.bipush 9, 2) := by decide +kernel
theorem dL_isStreet_505 : decode cL_isStreet 505 = .ok (.if_icmp .le 8, 3) := by decide +kernel
theorem dL_isStreet_508 : decode cL_isStreet 508 = .ok (.bipush 9, 2) := by decide +kernel
theorem dL_isStreet_510 : decode cL_isStreet 510 = .ok (.goto 5, 3) := by decide +kernel
theorem dL_isStreet_513 : decode cL_isStreet 513 = .ok (.iload 10, 2) := by decide +kernel
theorem dL_isStreet_515 : decode cL_isStreet 515 = .ok (.if_icmp .ne 18, 3) := by decide +kernel
theorem dL_isStreet_518 : decode cL_isStreet 518 = .ok (.aload_n 0, 1) := by decide +kernel
theorem dL_isStreet_519 : decode cL_isStreet 519 = .ok (.iload_n 1, 1) := by decide +kernel
theorem dL_isStreet_520 : decode cL_isStreet 520 = .ok (.iconst 4, 1) := by decide +kernel
theorem dL_isStreet_521 : decode cL_isStreet 521 = .ok (.invokevirtual 18, 3) := by decide +kernel
theorem dL_isStreet_524 : decode cL_isStreet 524 = .ok (.iload 7, 2) := by decide +kernel
theorem dL_isStreet_526 : decode cL_isStreet 526 = .ok (.if_icmp .ne 7, 3) := by decide +kernel
theorem dL_isStreet_529 : decode cL_isStreet 529 = .ok (.iconst 1, 1) := by decide +kernel
theorem dL_isStreet_530 : decode cL_isStreet 530 = .ok (.goto 4, 3) := by decide +kernel
theorem dL_isStreet_533 : decode cL_isStreet 533 = .ok (.iconst 0, 1) := by decide +kernel
theorem dL_isStreet_534 : decode cL_isStreet 534 = .ok (.ireturn, 1) := by decide +kernel
set_option maxRecDepth 100000 in
theorem hgL_areAll_X7_count_0 : ∀ w ∈ wsX7_count_r1, w ∈ wsL_areAll := xw_in _ [6, 7, 8, 9, 10, 11, 12, 13, 14, 15, 16, 17, 18, 19, 20, 21, 22, 23, 24, 25, 26, 27, 4, 28] rfl
set_option maxRecDepth 100000 in
theorem hgL_areAll_X7_count_1 : ∀ w ∈ wsX7_count_r2, w ∈ wsL_areAll := xw_in _ [29, 30, 31, 32, 33, 34, 35, 36, 37, 38, 39, 40, 41, 42, 43, 44, 45, 46, 47, 48, 49, 50, 51, 52] rfl
set_option maxRecDepth 100000 in
theorem hgL_areAll_X7_count_2 : ∀ w ∈ wsX7_count_r3, w ∈ wsL_areAll := xw_in _ [53, 54, 55, 56, 57, 58, 59, 60, 61, 62, 63, 64, 65, 66, 67, 68, 69, 70, 71, 72, 73, 74, 75, 76] rfl
set_option maxRecDepth 100000 in
theorem hgL_areAll_X7_count_3 : ∀ w ∈ wsX7_count_r4, w ∈ wsL_areAll := xw_in _ [77, 78, 79, 80, 81, 82, 83, 84, 85, 86, 87, 88, 89, 90, 91, 92] rfl
set_option maxRecDepth 100000 in
theorem hgL_areAll_X7_count_4 : ∀ w ∈ wsX70, w ∈ wsL_areAll := xw_in _ [153, 154, 155, 156, 157, 158, 159, 160] rfl
set_option maxRecDepth 100000 in
theorem hgL_areAll_X7_count_5 : ∀ w ∈ wsX60, w ∈ wsL_areAll := xw_in _ [161, 162, 163, 164] rfl
set_option maxRecDepth 100000 in
theorem hgL_areAll_X7_count_6 : ∀ w ∈ wsX50, w ∈ wsL_areAll := xw_in _ [165, 166, 167, 168, 169, 170] rfl
set_option maxRecDepth 100000 in
theorem hgL_areAll_X7_count_7 : ∀ w ∈ wsX20, w ∈ wsL_areAll := xw_in _ [171, 172, 173, 174, 175] rfl
set_option maxRecDepth 100000 in
theorem hgL_areAll_X7_count_8 : ∀ w ∈ wsX30, w ∈ wsL_areAll := xw_in _ [176, 177, 178] rfl
set_option maxRecDepth 100000 in
theorem hgL_areAll_X7_count_9 : ∀ w ∈ wsX10, w ∈ wsL_areAll := xw_in _ [179, 180, 181] rfl
set_option maxRecDepth 100000 in
theorem hgL_areAll_X7_count_10 : ∀ w ∈ wsX00, w ∈ wsL_areAll := xw_in _ [182, 183, 184] rfl
set_option maxRecDepth 100000 in
theorem ggL_areAll_X7_count : GoodIn wsL_areAll wsX7_count := goodIn_sub (List.forall_mem_cons.mpr ⟨List.mem_of_getElem? (i := 5) rfl, List.forall_mem_append.mpr ⟨List.forall_mem_append.mpr ⟨List.forall_mem_append.mpr ⟨List.forall_mem_append.mpr ⟨List.forall_mem_append.mpr ⟨List.forall_mem_append.mpr ⟨List.forall_mem_append.mpr ⟨List.forall_mem_append.mpr ⟨hgL_areAll_X7_count_0, List.forall_mem_append.mpr ⟨hgL_areAll_X7_count_1, List.forall_mem_append.mpr ⟨hgL_areAll_X7_count_2, hgL_areAll_X7_count_3⟩⟩⟩, hgL_areAll_X7_count_4⟩, hgL_areAll_X7_count_5⟩, hgL_areAll_X7_count_6⟩, hgL_areAll_X7_count_7⟩, hgL_areAll_X7_count_8⟩, hgL_areAll_X7_count_9⟩, hgL_areAll_X7_count_10⟩⟩) (by decide +kernel)
set_option maxRecDepth 20000 in
theorem gL_areAll_X7_count : GoodIn wsL_areAll (wsV RL 8 RX7 yX7_count wsX7_count) := goodIn_app (goodIn_of _ (by decide +kernel)) ggL_areAll_X7_count
set_option maxRecDepth 100000 in
theorem hgL_areAll_X7_of_0 : ∀ w ∈ wsX7_of_r1, w ∈ wsL_areAll := xw_in _ [6, 7, 97, 98, 99, 100, 101, 102, 46, 47, 21, 48, 23, 49, 4, 50, 103, 104, 105, 106, 107, 108, 109, 110] rfl
set_option maxRecDepth 100000 in
theorem hgL_areAll_X7_of_1 : ∀ w ∈ wsX7_of_r2, w ∈ wsL_areAll := xw_in _ [111, 112, 113, 114, 115, 116, 117, 118, 119, 120, 121, 122, 123] rfl
set_option maxRecDepth 100000 in
theorem hgL_areAll_X7_of_2 : ∀ w ∈ wsX70, w ∈ wsL_areAll := xw_in _ [153, 154, 155, 156, 157, 158, 159, 160] rfl
set_option maxRecDepth 100000 in
theorem hgL_areAll_X7_of_3 : ∀ w ∈ wsX60, w ∈ wsL_areAll := xw_in _ [161, 162, 163, 164] rfl
set_option maxRecDepth 100000 in
theorem hgL_areAll_X7_of_4 : ∀ w ∈ wsX50, w ∈ wsL_areAll := xw_in _ [165, 166, 167, 168, 169, 170] rfl
set_option maxRecDepth 100000 in
theorem ggL_areAll_X7_of : GoodIn wsL_areAll wsX7_of := goodIn_sub (List.forall_mem_cons.mpr ⟨List.mem_of_getElem? (i := 96) rfl, List.forall_mem_append.mpr ⟨List.forall_mem_append.mpr ⟨List.forall_mem_append.mpr ⟨List.forall_mem_append.mpr ⟨hgL_areAll_X7_of_0, hgL_areAll_X7_of_1⟩, hgL_areAll_X7_of_2⟩, hgL_areAll_X7_of_3⟩, hgL_areAll_X7_of_4⟩⟩) (by decide +kernel)
set_option maxRecDepth 20000 in
theorem gL_areAll_X7_of : GoodIn wsL_areAll (wsV RL 14 RX7 yX7_of wsX7_of) := goodIn_app (goodIn_of _ (by decide +kernel)) ggL_areAll_X7_of
set_option maxRecDepth 100000 in
theorem hgL_areAll_X7_now_0 : ∀ w ∈ wsX7_now_r1, w ∈ wsL_areAll := xw_in _ [6, 7, 29, 92, 102, 46, 47, 21, 48, 23, 49, 4, 50, 80, 81, 82, 33, 83, 65, 84, 85, 31, 32, 34] rfl
set_option maxRecDepth 100000 in
theorem hgL_areAll_X7_now_1 : ∀ w ∈ wsX7_now_r2, w ∈ wsL_areAll := xw_in _ [35, 36, 37, 38, 39, 86, 41, 42, 43, 44, 45, 51, 52, 53, 54, 55, 56, 57, 58, 59, 60, 128, 73, 74] rfl
set_option maxRecDepth 100000 in
theorem hgL_areAll_X7_now_2 : ∀ w ∈ wsX7_now_r3, w ∈ wsL_areAll := xw_in _ [75, 70, 129, 130, 131, 132, 133, 134, 135, 136, 137, 138, 87, 67, 68, 69, 71, 72] rfl
set_option maxRecDepth 100000 in
theorem hgL_areAll_X7_now_3 : ∀ w ∈ wsX70, w ∈ wsL_areAll := xw_in _ [153, 154, 155, 156, 157, 158, 159, 160] rfl
set_option maxRecDepth 100000 in
theorem hgL_areAll_X7_now_4 : ∀ w ∈ wsX60, w ∈ wsL_areAll := xw_in _ [161, 162, 163, 164] rfl
set_option maxRecDepth 100000 in
theorem hgL_areAll_X7_now_5 : ∀ w ∈ wsX00, w ∈ wsL_areAll := xw_in _ [182, 183, 184] rfl
set_option maxRecDepth 100000 in
theorem hgL_areAll_X7_now_6 : ∀ w ∈ wsX50, w ∈ wsL_areAll := xw_in _ [165, 166, 167, 168, 169, 170] rfl
set_option maxRecDepth 100000 in
theorem ggL_areAll_X7_now : GoodIn wsL_areAll wsX7_now := goodIn_sub (List.forall_mem_cons.mpr ⟨List.mem_of_getElem? (i := 127) rfl, List.forall_mem_append.mpr ⟨List.forall_mem_append.mpr ⟨List.forall_mem_append.mpr ⟨List.forall_mem_append.mpr ⟨List.forall_mem_append.mpr ⟨hgL_areAll_X7_now_0, List.forall_mem_append.mpr ⟨hgL_areAll_X7_now_1, hgL_areAll_X7_now_2⟩⟩, hgL_areAll_X7_now_3⟩, hgL_areAll_X7_now_4⟩, hgL_areAll_X7_now_5⟩, hgL_areAll_X7_now_6⟩⟩) (by decide +kernel)
set_option maxRecDepth 20000 in
theorem gL_areAll_X7_now : GoodIn wsL_areAll (wsV RL 18 RX7 yX7_now wsX7_now) := goodIn_app (goodIn_of _ (by decide +kernel)) ggL_areAll_X7_now
set_option maxRecDepth 100000 in
theorem hgL_areAll_X7_windiest_0 : ∀ w ∈ wsX7_windiest_r1, w ∈ wsL_areAll := xw_in _ [29, 6, 7, 8, 92, 80, 81, 82, 33, 83, 65, 84, 85, 31, 32, 34, 35, 36, 37, 38, 39, 86, 41, 42] rfl
set_option maxRecDepth 100000 in
theorem hgL_areAll_X7_windiest_1 : ∀ w ∈ wsX7_windiest_r2, w ∈ wsL_areAll := xw_in _ [43, 44, 45, 46, 47, 21, 48, 23, 49, 4, 50, 51, 52, 53, 54, 55, 56, 57, 58, 59, 60, 103, 104, 105] rfl
set_option maxRecDepth 100000 in
theorem hgL_areAll_X7_windiest_2 : ∀ w ∈ wsX7_windiest_r3, w ∈ wsL_areAll := xw_in _ [106, 107] rfl
set_option maxRecDepth 100000 in
theorem hgL_areAll_X7_windiest_3 : ∀ w ∈ wsX70, w ∈ wsL_areAll := xw_in _ [153, 154, 155, 156, 157, 158, 159, 160] rfl
set_option maxRecDepth 100000 in
theorem hgL_areAll_X7_windiest_4 : ∀ w ∈ wsX60, w ∈ wsL_areAll := xw_in _ [161, 162, 163, 164] rfl
set_option maxRecDepth 100000 in
theorem hgL_areAll_X7_windiest_5 : ∀ w ∈ wsX50, w ∈ wsL_areAll := xw_in _ [165, 166, 167, 168, 169, 170] rfl
set_option maxRecDepth 100000 in
theorem hgL_areAll_X7_windiest_6 : ∀ w ∈ wsX00, w ∈ wsL_areAll := xw_in _ [182, 183, 184] rfl
set_option maxRecDepth 100000 in
theorem ggL_areAll_X7_windiest : GoodIn wsL_areAll wsX7_windiest := goodIn_sub (List.forall_mem_cons.mpr ⟨List.mem_of_getElem? (i := 142) rfl, List.forall_mem_append.mpr ⟨List.forall_mem_append.mpr ⟨List.forall_mem_append.mpr ⟨List.forall_mem_append.mpr ⟨List.forall_mem_append.mpr ⟨hgL_areAll_X7_windiest_0, List.forall_mem_append.mpr ⟨hgL_areAll_X7_windiest_1, hgL_areAll_X7_windiest_2⟩⟩, hgL_areAll_X7_windiest_3⟩, hgL_areAll_X7_windiest_4⟩, hgL_areAll_X7_windiest_5⟩, hgL_areAll_X7_windiest_6⟩⟩) (by decide +kernel)
set_option maxRecDepth 20000 in
theorem gL_areAll_X7_windiest : GoodIn wsL_areAll (wsV RL 21 RX7 yX7_windiest wsX7_windiest) := goodIn_app (goodIn_of _ (by decide +kernel)) ggL_areAll_X7_windiest
set_option maxRecDepth 100000 in
theorem hgL_areAll_X7_ifWind_0 : ∀ w ∈ wsX7_ifWind_r1, w ∈ wsL_areAll := xw_in _ [147, 148, 4, 149, 150, 151, 152, 25, 26, 27, 28, 29, 6, 7, 30, 31, 32, 33, 34, 35, 36, 37, 38, 39] rfl
set_option maxRecDepth 100000 in
theorem hgL_areAll_X7_ifWind_1 : ∀ w ∈ wsX7_ifWind_r2, w ∈ wsL_areAll := xw_in _ [40, 41, 42, 43, 44, 45, 46, 47, 21, 48, 23, 49, 50, 51, 52, 53, 54, 55, 56, 57, 58, 59, 60, 61] rfl
set_option maxRecDepth 100000 in
theorem hgL_areAll_X7_ifWind_2 : ∀ w ∈ wsX7_ifWind_r3, w ∈ wsL_areAll := xw_in _ [62, 63, 64, 65, 66, 67, 68, 69, 70, 71, 72, 73, 74, 75] rfl
set_option maxRecDepth 100000 in
theorem hgL_areAll_X7_ifWind_3 : ∀ w ∈ wsX70, w ∈ wsL_areAll := xw_in _ [153, 154, 155, 156, 157, 158, 159, 160] rfl
set_option maxRecDepth 100000 in
theorem hgL_areAll_X7_ifWind_4 : ∀ w ∈ wsX60, w ∈ wsL_areAll := xw_in _ [161, 162, 163, 164] rfl
set_option maxRecDepth 100000 in
theorem hgL_areAll_X7_ifWind_5 : ∀ w ∈ wsX50, w ∈ wsL_areAll := xw_in _ [165, 166, 167, 168, 169, 170] rfl
set_option maxRecDepth 100000 in
theorem hgL_areAll_X7_ifWind_6 : ∀ w ∈ wsX00, w ∈ wsL_areAll := xw_in _ [182, 183, 184] rfl
set_option maxRecDepth 100000 in
theorem ggL_areAll_X7_ifWind : GoodIn wsL_areAll wsX7_ifWind := goodIn_sub (List.forall_mem_cons.mpr ⟨List.mem_of_getElem? (i := 146) rfl, List.forall_mem_append.mpr ⟨List.forall_mem_append.mpr ⟨List.forall_mem_append.mpr ⟨List.forall_mem_append.mpr ⟨List.forall_mem_append.mpr ⟨hgL_areAll_X7_ifWind_0, List.forall_mem_append.mpr ⟨hgL_areAll_X7_ifWind_1, hgL_areAll_X7_ifWind_2⟩⟩, hgL_areAll_X7_ifWind_3⟩, hgL_areAll_X7_ifWind_4⟩, hgL_areAll_X7_ifWind_5⟩, hgL_areAll_X7_ifWind_6⟩⟩) (by decide +kernel)
set_option maxRecDepth 20000 in
theorem gL_areAll_X7_ifWind : GoodIn wsL_areAll (wsV RL 25 RX7 yX7_ifWind wsX7_ifWind) := goodIn_app (goodIn_of _ (by decide +kernel)) ggL_areAll_X7_ifWind
theorem dL_areAll_0 : decode cL_areAll 0 = .ok (.aload_n 0, 1) := by decide +kernel
theorem dL_areAll_1 : decode cL_areAll 1 = .ok (.iconst 0, 1) := by decide +kernel
theorem dL_areAll_2 : decode cL_areAll 2 = .ok (.invokevirtual 8, 3) := by decide +kernel
theorem dL_areAll_5 : decode cL_areAll 5 = .ok (.istore_n 1, 1) := by decide +kernel
theorem dL_areAll_6 : decode cL_areAll 6 = .ok (.iconst 0, 1) := by decide +kernel
theorem dL_areAll_7 : decode cL_areAll 7 = .ok (.istore_n 2, 1) := by decide +kernel
theorem dL_areAll_8 : decode cL_areAll 8 = .ok (.iconst 0, 1) := by decide +kernel
theorem dL_areAll_9 : decode cL_areAll 9 = .ok (.istore_n 3, 1) := by decide +kernel
theorem dL_areAll_10 : decode cL_areAll 10 = .ok (.iconst 0, 1) := by decide +kernel
theorem dL_areAll_11 : decode cL_areAll 11 = .ok (.istore 4, 2) := by decide +kernel
theorem dL_areAll_13 : decode cL_areAll 13 = .ok (.iconst 0, 1) := by decide +kernel
theorem dL_areAll_14 : decode cL_areAll 14 = .ok (.istore 5, 2) := by decide +kernel
theorem dL_areAll_16 : decode cL_areAll 16 = .ok (.iconst (-1), 1) := by decide +kernel
theorem dL_areAll_17 : decode cL_areAll 17 = .ok (.istore 6, 2) := by decide +kernel
theorem dL_areAll_19 : decode cL_areAll 19 = .ok (.iconst 0, 1) := by decide +kernel
theorem dL_areAll_20 : decode cL_areAll 20 = .ok (.istore 7, 2) := by decide +kernel
theorem dL_areAll_22 : decode cL_areAll 22 = .ok (.iload 7, 2) := by decide +kernel
theorem dL_areAll_24 : decode cL_areAll 24 = .ok (.iload_n 1, 1) := by decide +kernel
theorem dL_areAll_25 : decode cL_areAll 25 = .ok (.if_icmp .ge 138, 3) := by decide +kernel
theorem dL_areAll_28 : decode cL_areAll 28 = .ok (.iload 7, 2) := by decide +kernel
theorem dL_areAll_30 : decode cL_areAll 30 = .ok (.bipush 20, 2) := by decide +kernel
theorem dL_areAll_32 : decode cL_areAll 32 = .ok (.if_icmp .ge 131, 3) := by decide +kernel
theorem dL_areAll_35 : decode cL_areAll 35 = .ok (.iload_n 2, 1) := by decide +kernel
theorem dL_areAll_36 : decode cL_areAll 36 = .ok (.aload_n 0, 1) := by decide +kernel
theorem dL_areAll_37 : decode cL_areAll 37 = .ok (.iload 7, 2) := by decide +kernel
theorem dL_areAll_39 : decode cL_areAll 39 = .ok (.iconst 4, 1) := by decide +kernel
theorem dL_areAll_40 : decode cL_areAll 40 = .ok (.invokevirtual 14, 3) := by decide +kernel
theorem dL_areAll_43 : decode cL_areAll 43 = .ok (.iadd, 1) := by decide +kernel
theorem dL_areAll_44 : decode cL_areAll 44 = .ok (.istore_n 2, 1) := by decide +kernel
theorem dL_areAll_45 : decode cL_areAll 45 = .ok (.iload_n 3, 1) := by decide +kernel
theorem dL_areAll_46 : decode cL_areAll 46 = .ok (.aload_n 0, 1) := by decide +kernel
theorem dL_areAll_47 : decode cL_areAll 47 = .ok (.iload 7, 2) := by decide +kernel
theorem dL_areAll_49 : decode cL_areAll 49 = .ok (.iconst 4, 1) := by decide +kernel
theorem dL_areAll_50 : decode cL_areAll 50 = .ok (.invokevirtual 18, 3) := by decide +kernel
theorem dL_areAll_53 : decode cL_areAll 53 = .ok (.iadd, 1) := by decide +kernel
theorem dL_areAll_54 : decode cL_areAll 54 = .ok (.istore_n 3, 1) := by decide +kernel
theorem dL_areAll_55 : decode cL_areAll 55 = .ok (.iload 4, 2) := by decide +kernel
theorem dL_areAll_57 : decode cL_areAll 57 = .ok (.aload_n 0, 1) := by decide +kernel
theorem dL_areAll_58 : decode cL_areAll 58 = .ok (.iload 7, 2) := by decide +kernel
theorem dL_areAll_60 : decode cL_areAll 60 = .ok (.iconst 4, 1) := by decide +kernel
theorem dL_areAll_61 : decode cL_areAll 61 = .ok (.invokevirtual 18, 3) := by decide +kernel
theorem dL_areAll_64 : decode cL_areAll 64 = .ok (.ifCond .ne 10, 3) := by decide +kernel
theorem dL_areAll_67 : decode cL_areAll 67 = .ok (.iconst 1, 1) := by decide +kernel
theorem dL_areAll_68 : decode cL_areAll 68 = .ok (.iload 7, 2) := by decide +kernel
theorem dL_areAll_70 : decode cL_areAll 70 = .ok (.ishl, 1) := by decide +kernel
theorem dL_areAll_71 : decode cL_areAll 71 = .ok (.goto 4, 3) := by decide +kernel
theorem dL_areAll_74 : decode cL_areAll 74 = .ok (.iconst 0, 1) := by decide +kernel
theorem dL_areAll_75 : decode cL_areAll 75 = .ok (.ior, 1) := by decide +kernel
theorem dL_areAll_76 : decode cL_areAll 76 = .ok (.istore 4, 2) := by decide +kernel
theorem dL_areAll_78 : decode cL_areAll 78 = .ok (.aload_n 0, 1) := by decide +kernel
theorem dL_areAll_79 : decode cL_areAll 79 = .ok (.iload 7, 2) := by decide +kernel
theorem dL_areAll_81 : decode cL_areAll 81 = .ok (.iconst 0, 1) := by decide +kernel
theorem dL_areAll_82 : decode cL_areAll 82 = .ok (.invokevirtual 18, 3) := by decide +kernel
theorem dL_areAll_85 : decode cL_areAll 85 = .ok (.aload_n 0, 1) := by decide +kernel
theorem dL_areAll_86 : decode cL_areAll 86 = .ok (.iload 5, 2) := by decide +kernel
theorem dL_areAll_88 : decode cL_areAll 88 = .ok (.iconst 0, 1) := by decide +kernel
theorem dL_areAll_89 : decode cL_areAll 89 = .ok (.invokevirtual 18, 3) := by decide +kernel
theorem dL_areAll_92 : decode cL_areAll 92 = .ok (.if_icmp .ge 8, 3) := by decide +kernel
theorem dL_areAll_95 : decode cL_areAll 95 = .ok (.iload 7, 2) := by decide +kernel
theorem dL_areAll_97 : decode cL_areAll 97 = .ok (.goto 5, 3) := by decide +kernel
theorem dL_areAll_100 : decode cL_areAll 100 = .ok (.iload 5, 2) := by decide +kernel
theorem dL_areAll_102 : decode cL_areAll 102 = .ok (.istore 5, 2) := by decide +kernel
theorem dL_areAll_104 : decode cL_areAll 104 = .ok (.aload_n 0, 1) := by decide +kernel
theorem dL_areAll_105 : decode cL_areAll 105 = .ok (.iload 7, 2) := by decide +kernel
theorem dL_areAll_107 : decode cL_areAll 107 = .ok (.iconst 5, 1) := by decide +kernel
theorem dL_areAll_108 : decode cL_areAll 108 = .ok (.invokevirtual 14, 3) := by decide +kernel
theorem dL_areAll_111 : decode cL_areAll 111 = .ok (.ifCond .ne 7, 3) := by decide +kernel
theorem dL_areAll_114 : decode cL_areAll 114 = .ok (.iconst 1, 1) := by decide +kernel
theorem dL_areAll_115 : decode cL_areAll 115 = .ok (.goto 4, 3) := by decide +kernel
theorem dL_areAll_118 : decode cL_areAll 118 = .ok (.iconst 0, 1) := by decide +kernel
theorem dL_areAll_119 : decode cL_areAll 119 = .ok (.istore 8, 2) := by decide +kernel
theorem dL_areAll_121 : decode cL_areAll 121 = .ok (.iload 8, 2) := by decide +kernel
theorem dL_areAll_123 : decode cL_areAll 123 = .ok (.ifCond .eq 30, 3) := by decide +kernel
theorem dL_areAll_126 : decode cL_areAll 126 = .ok (.iload 6, 2) := by decide +kernel
theorem dL_areAll_128 : decode cL_areAll 128 = .ok (.ifCond .lt 20, 3) := by decide +kernel
theorem dL_areAll_131 : decode cL_areAll 131 = .ok (.aload_n 0, 1) := by decide +kernel
theorem dL_areAll_132 : decode cL_areAll 132 = .ok (.iload 7, 2) := by decide +kernel
theorem dL_areAll_134 : decode cL_areAll 134 = .ok (.iconst 0, 1) := by decide +kernel
theorem dL_areAll_135 : decode cL_areAll 135 = .ok (.invokevirtual 18, 3) := by decide +kernel
theorem dL_areAll_138 : decode cL_areAll 138 = .ok (.aload_n 0, 1) := by decide +kernel
theorem dL_areAll_139 : decode cL_areAll 139 = .ok (.iload 6, 2) := by decide +kernel
theorem dL_areAll_141 : decode cL_areAll 141 = .ok (.iconst 0, 1) := by decide +kernel
theorem dL_areAll_142 : decode cL_areAll 142 = .ok (.invokevirtual 18, 3) := by decide +kernel
theorem dL_areAll_145 : decode cL_areAll 145 = .ok (.if_icmp .le 8, 3) := by decide +kernel
theorem dL_areAll_148 : decode cL_areAll 148 = .ok (.iload 7, 2) := by decide +kernel
theorem dL_areAll_150 : decode cL_areAll 150 = .ok (.goto 5, 3) := by decide +kernel
theorem dL_areAll_153 : decode cL_areAll 153 = .ok (.iload 6, 2) := by decide +kernel
theorem dL_areAll_155 : decode cL_areAll 155 = .ok (.istore 6, 2) := by decide +kernel
theorem dL_areAll_157 : decode cL_areAll 157 = .ok (.iinc 7 1, 3) := by decide +kernel
theorem dL_areAll_160 : decode cL_areAll 160 = .ok (.goto (-138), 3) := by decide +kernel
theorem dL_areAll_163 : decode cL_areAll 163 = .ok (.iload_n 1, 1) := by decide +kernel
theorem dL_areAll_164 : decode cL_areAll 164 = .ok (.ifCond .le 90, 3) := by decide +kernel
theorem dL_areAll_167 : decode cL_areAll 167 = .ok (.iload_n 1, 1) := by decide +kernel
theorem dL_areAll_168 : decode cL_areAll 168 = .ok (.bipush 20, 2) := by decide +kernel
theorem dL_areAll_170 : decode cL_areAll 170 = .ok (.if_icmp .gt 84, 3) := by decide +kernel
theorem dL_areAll_173 : decode cL_areAll 173 = .ok (.aload_n 0, 1) := by decide +kernel
theorem dL_areAll_174 : decode cL_areAll 174 = .ok (.iconst 4, 1) := by decide +kernel
theorem dL_areAll_175 : decode cL_areAll 175 = .ok (.invokevirtual 8, 3) := by decide +kernel
theorem dL_areAll_178 : decode cL_areAll 178 = .ok (.iload_n 2, 1) := by decide +kernel
theorem dL_areAll_179 : decode cL_areAll 179 = .ok (.if_icmp .ne 75, 3) := by decide +kernel
theorem dL_areAll_182 : decode cL_areAll 182 = .ok (.aload_n 0, 1) := by decide +kernel
theorem dL_areAll_183 : decode cL_areAll 183 = .ok (.iconst 5, 1) := by decide +kernel
theorem dL_areAll_184 : decode cL_areAll 184 = .ok (.invokevirtual 8, 3) := by decide +kernel
theorem dL_areAll_187 : decode cL_areAll 187 = .ok (.iload_n 3, 1) := by decide +kernel
theorem dL_areAll_188 : decode cL_areAll 188 = .ok (.if_icmp .ne 66, 3) := by decide +kernel
theorem dL_areAll_191 : decode cL_areAll 191 = .ok (.iload_n 3, 1) := by decide +kernel
theorem dL_areAll_192 : decode cL_areAll 192 = .ok (.iload_n 2, 1) := by decide +kernel
theorem dL_areAll_193 : decode cL_areAll 193 = .ok (.if_icmp .gt 61, 3) := by decide +kernel
theorem dL_areAll_196 : decode cL_areAll 196 = .ok (.aload_n 0, 1) := by decide +kernel
theorem dL_areAll_197 : decode cL_areAll 197 = .ok (.bipush 6, 2) := by decide +kernel
theorem dL_areAll_199 : decode cL_areAll 199 = .ok (.invokevirtual 8, 3) := by decide +kernel
theorem dL_areAll_202 : decode cL_areAll 202 = .ok (.iload 4, 2) := by decide +kernel
theorem dL_areAll_204 : decode cL_areAll 204 = .ok (.if_icmp .ne 50, 3) := by decide +kernel
theorem dL_areAll_207 : decode cL_areAll 207 = .ok (.aload_n 0, 1) := by decide +kernel
theorem dL_areAll_208 : decode cL_areAll 208 = .ok (.bipush 7, 2) := by decide +kernel
theorem dL_areAll_210 : decode cL_areAll 210 = .ok (.invokevirtual 8, 3) := by decide +kernel
theorem dL_areAll_213 : decode cL_areAll 213 = .ok (.iload 5, 2) := by decide +kernel
theorem dL_areAll_215 : decode cL_areAll 215 = .ok (.if_icmp .ne 39, 3) := by decide +kernel
theorem dL_areAll_218 : decode cL_areAll 218 = .ok (.aload_n 0, 1) := by decide +kernel
theorem dL_areAll_219 : decode cL_areAll 219 = .ok (.invokevirtual 21, 3) := by decide +kernel
theorem dL_areAll_222 : decode cL_areAll 222 = .ok (.iload 6, 2) := by decide +kernel
theorem dL_areAll_224 : decode cL_areAll 224 = .ok (.if_icmp .ne 30, 3) := by decide +kernel
theorem dL_areAll_227 : decode cL_areAll 227 = .ok (.aload_n 0, 1) := by decide +kernel
theorem dL_areAll_228 : decode cL_areAll 228 = .ok (.aload_n 0, 1) := by decide +kernel
theorem dL_areAll_229 : decode cL_areAll 229 = .ok (.iconst 1, 1) := by decide +kernel
theorem dL_areAll_230 : decode cL_areAll 230 = .ok (.invokevirtual 8, 3) := by decide +kernel
theorem dL_areAll_233 : decode cL_areAll 233 = .ok (.invokevirtual 25, 3) := by decide +kernel
theorem dL_areAll_236 : decode cL_areAll 236 = .ok (.iload_n 3, 1) := by decide +kernel
theorem dL_areAll_237 : decode cL_areAll 237 = .ok (.if_icmp .ne 17, 3) := by decide +kernel
theorem dL_areAll_240 : decode cL_areAll 240 = .ok (.aload_n 0, 1) := by decide +kernel
theorem dL_areAll_241 : decode cL_areAll 241 = .ok (.iload_n 1, 1) := by decide +kernel
theorem dL_areAll_242 : decode cL_areAll 242 = .ok (.iconst 0, 1) := by decide +kernel
theorem dL_areAll_243 : decode cL_areAll 243 = .ok (.invokevirtual 14, 3) := by decide +kernel
theorem dL_areAll_246 : decode cL_areAll 246 = .ok (.iconst (-1), 1) := by decide +kernel
theorem dL_areAll_247 : decode cL_areAll 247 = .ok (.if_icmp .ne 7, 3) := by decide +kernel
theorem dL_areAll_250 : decode cL_areAll 250 = .ok (.iconst 1, 1) := by decide +kernel
theorem dL_areAll_251 : decode cL_areAll 251 = .ok (.goto 4, 3) := by decide +kernel
theorem dL_areAll_254 : decode cL_areAll 254 = .ok (.iconst 0, 1) := by decide +kernel
theorem dL_areAll_255 : decode cL_areAll 255 = .ok (.ireturn, 1) := by decide +kernel
