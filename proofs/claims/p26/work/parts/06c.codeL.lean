set_option maxRecDepth 100000 in
theorem hgL_does_X7_count_0 : ∀ w ∈ wsX7_count_r1, w ∈ wsL_does := xw_in _ [6, 7, 8, 9, 10, 11, 12, 13, 14, 15, 16, 17, 18, 19, 20, 21, 22, 23, 24, 25, 26, 27, 4, 28] rfl
set_option maxRecDepth 100000 in
theorem hgL_does_X7_count_1 : ∀ w ∈ wsX7_count_r2, w ∈ wsL_does := xw_in _ [29, 30, 31, 32, 33, 34, 35, 36, 37, 38, 39, 40, 41, 42, 43, 44, 45, 46, 47, 48, 49, 50, 51, 52] rfl
set_option maxRecDepth 100000 in
theorem hgL_does_X7_count_2 : ∀ w ∈ wsX7_count_r3, w ∈ wsL_does := xw_in _ [53, 54, 55, 56, 57, 58, 59, 60, 61, 62, 63, 64, 65, 66, 67, 68, 69, 70, 71, 72, 73, 74, 75, 76] rfl
set_option maxRecDepth 100000 in
theorem hgL_does_X7_count_3 : ∀ w ∈ wsX7_count_r4, w ∈ wsL_does := xw_in _ [77, 78, 79, 80, 81, 82, 83, 84, 85, 86, 87, 88, 89, 90, 91, 92] rfl
set_option maxRecDepth 100000 in
theorem hgL_does_X7_count_4 : ∀ w ∈ wsX70, w ∈ wsL_does := xw_in _ [409, 410, 411, 412, 413, 414, 415, 416] rfl
set_option maxRecDepth 100000 in
theorem hgL_does_X7_count_5 : ∀ w ∈ wsX60, w ∈ wsL_does := xw_in _ [417, 418, 419, 420] rfl
set_option maxRecDepth 100000 in
theorem hgL_does_X7_count_6 : ∀ w ∈ wsX50, w ∈ wsL_does := xw_in _ [421, 422, 423, 424, 425, 426] rfl
set_option maxRecDepth 100000 in
theorem hgL_does_X7_count_7 : ∀ w ∈ wsX20, w ∈ wsL_does := xw_in _ [427, 428, 429, 430, 431] rfl
set_option maxRecDepth 100000 in
theorem hgL_does_X7_count_8 : ∀ w ∈ wsX30, w ∈ wsL_does := xw_in _ [432, 433, 434] rfl
set_option maxRecDepth 100000 in
theorem hgL_does_X7_count_9 : ∀ w ∈ wsX10, w ∈ wsL_does := xw_in _ [435, 436, 437] rfl
set_option maxRecDepth 100000 in
theorem hgL_does_X7_count_10 : ∀ w ∈ wsX00, w ∈ wsL_does := xw_in _ [438, 439, 440] rfl
set_option maxRecDepth 100000 in
theorem ggL_does_X7_count : GoodIn wsL_does wsX7_count := goodIn_sub (List.forall_mem_cons.mpr ⟨List.mem_of_getElem? (i := 5) rfl, List.forall_mem_append.mpr ⟨List.forall_mem_append.mpr ⟨List.forall_mem_append.mpr ⟨List.forall_mem_append.mpr ⟨List.forall_mem_append.mpr ⟨List.forall_mem_append.mpr ⟨List.forall_mem_append.mpr ⟨List.forall_mem_append.mpr ⟨hgL_does_X7_count_0, List.forall_mem_append.mpr ⟨hgL_does_X7_count_1, List.forall_mem_append.mpr ⟨hgL_does_X7_count_2, hgL_does_X7_count_3⟩⟩⟩, hgL_does_X7_count_4⟩, hgL_does_X7_count_5⟩, hgL_does_X7_count_6⟩, hgL_does_X7_count_7⟩, hgL_does_X7_count_8⟩, hgL_does_X7_count_9⟩, hgL_does_X7_count_10⟩⟩) (by decide +kernel)
set_option maxRecDepth 20000 in
theorem gL_does_X7_count : GoodIn wsL_does (wsV RL 8 RX7 yX7_count wsX7_count) := goodIn_app (goodIn_of _ (by decide +kernel)) ggL_does_X7_count
set_option maxRecDepth 100000 in
theorem hgL_does_L_low_0 : ∀ w ∈ ([.constant RL 7 (2147483647)] : List Cond), w ∈ wsL_does := xw_in _ [97] rfl
set_option maxRecDepth 100000 in
theorem ggL_does_L_low : GoodIn wsL_does wsL_low := goodIn_sub (List.forall_mem_cons.mpr ⟨List.mem_of_getElem? (i := 96) rfl, hgL_does_L_low_0⟩) (by decide +kernel)
set_option maxRecDepth 20000 in
theorem gL_does_L_low : GoodIn wsL_does (va_wsS RL 69 yL_low wsL_low) := goodIn_app (goodIn_of _ (by decide +kernel)) ggL_does_L_low
set_option maxRecDepth 100000 in
theorem hgL_does_X7_of_0 : ∀ w ∈ wsX7_of_r1, w ∈ wsL_does := xw_in _ [6, 7, 102, 103, 104, 105, 106, 107, 46, 47, 21, 48, 23, 49, 4, 50, 108, 109, 110, 111, 112, 113, 114, 115] rfl
set_option maxRecDepth 100000 in
theorem hgL_does_X7_of_1 : ∀ w ∈ wsX7_of_r2, w ∈ wsL_does := xw_in _ [116, 117, 118, 119, 120, 121, 122, 123, 124, 125, 126, 127, 128] rfl
set_option maxRecDepth 100000 in
theorem hgL_does_X7_of_2 : ∀ w ∈ wsX70, w ∈ wsL_does := xw_in _ [409, 410, 411, 412, 413, 414, 415, 416] rfl
set_option maxRecDepth 100000 in
theorem hgL_does_X7_of_3 : ∀ w ∈ wsX60, w ∈ wsL_does := xw_in _ [417, 418, 419, 420] rfl
set_option maxRecDepth 100000 in
theorem hgL_does_X7_of_4 : ∀ w ∈ wsX50, w ∈ wsL_does := xw_in _ [421, 422, 423, 424, 425, 426] rfl
set_option maxRecDepth 100000 in
theorem ggL_does_X7_of : GoodIn wsL_does wsX7_of := goodIn_sub (List.forall_mem_cons.mpr ⟨List.mem_of_getElem? (i := 101) rfl, List.forall_mem_append.mpr ⟨List.forall_mem_append.mpr ⟨List.forall_mem_append.mpr ⟨List.forall_mem_append.mpr ⟨hgL_does_X7_of_0, hgL_does_X7_of_1⟩, hgL_does_X7_of_2⟩, hgL_does_X7_of_3⟩, hgL_does_X7_of_4⟩⟩) (by decide +kernel)
set_option maxRecDepth 20000 in
theorem gL_does_X7_of : GoodIn wsL_does (wsV RL 14 RX7 yX7_of wsX7_of) := goodIn_app (goodIn_of _ (by decide +kernel)) ggL_does_X7_of
set_option maxRecDepth 100000 in
theorem ggL_does_L_ones : GoodIn wsL_does wsL_ones := goodIn_sub (List.forall_mem_cons.mpr ⟨List.mem_of_getElem? (i := 131) rfl, (fun _ h => absurd h List.not_mem_nil)⟩) (by decide +kernel)
set_option maxRecDepth 20000 in
theorem gL_does_L_ones : GoodIn wsL_does (va_wsS RL 58 yL_ones wsL_ones) := goodIn_app (goodIn_of _ (by decide +kernel)) ggL_does_L_ones
set_option maxRecDepth 100000 in
theorem hgL_does_X7_street_0 : ∀ w ∈ wsX7_street_r1, w ∈ wsL_does := xw_in _ [6, 7, 16, 107, 46, 47, 21, 48, 23, 49, 4, 50, 136, 137, 138, 139, 140, 141, 142, 143, 109, 110, 111, 112] rfl
set_option maxRecDepth 100000 in
theorem hgL_does_X7_street_1 : ∀ w ∈ wsX7_street_r2, w ∈ wsL_does := xw_in _ [117, 118, 119, 120, 121, 122, 123, 144, 145, 146, 147, 148, 149, 150, 151, 152, 153, 154, 155, 156, 157, 158, 159, 160] rfl
set_option maxRecDepth 100000 in
theorem hgL_does_X7_street_2 : ∀ w ∈ wsX7_street_r3, w ∈ wsL_does := xw_in _ [161, 162, 163, 56, 57, 58, 164, 165, 166, 167, 168, 169, 170, 171, 172, 173, 174, 24, 175, 176, 177, 178, 179, 180] rfl
set_option maxRecDepth 100000 in
theorem hgL_does_X7_street_3 : ∀ w ∈ wsX7_street_r4, w ∈ wsL_does := xw_in _ [181, 182, 183, 184, 185, 186, 187, 188] rfl
set_option maxRecDepth 100000 in
theorem hgL_does_X7_street_4 : ∀ w ∈ wsX70, w ∈ wsL_does := xw_in _ [409, 410, 411, 412, 413, 414, 415, 416] rfl
set_option maxRecDepth 100000 in
theorem hgL_does_X7_street_5 : ∀ w ∈ wsX60, w ∈ wsL_does := xw_in _ [417, 418, 419, 420] rfl
set_option maxRecDepth 100000 in
theorem hgL_does_X7_street_6 : ∀ w ∈ wsX50, w ∈ wsL_does := xw_in _ [421, 422, 423, 424, 425, 426] rfl
set_option maxRecDepth 100000 in
theorem hgL_does_X7_street_7 : ∀ w ∈ wsX10, w ∈ wsL_does := xw_in _ [435, 436, 437] rfl
set_option maxRecDepth 100000 in
theorem hgL_does_X7_street_8 : ∀ w ∈ wsX20, w ∈ wsL_does := xw_in _ [427, 428, 429, 430, 431] rfl
set_option maxRecDepth 100000 in
theorem ggL_does_X7_street : GoodIn wsL_does wsX7_street := goodIn_sub (List.forall_mem_cons.mpr ⟨List.mem_of_getElem? (i := 135) rfl, List.forall_mem_append.mpr ⟨List.forall_mem_append.mpr ⟨List.forall_mem_append.mpr ⟨List.forall_mem_append.mpr ⟨List.forall_mem_append.mpr ⟨List.forall_mem_append.mpr ⟨hgL_does_X7_street_0, List.forall_mem_append.mpr ⟨hgL_does_X7_street_1, List.forall_mem_append.mpr ⟨hgL_does_X7_street_2, hgL_does_X7_street_3⟩⟩⟩, hgL_does_X7_street_4⟩, hgL_does_X7_street_5⟩, hgL_does_X7_street_6⟩, hgL_does_X7_street_7⟩, hgL_does_X7_street_8⟩⟩) (by decide +kernel)
set_option maxRecDepth 20000 in
theorem gL_does_X7_street : GoodIn wsL_does (wsV RL 72 RX7 yX7_street wsX7_street) := goodIn_app (goodIn_of _ (by decide +kernel)) ggL_does_X7_street
set_option maxRecDepth 100000 in
theorem hgL_does_X7_change_0 : ∀ w ∈ wsX7_change_r1, w ∈ wsL_does := xw_in _ [6, 7, 193, 194, 16, 107, 46, 47, 21, 48, 23, 49, 4, 50, 195, 136, 137, 138, 144, 145, 146, 147, 148, 149] rfl
set_option maxRecDepth 100000 in
theorem hgL_does_X7_change_1 : ∀ w ∈ wsX7_change_r2, w ∈ wsL_does := xw_in _ [150, 151, 152, 153, 154, 155, 156, 157, 158, 159, 160, 161, 162, 163, 56, 57, 58, 164, 165, 166, 167, 168, 169, 170] rfl
set_option maxRecDepth 100000 in
theorem hgL_does_X7_change_2 : ∀ w ∈ wsX7_change_r3, w ∈ wsL_does := xw_in _ [171, 112, 172, 173, 174, 24, 175, 176, 177, 178, 179, 180, 181, 182, 183, 184, 196, 197, 198, 199] rfl
set_option maxRecDepth 100000 in
theorem hgL_does_X7_change_3 : ∀ w ∈ wsX70, w ∈ wsL_does := xw_in _ [409, 410, 411, 412, 413, 414, 415, 416] rfl
set_option maxRecDepth 100000 in
theorem hgL_does_X7_change_4 : ∀ w ∈ wsX60, w ∈ wsL_does := xw_in _ [417, 418, 419, 420] rfl
set_option maxRecDepth 100000 in
theorem hgL_does_X7_change_5 : ∀ w ∈ wsX50, w ∈ wsL_does := xw_in _ [421, 422, 423, 424, 425, 426] rfl
set_option maxRecDepth 100000 in
theorem hgL_does_X7_change_6 : ∀ w ∈ wsX10, w ∈ wsL_does := xw_in _ [435, 436, 437] rfl
set_option maxRecDepth 100000 in
theorem hgL_does_X7_change_7 : ∀ w ∈ wsX20, w ∈ wsL_does := xw_in _ [427, 428, 429, 430, 431] rfl
set_option maxRecDepth 100000 in
theorem ggL_does_X7_change : GoodIn wsL_does wsX7_change := goodIn_sub (List.forall_mem_cons.mpr ⟨List.mem_of_getElem? (i := 192) rfl, List.forall_mem_append.mpr ⟨List.forall_mem_append.mpr ⟨List.forall_mem_append.mpr ⟨List.forall_mem_append.mpr ⟨List.forall_mem_append.mpr ⟨List.forall_mem_append.mpr ⟨hgL_does_X7_change_0, List.forall_mem_append.mpr ⟨hgL_does_X7_change_1, hgL_does_X7_change_2⟩⟩, hgL_does_X7_change_3⟩, hgL_does_X7_change_4⟩, hgL_does_X7_change_5⟩, hgL_does_X7_change_6⟩, hgL_does_X7_change_7⟩⟩) (by decide +kernel)
set_option maxRecDepth 20000 in
theorem gL_does_X7_change : GoodIn wsL_does (wsV RL 75 RX7 yX7_change wsX7_change) := goodIn_app (goodIn_of _ (by decide +kernel)) ggL_does_X7_change
set_option maxRecDepth 100000 in
theorem hgL_does_X7_wind_0 : ∀ w ∈ wsX7_wind_r1, w ∈ wsL_does := xw_in _ [16, 6, 9, 204, 205, 4, 206, 136, 137, 138, 144, 145, 146, 147, 148, 149, 150, 151, 152, 153, 154, 155, 156, 157] rfl
set_option maxRecDepth 100000 in
theorem hgL_does_X7_wind_1 : ∀ w ∈ wsX7_wind_r2, w ∈ wsL_does := xw_in _ [158, 159, 160, 161, 162, 163, 56, 57, 58, 164, 165, 166, 167, 168, 169, 170, 21, 171, 112, 172, 173, 174, 24, 23] rfl
set_option maxRecDepth 100000 in
theorem hgL_does_X7_wind_2 : ∀ w ∈ wsX7_wind_r3, w ∈ wsL_does := xw_in _ [175, 176, 177, 178, 179, 180, 181, 182, 183, 184] rfl
set_option maxRecDepth 100000 in
theorem hgL_does_X7_wind_3 : ∀ w ∈ wsX70, w ∈ wsL_does := xw_in _ [409, 410, 411, 412, 413, 414, 415, 416] rfl
set_option maxRecDepth 100000 in
theorem hgL_does_X7_wind_4 : ∀ w ∈ wsX60, w ∈ wsL_does := xw_in _ [417, 418, 419, 420] rfl
set_option maxRecDepth 100000 in
theorem hgL_does_X7_wind_5 : ∀ w ∈ wsX10, w ∈ wsL_does := xw_in _ [435, 436, 437] rfl
set_option maxRecDepth 100000 in
theorem hgL_does_X7_wind_6 : ∀ w ∈ wsX50, w ∈ wsL_does := xw_in _ [421, 422, 423, 424, 425, 426] rfl
set_option maxRecDepth 100000 in
theorem hgL_does_X7_wind_7 : ∀ w ∈ wsX20, w ∈ wsL_does := xw_in _ [427, 428, 429, 430, 431] rfl
set_option maxRecDepth 100000 in
theorem ggL_does_X7_wind : GoodIn wsL_does wsX7_wind := goodIn_sub (List.forall_mem_cons.mpr ⟨List.mem_of_getElem? (i := 203) rfl, List.forall_mem_append.mpr ⟨List.forall_mem_append.mpr ⟨List.forall_mem_append.mpr ⟨List.forall_mem_append.mpr ⟨List.forall_mem_append.mpr ⟨List.forall_mem_append.mpr ⟨hgL_does_X7_wind_0, List.forall_mem_append.mpr ⟨hgL_does_X7_wind_1, hgL_does_X7_wind_2⟩⟩, hgL_does_X7_wind_3⟩, hgL_does_X7_wind_4⟩, hgL_does_X7_wind_5⟩, hgL_does_X7_wind_6⟩, hgL_does_X7_wind_7⟩⟩) (by decide +kernel)
set_option maxRecDepth 20000 in
theorem gL_does_X7_wind : GoodIn wsL_does (wsV RL 40 RX7 yX7_wind wsX7_wind) := goodIn_app (goodIn_of _ (by decide +kernel)) ggL_does_X7_wind
set_option maxRecDepth 100000 in
theorem hgL_does_X7_set_0 : ∀ w ∈ wsX7_set_r1, w ∈ wsL_does := xw_in _ [211, 212, 213, 16, 6, 13, 195, 49, 4, 50, 136, 137, 138, 144, 145, 146, 147, 148, 149, 150, 151, 152, 153, 154] rfl
set_option maxRecDepth 100000 in
theorem hgL_does_X7_set_1 : ∀ w ∈ wsX7_set_r2, w ∈ wsL_does := xw_in _ [155, 156, 157, 158, 159, 160, 161, 162, 163, 56, 57, 58, 164, 165, 166, 167, 168, 169, 170, 21, 171, 112, 172, 173] rfl
set_option maxRecDepth 100000 in
theorem hgL_does_X7_set_2 : ∀ w ∈ wsX7_set_r3, w ∈ wsL_does := xw_in _ [174, 24, 23, 175, 176, 177, 178, 179, 180, 181, 182, 183, 184] rfl
set_option maxRecDepth 100000 in
theorem hgL_does_X7_set_3 : ∀ w ∈ wsX70, w ∈ wsL_does := xw_in _ [409, 410, 411, 412, 413, 414, 415, 416] rfl
set_option maxRecDepth 100000 in
theorem hgL_does_X7_set_4 : ∀ w ∈ wsX60, w ∈ wsL_does := xw_in _ [417, 418, 419, 420] rfl
set_option maxRecDepth 100000 in
theorem hgL_does_X7_set_5 : ∀ w ∈ wsX10, w ∈ wsL_does := xw_in _ [435, 436, 437] rfl
set_option maxRecDepth 100000 in
theorem hgL_does_X7_set_6 : ∀ w ∈ wsX50, w ∈ wsL_does := xw_in _ [421, 422, 423, 424, 425, 426] rfl
set_option maxRecDepth 100000 in
theorem hgL_does_X7_set_7 : ∀ w ∈ wsX20, w ∈ wsL_does := xw_in _ [427, 428, 429, 430, 431] rfl
set_option maxRecDepth 100000 in
theorem ggL_does_X7_set : GoodIn wsL_does wsX7_set := goodIn_sub (List.forall_mem_cons.mpr ⟨List.mem_of_getElem? (i := 210) rfl, List.forall_mem_append.mpr ⟨List.forall_mem_append.mpr ⟨List.forall_mem_append.mpr ⟨List.forall_mem_append.mpr ⟨List.forall_mem_append.mpr ⟨List.forall_mem_append.mpr ⟨hgL_does_X7_set_0, List.forall_mem_append.mpr ⟨hgL_does_X7_set_1, hgL_does_X7_set_2⟩⟩, hgL_does_X7_set_3⟩, hgL_does_X7_set_4⟩, hgL_does_X7_set_5⟩, hgL_does_X7_set_6⟩, hgL_does_X7_set_7⟩⟩) (by decide +kernel)
set_option maxRecDepth 20000 in
theorem gL_does_X7_set : GoodIn wsL_does (wsV RL 79 RX7 yX7_set wsX7_set) := goodIn_app (goodIn_of _ (by decide +kernel)) ggL_does_X7_set
theorem dL_does_0 : decode cL_does 0 = .ok (.aload_n 0, 1) := by decide +kernel
theorem dL_does_1 : decode cL_does 1 = .ok (.iconst 0, 1) := by decide +kernel
theorem dL_does_2 : decode cL_does 2 = .ok (.invokevirtual 8, 3) := by decide +kernel
theorem dL_does_5 : decode cL_does 5 = .ok (.istore_n 3, 1) := by decide +kernel
theorem dL_does_6 : decode cL_does 6 = .ok (.iload_n 1, 1) := by decide +kernel
theorem dL_does_7 : decode cL_does 7 = .ok (.iconst 5, 1) := by decide +kernel
theorem dL_does_8 : decode cL_does 8 = .ok (.ishr, 1) := by decide +kernel
theorem dL_does_9 : decode cL_does 9 = .ok (.iload_n 3, 1) := by decide +kernel
theorem dL_does_10 : decode cL_does 10 = .ok (.invokestatic 69, 3) := by decide +kernel
theorem dL_does_13 : decode cL_does 13 = .ok (.istore 4, 2) := by decide +kernel
theorem dL_does_15 : decode cL_does 15 = .ok (.iload_n 1, 1) := by decide +kernel
theorem dL_does_16 : decode cL_does 16 = .ok (.bipush 18, 2) := by decide +kernel
theorem dL_does_18 : decode cL_does 18 = .ok (.invokestatic 69, 3) := by decide +kernel
theorem dL_does_21 : decode cL_does 21 = .ok (.tableswitch 565 0 16 #[83, 83, 83, 199, 199, 199, 199, 199, 325, 325, 369, 480, 480, 505, 548, 548, 560], 83) := by decide +kernel
theorem dL_does_104 : decode cL_does 104 = .ok (.iconst 1, 1) := by decide +kernel
theorem dL_does_105 : decode cL_does 105 = .ok (.iload_n 2, 1) := by decide +kernel
theorem dL_does_106 : decode cL_does 106 = .ok (.bipush 9, 2) := by decide +kernel
theorem dL_does_108 : decode cL_does 108 = .ok (.invokestatic 69, 3) := by decide +kernel
theorem dL_does_111 : decode cL_does 111 = .ok (.iadd, 1) := by decide +kernel
theorem dL_does_112 : decode cL_does 112 = .ok (.istore 5, 2) := by decide +kernel
theorem dL_does_114 : decode cL_does 114 = .ok (.aload_n 0, 1) := by decide +kernel
theorem dL_does_115 : decode cL_does 115 = .ok (.iload 4, 2) := by decide +kernel
theorem dL_does_117 : decode cL_does 117 = .ok (.iconst 5, 1) := by decide +kernel
theorem dL_does_118 : decode cL_does 118 = .ok (.invokevirtual 14, 3) := by decide +kernel
theorem dL_does_121 : decode cL_does 121 = .ok (.invokestatic 58, 3) := by decide +kernel
theorem dL_does_124 : decode cL_does 124 = .ok (.istore 6, 2) := by decide +kernel
theorem dL_does_126 : decode cL_does 126 = .ok (.aload_n 0, 1) := by decide +kernel
theorem dL_does_127 : decode cL_does 127 = .ok (.iload 4, 2) := by decide +kernel
theorem dL_does_129 : decode cL_does 129 = .ok (.iload 5, 2) := by decide +kernel
theorem dL_does_131 : decode cL_does 131 = .ok (.invokevirtual 72, 3) := by decide +kernel
theorem dL_does_134 : decode cL_does 134 = .ok (.istore 7, 2) := by decide +kernel
theorem dL_does_136 : decode cL_does 136 = .ok (.iload_n 3, 1) := by decide +kernel
theorem dL_does_137 : decode cL_does 137 = .ok (.bipush 20, 2) := by decide +kernel
theorem dL_does_139 : decode cL_does 139 = .ok (.if_icmp .eq 9, 3) := by decide +kernel
theorem dL_does_142 : decode cL_does 142 = .ok (.iload 6, 2) := by decide +kernel
theorem dL_does_144 : decode cL_does 144 = .ok (.iconst 4, 1) := by decide +kernel
theorem dL_does_145 : decode cL_does 145 = .ok (.if_icmp .ne 18, 3) := by decide +kernel
theorem dL_does_148 : decode cL_does 148 = .ok (.iload 7, 2) := by decide +kernel
theorem dL_does_150 : decode cL_does 150 = .ok (.bipush (-4), 2) := by decide +kernel
theorem dL_does_152 : decode cL_does 152 = .ok (.if_icmp .ne 7, 3) := by decide +kernel
theorem dL_does_155 : decode cL_does 155 = .ok (.iconst 1, 1) := by decide +kernel
theorem dL_does_156 : decode cL_does 156 = .ok (.goto 63, 3) := by decide +kernel
theorem dL_does_159 : decode cL_does 159 = .ok (.iconst 0, 1) := by decide +kernel
theorem dL_does_160 : decode cL_does 160 = .ok (.goto 59, 3) := by decide +kernel
theorem dL_does_163 : decode cL_does 163 = .ok (.iload 7, 2) := by decide +kernel
theorem dL_does_165 : decode cL_does 165 = .ok (.iload_n 3, 1) := by decide +kernel
theorem dL_does_166 : decode cL_does 166 = .ok (.if_icmp .ne 52, 3) := by decide +kernel
theorem dL_does_169 : decode cL_does 169 = .ok (.aload_n 0, 1) := by decide +kernel
theorem dL_does_170 : decode cL_does 170 = .ok (.iload_n 3, 1) := by decide +kernel
theorem dL_does_171 : decode cL_does 171 = .ok (.iconst 0, 1) := by decide +kernel
theorem dL_does_172 : decode cL_does 172 = .ok (.invokevirtual 14, 3) := by decide +kernel
theorem dL_does_175 : decode cL_does 175 = .ok (.iload 4, 2) := by decide +kernel
theorem dL_does_177 : decode cL_does 177 = .ok (.if_icmp .ne 41, 3) := by decide +kernel
theorem dL_does_180 : decode cL_does 180 = .ok (.aload_n 0, 1) := by decide +kernel
theorem dL_does_181 : decode cL_does 181 = .ok (.iload_n 3, 1) := by decide +kernel
theorem dL_does_182 : decode cL_does 182 = .ok (.iconst 1, 1) := by decide +kernel
theorem dL_does_183 : decode cL_does 183 = .ok (.invokevirtual 14, 3) := by decide +kernel
theorem dL_does_186 : decode cL_does 186 = .ok (.iload 5, 2) := by decide +kernel
theorem dL_does_188 : decode cL_does 188 = .ok (.if_icmp .ne 30, 3) := by decide +kernel
theorem dL_does_191 : decode cL_does 191 = .ok (.aload_n 0, 1) := by decide +kernel
theorem dL_does_192 : decode cL_does 192 = .ok (.iload_n 3, 1) := by decide +kernel
theorem dL_does_193 : decode cL_does 193 = .ok (.iconst 2, 1) := by decide +kernel
theorem dL_does_194 : decode cL_does 194 = .ok (.invokevirtual 14, 3) := by decide +kernel
theorem dL_does_197 : decode cL_does 197 = .ok (.aload_n 0, 1) := by decide +kernel
theorem dL_does_198 : decode cL_does 198 = .ok (.iload_n 3, 1) := by decide +kernel
theorem dL_does_199 : decode cL_does 199 = .ok (.iconst 3, 1) := by decide +kernel
theorem dL_does_200 : decode cL_does 200 = .ok (.invokevirtual 14, 3) := by decide +kernel
theorem dL_does_203 : decode cL_does 203 = .ok (.iadd, 1) := by decide +kernel
theorem dL_does_204 : decode cL_does 204 = .ok (.aload_n 0, 1) := by decide +kernel
theorem dL_does_205 : decode cL_does 205 = .ok (.iload_n 3, 1) := by decide +kernel
theorem dL_does_206 : decode cL_does 206 = .ok (.iconst 4, 1) := by decide +kernel
theorem dL_does_207 : decode cL_does 207 = .ok (.invokevirtual 14, 3) := by decide +kernel
theorem dL_does_210 : decode cL_does 210 = .ok (.iadd, 1) := by decide +kernel
theorem dL_does_211 : decode cL_does 211 = .ok (.ifCond .ne 7, 3) := by decide +kernel
theorem dL_does_214 : decode cL_does 214 = .ok (.iconst 1, 1) := by decide +kernel
theorem dL_does_215 : decode cL_does 215 = .ok (.goto 4, 3) := by decide +kernel
theorem dL_does_218 : decode cL_does 218 = .ok (.iconst 0, 1) := by decide +kernel
theorem dL_does_219 : decode cL_does 219 = .ok (.ireturn, 1) := by decide +kernel
theorem dL_does_220 : decode cL_does 220 = .ok (.iload_n 2, 1) := by decide +kernel
theorem dL_does_221 : decode cL_does 221 = .ok (.iconst 4, 1) := by decide +kernel
theorem dL_does_222 : decode cL_does 222 = .ok (.invokestatic 69, 3) := by decide +kernel
theorem dL_does_225 : decode cL_does 225 = .ok (.istore 8, 2) := by decide +kernel
theorem dL_does_227 : decode cL_does 227 = .ok (.iload 8, 2) := by decide +kernel
theorem dL_does_229 : decode cL_does 229 = .ok (.iconst 3, 1) := by decide +kernel
theorem dL_does_230 : decode cL_does 230 = .ok (.if_icmp .ne 7, 3) := by decide +kernel
theorem dL_does_233 : decode cL_does 233 = .ok (.iconst 1, 1) := by decide +kernel
theorem dL_does_234 : decode cL_does 234 = .ok (.goto 7, 3) := by decide +kernel
theorem dL_does_237 : decode cL_does 237 = .ok (.iconst 2, 1) := by decide +kernel
theorem dL_does_238 : decode cL_does 238 = .ok (.iload 8, 2) := by decide +kernel
theorem dL_does_240 : decode cL_does 240 = .ok (.iadd, 1) := by decide +kernel
theorem dL_does_241 : decode cL_does 241 = .ok (.istore 9, 2) := by decide +kernel
theorem dL_does_243 : decode cL_does 243 = .ok (.iload 8, 2) := by decide +kernel
theorem dL_does_245 : decode cL_does 245 = .ok (.ifCond .ne 14, 3) := by decide +kernel
theorem dL_does_248 : decode cL_does 248 = .ok (.iload_n 2, 1) := by decide +kernel
theorem dL_does_249 : decode cL_does 249 = .ok (.iconst 2, 1) := by decide +kernel
theorem dL_does_250 : decode cL_does 250 = .ok (.ishr, 1) := by decide +kernel
theorem dL_does_251 : decode cL_does 251 = .ok (.bipush 6, 2) := by decide +kernel
theorem dL_does_253 : decode cL_does 253 = .ok (.invokestatic 69, 3) := by decide +kernel
theorem dL_does_256 : decode cL_does 256 = .ok (.goto 44, 3) := by decide +kernel
theorem dL_does_259 : decode cL_does 259 = .ok (.iload 8, 2) := by decide +kernel
theorem dL_does_261 : decode cL_does 261 = .ok (.iconst 1, 1) := by decide +kernel
theorem dL_does_262 : decode cL_does 262 = .ok (.if_icmp .ne 11, 3) := by decide +kernel
theorem dL_does_265 : decode cL_does 265 = .ok (.iload_n 2, 1) := by decide +kernel
theorem dL_does_266 : decode cL_does 266 = .ok (.iconst 2, 1) := by decide +kernel
theorem dL_does_267 : decode cL_does 267 = .ok (.ishr, 1) := by decide +kernel
theorem dL_does_268 : decode cL_does 268 = .ok (.iconst 1, 1) := by decide +kernel
theorem dL_does_269 : decode cL_does 269 = .ok (.iand, 1) := by decide +kernel
theorem dL_does_270 : decode cL_does 270 = .ok (.goto 30, 3) := by decide +kernel
theorem dL_does_273 : decode cL_does 273 = .ok (.iload 8, 2) := by decide +kernel
theorem dL_does_275 : decode cL_does 275 = .ok (.iconst 2, 1) := by decide +kernel
theorem dL_does_276 : decode cL_does 276 = .ok (.if_icmp .ne 14, 3) := by decide +kernel
theorem dL_does_279 : decode cL_does 279 = .ok (.iload_n 2, 1) := by decide +kernel
theorem dL_does_280 : decode cL_does 280 = .ok (.iconst 2, 1) := by decide +kernel
theorem dL_does_281 : decode cL_does 281 = .ok (.ishr, 1) := by decide +kernel
theorem dL_does_282 : decode cL_does 282 = .ok (.bipush 100, 2) := by decide +kernel
theorem dL_does_284 : decode cL_does 284 = .ok (.invokestatic 69, 3) := by decide +kernel
theorem dL_does_287 : decode cL_does 287 = .ok (.goto 13, 3) := by decide +kernel
theorem dL_does_290 : decode cL_does 290 = .ok (.iconst 1, 1) := by decide +kernel
theorem dL_does_291 : decode cL_does 291 = .ok (.iload_n 2, 1) := by decide +kernel
theorem dL_does_292 : decode cL_does 292 = .ok (.iconst 2, 1) := by decide +kernel
theorem dL_does_293 : decode cL_does 293 = .ok (.ishr, 1) := by decide +kernel
theorem dL_does_294 : decode cL_does 294 = .ok (.bipush 9, 2) := by decide +kernel
theorem dL_does_296 : decode cL_does 296 = .ok (.invokestatic 69, 3) := by decide +kernel
theorem dL_does_299 : decode cL_does 299 = .ok (.iadd, 1) := by decide +kernel
theorem dL_does_300 : decode cL_does 300 = .ok (.istore 10, 2) := by decide +kernel
theorem dL_does_302 : decode cL_does 302 = .ok (.aload_n 0, 1) := by decide +kernel
theorem dL_does_303 : decode cL_does 303 = .ok (.iload 4, 2) := by decide +kernel
theorem dL_does_305 : decode cL_does 305 = .ok (.iload 9, 2) := by decide +kernel
theorem dL_does_307 : decode cL_does 307 = .ok (.invokevirtual 14, 3) := by decide +kernel
theorem dL_does_310 : decode cL_does 310 = .ok (.istore 11, 2) := by decide +kernel
theorem dL_does_312 : decode cL_does 312 = .ok (.aload_n 0, 1) := by decide +kernel
theorem dL_does_313 : decode cL_does 313 = .ok (.iload 4, 2) := by decide +kernel
theorem dL_does_315 : decode cL_does 315 = .ok (.iload 8, 2) := by decide +kernel
theorem dL_does_317 : decode cL_does 317 = .ok (.iload 10, 2) := by decide +kernel
theorem dL_does_319 : decode cL_does 319 = .ok (.invokevirtual 75, 3) := by decide +kernel
theorem dL_does_322 : decode cL_does 322 = .ok (.iload 11, 2) := by decide +kernel
theorem dL_does_324 : decode cL_does 324 = .ok (.if_icmp .ne 20, 3) := by decide +kernel
theorem dL_does_327 : decode cL_does 327 = .ok (.aload_n 0, 1) := by decide +kernel
theorem dL_does_328 : decode cL_does 328 = .ok (.iload 4, 2) := by decide +kernel
theorem dL_does_330 : decode cL_does 330 = .ok (.iload 9, 2) := by decide +kernel
theorem dL_does_332 : decode cL_does 332 = .ok (.invokevirtual 14, 3) := by decide +kernel
theorem dL_does_335 : decode cL_does 335 = .ok (.iload 10, 2) := by decide +kernel
theorem dL_does_337 : decode cL_does 337 = .ok (.if_icmp .ne 7, 3) := by decide +kernel
theorem dL_does_340 : decode cL_does 340 = .ok (.iconst 1, 1) := by decide +kernel
theorem dL_does_341 : decode cL_does 341 = .ok (.goto 4, 3) := by decide +kernel
theorem dL_does_344 : decode cL_does 344 = .ok (.iconst 0, 1) := by decide +kernel
theorem dL_does_345 : decode cL_does 345 = .ok (.ireturn, 1) := by decide +kernel
theorem dL_does_346 : decode cL_does 346 = .ok (.aload_n 0, 1) := by decide +kernel
theorem dL_does_347 : decode cL_does 347 = .ok (.iconst 1, 1) := by decide +kernel
theorem dL_does_348 : decode cL_does 348 = .ok (.invokevirtual 8, 3) := by decide +kernel
theorem dL_does_351 : decode cL_does 351 = .ok (.istore 12, 2) := by decide +kernel
theorem dL_does_353 : decode cL_does 353 = .ok (.aload_n 0, 1) := by decide +kernel
theorem dL_does_354 : decode cL_does 354 = .ok (.iload_n 2, 1) := by decide +kernel
theorem dL_does_355 : decode cL_does 355 = .ok (.sipush 201, 3) := by decide +kernel
theorem dL_does_358 : decode cL_does 358 = .ok (.invokestatic 69, 3) := by decide +kernel
theorem dL_does_361 : decode cL_does 361 = .ok (.invokevirtual 40, 3) := by decide +kernel
theorem dL_does_364 : decode cL_does 364 = .ok (.iload 12, 2) := by decide +kernel
theorem dL_does_366 : decode cL_does 366 = .ok (.if_icmp .ne 22, 3) := by decide +kernel
theorem dL_does_369 : decode cL_does 369 = .ok (.aload_n 0, 1) := by decide +kernel
theorem dL_does_370 : decode cL_does 370 = .ok (.iconst 1, 1) := by decide +kernel
theorem dL_does_371 : decode cL_does 371 = .ok (.invokevirtual 8, 3) := by decide +kernel
theorem dL_does_374 : decode cL_does 374 = .ok (.iload_n 2, 1) := by decide +kernel
theorem dL_does_375 : decode cL_does 375 = .ok (.sipush 201, 3) := by decide +kernel
theorem dL_does_378 : decode cL_does 378 = .ok (.invokestatic 69, 3) := by decide +kernel
theorem dL_does_381 : decode cL_does 381 = .ok (.if_icmp .ne 7, 3) := by decide +kernel
theorem dL_does_384 : decode cL_does 384 = .ok (.iconst 1, 1) := by decide +kernel
theorem dL_does_385 : decode cL_does 385 = .ok (.goto 4, 3) := by decide +kernel
theorem dL_does_388 : decode cL_does 388 = .ok (.iconst 0, 1) := by decide +kernel
theorem dL_does_389 : decode cL_does 389 = .ok (.ireturn, 1) := by decide +kernel
theorem dL_does_390 : decode cL_does 390 = .ok (.iload_n 1, 1) := by decide +kernel
theorem dL_does_391 : decode cL_does 391 = .ok (.iconst 5, 1) := by decide +kernel
theorem dL_does_392 : decode cL_does 392 = .ok (.ishr, 1) := by decide +kernel
theorem dL_does_393 : decode cL_does 393 = .ok (.iconst 4, 1) := by decide +kernel
theorem dL_does_394 : decode cL_does 394 = .ok (.invokestatic 69, 3) := by decide +kernel
theorem dL_does_397 : decode cL_does 397 = .ok (.istore 13, 2) := by decide +kernel
theorem dL_does_399 : decode cL_does 399 = .ok (.iload 13, 2) := by decide +kernel
theorem dL_does_401 : decode cL_does 401 = .ok (.ifCond .ne 14, 3) := by decide +kernel
theorem dL_does_404 : decode cL_does 404 = .ok (.iconst 1, 1) := by decide +kernel
theorem dL_does_405 : decode cL_does 405 = .ok (.iload_n 2, 1) := by decide +kernel
theorem dL_does_406 : decode cL_does 406 = .ok (.bipush 20, 2) := by decide +kernel
theorem dL_does_408 : decode cL_does 408 = .ok (.invokestatic 69, 3) := by decide +kernel
theorem dL_does_411 : decode cL_does 411 = .ok (.iadd, 1) := by decide +kernel
theorem dL_does_412 : decode cL_does 412 = .ok (.goto 43, 3) := by decide +kernel
theorem dL_does_415 : decode cL_does 415 = .ok (.iload 13, 2) := by decide +kernel
theorem dL_does_417 : decode cL_does 417 = .ok (.iconst 1, 1) := by decide +kernel
theorem dL_does_418 : decode cL_does 418 = .ok (.if_icmp .ne 14, 3) := by decide +kernel
theorem dL_does_421 : decode cL_does 421 = .ok (.iconst 1, 1) := by decide +kernel
theorem dL_does_422 : decode cL_does 422 = .ok (.iload_n 2, 1) := by decide +kernel
theorem dL_does_423 : decode cL_does 423 = .ok (.bipush 60, 2) := by decide +kernel
theorem dL_does_425 : decode cL_does 425 = .ok (.invokestatic 69, 3) := by decide +kernel
theorem dL_does_428 : decode cL_does 428 = .ok (.iadd, 1) := by decide +kernel
theorem dL_does_429 : decode cL_does 429 = .ok (.goto 26, 3) := by decide +kernel
theorem dL_does_432 : decode cL_does 432 = .ok (.iload 13, 2) := by decide +kernel
theorem dL_does_434 : decode cL_does 434 = .ok (.iconst 2, 1) := by decide +kernel
theorem dL_does_435 : decode cL_does 435 = .ok (.if_icmp .ne 12, 3) := by decide +kernel
theorem dL_does_438 : decode cL_does 438 = .ok (.iload_n 2, 1) := by decide +kernel
theorem dL_does_439 : decode cL_does 439 = .ok (.bipush 101, 2) := by decide +kernel
theorem dL_does_441 : decode cL_does 441 = .ok (.invokestatic 69, 3) := by decide +kernel
theorem dL_does_444 : decode cL_does 444 = .ok (.goto 11, 3) := by decide +kernel
theorem dL_does_447 : decode cL_does 447 = .ok (.iconst 1, 1) := by decide +kernel
theorem dL_does_448 : decode cL_does 448 = .ok (.iload_n 2, 1) := by decide +kernel
theorem dL_does_449 : decode cL_does 449 = .ok (.bipush 30, 2) := by decide +kernel
theorem dL_does_451 : decode cL_does 451 = .ok (.invokestatic 69, 3) := by decide +kernel
theorem dL_does_454 : decode cL_does 454 = .ok (.iadd, 1) := by decide +kernel
theorem dL_does_455 : decode cL_does 455 = .ok (.istore 14, 2) := by decide +kernel
theorem dL_does_457 : decode cL_does 457 = .ok (.aload_n 0, 1) := by decide +kernel
theorem dL_does_458 : decode cL_does 458 = .ok (.bipush 8, 2) := by decide +kernel
theorem dL_does_460 : decode cL_does 460 = .ok (.iload 13, 2) := by decide +kernel
theorem dL_does_462 : decode cL_does 462 = .ok (.iadd, 1) := by decide +kernel
theorem dL_does_463 : decode cL_does 463 = .ok (.invokevirtual 8, 3) := by decide +kernel
theorem dL_does_466 : decode cL_does 466 = .ok (.istore 15, 2) := by decide +kernel
theorem dL_does_468 : decode cL_does 468 = .ok (.aload_n 0, 1) := by decide +kernel
theorem dL_does_469 : decode cL_does 469 = .ok (.iload 13, 2) := by decide +kernel
theorem dL_does_471 : decode cL_does 471 = .ok (.iload 14, 2) := by decide +kernel
theorem dL_does_473 : decode cL_does 473 = .ok (.invokevirtual 79, 3) := by decide +kernel
theorem dL_does_476 : decode cL_does 476 = .ok (.iload 15, 2) := by decide +kernel
theorem dL_does_478 : decode cL_does 478 = .ok (.if_icmp .ne 21, 3) := by decide +kernel
theorem dL_does_481 : decode cL_does 481 = .ok (.aload_n 0, 1) := by decide +kernel
theorem dL_does_482 : decode cL_does 482 = .ok (.bipush 8, 2) := by decide +kernel
theorem dL_does_484 : decode cL_does 484 = .ok (.iload 13, 2) := by decide +kernel
theorem dL_does_486 : decode cL_does 486 = .ok (.iadd, 1) := by decide +kernel
theorem dL_does_487 : decode cL_does 487 = .ok (.invokevirtual 8, 3) := by decide +kernel
theorem dL_does_490 : decode cL_does 490 = .ok (.iload 14, 2) := by decide +kernel
theorem dL_does_492 : decode cL_does 492 = .ok (.if_icmp .ne 7, 3) := by decide +kernel
theorem dL_does_495 : decode cL_does 495 = .ok (.iconst 1, 1) := by decide +kernel
theorem dL_does_496 : decode cL_does 496 = .ok (.goto 4, 3) := by decide +kernel
theorem dL_does_499 : decode cL_does 499 = .ok (.iconst 0, 1) := by decide +kernel
theorem dL_does_500 : decode cL_does 500 = .ok (.ireturn, 1) := by decide +kernel
theorem dL_does_501 : decode cL_does 501 = .ok (.aload_n 0, 1) := by decide +kernel
theorem dL_does_502 : decode cL_does 502 = .ok (.iconst 1, 1) := by decide +kernel
theorem dL_does_503 : decode cL_does 503 = .ok (.iload_n 2, 1) := by decide +kernel
theorem dL_does_504 : decode cL_does 504 = .ok (.iload_n 2, 1) := by decide +kernel
theorem dL_does_505 : decode cL_does 505 = .ok (.iconst 5, 1) := by decide +kernel
theorem dL_does_506 : decode cL_does 506 = .ok (.ishr, 1) := by decide +kernel
theorem dL_does_507 : decode cL_does 507 = .ok (.iconst 1, 1) := by decide +kernel
theorem dL_does_508 : decode cL_does 508 = .ok (.iand, 1) := by decide +kernel
theorem dL_does_509 : decode cL_does 509 = .ok (.ifCond .ne 8, 3) := by decide +kernel
theorem dL_does_512 : decode cL_does 512 = .ok (.bipush 24, 2) := by decide +kernel
theorem dL_does_514 : decode cL_does 514 = .ok (.goto 4, 3) := by decide +kernel
theorem dL_does_517 : decode cL_does 517 = .ok (.iconst 3, 1) := by decide +kernel
theorem dL_does_518 : decode cL_does 518 = .ok (.invokestatic 69, 3) := by decide +kernel
theorem dL_does_521 : decode cL_does 521 = .ok (.iadd, 1) := by decide +kernel
theorem dL_does_522 : decode cL_does 522 = .ok (.invokestatic 82, 3) := by decide +kernel
theorem dL_does_525 : decode cL_does 525 = .ok (.ireturn, 1) := by decide +kernel
theorem dL_does_526 : decode cL_does 526 = .ok (.iload_n 2, 1) := by decide +kernel
theorem dL_does_527 : decode cL_does 527 = .ok (.iconst 1, 1) := by decide +kernel
theorem dL_does_528 : decode cL_does 528 = .ok (.iand, 1) := by decide +kernel
theorem dL_does_529 : decode cL_does 529 = .ok (.ifCond .eq 34, 3) := by decide +kernel
theorem dL_does_532 : decode cL_does 532 = .ok (.aload_n 0, 1) := by decide +kernel
theorem dL_does_533 : decode cL_does 533 = .ok (.iconst 1, 1) := by decide +kernel
theorem dL_does_534 : decode cL_does 534 = .ok (.iload_n 2, 1) := by decide +kernel
theorem dL_does_535 : decode cL_does 535 = .ok (.iconst 1, 1) := by decide +kernel
theorem dL_does_536 : decode cL_does 536 = .ok (.ishr, 1) := by decide +kernel
theorem dL_does_537 : decode cL_does 537 = .ok (.sipush 200, 3) := by decide +kernel
theorem dL_does_540 : decode cL_does 540 = .ok (.invokestatic 69, 3) := by decide +kernel
theorem dL_does_543 : decode cL_does 543 = .ok (.iadd, 1) := by decide +kernel
theorem dL_does_544 : decode cL_does 544 = .ok (.iload 4, 2) := by decide +kernel
theorem dL_does_546 : decode cL_does 546 = .ok (.iconst 1, 1) := by decide +kernel
theorem dL_does_547 : decode cL_does 547 = .ok (.iload_n 2, 1) := by decide +kernel
theorem dL_does_548 : decode cL_does 548 = .ok (.bipush 9, 2) := by decide +kernel
theorem dL_does_550 : decode cL_does 550 = .ok (.ishr, 1) := by decide +kernel
theorem dL_does_551 : decode cL_does 551 = .ok (.bipush 12, 2) := by decide +kernel
theorem dL_does_553 : decode cL_does 553 = .ok (.invokestatic 69, 3) := by decide +kernel
theorem dL_does_556 : decode cL_does 556 = .ok (.iadd, 1) := by decide +kernel
theorem dL_does_557 : decode cL_does 557 = .ok (.invokestatic 86, 3) := by decide +kernel
theorem dL_does_560 : decode cL_does 560 = .ok (.ifCond .eq 7, 3) := by decide +kernel
theorem dL_does_563 : decode cL_does 563 = .ok (.iconst 1, 1) := by decide +kernel
theorem dL_does_564 : decode cL_does 564 = .ok (.goto 4, 3) := by decide +kernel
theorem dL_does_567 : decode cL_does 567 = .ok (.iconst 0, 1) := by decide +kernel
theorem dL_does_568 : decode cL_does 568 = .ok (.ireturn, 1) := by decide +kernel
theorem dL_does_569 : decode cL_does 569 = .ok (.aload_n 0, 1) := by decide +kernel
theorem dL_does_570 : decode cL_does 570 = .ok (.iload 4, 2) := by decide +kernel
theorem dL_does_572 : decode cL_does 572 = .ok (.iload_n 2, 1) := by decide +kernel
theorem dL_does_573 : decode cL_does 573 = .ok (.iload_n 3, 1) := by decide +kernel
theorem dL_does_574 : decode cL_does 574 = .ok (.invokestatic 69, 3) := by decide +kernel
theorem dL_does_577 : decode cL_does 577 = .ok (.invokestatic 90, 3) := by decide +kernel
theorem dL_does_580 : decode cL_does 580 = .ok (.ireturn, 1) := by decide +kernel
theorem dL_does_581 : decode cL_does 581 = .ok (.aload_n 0, 1) := by decide +kernel
theorem dL_does_582 : decode cL_does 582 = .ok (.invokestatic 94, 3) := by decide +kernel
theorem dL_does_585 : decode cL_does 585 = .ok (.ireturn, 1) := by decide +kernel
theorem dL_does_586 : decode cL_does 586 = .ok (.aload_n 0, 1) := by decide +kernel
theorem dL_does_587 : decode cL_does 587 = .ok (.iload 4, 2) := by decide +kernel
theorem dL_does_589 : decode cL_does 589 = .ok (.invokestatic 98, 3) := by decide +kernel
theorem dL_does_592 : decode cL_does 592 = .ok (.ireturn, 1) := by decide +kernel
