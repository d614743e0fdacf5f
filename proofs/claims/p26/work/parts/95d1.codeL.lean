set_option maxRecDepth 100000 in
theorem hgL_does_L_isPassed_0 : ∀ w ∈ wsL_isPassed_r1, w ∈ wsL_does := xw_in _ [1, 2, 3, 4, 5, 6, 7, 8, 9, 10, 11, 12, 13, 14, 15, 16, 17, 18, 19, 20, 21, 22, 23, 24] rfl
set_option maxRecDepth 100000 in
theorem hgL_does_L_isPassed_1 : ∀ w ∈ wsL_isPassed_r2, w ∈ wsL_does := xw_in _ [25, 26, 27, 28, 29, 30, 31, 32, 33, 34, 35, 36, 37, 38, 39, 40, 41, 42, 43, 44, 45, 46, 47, 48] rfl
set_option maxRecDepth 100000 in
theorem hgL_does_L_isPassed_2 : ∀ w ∈ wsL_isPassed_r3, w ∈ wsL_does := xw_in _ [49, 50, 51, 52, 53, 54, 55, 56, 57, 58, 59, 60, 61, 62, 63, 64, 65, 66, 67, 68, 69, 70, 71, 72] rfl
set_option maxRecDepth 100000 in
theorem hgL_does_L_isPassed_3 : ∀ w ∈ wsL_isPassed_r4, w ∈ wsL_does := xw_in _ [73, 74, 75, 76, 77, 78, 79, 80, 81, 82, 83, 84, 85, 86, 87, 88, 89, 90, 91, 92, 217, 218, 219, 220] rfl
set_option maxRecDepth 100000 in
theorem hgL_does_L_isPassed_4 : ∀ w ∈ wsL_isPassed_r5, w ∈ wsL_does := xw_in _ [221, 222, 223, 224, 225, 226, 178, 227, 183, 228, 195, 229, 230, 231, 232, 107, 233, 234, 235, 236, 237, 238, 239, 240] rfl
set_option maxRecDepth 100000 in
theorem hgL_does_L_isPassed_5 : ∀ w ∈ wsL_isPassed_r6, w ∈ wsL_does := xw_in _ [241, 242, 243, 244, 245, 246, 247, 136, 137, 138, 144, 145, 146, 147, 148, 149, 150, 151, 152, 153, 154, 155, 156, 157] rfl
set_option maxRecDepth 100000 in
theorem hgL_does_L_isPassed_6 : ∀ w ∈ wsL_isPassed_r7, w ∈ wsL_does := xw_in _ [158, 159, 160, 161, 162, 163, 164, 165, 166, 167, 168, 169, 170, 171, 112, 172, 173, 174, 175, 176, 177, 179, 180, 181] rfl
set_option maxRecDepth 100000 in
theorem hgL_does_L_isPassed_7 : ∀ w ∈ wsL_isPassed_r8, w ∈ wsL_does := xw_in _ [182, 184, 248, 249, 250, 251, 252, 253, 254, 255, 256, 257, 258] rfl
set_option maxRecDepth 100000 in
theorem hgL_does_L_isPassed_8 : ∀ w ∈ wsX70, w ∈ wsL_does := xw_in _ [409, 410, 411, 412, 413, 414, 415, 416] rfl
set_option maxRecDepth 100000 in
theorem hgL_does_L_isPassed_9 : ∀ w ∈ wsX60, w ∈ wsL_does := xw_in _ [417, 418, 419, 420] rfl
set_option maxRecDepth 100000 in
theorem hgL_does_L_isPassed_10 : ∀ w ∈ wsX50, w ∈ wsL_does := xw_in _ [421, 422, 423, 424, 425, 426] rfl
set_option maxRecDepth 100000 in
theorem hgL_does_L_isPassed_11 : ∀ w ∈ wsX20, w ∈ wsL_does := xw_in _ [427, 428, 429, 430, 431] rfl
set_option maxRecDepth 100000 in
theorem hgL_does_L_isPassed_12 : ∀ w ∈ wsX30, w ∈ wsL_does := xw_in _ [432, 433, 434] rfl
set_option maxRecDepth 100000 in
theorem hgL_does_L_isPassed_13 : ∀ w ∈ wsX10, w ∈ wsL_does := xw_in _ [435, 436, 437] rfl
set_option maxRecDepth 100000 in
theorem hgL_does_L_isPassed_14 : ∀ w ∈ wsX00, w ∈ wsL_does := xw_in _ [438, 439, 440] rfl
set_option maxRecDepth 100000 in
theorem ggL_does_L_isPassed : GoodIn wsL_does wsL_isPassed := goodIn_sub (List.forall_mem_cons.mpr ⟨List.mem_of_getElem? (i := 216) rfl, List.forall_mem_append.mpr ⟨List.forall_mem_append.mpr ⟨List.forall_mem_append.mpr ⟨List.forall_mem_append.mpr ⟨List.forall_mem_append.mpr ⟨List.forall_mem_append.mpr ⟨List.forall_mem_append.mpr ⟨List.forall_mem_append.mpr ⟨hgL_does_L_isPassed_0, List.forall_mem_append.mpr ⟨hgL_does_L_isPassed_1, List.forall_mem_append.mpr ⟨hgL_does_L_isPassed_2, List.forall_mem_append.mpr ⟨hgL_does_L_isPassed_3, List.forall_mem_append.mpr ⟨hgL_does_L_isPassed_4, List.forall_mem_append.mpr ⟨hgL_does_L_isPassed_5, List.forall_mem_append.mpr ⟨hgL_does_L_isPassed_6, hgL_does_L_isPassed_7⟩⟩⟩⟩⟩⟩⟩, hgL_does_L_isPassed_8⟩, hgL_does_L_isPassed_9⟩, hgL_does_L_isPassed_10⟩, hgL_does_L_isPassed_11⟩, hgL_does_L_isPassed_12⟩, hgL_does_L_isPassed_13⟩, hgL_does_L_isPassed_14⟩⟩) (by decide +kernel)
set_option maxRecDepth 20000 in
theorem gL_does_L_isPassed : GoodIn wsL_does (va_wsS RL 82 yL_isPassed wsL_isPassed) := goodIn_app (goodIn_of _ (by decide +kernel)) ggL_does_L_isPassed
set_option maxRecDepth 100000 in
theorem hgL_does_L_isLeast_0 : ∀ w ∈ wsL_isLeast_r1, w ∈ wsL_does := xw_in _ [262, 263, 264, 4, 265, 29, 6, 7, 136, 137, 138, 30, 31, 32, 33, 34, 35, 36, 37, 38, 39, 40, 41, 42] rfl
set_option maxRecDepth 100000 in
theorem hgL_does_L_isLeast_1 : ∀ w ∈ wsL_isLeast_r2, w ∈ wsL_does := xw_in _ [43, 44, 45, 46, 47, 21, 48, 23, 49, 50, 51, 52, 53, 54, 55, 56, 57, 58, 59, 60, 61, 62, 63, 64] rfl
set_option maxRecDepth 100000 in
theorem hgL_does_L_isLeast_2 : ∀ w ∈ wsL_isLeast_r3, w ∈ wsL_does := xw_in _ [65, 66, 67, 68, 69, 70, 71, 72, 73, 74, 75, 266, 267, 268, 269, 204, 205, 206, 25, 26, 27, 28, 270, 271] rfl
set_option maxRecDepth 100000 in
theorem hgL_does_L_isLeast_3 : ∀ w ∈ wsL_isLeast_r4, w ∈ wsL_does := xw_in _ [272, 273, 104, 107, 234, 235, 236, 237, 238, 98, 99, 100, 101, 102, 103, 105, 106, 108, 109, 110, 111, 112, 113, 114] rfl
set_option maxRecDepth 100000 in
theorem hgL_does_L_isLeast_4 : ∀ w ∈ wsL_isLeast_r5, w ∈ wsL_does := xw_in _ [115, 116, 117, 118, 119, 120, 121, 122, 123, 124, 125, 126, 127, 128, 200, 201, 202, 203, 16, 9, 144, 145, 146, 147] rfl
set_option maxRecDepth 100000 in
theorem hgL_does_L_isLeast_5 : ∀ w ∈ wsL_isLeast_r6, w ∈ wsL_does := xw_in _ [148, 149, 150, 151, 152, 153, 154, 155, 156, 157, 158, 159, 160, 161, 162, 163, 164, 165, 166, 167, 168, 169, 170, 171] rfl
set_option maxRecDepth 100000 in
theorem hgL_does_L_isLeast_6 : ∀ w ∈ wsL_isLeast_r7, w ∈ wsL_does := xw_in _ [172, 173, 174, 24, 175, 176, 177, 178, 179, 180, 181, 182, 183, 184, 229, 230, 231, 232, 92, 80, 81, 82, 83, 84] rfl
set_option maxRecDepth 100000 in
theorem hgL_does_L_isLeast_7 : ∀ w ∈ wsL_isLeast_r8, w ∈ wsL_does := xw_in _ [85, 86, 233, 239, 240, 241, 242, 243, 87, 1, 2, 3, 5, 8, 10, 11, 12, 13, 14, 15, 17, 18, 19, 20] rfl
set_option maxRecDepth 100000 in
theorem hgL_does_L_isLeast_8 : ∀ w ∈ wsL_isLeast_r9, w ∈ wsL_does := xw_in _ [22, 76, 77, 78, 79, 88, 89, 90, 91] rfl
set_option maxRecDepth 100000 in
theorem hgL_does_L_isLeast_9 : ∀ w ∈ wsX70, w ∈ wsL_does := xw_in _ [409, 410, 411, 412, 413, 414, 415, 416] rfl
set_option maxRecDepth 100000 in
theorem hgL_does_L_isLeast_10 : ∀ w ∈ wsX60, w ∈ wsL_does := xw_in _ [417, 418, 419, 420] rfl
set_option maxRecDepth 100000 in
theorem hgL_does_L_isLeast_11 : ∀ w ∈ wsX50, w ∈ wsL_does := xw_in _ [421, 422, 423, 424, 425, 426] rfl
set_option maxRecDepth 100000 in
theorem hgL_does_L_isLeast_12 : ∀ w ∈ wsX00, w ∈ wsL_does := xw_in _ [438, 439, 440] rfl
set_option maxRecDepth 100000 in
theorem hgL_does_L_isLeast_13 : ∀ w ∈ wsX10, w ∈ wsL_does := xw_in _ [435, 436, 437] rfl
set_option maxRecDepth 100000 in
theorem hgL_does_L_isLeast_14 : ∀ w ∈ wsX20, w ∈ wsL_does := xw_in _ [427, 428, 429, 430, 431] rfl
set_option maxRecDepth 100000 in
theorem hgL_does_L_isLeast_15 : ∀ w ∈ wsX30, w ∈ wsL_does := xw_in _ [432, 433, 434] rfl
set_option maxRecDepth 100000 in
theorem ggL_does_L_isLeast : GoodIn wsL_does wsL_isLeast := goodIn_sub (List.forall_mem_cons.mpr ⟨List.mem_of_getElem? (i := 261) rfl, List.forall_mem_append.mpr ⟨List.forall_mem_append.mpr ⟨List.forall_mem_append.mpr ⟨List.forall_mem_append.mpr ⟨List.forall_mem_append.mpr ⟨List.forall_mem_append.mpr ⟨List.forall_mem_append.mpr ⟨List.forall_mem_append.mpr ⟨hgL_does_L_isLeast_0, List.forall_mem_append.mpr ⟨hgL_does_L_isLeast_1, List.forall_mem_append.mpr ⟨hgL_does_L_isLeast_2, List.forall_mem_append.mpr ⟨hgL_does_L_isLeast_3, List.forall_mem_append.mpr ⟨hgL_does_L_isLeast_4, List.forall_mem_append.mpr ⟨hgL_does_L_isLeast_5, List.forall_mem_append.mpr ⟨hgL_does_L_isLeast_6, List.forall_mem_append.mpr ⟨hgL_does_L_isLeast_7, hgL_does_L_isLeast_8⟩⟩⟩⟩⟩⟩⟩⟩, hgL_does_L_isLeast_9⟩, hgL_does_L_isLeast_10⟩, hgL_does_L_isLeast_11⟩, hgL_does_L_isLeast_12⟩, hgL_does_L_isLeast_13⟩, hgL_does_L_isLeast_14⟩, hgL_does_L_isLeast_15⟩⟩) (by decide +kernel)
set_option maxRecDepth 20000 in
theorem gL_does_L_isLeast : GoodIn wsL_does (va_wsS RL 86 yL_isLeast wsL_isLeast) := goodIn_app (goodIn_of _ (by decide +kernel)) ggL_does_L_isLeast
