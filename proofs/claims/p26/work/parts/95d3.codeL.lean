set_option maxRecDepth 100000 in
theorem hgL_does_L_isStreet_0 : ∀ w ∈ wsL_isStreet_r1, w ∈ wsL_does := xw_in _ [1, 2, 3, 4, 5, 6, 7, 8, 9, 10, 11, 12, 13, 14, 15, 16, 17, 18, 19, 20, 21, 22, 23, 24] rfl
set_option maxRecDepth 100000 in
theorem hgL_does_L_isStreet_1 : ∀ w ∈ wsL_isStreet_r2, w ∈ wsL_does := xw_in _ [25, 26, 27, 28, 29, 30, 31, 32, 33, 34, 35, 36, 37, 38, 39, 40, 41, 42, 43, 44, 45, 46, 47, 48] rfl
set_option maxRecDepth 100000 in
theorem hgL_does_L_isStreet_2 : ∀ w ∈ wsL_isStreet_r3, w ∈ wsL_does := xw_in _ [49, 50, 51, 52, 53, 54, 55, 56, 57, 58, 59, 60, 61, 62, 63, 64, 65, 66, 67, 68, 69, 70, 71, 72] rfl
set_option maxRecDepth 100000 in
theorem hgL_does_L_isStreet_3 : ∀ w ∈ wsL_isStreet_r4, w ∈ wsL_does := xw_in _ [73, 74, 75, 76, 77, 78, 79, 80, 81, 82, 83, 84, 85, 86, 87, 88, 89, 90, 91, 92, 98, 99, 100, 101] rfl
set_option maxRecDepth 100000 in
theorem hgL_does_L_isStreet_4 : ∀ w ∈ wsL_isStreet_r5, w ∈ wsL_does := xw_in _ [102, 103, 104, 105, 106, 107, 108, 109, 110, 111, 112, 113, 114, 115, 116, 117, 118, 119, 120, 121, 122, 123, 124, 125] rfl
set_option maxRecDepth 100000 in
theorem hgL_does_L_isStreet_5 : ∀ w ∈ wsL_isStreet_r6, w ∈ wsL_does := xw_in _ [126, 127, 128, 229, 230, 231, 232, 233, 234, 235, 236, 237, 238, 239, 240, 241, 242, 243] rfl
set_option maxRecDepth 100000 in
theorem hgL_does_L_isStreet_6 : ∀ w ∈ wsX70, w ∈ wsL_does := xw_in _ [409, 410, 411, 412, 413, 414, 415, 416] rfl
set_option maxRecDepth 100000 in
theorem hgL_does_L_isStreet_7 : ∀ w ∈ wsX60, w ∈ wsL_does := xw_in _ [417, 418, 419, 420] rfl
set_option maxRecDepth 100000 in
theorem hgL_does_L_isStreet_8 : ∀ w ∈ wsX50, w ∈ wsL_does := xw_in _ [421, 422, 423, 424, 425, 426] rfl
set_option maxRecDepth 100000 in
theorem hgL_does_L_isStreet_9 : ∀ w ∈ wsX20, w ∈ wsL_does := xw_in _ [427, 428, 429, 430, 431] rfl
set_option maxRecDepth 100000 in
theorem hgL_does_L_isStreet_10 : ∀ w ∈ wsX30, w ∈ wsL_does := xw_in _ [432, 433, 434] rfl
set_option maxRecDepth 100000 in
theorem hgL_does_L_isStreet_11 : ∀ w ∈ wsX10, w ∈ wsL_does := xw_in _ [435, 436, 437] rfl
set_option maxRecDepth 100000 in
theorem hgL_does_L_isStreet_12 : ∀ w ∈ wsX00, w ∈ wsL_does := xw_in _ [438, 439, 440] rfl
set_option maxRecDepth 100000 in
theorem ggL_does_L_isStreet : GoodIn wsL_does wsL_isStreet := goodIn_sub (List.forall_mem_cons.mpr ⟨List.mem_of_getElem? (i := 408) rfl, List.forall_mem_append.mpr ⟨List.forall_mem_append.mpr ⟨List.forall_mem_append.mpr ⟨List.forall_mem_append.mpr ⟨List.forall_mem_append.mpr ⟨List.forall_mem_append.mpr ⟨List.forall_mem_append.mpr ⟨List.forall_mem_append.mpr ⟨hgL_does_L_isStreet_0, List.forall_mem_append.mpr ⟨hgL_does_L_isStreet_1, List.forall_mem_append.mpr ⟨hgL_does_L_isStreet_2, List.forall_mem_append.mpr ⟨hgL_does_L_isStreet_3, List.forall_mem_append.mpr ⟨hgL_does_L_isStreet_4, hgL_does_L_isStreet_5⟩⟩⟩⟩⟩, hgL_does_L_isStreet_6⟩, hgL_does_L_isStreet_7⟩, hgL_does_L_isStreet_8⟩, hgL_does_L_isStreet_9⟩, hgL_does_L_isStreet_10⟩, hgL_does_L_isStreet_11⟩, hgL_does_L_isStreet_12⟩⟩) (by decide +kernel)
set_option maxRecDepth 20000 in
theorem gL_does_L_isStreet : GoodIn wsL_does (va_wsS RL 98 yL_isStreet wsL_isStreet) := goodIn_app (goodIn_of _ (by decide +kernel)) ggL_does_L_isStreet
