set_option maxRecDepth 100000 in
theorem hgL_does_L_isWithout_0 : ∀ w ∈ wsL_isWithout_r1, w ∈ wsL_does := xw_in _ [277, 278, 279, 4, 280, 6, 7, 102, 29, 92, 9, 107, 46, 47, 21, 48, 23, 49, 50, 80, 81, 82, 33, 83] rfl
set_option maxRecDepth 100000 in
theorem hgL_does_L_isWithout_1 : ∀ w ∈ wsL_isWithout_r2, w ∈ wsL_does := xw_in _ [65, 84, 85, 31, 32, 34, 35, 36, 37, 38, 39, 86, 41, 42, 43, 44, 45, 51, 52, 53, 54, 55, 56, 57] rfl
set_option maxRecDepth 100000 in
theorem hgL_does_L_isWithout_2 : ∀ w ∈ wsL_isWithout_r3, w ∈ wsL_does := xw_in _ [58, 59, 60, 30, 40, 98, 99, 100, 101, 103, 104, 105, 106, 108, 109, 110, 111, 112, 113, 114, 115, 116, 117, 118] rfl
set_option maxRecDepth 100000 in
theorem hgL_does_L_isWithout_3 : ∀ w ∈ wsL_isWithout_r4, w ∈ wsL_does := xw_in _ [119, 120, 121, 122, 123, 124, 125, 126, 127, 128, 1, 2, 3, 5, 8, 10, 11, 12, 13, 14, 15, 16, 17, 18] rfl
set_option maxRecDepth 100000 in
theorem hgL_does_L_isWithout_4 : ∀ w ∈ wsL_isWithout_r5, w ∈ wsL_does := xw_in _ [19, 20, 22, 24, 25, 26, 27, 28, 61, 62, 63, 64, 66, 67, 68, 69, 70, 71, 72, 73, 74, 75, 76, 77] rfl
set_option maxRecDepth 100000 in
theorem hgL_does_L_isWithout_5 : ∀ w ∈ wsL_isWithout_r6, w ∈ wsL_does := xw_in _ [78, 79, 87, 88, 89, 90, 91, 229, 230, 231, 232, 233, 234, 235, 236, 237, 238, 239, 240, 241, 242, 243] rfl
set_option maxRecDepth 100000 in
theorem hgL_does_L_isWithout_6 : ∀ w ∈ wsX70, w ∈ wsL_does := xw_in _ [409, 410, 411, 412, 413, 414, 415, 416] rfl
set_option maxRecDepth 100000 in
theorem hgL_does_L_isWithout_7 : ∀ w ∈ wsX60, w ∈ wsL_does := xw_in _ [417, 418, 419, 420] rfl
set_option maxRecDepth 100000 in
theorem hgL_does_L_isWithout_8 : ∀ w ∈ wsX50, w ∈ wsL_does := xw_in _ [421, 422, 423, 424, 425, 426] rfl
set_option maxRecDepth 100000 in
theorem hgL_does_L_isWithout_9 : ∀ w ∈ wsX00, w ∈ wsL_does := xw_in _ [438, 439, 440] rfl
set_option maxRecDepth 100000 in
theorem hgL_does_L_isWithout_10 : ∀ w ∈ wsX20, w ∈ wsL_does := xw_in _ [427, 428, 429, 430, 431] rfl
set_option maxRecDepth 100000 in
theorem hgL_does_L_isWithout_11 : ∀ w ∈ wsX30, w ∈ wsL_does := xw_in _ [432, 433, 434] rfl
set_option maxRecDepth 100000 in
theorem hgL_does_L_isWithout_12 : ∀ w ∈ wsX10, w ∈ wsL_does := xw_in _ [435, 436, 437] rfl
set_option maxRecDepth 100000 in
theorem ggL_does_L_isWithout : GoodIn wsL_does wsL_isWithout := goodIn_sub (List.forall_mem_cons.mpr ⟨List.mem_of_getElem? (i := 276) rfl, List.forall_mem_append.mpr ⟨List.forall_mem_append.mpr ⟨List.forall_mem_append.mpr ⟨List.forall_mem_append.mpr ⟨List.forall_mem_append.mpr ⟨List.forall_mem_append.mpr ⟨List.forall_mem_append.mpr ⟨List.forall_mem_append.mpr ⟨hgL_does_L_isWithout_0, List.forall_mem_append.mpr ⟨hgL_does_L_isWithout_1, List.forall_mem_append.mpr ⟨hgL_does_L_isWithout_2, List.forall_mem_append.mpr ⟨hgL_does_L_isWithout_3, List.forall_mem_append.mpr ⟨hgL_does_L_isWithout_4, hgL_does_L_isWithout_5⟩⟩⟩⟩⟩, hgL_does_L_isWithout_6⟩, hgL_does_L_isWithout_7⟩, hgL_does_L_isWithout_8⟩, hgL_does_L_isWithout_9⟩, hgL_does_L_isWithout_10⟩, hgL_does_L_isWithout_11⟩, hgL_does_L_isWithout_12⟩⟩) (by decide +kernel)
set_option maxRecDepth 20000 in
theorem gL_does_L_isWithout : GoodIn wsL_does (va_wsS RL 90 yL_isWithout wsL_isWithout) := goodIn_app (goodIn_of _ (by decide +kernel)) ggL_does_L_isWithout
set_option maxRecDepth 100000 in
theorem hgL_does_L_isWritten_0 : ∀ w ∈ wsL_isWritten_r1, w ∈ wsL_does := xw_in _ [1, 2, 3, 4, 5, 6, 7, 8, 9, 10, 11, 12, 13, 14, 15, 16, 17, 18, 19, 20, 21, 22, 23, 24] rfl
set_option maxRecDepth 100000 in
theorem hgL_does_L_isWritten_1 : ∀ w ∈ wsL_isWritten_r2, w ∈ wsL_does := xw_in _ [25, 26, 27, 28, 29, 30, 31, 32, 33, 34, 35, 36, 37, 38, 39, 40, 41, 42, 43, 44, 45, 46, 47, 48] rfl
set_option maxRecDepth 100000 in
theorem hgL_does_L_isWritten_2 : ∀ w ∈ wsL_isWritten_r3, w ∈ wsL_does := xw_in _ [49, 50, 51, 52, 53, 54, 55, 56, 57, 58, 59, 60, 61, 62, 63, 64, 65, 66, 67, 68, 69, 70, 71, 72] rfl
set_option maxRecDepth 100000 in
theorem hgL_does_L_isWritten_3 : ∀ w ∈ wsL_isWritten_r4, w ∈ wsL_does := xw_in _ [73, 74, 75, 76, 77, 78, 79, 80, 81, 82, 83, 84, 85, 86, 87, 88, 89, 90, 91, 92, 98, 99, 100, 101] rfl
set_option maxRecDepth 100000 in
theorem hgL_does_L_isWritten_4 : ∀ w ∈ wsL_isWritten_r5, w ∈ wsL_does := xw_in _ [102, 103, 104, 105, 106, 107, 108, 109, 110, 111, 112, 113, 114, 115, 116, 117, 118, 119, 120, 121, 122, 123, 124, 125] rfl
set_option maxRecDepth 100000 in
theorem hgL_does_L_isWritten_5 : ∀ w ∈ wsL_isWritten_r6, w ∈ wsL_does := xw_in _ [126, 127, 128, 284, 285, 286, 287, 288, 289, 290, 291, 292, 293, 294, 295, 296, 297, 298, 299, 300, 301, 302, 303, 304] rfl
set_option maxRecDepth 100000 in
theorem hgL_does_L_isWritten_6 : ∀ w ∈ wsL_isWritten_r7, w ∈ wsL_does := xw_in _ [305, 306, 307, 308, 309, 310, 311, 312, 165, 166, 167, 313, 314, 315, 316, 317, 318, 319, 320, 321, 322, 323, 324, 325] rfl
set_option maxRecDepth 100000 in
theorem hgL_does_L_isWritten_7 : ∀ w ∈ wsL_isWritten_r8, w ∈ wsL_does := xw_in _ [326, 327, 328, 329, 330, 331, 332, 333, 334, 335, 336, 337, 338, 339, 340, 137, 138, 341, 140, 141, 142, 143, 342, 186] rfl
set_option maxRecDepth 100000 in
theorem hgL_does_L_isWritten_8 : ∀ w ∈ wsL_isWritten_r9, w ∈ wsL_does := xw_in _ [187, 188, 172, 173, 174, 343, 344, 345, 346, 347, 348, 349, 350, 351, 352, 353, 354, 355, 356, 357, 358, 359, 360, 361] rfl
set_option maxRecDepth 100000 in
theorem hgL_does_L_isWritten_9 : ∀ w ∈ wsL_isWritten_r10, w ∈ wsL_does := xw_in _ [362, 363, 364, 365, 366, 367, 368, 369, 370, 371, 372, 373, 374, 375, 376, 377, 378, 379, 380, 381, 382, 383, 384, 385] rfl
set_option maxRecDepth 100000 in
theorem hgL_does_L_isWritten_10 : ∀ w ∈ wsL_isWritten_r11, w ∈ wsL_does := xw_in _ [386, 387, 195, 388, 389, 390, 391, 392, 144, 145, 146, 147, 148, 149, 150, 151, 152, 153, 154, 155, 156, 157, 158, 159] rfl
set_option maxRecDepth 100000 in
theorem hgL_does_L_isWritten_11 : ∀ w ∈ wsL_isWritten_r12, w ∈ wsL_does := xw_in _ [160, 161, 162, 163, 164, 168, 169, 170, 171, 175, 176, 177, 178, 179, 180, 181, 182, 183, 184, 393, 129, 130, 95, 131] rfl
set_option maxRecDepth 100000 in
theorem hgL_does_L_isWritten_12 : ∀ w ∈ wsL_isWritten_r13, w ∈ wsL_does := xw_in _ [394, 395, 396, 397, 398, 399, 400, 401, 402, 403, 404, 405] rfl
set_option maxRecDepth 100000 in
theorem hgL_does_L_isWritten_13 : ∀ w ∈ wsX70, w ∈ wsL_does := xw_in _ [409, 410, 411, 412, 413, 414, 415, 416] rfl
set_option maxRecDepth 100000 in
theorem hgL_does_L_isWritten_14 : ∀ w ∈ wsX60, w ∈ wsL_does := xw_in _ [417, 418, 419, 420] rfl
set_option maxRecDepth 100000 in
theorem hgL_does_L_isWritten_15 : ∀ w ∈ wsX50, w ∈ wsL_does := xw_in _ [421, 422, 423, 424, 425, 426] rfl
set_option maxRecDepth 100000 in
theorem hgL_does_L_isWritten_16 : ∀ w ∈ wsX20, w ∈ wsL_does := xw_in _ [427, 428, 429, 430, 431] rfl
set_option maxRecDepth 100000 in
theorem hgL_does_L_isWritten_17 : ∀ w ∈ wsX30, w ∈ wsL_does := xw_in _ [432, 433, 434] rfl
set_option maxRecDepth 100000 in
theorem hgL_does_L_isWritten_18 : ∀ w ∈ wsX10, w ∈ wsL_does := xw_in _ [435, 436, 437] rfl
set_option maxRecDepth 100000 in
theorem hgL_does_L_isWritten_19 : ∀ w ∈ wsX00, w ∈ wsL_does := xw_in _ [438, 439, 440] rfl
set_option maxRecDepth 100000 in
theorem hgL_does_L_isWritten_20 : ∀ w ∈ wsX40, w ∈ wsL_does := xw_in _ [441, 442, 443] rfl
set_option maxRecDepth 100000 in
theorem ggL_does_L_isWritten : GoodIn wsL_does wsL_isWritten := goodIn_sub (List.forall_mem_cons.mpr ⟨List.mem_of_getElem? (i := 283) rfl, List.forall_mem_append.mpr ⟨List.forall_mem_append.mpr ⟨List.forall_mem_append.mpr ⟨List.forall_mem_append.mpr ⟨List.forall_mem_append.mpr ⟨List.forall_mem_append.mpr ⟨List.forall_mem_append.mpr ⟨List.forall_mem_append.mpr ⟨List.forall_mem_append.mpr ⟨hgL_does_L_isWritten_0, List.forall_mem_append.mpr ⟨hgL_does_L_isWritten_1, List.forall_mem_append.mpr ⟨hgL_does_L_isWritten_2, List.forall_mem_append.mpr ⟨hgL_does_L_isWritten_3, List.forall_mem_append.mpr ⟨hgL_does_L_isWritten_4, List.forall_mem_append.mpr ⟨hgL_does_L_isWritten_5, List.forall_mem_append.mpr ⟨hgL_does_L_isWritten_6, List.forall_mem_append.mpr ⟨hgL_does_L_isWritten_7, List.forall_mem_append.mpr ⟨hgL_does_L_isWritten_8, List.forall_mem_append.mpr ⟨hgL_does_L_isWritten_9, List.forall_mem_append.mpr ⟨hgL_does_L_isWritten_10, List.forall_mem_append.mpr ⟨hgL_does_L_isWritten_11, hgL_does_L_isWritten_12⟩⟩⟩⟩⟩⟩⟩⟩⟩⟩⟩⟩, hgL_does_L_isWritten_13⟩, hgL_does_L_isWritten_14⟩, hgL_does_L_isWritten_15⟩, hgL_does_L_isWritten_16⟩, hgL_does_L_isWritten_17⟩, hgL_does_L_isWritten_18⟩, hgL_does_L_isWritten_19⟩, hgL_does_L_isWritten_20⟩⟩) (by decide +kernel)
set_option maxRecDepth 20000 in
theorem gL_does_L_isWritten : GoodIn wsL_does (va_wsS RL 94 yL_isWritten wsL_isWritten) := goodIn_app (goodIn_of _ (by decide +kernel)) ggL_does_L_isWritten
