set_option maxRecDepth 100000 in
theorem hgL_law_X7_count_0 : ∀ w ∈ wsX7_count_r1, w ∈ wsL_law := xw_in _ [12, 112, 113, 114, 115, 116, 117, 118, 27, 119, 20, 120, 121, 122, 123, 46, 124, 62, 61, 125, 126, 127, 2, 128] rfl
set_option maxRecDepth 100000 in
theorem hgL_law_X7_count_1 : ∀ w ∈ wsX7_count_r2, w ∈ wsL_law := xw_in _ [16, 129, 130, 131, 15, 132, 133, 78, 79, 134, 135, 136, 137, 138, 139, 80, 140, 141, 142, 143, 144, 145, 146, 147] rfl
set_option maxRecDepth 100000 in
theorem hgL_law_X7_count_2 : ∀ w ∈ wsX7_count_r3, w ∈ wsL_law := xw_in _ [148, 149, 150, 151, 152, 153, 154, 155, 156, 157, 158, 159, 160, 161, 162, 163, 164, 165, 166, 167, 168, 169, 170, 171] rfl
set_option maxRecDepth 100000 in
theorem hgL_law_X7_count_3 : ∀ w ∈ wsX7_count_r4, w ∈ wsL_law := xw_in _ [172, 173, 174, 175, 176, 177, 178, 179, 180, 181, 182, 183, 184, 185, 186, 187] rfl
set_option maxRecDepth 100000 in
theorem hgL_law_X7_count_4 : ∀ w ∈ wsX70, w ∈ wsL_law := xw_in _ [481, 482, 483, 484, 485, 486, 487, 488] rfl
set_option maxRecDepth 100000 in
theorem hgL_law_X7_count_5 : ∀ w ∈ wsX60, w ∈ wsL_law := xw_in _ [489, 490, 491, 492] rfl
set_option maxRecDepth 100000 in
theorem hgL_law_X7_count_6 : ∀ w ∈ wsX50, w ∈ wsL_law := xw_in _ [505, 506, 507, 508, 509, 510] rfl
set_option maxRecDepth 100000 in
theorem hgL_law_X7_count_7 : ∀ w ∈ wsX20, w ∈ wsL_law := xw_in _ [511, 512, 513, 514, 515] rfl
set_option maxRecDepth 100000 in
theorem hgL_law_X7_count_8 : ∀ w ∈ wsX30, w ∈ wsL_law := xw_in _ [499, 500, 501] rfl
set_option maxRecDepth 100000 in
theorem hgL_law_X7_count_9 : ∀ w ∈ wsX10, w ∈ wsL_law := xw_in _ [496, 497, 498] rfl
set_option maxRecDepth 100000 in
theorem hgL_law_X7_count_10 : ∀ w ∈ wsX00, w ∈ wsL_law := xw_in _ [493, 494, 495] rfl
set_option maxRecDepth 100000 in
theorem ggL_law_X7_count : GoodIn wsL_law wsX7_count := goodIn_sub (List.forall_mem_cons.mpr ⟨List.mem_of_getElem? (i := 111) rfl, List.forall_mem_append.mpr ⟨List.forall_mem_append.mpr ⟨List.forall_mem_append.mpr ⟨List.forall_mem_append.mpr ⟨List.forall_mem_append.mpr ⟨List.forall_mem_append.mpr ⟨List.forall_mem_append.mpr ⟨List.forall_mem_append.mpr ⟨hgL_law_X7_count_0, List.forall_mem_append.mpr ⟨hgL_law_X7_count_1, List.forall_mem_append.mpr ⟨hgL_law_X7_count_2, hgL_law_X7_count_3⟩⟩⟩, hgL_law_X7_count_4⟩, hgL_law_X7_count_5⟩, hgL_law_X7_count_6⟩, hgL_law_X7_count_7⟩, hgL_law_X7_count_8⟩, hgL_law_X7_count_9⟩, hgL_law_X7_count_10⟩⟩) (by decide +kernel)
set_option maxRecDepth 20000 in
theorem gL_law_X7_count : GoodIn wsL_law (wsV RL 8 RX7 yX7_count wsX7_count) := goodIn_app (goodIn_of _ (by decide +kernel)) ggL_law_X7_count
set_option maxRecDepth 100000 in
theorem hgL_law_X7_record_0 : ∀ w ∈ ([.fieldLink RX7 10 "HatWinds" "town" "LHatWinds$Town;", .fieldLink RX7 129 "HatWinds$Town" "hours" "LHatWinds$Hours;", .fieldLink RX7 209 "HatWinds$Hours" "forces" "[I", .fieldLink RX7 212 "HatWinds$Hours" "lost" "[I", .fieldLink RX7 215 "HatWinds$Hours" "worst" "[I", .methodLink RX7 205 yX2_kept, .instanceMethod yX2_kept, .selects RX2 yX2_kept yX2_kept, .initialized RX2, .code yX2_kept cX2_kept 1 (some .int), .fieldLink RX2 21 "HatWinds$Hours" "passed" "I", .methodLink RX2 32 Lib.Math.min.name, .static Lib.Math.min.name, .initialized "java/lang/Math", .code Lib.Math.min.name Lib.Math.min.code 2 (some .int), .methodLink RX7 59 yX7_isIndexOf, .static yX7_isIndexOf, .initialized RX7, .code yX7_isIndexOf cX7_isIndexOf 2 (some .boolean)] : List Cond), w ∈ wsL_law := xw_in _ [12, 115, 251, 252, 253, 254, 255, 256, 50, 257, 69, 258, 151, 152, 153, 259, 144, 2, 145] rfl
set_option maxRecDepth 100000 in
theorem hgL_law_X7_record_1 : ∀ w ∈ wsX70, w ∈ wsL_law := xw_in _ [481, 482, 483, 484, 485, 486, 487, 488] rfl
set_option maxRecDepth 100000 in
theorem hgL_law_X7_record_2 : ∀ w ∈ wsX60, w ∈ wsL_law := xw_in _ [489, 490, 491, 492] rfl
set_option maxRecDepth 100000 in
theorem hgL_law_X7_record_3 : ∀ w ∈ wsX20, w ∈ wsL_law := xw_in _ [511, 512, 513, 514, 515] rfl
set_option maxRecDepth 100000 in
theorem ggL_law_X7_record : GoodIn wsL_law wsX7_record := goodIn_sub (List.forall_mem_cons.mpr ⟨List.mem_of_getElem? (i := 250) rfl, List.forall_mem_append.mpr ⟨List.forall_mem_append.mpr ⟨List.forall_mem_append.mpr ⟨hgL_law_X7_record_0, hgL_law_X7_record_1⟩, hgL_law_X7_record_2⟩, hgL_law_X7_record_3⟩⟩) (by decide +kernel)
set_option maxRecDepth 20000 in
theorem gL_law_X7_record : GoodIn wsL_law (wsV RL 28 RX7 yX7_record wsX7_record) := goodIn_app (goodIn_of _ (by decide +kernel)) ggL_law_X7_record
set_option maxRecDepth 100000 in
theorem hgL_law_X7_undo_0 : ∀ w ∈ wsX7_undo_r1, w ∈ wsL_law := xw_in _ [20, 120, 12, 264, 265, 266, 19, 267, 88, 86, 87, 268, 269, 270, 11, 271, 43, 47, 51, 52, 272, 2, 273, 274] rfl
set_option maxRecDepth 100000 in
theorem hgL_law_X7_undo_1 : ∀ w ∈ wsX7_undo_r2, w ∈ wsL_law := xw_in _ [151, 152, 153, 275, 276, 277, 278, 279, 280, 281, 46, 282, 57, 58, 59, 60, 61, 62, 283, 284, 285, 50, 286, 66] rfl
set_option maxRecDepth 100000 in
theorem hgL_law_X7_undo_2 : ∀ w ∈ wsX7_undo_r3, w ∈ wsL_law := xw_in _ [67, 68, 69, 70] rfl
set_option maxRecDepth 100000 in
theorem hgL_law_X7_undo_3 : ∀ w ∈ wsX70, w ∈ wsL_law := xw_in _ [481, 482, 483, 484, 485, 486, 487, 488] rfl
set_option maxRecDepth 100000 in
theorem hgL_law_X7_undo_4 : ∀ w ∈ wsX10, w ∈ wsL_law := xw_in _ [496, 497, 498] rfl
set_option maxRecDepth 100000 in
theorem hgL_law_X7_undo_5 : ∀ w ∈ wsX60, w ∈ wsL_law := xw_in _ [489, 490, 491, 492] rfl
set_option maxRecDepth 100000 in
theorem hgL_law_X7_undo_6 : ∀ w ∈ wsX50, w ∈ wsL_law := xw_in _ [505, 506, 507, 508, 509, 510] rfl
set_option maxRecDepth 100000 in
theorem hgL_law_X7_undo_7 : ∀ w ∈ wsX20, w ∈ wsL_law := xw_in _ [511, 512, 513, 514, 515] rfl
set_option maxRecDepth 100000 in
theorem ggL_law_X7_undo : GoodIn wsL_law wsX7_undo := goodIn_sub (List.forall_mem_cons.mpr ⟨List.mem_of_getElem? (i := 263) rfl, List.forall_mem_append.mpr ⟨List.forall_mem_append.mpr ⟨List.forall_mem_append.mpr ⟨List.forall_mem_append.mpr ⟨List.forall_mem_append.mpr ⟨List.forall_mem_append.mpr ⟨hgL_law_X7_undo_0, List.forall_mem_append.mpr ⟨hgL_law_X7_undo_1, hgL_law_X7_undo_2⟩⟩, hgL_law_X7_undo_3⟩, hgL_law_X7_undo_4⟩, hgL_law_X7_undo_5⟩, hgL_law_X7_undo_6⟩, hgL_law_X7_undo_7⟩⟩) (by decide +kernel)
set_option maxRecDepth 20000 in
theorem gL_law_X7_undo : GoodIn wsL_law (wsV RL 66 RX7 yX7_undo wsX7_undo) := goodIn_app (goodIn_of _ (by decide +kernel)) ggL_law_X7_undo
set_option maxRecDepth 100000 in
theorem hgL_law_X7_build_0 : ∀ w ∈ wsX7_build_r1, w ∈ wsL_law := xw_in _ [32, 27, 20, 12, 112, 291, 113, 292, 293, 294, 31, 295, 101, 102, 103, 296, 297, 298, 299, 300, 46, 301, 62, 302] rfl
set_option maxRecDepth 100000 in
theorem hgL_law_X7_build_1 : ∀ w ∈ wsX7_build_r2, w ∈ wsL_law := xw_in _ [303, 304, 305, 306, 307, 308, 309, 310, 245, 2, 246, 311, 312, 313, 314, 315, 199, 200, 201, 57, 206, 207, 208, 209] rfl
set_option maxRecDepth 100000 in
theorem hgL_law_X7_build_2 : ∀ w ∈ wsX7_build_r3, w ∈ wsL_law := xw_in _ [210, 211, 212, 316, 72, 73, 74, 58, 59, 60, 61, 317, 318, 319, 320, 321, 322, 323, 324, 325, 326, 327, 328, 329] rfl
set_option maxRecDepth 100000 in
theorem hgL_law_X7_build_3 : ∀ w ∈ wsX7_build_r4, w ∈ wsL_law := xw_in _ [330, 331, 332, 333, 334, 335, 336, 337, 338, 339, 340, 341, 342, 141, 142, 143, 144, 145, 343, 344, 345, 346, 347, 348] rfl
set_option maxRecDepth 100000 in
theorem hgL_law_X7_build_4 : ∀ w ∈ wsX7_build_r5, w ∈ wsL_law := xw_in _ [349, 350, 351, 352, 353, 354, 355, 356, 357, 358, 359, 19, 360, 88, 87, 86, 268, 269, 270, 11, 271, 43, 47, 51] rfl
set_option maxRecDepth 100000 in
theorem hgL_law_X7_build_5 : ∀ w ∈ wsX7_build_r6, w ∈ wsL_law := xw_in _ [52, 272, 273, 274, 151, 152, 153, 275, 276, 277, 278, 279, 280, 281, 282, 283, 284, 285, 50, 286, 66, 67, 68, 69] rfl
set_option maxRecDepth 100000 in
theorem hgL_law_X7_build_6 : ∀ w ∈ wsX7_build_r7, w ∈ wsL_law := xw_in _ [70, 361, 362, 363, 364, 26, 365, 95, 96] rfl
set_option maxRecDepth 100000 in
theorem hgL_law_X7_build_7 : ∀ w ∈ wsX70, w ∈ wsL_law := xw_in _ [481, 482, 483, 484, 485, 486, 487, 488] rfl
set_option maxRecDepth 100000 in
theorem hgL_law_X7_build_8 : ∀ w ∈ wsX60, w ∈ wsL_law := xw_in _ [489, 490, 491, 492] rfl
set_option maxRecDepth 100000 in
theorem hgL_law_X7_build_9 : ∀ w ∈ wsX40, w ∈ wsL_law := xw_in _ [502, 503, 504] rfl
set_option maxRecDepth 100000 in
theorem hgL_law_X7_build_10 : ∀ w ∈ wsX50, w ∈ wsL_law := xw_in _ [505, 506, 507, 508, 509, 510] rfl
set_option maxRecDepth 100000 in
theorem hgL_law_X7_build_11 : ∀ w ∈ wsX30, w ∈ wsL_law := xw_in _ [499, 500, 501] rfl
set_option maxRecDepth 100000 in
theorem hgL_law_X7_build_12 : ∀ w ∈ wsX10, w ∈ wsL_law := xw_in _ [496, 497, 498] rfl
set_option maxRecDepth 100000 in
theorem hgL_law_X7_build_13 : ∀ w ∈ wsX20, w ∈ wsL_law := xw_in _ [511, 512, 513, 514, 515] rfl
set_option maxRecDepth 100000 in
theorem ggL_law_X7_build : GoodIn wsL_law wsX7_build := goodIn_sub (List.forall_mem_cons.mpr ⟨List.mem_of_getElem? (i := 290) rfl, List.forall_mem_append.mpr ⟨List.forall_mem_append.mpr ⟨List.forall_mem_append.mpr ⟨List.forall_mem_append.mpr ⟨List.forall_mem_append.mpr ⟨List.forall_mem_append.mpr ⟨List.forall_mem_append.mpr ⟨List.forall_mem_append.mpr ⟨hgL_law_X7_build_0, List.forall_mem_append.mpr ⟨hgL_law_X7_build_1, List.forall_mem_append.mpr ⟨hgL_law_X7_build_2, List.forall_mem_append.mpr ⟨hgL_law_X7_build_3, List.forall_mem_append.mpr ⟨hgL_law_X7_build_4, List.forall_mem_append.mpr ⟨hgL_law_X7_build_5, hgL_law_X7_build_6⟩⟩⟩⟩⟩⟩, hgL_law_X7_build_7⟩, hgL_law_X7_build_8⟩, hgL_law_X7_build_9⟩, hgL_law_X7_build_10⟩, hgL_law_X7_build_11⟩, hgL_law_X7_build_12⟩, hgL_law_X7_build_13⟩⟩) (by decide +kernel)
set_option maxRecDepth 20000 in
theorem gL_law_X7_build : GoodIn wsL_law (wsV RL 55 RX7 yX7_build wsX7_build) := goodIn_app (goodIn_of _ (by decide +kernel)) ggL_law_X7_build
set_option maxRecDepth 100000 in
theorem hgL_law_X7_street_0 : ∀ w ∈ wsX7_street_r1, w ∈ wsL_law := xw_in _ [12, 112, 20, 197, 141, 142, 46, 143, 62, 144, 2, 145, 244, 245, 246, 383, 312, 313, 314, 315, 199, 200, 201, 57] rfl
set_option maxRecDepth 100000 in
theorem hgL_law_X7_street_1 : ∀ w ∈ wsX7_street_r2, w ∈ wsL_law := xw_in _ [206, 207, 208, 209, 210, 211, 212, 357, 358, 359, 19, 360, 88, 87, 86, 268, 269, 270, 11, 271, 43, 47, 51, 52] rfl
set_option maxRecDepth 100000 in
theorem hgL_law_X7_street_2 : ∀ w ∈ wsX7_street_r3, w ∈ wsL_law := xw_in _ [272, 273, 274, 151, 152, 153, 275, 276, 277, 278, 279, 280, 281, 282, 58, 59, 60, 61, 283, 284, 285, 50, 286, 66] rfl
set_option maxRecDepth 100000 in
theorem hgL_law_X7_street_3 : ∀ w ∈ wsX7_street_r4, w ∈ wsL_law := xw_in _ [67, 68, 69, 70, 384, 72, 73, 74] rfl
set_option maxRecDepth 100000 in
theorem hgL_law_X7_street_4 : ∀ w ∈ wsX70, w ∈ wsL_law := xw_in _ [481, 482, 483, 484, 485, 486, 487, 488] rfl
set_option maxRecDepth 100000 in
theorem hgL_law_X7_street_5 : ∀ w ∈ wsX60, w ∈ wsL_law := xw_in _ [489, 490, 491, 492] rfl
set_option maxRecDepth 100000 in
theorem hgL_law_X7_street_6 : ∀ w ∈ wsX50, w ∈ wsL_law := xw_in _ [505, 506, 507, 508, 509, 510] rfl
set_option maxRecDepth 100000 in
theorem hgL_law_X7_street_7 : ∀ w ∈ wsX10, w ∈ wsL_law := xw_in _ [496, 497, 498] rfl
set_option maxRecDepth 100000 in
theorem hgL_law_X7_street_8 : ∀ w ∈ wsX20, w ∈ wsL_law := xw_in _ [511, 512, 513, 514, 515] rfl
set_option maxRecDepth 100000 in
theorem ggL_law_X7_street : GoodIn wsL_law wsX7_street := goodIn_sub (List.forall_mem_cons.mpr ⟨List.mem_of_getElem? (i := 382) rfl, List.forall_mem_append.mpr ⟨List.forall_mem_append.mpr ⟨List.forall_mem_append.mpr ⟨List.forall_mem_append.mpr ⟨List.forall_mem_append.mpr ⟨List.forall_mem_append.mpr ⟨hgL_law_X7_street_0, List.forall_mem_append.mpr ⟨hgL_law_X7_street_1, List.forall_mem_append.mpr ⟨hgL_law_X7_street_2, hgL_law_X7_street_3⟩⟩⟩, hgL_law_X7_street_4⟩, hgL_law_X7_street_5⟩, hgL_law_X7_street_6⟩, hgL_law_X7_street_7⟩, hgL_law_X7_street_8⟩⟩) (by decide +kernel)
set_option maxRecDepth 20000 in
theorem gL_law_X7_street : GoodIn wsL_law (wsV RL 72 RX7 yX7_street wsX7_street) := goodIn_app (goodIn_of _ (by decide +kernel)) ggL_law_X7_street
set_option maxRecDepth 100000 in
theorem hgL_law_X7_change_0 : ∀ w ∈ wsX7_change_r1, w ∈ wsL_law := xw_in _ [12, 112, 389, 390, 20, 197, 141, 142, 46, 143, 62, 144, 2, 145, 259, 244, 245, 246, 357, 358, 359, 19, 360, 88] rfl
set_option maxRecDepth 100000 in
theorem hgL_law_X7_change_1 : ∀ w ∈ wsX7_change_r2, w ∈ wsL_law := xw_in _ [87, 86, 268, 269, 270, 11, 271, 43, 47, 51, 52, 272, 273, 274, 151, 152, 153, 275, 276, 277, 278, 279, 280, 281] rfl
set_option maxRecDepth 100000 in
theorem hgL_law_X7_change_2 : ∀ w ∈ wsX7_change_r3, w ∈ wsL_law := xw_in _ [282, 57, 58, 59, 60, 61, 283, 284, 285, 50, 286, 66, 67, 68, 69, 70, 391, 392, 393, 394] rfl
set_option maxRecDepth 100000 in
theorem hgL_law_X7_change_3 : ∀ w ∈ wsX70, w ∈ wsL_law := xw_in _ [481, 482, 483, 484, 485, 486, 487, 488] rfl
set_option maxRecDepth 100000 in
theorem hgL_law_X7_change_4 : ∀ w ∈ wsX60, w ∈ wsL_law := xw_in _ [489, 490, 491, 492] rfl
set_option maxRecDepth 100000 in
theorem hgL_law_X7_change_5 : ∀ w ∈ wsX50, w ∈ wsL_law := xw_in _ [505, 506, 507, 508, 509, 510] rfl
set_option maxRecDepth 100000 in
theorem hgL_law_X7_change_6 : ∀ w ∈ wsX10, w ∈ wsL_law := xw_in _ [496, 497, 498] rfl
set_option maxRecDepth 100000 in
theorem hgL_law_X7_change_7 : ∀ w ∈ wsX20, w ∈ wsL_law := xw_in _ [511, 512, 513, 514, 515] rfl
set_option maxRecDepth 100000 in
theorem ggL_law_X7_change : GoodIn wsL_law wsX7_change := goodIn_sub (List.forall_mem_cons.mpr ⟨List.mem_of_getElem? (i := 388) rfl, List.forall_mem_append.mpr ⟨List.forall_mem_append.mpr ⟨List.forall_mem_append.mpr ⟨List.forall_mem_append.mpr ⟨List.forall_mem_append.mpr ⟨List.forall_mem_append.mpr ⟨hgL_law_X7_change_0, List.forall_mem_append.mpr ⟨hgL_law_X7_change_1, hgL_law_X7_change_2⟩⟩, hgL_law_X7_change_3⟩, hgL_law_X7_change_4⟩, hgL_law_X7_change_5⟩, hgL_law_X7_change_6⟩, hgL_law_X7_change_7⟩⟩) (by decide +kernel)
set_option maxRecDepth 20000 in
theorem gL_law_X7_change : GoodIn wsL_law (wsV RL 75 RX7 yX7_change wsX7_change) := goodIn_app (goodIn_of _ (by decide +kernel)) ggL_law_X7_change
set_option maxRecDepth 100000 in
theorem hgL_law_X7_wind_0 : ∀ w ∈ wsX7_wind_r1, w ∈ wsL_law := xw_in _ [20, 12, 114, 241, 242, 2, 243, 244, 245, 246, 357, 358, 359, 19, 360, 88, 87, 86, 268, 269, 270, 11, 271, 43] rfl
set_option maxRecDepth 100000 in
theorem hgL_law_X7_wind_1 : ∀ w ∈ wsX7_wind_r2, w ∈ wsL_law := xw_in _ [47, 51, 52, 272, 273, 274, 151, 152, 153, 275, 276, 277, 278, 279, 280, 281, 46, 282, 57, 58, 59, 60, 61, 62] rfl
set_option maxRecDepth 100000 in
theorem hgL_law_X7_wind_2 : ∀ w ∈ wsX7_wind_r3, w ∈ wsL_law := xw_in _ [283, 284, 285, 50, 286, 66, 67, 68, 69, 70] rfl
set_option maxRecDepth 100000 in
theorem hgL_law_X7_wind_3 : ∀ w ∈ wsX70, w ∈ wsL_law := xw_in _ [481, 482, 483, 484, 485, 486, 487, 488] rfl
set_option maxRecDepth 100000 in
theorem hgL_law_X7_wind_4 : ∀ w ∈ wsX60, w ∈ wsL_law := xw_in _ [489, 490, 491, 492] rfl
set_option maxRecDepth 100000 in
theorem hgL_law_X7_wind_5 : ∀ w ∈ wsX10, w ∈ wsL_law := xw_in _ [496, 497, 498] rfl
set_option maxRecDepth 100000 in
theorem hgL_law_X7_wind_6 : ∀ w ∈ wsX50, w ∈ wsL_law := xw_in _ [505, 506, 507, 508, 509, 510] rfl
set_option maxRecDepth 100000 in
theorem hgL_law_X7_wind_7 : ∀ w ∈ wsX20, w ∈ wsL_law := xw_in _ [511, 512, 513, 514, 515] rfl
set_option maxRecDepth 100000 in
theorem ggL_law_X7_wind : GoodIn wsL_law wsX7_wind := goodIn_sub (List.forall_mem_cons.mpr ⟨List.mem_of_getElem? (i := 398) rfl, List.forall_mem_append.mpr ⟨List.forall_mem_append.mpr ⟨List.forall_mem_append.mpr ⟨List.forall_mem_append.mpr ⟨List.forall_mem_append.mpr ⟨List.forall_mem_append.mpr ⟨hgL_law_X7_wind_0, List.forall_mem_append.mpr ⟨hgL_law_X7_wind_1, hgL_law_X7_wind_2⟩⟩, hgL_law_X7_wind_3⟩, hgL_law_X7_wind_4⟩, hgL_law_X7_wind_5⟩, hgL_law_X7_wind_6⟩, hgL_law_X7_wind_7⟩⟩) (by decide +kernel)
set_option maxRecDepth 20000 in
theorem gL_law_X7_wind : GoodIn wsL_law (wsV RL 40 RX7 yX7_wind wsX7_wind) := goodIn_app (goodIn_of _ (by decide +kernel)) ggL_law_X7_wind
set_option maxRecDepth 100000 in
theorem hgL_law_X7_pass_0 : ∀ w ∈ wsX7_pass_r1, w ∈ wsL_law := xw_in _ [12, 115, 116, 20, 16, 114, 244, 245, 2, 246, 357, 358, 359, 19, 360, 88, 87, 86, 268, 269, 270, 11, 271, 43] rfl
set_option maxRecDepth 100000 in
theorem hgL_law_X7_pass_1 : ∀ w ∈ wsX7_pass_r2, w ∈ wsL_law := xw_in _ [47, 51, 52, 272, 273, 274, 151, 152, 153, 275, 276, 277, 278, 279, 280, 281, 46, 282, 57, 58, 59, 60, 61, 62] rfl
set_option maxRecDepth 100000 in
theorem hgL_law_X7_pass_2 : ∀ w ∈ wsX7_pass_r3, w ∈ wsL_law := xw_in _ [283, 284, 285, 50, 286, 66, 67, 68, 69, 70, 175, 176, 177, 15, 178, 160, 179, 180, 130, 131, 132, 133, 78, 79] rfl
set_option maxRecDepth 100000 in
theorem hgL_law_X7_pass_3 : ∀ w ∈ wsX7_pass_r4, w ∈ wsL_law := xw_in _ [134, 135, 181, 137, 138, 139, 80, 140, 141, 142, 143, 144, 145, 146, 147, 148, 149, 150, 154, 155, 156, 157, 158, 159] rfl
set_option maxRecDepth 100000 in
theorem hgL_law_X7_pass_4 : ∀ w ∈ wsX7_pass_r5, w ∈ wsL_law := xw_in _ [161, 162, 163, 164, 165, 166, 167, 168, 169, 170, 413, 414, 415, 416, 417, 418, 419, 420, 421, 422, 423] rfl
set_option maxRecDepth 100000 in
theorem hgL_law_X7_pass_5 : ∀ w ∈ wsX70, w ∈ wsL_law := xw_in _ [481, 482, 483, 484, 485, 486, 487, 488] rfl
set_option maxRecDepth 100000 in
theorem hgL_law_X7_pass_6 : ∀ w ∈ wsX60, w ∈ wsL_law := xw_in _ [489, 490, 491, 492] rfl
set_option maxRecDepth 100000 in
theorem hgL_law_X7_pass_7 : ∀ w ∈ wsX20, w ∈ wsL_law := xw_in _ [511, 512, 513, 514, 515] rfl
set_option maxRecDepth 100000 in
theorem hgL_law_X7_pass_8 : ∀ w ∈ wsX10, w ∈ wsL_law := xw_in _ [496, 497, 498] rfl
set_option maxRecDepth 100000 in
theorem hgL_law_X7_pass_9 : ∀ w ∈ wsX50, w ∈ wsL_law := xw_in _ [505, 506, 507, 508, 509, 510] rfl
set_option maxRecDepth 100000 in
theorem hgL_law_X7_pass_10 : ∀ w ∈ wsX00, w ∈ wsL_law := xw_in _ [493, 494, 495] rfl
set_option maxRecDepth 100000 in
theorem ggL_law_X7_pass : GoodIn wsL_law wsX7_pass := goodIn_sub (List.forall_mem_cons.mpr ⟨List.mem_of_getElem? (i := 412) rfl, List.forall_mem_append.mpr ⟨List.forall_mem_append.mpr ⟨List.forall_mem_append.mpr ⟨List.forall_mem_append.mpr ⟨List.forall_mem_append.mpr ⟨List.forall_mem_append.mpr ⟨List.forall_mem_append.mpr ⟨hgL_law_X7_pass_0, List.forall_mem_append.mpr ⟨hgL_law_X7_pass_1, List.forall_mem_append.mpr ⟨hgL_law_X7_pass_2, List.forall_mem_append.mpr ⟨hgL_law_X7_pass_3, hgL_law_X7_pass_4⟩⟩⟩⟩, hgL_law_X7_pass_5⟩, hgL_law_X7_pass_6⟩, hgL_law_X7_pass_7⟩, hgL_law_X7_pass_8⟩, hgL_law_X7_pass_9⟩, hgL_law_X7_pass_10⟩⟩) (by decide +kernel)
set_option maxRecDepth 20000 in
theorem gL_law_X7_pass : GoodIn wsL_law (wsV RL 31 RX7 yX7_pass wsX7_pass) := goodIn_app (goodIn_of _ (by decide +kernel)) ggL_law_X7_pass
set_option maxRecDepth 100000 in
theorem hgL_law_X7_set_0 : ∀ w ∈ wsX7_set_r1, w ∈ wsL_law := xw_in _ [403, 404, 405, 20, 12, 118, 259, 144, 2, 145, 244, 245, 246, 357, 358, 359, 19, 360, 88, 87, 86, 268, 269, 270] rfl
set_option maxRecDepth 100000 in
theorem hgL_law_X7_set_1 : ∀ w ∈ wsX7_set_r2, w ∈ wsL_law := xw_in _ [11, 271, 43, 47, 51, 52, 272, 273, 274, 151, 152, 153, 275, 276, 277, 278, 279, 280, 281, 46, 282, 57, 58, 59] rfl
set_option maxRecDepth 100000 in
theorem hgL_law_X7_set_2 : ∀ w ∈ wsX7_set_r3, w ∈ wsL_law := xw_in _ [60, 61, 62, 283, 284, 285, 50, 286, 66, 67, 68, 69, 70] rfl
set_option maxRecDepth 100000 in
theorem hgL_law_X7_set_3 : ∀ w ∈ wsX70, w ∈ wsL_law := xw_in _ [481, 482, 483, 484, 485, 486, 487, 488] rfl
set_option maxRecDepth 100000 in
theorem hgL_law_X7_set_4 : ∀ w ∈ wsX60, w ∈ wsL_law := xw_in _ [489, 490, 491, 492] rfl
set_option maxRecDepth 100000 in
theorem hgL_law_X7_set_5 : ∀ w ∈ wsX10, w ∈ wsL_law := xw_in _ [496, 497, 498] rfl
set_option maxRecDepth 100000 in
theorem hgL_law_X7_set_6 : ∀ w ∈ wsX50, w ∈ wsL_law := xw_in _ [505, 506, 507, 508, 509, 510] rfl
set_option maxRecDepth 100000 in
theorem hgL_law_X7_set_7 : ∀ w ∈ wsX20, w ∈ wsL_law := xw_in _ [511, 512, 513, 514, 515] rfl
set_option maxRecDepth 100000 in
theorem ggL_law_X7_set : GoodIn wsL_law wsX7_set := goodIn_sub (List.forall_mem_cons.mpr ⟨List.mem_of_getElem? (i := 402) rfl, List.forall_mem_append.mpr ⟨List.forall_mem_append.mpr ⟨List.forall_mem_append.mpr ⟨List.forall_mem_append.mpr ⟨List.forall_mem_append.mpr ⟨List.forall_mem_append.mpr ⟨hgL_law_X7_set_0, List.forall_mem_append.mpr ⟨hgL_law_X7_set_1, hgL_law_X7_set_2⟩⟩, hgL_law_X7_set_3⟩, hgL_law_X7_set_4⟩, hgL_law_X7_set_5⟩, hgL_law_X7_set_6⟩, hgL_law_X7_set_7⟩⟩) (by decide +kernel)
set_option maxRecDepth 20000 in
theorem gL_law_X7_set : GoodIn wsL_law (wsV RL 79 RX7 yX7_set wsX7_set) := goodIn_app (goodIn_of _ (by decide +kernel)) ggL_law_X7_set
set_option maxRecDepth 100000 in
theorem hgL_law_X7_ifWind_0 : ∀ w ∈ wsX7_ifWind_r1, w ∈ wsL_law := xw_in _ [241, 242, 2, 243, 244, 245, 246, 125, 126, 127, 128, 16, 12, 112, 129, 130, 131, 15, 132, 133, 78, 79, 134, 135] rfl
set_option maxRecDepth 100000 in
theorem hgL_law_X7_ifWind_1 : ∀ w ∈ wsX7_ifWind_r2, w ∈ wsL_law := xw_in _ [136, 137, 138, 139, 80, 140, 141, 142, 46, 143, 62, 144, 145, 146, 147, 148, 149, 150, 151, 152, 153, 154, 155, 156] rfl
set_option maxRecDepth 100000 in
theorem hgL_law_X7_ifWind_2 : ∀ w ∈ wsX7_ifWind_r3, w ∈ wsL_law := xw_in _ [157, 158, 159, 160, 161, 162, 163, 164, 165, 166, 167, 168, 169, 170] rfl
set_option maxRecDepth 100000 in
theorem hgL_law_X7_ifWind_3 : ∀ w ∈ wsX70, w ∈ wsL_law := xw_in _ [481, 482, 483, 484, 485, 486, 487, 488] rfl
set_option maxRecDepth 100000 in
theorem hgL_law_X7_ifWind_4 : ∀ w ∈ wsX60, w ∈ wsL_law := xw_in _ [489, 490, 491, 492] rfl
set_option maxRecDepth 100000 in
theorem hgL_law_X7_ifWind_5 : ∀ w ∈ wsX50, w ∈ wsL_law := xw_in _ [505, 506, 507, 508, 509, 510] rfl
set_option maxRecDepth 100000 in
theorem hgL_law_X7_ifWind_6 : ∀ w ∈ wsX00, w ∈ wsL_law := xw_in _ [493, 494, 495] rfl
set_option maxRecDepth 100000 in
theorem ggL_law_X7_ifWind : GoodIn wsL_law wsX7_ifWind := goodIn_sub (List.forall_mem_cons.mpr ⟨List.mem_of_getElem? (i := 240) rfl, List.forall_mem_append.mpr ⟨List.forall_mem_append.mpr ⟨List.forall_mem_append.mpr ⟨List.forall_mem_append.mpr ⟨List.forall_mem_append.mpr ⟨hgL_law_X7_ifWind_0, List.forall_mem_append.mpr ⟨hgL_law_X7_ifWind_1, hgL_law_X7_ifWind_2⟩⟩, hgL_law_X7_ifWind_3⟩, hgL_law_X7_ifWind_4⟩, hgL_law_X7_ifWind_5⟩, hgL_law_X7_ifWind_6⟩⟩) (by decide +kernel)
set_option maxRecDepth 20000 in
theorem gL_law_X7_ifWind : GoodIn wsL_law (wsV RL 25 RX7 yX7_ifWind wsX7_ifWind) := goodIn_app (goodIn_of _ (by decide +kernel)) ggL_law_X7_ifWind
set_option maxRecDepth 100000 in
theorem hgL_law_X7_windFor_0 : ∀ w ∈ wsX7_windFor_r1, w ∈ wsL_law := xw_in _ [16, 12, 112, 244, 245, 2, 246, 129, 130, 131, 15, 132, 133, 78, 79, 134, 135, 136, 137, 138, 139, 80, 140, 141] rfl
set_option maxRecDepth 100000 in
theorem hgL_law_X7_windFor_1 : ∀ w ∈ wsX7_windFor_r2, w ∈ wsL_law := xw_in _ [142, 46, 143, 62, 144, 145, 146, 147, 148, 149, 150, 151, 152, 153, 154, 155, 156, 157, 158, 159, 160, 161, 162, 163] rfl
set_option maxRecDepth 100000 in
theorem hgL_law_X7_windFor_2 : ∀ w ∈ wsX7_windFor_r3, w ∈ wsL_law := xw_in _ [164, 165, 166, 167, 168, 169, 170] rfl
set_option maxRecDepth 100000 in
theorem hgL_law_X7_windFor_3 : ∀ w ∈ wsX70, w ∈ wsL_law := xw_in _ [481, 482, 483, 484, 485, 486, 487, 488] rfl
set_option maxRecDepth 100000 in
theorem hgL_law_X7_windFor_4 : ∀ w ∈ wsX60, w ∈ wsL_law := xw_in _ [489, 490, 491, 492] rfl
set_option maxRecDepth 100000 in
theorem hgL_law_X7_windFor_5 : ∀ w ∈ wsX50, w ∈ wsL_law := xw_in _ [505, 506, 507, 508, 509, 510] rfl
set_option maxRecDepth 100000 in
theorem hgL_law_X7_windFor_6 : ∀ w ∈ wsX00, w ∈ wsL_law := xw_in _ [493, 494, 495] rfl
set_option maxRecDepth 100000 in
theorem ggL_law_X7_windFor : GoodIn wsL_law wsX7_windFor := goodIn_sub (List.forall_mem_cons.mpr ⟨List.mem_of_getElem? (i := 430) rfl, List.forall_mem_append.mpr ⟨List.forall_mem_append.mpr ⟨List.forall_mem_append.mpr ⟨List.forall_mem_append.mpr ⟨List.forall_mem_append.mpr ⟨hgL_law_X7_windFor_0, List.forall_mem_append.mpr ⟨hgL_law_X7_windFor_1, hgL_law_X7_windFor_2⟩⟩, hgL_law_X7_windFor_3⟩, hgL_law_X7_windFor_4⟩, hgL_law_X7_windFor_5⟩, hgL_law_X7_windFor_6⟩⟩) (by decide +kernel)
set_option maxRecDepth 20000 in
theorem gL_law_X7_windFor : GoodIn wsL_law (wsV RL 34 RX7 yX7_windFor wsX7_windFor) := goodIn_app (goodIn_of _ (by decide +kernel)) ggL_law_X7_windFor
set_option maxRecDepth 100000 in
theorem hgL_law_X7_now_0 : ∀ w ∈ wsX7_now_r1, w ∈ wsL_law := xw_in _ [12, 112, 16, 187, 197, 141, 142, 46, 143, 62, 144, 2, 145, 175, 176, 177, 15, 178, 160, 179, 180, 130, 131, 132] rfl
set_option maxRecDepth 100000 in
theorem hgL_law_X7_now_1 : ∀ w ∈ wsX7_now_r2, w ∈ wsL_law := xw_in _ [133, 78, 79, 134, 135, 181, 137, 138, 139, 80, 140, 146, 147, 148, 149, 150, 151, 152, 153, 154, 155, 222, 168, 169] rfl
set_option maxRecDepth 100000 in
theorem hgL_law_X7_now_2 : ∀ w ∈ wsX7_now_r3, w ∈ wsL_law := xw_in _ [170, 165, 223, 224, 225, 226, 227, 228, 229, 230, 231, 232, 182, 162, 163, 164, 166, 167] rfl
set_option maxRecDepth 100000 in
theorem hgL_law_X7_now_3 : ∀ w ∈ wsX70, w ∈ wsL_law := xw_in _ [481, 482, 483, 484, 485, 486, 487, 488] rfl
set_option maxRecDepth 100000 in
theorem hgL_law_X7_now_4 : ∀ w ∈ wsX60, w ∈ wsL_law := xw_in _ [489, 490, 491, 492] rfl
set_option maxRecDepth 100000 in
theorem hgL_law_X7_now_5 : ∀ w ∈ wsX00, w ∈ wsL_law := xw_in _ [493, 494, 495] rfl
set_option maxRecDepth 100000 in
theorem hgL_law_X7_now_6 : ∀ w ∈ wsX50, w ∈ wsL_law := xw_in _ [505, 506, 507, 508, 509, 510] rfl
set_option maxRecDepth 100000 in
theorem ggL_law_X7_now : GoodIn wsL_law wsX7_now := goodIn_sub (List.forall_mem_cons.mpr ⟨List.mem_of_getElem? (i := 221) rfl, List.forall_mem_append.mpr ⟨List.forall_mem_append.mpr ⟨List.forall_mem_append.mpr ⟨List.forall_mem_append.mpr ⟨List.forall_mem_append.mpr ⟨hgL_law_X7_now_0, List.forall_mem_append.mpr ⟨hgL_law_X7_now_1, hgL_law_X7_now_2⟩⟩, hgL_law_X7_now_3⟩, hgL_law_X7_now_4⟩, hgL_law_X7_now_5⟩, hgL_law_X7_now_6⟩⟩) (by decide +kernel)
set_option maxRecDepth 20000 in
theorem gL_law_X7_now : GoodIn wsL_law (wsV RL 18 RX7 yX7_now wsX7_now) := goodIn_app (goodIn_of _ (by decide +kernel)) ggL_law_X7_now
set_option maxRecDepth 100000 in
theorem hgL_law_L_does_0 : ∀ w ∈ wsL_does_r1, w ∈ wsL_law := xw_in _ [108, 109, 110, 2, 111, 12, 112, 113, 114, 115, 116, 117, 118, 27, 119, 20, 120, 121, 122, 123, 46, 124, 62, 61] rfl
set_option maxRecDepth 100000 in
theorem hgL_law_L_does_1 : ∀ w ∈ wsL_does_r2, w ∈ wsL_law := xw_in _ [125, 126, 127, 128, 16, 129, 130, 131, 15, 132, 133, 78, 79, 134, 135, 136, 137, 138, 139, 80, 140, 141, 142, 143] rfl
set_option maxRecDepth 100000 in
theorem hgL_law_L_does_2 : ∀ w ∈ wsL_does_r3, w ∈ wsL_law := xw_in _ [144, 145, 146, 147, 148, 149, 150, 151, 152, 153, 154, 155, 156, 157, 158, 159, 160, 161, 162, 163, 164, 165, 166, 167] rfl
set_option maxRecDepth 100000 in
theorem hgL_law_L_does_3 : ∀ w ∈ wsL_does_r4, w ∈ wsL_law := xw_in _ [168, 169, 170, 171, 172, 173, 174, 175, 176, 177, 178, 179, 180, 181, 182, 183, 184, 185, 186, 187, 372, 373, 106, 374] rfl
set_option maxRecDepth 100000 in
theorem hgL_law_L_does_4 : ∀ w ∈ wsL_does_r5, w ∈ wsL_law := xw_in _ [375, 188, 189, 190, 191, 192, 193, 194, 195, 196, 197, 198, 199, 200, 201, 57, 202, 203, 204, 205, 206, 207, 208, 209] rfl
set_option maxRecDepth 100000 in
theorem hgL_law_L_does_5 : ∀ w ∈ wsL_does_r6, w ∈ wsL_law := xw_in _ [210, 211, 212, 213, 214, 215, 216, 217, 376, 377, 378, 379, 380, 381, 382, 244, 245, 246, 383, 312, 313, 314, 315, 357] rfl
set_option maxRecDepth 100000 in
theorem hgL_law_L_does_6 : ∀ w ∈ wsL_does_r7, w ∈ wsL_law := xw_in _ [358, 359, 19, 360, 88, 87, 86, 268, 269, 270, 11, 271, 43, 47, 51, 52, 272, 273, 274, 275, 276, 277, 278, 279] rfl
set_option maxRecDepth 100000 in
theorem hgL_law_L_does_7 : ∀ w ∈ wsL_does_r8, w ∈ wsL_law := xw_in _ [280, 281, 282, 58, 59, 60, 283, 284, 285, 50, 286, 66, 67, 68, 69, 70, 384, 72, 73, 74, 385, 386, 387, 388] rfl
set_option maxRecDepth 100000 in
theorem hgL_law_L_does_8 : ∀ w ∈ wsL_does_r9, w ∈ wsL_law := xw_in _ [389, 390, 259, 391, 392, 393, 394, 395, 396, 397, 398, 241, 242, 243, 399, 400, 401, 402, 403, 404, 405, 406, 407, 408] rfl
set_option maxRecDepth 100000 in
theorem hgL_law_L_does_9 : ∀ w ∈ wsL_does_r10, w ∈ wsL_law := xw_in _ [247, 248, 249, 250, 251, 252, 253, 254, 255, 256, 257, 258, 218, 219, 220, 221, 222, 223, 224, 225, 226, 227, 228, 229] rfl
set_option maxRecDepth 100000 in
theorem hgL_law_L_does_10 : ∀ w ∈ wsL_does_r11, w ∈ wsL_law := xw_in _ [230, 231, 232, 409, 410, 411, 412, 413, 414, 415, 416, 417, 418, 419, 420, 421, 422, 423, 424, 425, 426, 427, 428, 429] rfl
set_option maxRecDepth 100000 in
theorem hgL_law_L_does_11 : ∀ w ∈ wsL_does_r12, w ∈ wsL_law := xw_in _ [430, 237, 238, 239, 240, 431, 432, 433, 434, 435, 436, 437, 438, 439, 440, 441, 442, 443, 444, 445, 446, 447, 448, 28] rfl
set_option maxRecDepth 100000 in
theorem hgL_law_L_does_12 : ∀ w ∈ wsL_does_r13, w ∈ wsL_law := xw_in _ [449, 362, 363, 364, 26, 365, 95, 96, 450, 451, 452, 453, 454, 455, 456, 457, 458, 459, 94, 460, 461, 462, 463, 464] rfl
set_option maxRecDepth 100000 in
theorem hgL_law_L_does_13 : ∀ w ∈ wsL_does_r14, w ∈ wsL_law := xw_in _ [465, 466, 467, 468, 32, 292, 293, 294, 31, 295, 101, 102, 103, 296, 297, 298, 299, 300, 301, 302, 303, 304, 305, 306] rfl
set_option maxRecDepth 100000 in
theorem hgL_law_L_does_14 : ∀ w ∈ wsL_does_r15, w ∈ wsL_law := xw_in _ [307, 308, 309, 310, 311, 316, 317, 318, 319, 320, 321, 322, 323, 324, 325, 326, 327, 328, 329, 330, 331, 332, 333, 334] rfl
set_option maxRecDepth 100000 in
theorem hgL_law_L_does_15 : ∀ w ∈ wsL_does_r16, w ∈ wsL_law := xw_in _ [335, 336, 337, 338, 339, 340, 341, 342, 343, 344, 345, 346, 347, 348, 349, 350, 351, 352, 353, 354, 355, 356, 469, 470] rfl
set_option maxRecDepth 100000 in
theorem hgL_law_L_does_16 : ∀ w ∈ wsL_does_r17, w ∈ wsL_law := xw_in _ [471, 472, 473, 287, 288, 289, 290, 291, 361, 474, 475, 476, 477, 260, 261, 262, 263, 264, 265, 266, 267, 478, 479, 480] rfl
set_option maxRecDepth 100000 in
theorem hgL_law_L_does_17 : ∀ w ∈ wsX70, w ∈ wsL_law := xw_in _ [481, 482, 483, 484, 485, 486, 487, 488] rfl
set_option maxRecDepth 100000 in
theorem hgL_law_L_does_18 : ∀ w ∈ wsX60, w ∈ wsL_law := xw_in _ [489, 490, 491, 492] rfl
set_option maxRecDepth 100000 in
theorem hgL_law_L_does_19 : ∀ w ∈ wsX50, w ∈ wsL_law := xw_in _ [505, 506, 507, 508, 509, 510] rfl
set_option maxRecDepth 100000 in
theorem hgL_law_L_does_20 : ∀ w ∈ wsX20, w ∈ wsL_law := xw_in _ [511, 512, 513, 514, 515] rfl
set_option maxRecDepth 100000 in
theorem hgL_law_L_does_21 : ∀ w ∈ wsX30, w ∈ wsL_law := xw_in _ [499, 500, 501] rfl
set_option maxRecDepth 100000 in
theorem hgL_law_L_does_22 : ∀ w ∈ wsX10, w ∈ wsL_law := xw_in _ [496, 497, 498] rfl
set_option maxRecDepth 100000 in
theorem hgL_law_L_does_23 : ∀ w ∈ wsX00, w ∈ wsL_law := xw_in _ [493, 494, 495] rfl
set_option maxRecDepth 100000 in
theorem hgL_law_L_does_24 : ∀ w ∈ wsX40, w ∈ wsL_law := xw_in _ [502, 503, 504] rfl
set_option maxRecDepth 100000 in
theorem ggL_law_L_does : GoodIn wsL_law wsL_does := goodIn_sub (List.forall_mem_cons.mpr ⟨List.mem_of_getElem? (i := 371) rfl, List.forall_mem_append.mpr ⟨List.forall_mem_append.mpr ⟨List.forall_mem_append.mpr ⟨List.forall_mem_append.mpr ⟨List.forall_mem_append.mpr ⟨List.forall_mem_append.mpr ⟨List.forall_mem_append.mpr ⟨List.forall_mem_append.mpr ⟨List.forall_mem_append.mpr ⟨hgL_law_L_does_0, List.forall_mem_append.mpr ⟨hgL_law_L_does_1, List.forall_mem_append.mpr ⟨hgL_law_L_does_2, List.forall_mem_append.mpr ⟨hgL_law_L_does_3, List.forall_mem_append.mpr ⟨hgL_law_L_does_4, List.forall_mem_append.mpr ⟨hgL_law_L_does_5, List.forall_mem_append.mpr ⟨hgL_law_L_does_6, List.forall_mem_append.mpr ⟨hgL_law_L_does_7, List.forall_mem_append.mpr ⟨hgL_law_L_does_8, List.forall_mem_append.mpr ⟨hgL_law_L_does_9, List.forall_mem_append.mpr ⟨hgL_law_L_does_10, List.forall_mem_append.mpr ⟨hgL_law_L_does_11, List.forall_mem_append.mpr ⟨hgL_law_L_does_12, List.forall_mem_append.mpr ⟨hgL_law_L_does_13, List.forall_mem_append.mpr ⟨hgL_law_L_does_14, List.forall_mem_append.mpr ⟨hgL_law_L_does_15, hgL_law_L_does_16⟩⟩⟩⟩⟩⟩⟩⟩⟩⟩⟩⟩⟩⟩⟩⟩, hgL_law_L_does_17⟩, hgL_law_L_does_18⟩, hgL_law_L_does_19⟩, hgL_law_L_does_20⟩, hgL_law_L_does_21⟩, hgL_law_L_does_22⟩, hgL_law_L_does_23⟩, hgL_law_L_does_24⟩⟩) (by decide +kernel)
set_option maxRecDepth 20000 in
theorem gL_law_L_does : GoodIn wsL_law (va_wsS RL 109 yL_does wsL_does) := goodIn_app (goodIn_of _ (by decide +kernel)) ggL_law_L_does
set_option maxRecDepth 100000 in
theorem hgL_law_L_isStreet_0 : ∀ w ∈ wsL_isStreet_r1, w ∈ wsL_law := xw_in _ [108, 109, 110, 2, 111, 12, 112, 113, 114, 115, 116, 117, 118, 27, 119, 20, 120, 121, 122, 123, 46, 124, 62, 61] rfl
set_option maxRecDepth 100000 in
theorem hgL_law_L_isStreet_1 : ∀ w ∈ wsL_isStreet_r2, w ∈ wsL_law := xw_in _ [125, 126, 127, 128, 16, 129, 130, 131, 15, 132, 133, 78, 79, 134, 135, 136, 137, 138, 139, 80, 140, 141, 142, 143] rfl
set_option maxRecDepth 100000 in
theorem hgL_law_L_isStreet_2 : ∀ w ∈ wsL_isStreet_r3, w ∈ wsL_law := xw_in _ [144, 145, 146, 147, 148, 149, 150, 151, 152, 153, 154, 155, 156, 157, 158, 159, 160, 161, 162, 163, 164, 165, 166, 167] rfl
set_option maxRecDepth 100000 in
theorem hgL_law_L_isStreet_3 : ∀ w ∈ wsL_isStreet_r4, w ∈ wsL_law := xw_in _ [168, 169, 170, 171, 172, 173, 174, 175, 176, 177, 178, 179, 180, 181, 182, 183, 184, 185, 186, 187, 188, 189, 190, 191] rfl
set_option maxRecDepth 100000 in
theorem hgL_law_L_isStreet_4 : ∀ w ∈ wsL_isStreet_r5, w ∈ wsL_law := xw_in _ [192, 193, 194, 195, 196, 197, 198, 199, 200, 201, 57, 202, 203, 204, 205, 206, 207, 208, 209, 210, 211, 212, 213, 214] rfl
set_option maxRecDepth 100000 in
theorem hgL_law_L_isStreet_5 : ∀ w ∈ wsL_isStreet_r6, w ∈ wsL_law := xw_in _ [215, 216, 217, 218, 219, 220, 221, 222, 223, 224, 225, 226, 227, 228, 229, 230, 231, 232] rfl
set_option maxRecDepth 100000 in
theorem hgL_law_L_isStreet_6 : ∀ w ∈ wsX70, w ∈ wsL_law := xw_in _ [481, 482, 483, 484, 485, 486, 487, 488] rfl
set_option maxRecDepth 100000 in
theorem hgL_law_L_isStreet_7 : ∀ w ∈ wsX60, w ∈ wsL_law := xw_in _ [489, 490, 491, 492] rfl
set_option maxRecDepth 100000 in
theorem hgL_law_L_isStreet_8 : ∀ w ∈ wsX50, w ∈ wsL_law := xw_in _ [505, 506, 507, 508, 509, 510] rfl
set_option maxRecDepth 100000 in
theorem hgL_law_L_isStreet_9 : ∀ w ∈ wsX20, w ∈ wsL_law := xw_in _ [511, 512, 513, 514, 515] rfl
set_option maxRecDepth 100000 in
theorem hgL_law_L_isStreet_10 : ∀ w ∈ wsX30, w ∈ wsL_law := xw_in _ [499, 500, 501] rfl
set_option maxRecDepth 100000 in
theorem hgL_law_L_isStreet_11 : ∀ w ∈ wsX10, w ∈ wsL_law := xw_in _ [496, 497, 498] rfl
set_option maxRecDepth 100000 in
theorem hgL_law_L_isStreet_12 : ∀ w ∈ wsX00, w ∈ wsL_law := xw_in _ [493, 494, 495] rfl
set_option maxRecDepth 100000 in
theorem ggL_law_L_isStreet : GoodIn wsL_law wsL_isStreet := goodIn_sub (List.forall_mem_cons.mpr ⟨List.mem_of_getElem? (i := 480) rfl, List.forall_mem_append.mpr ⟨List.forall_mem_append.mpr ⟨List.forall_mem_append.mpr ⟨List.forall_mem_append.mpr ⟨List.forall_mem_append.mpr ⟨List.forall_mem_append.mpr ⟨List.forall_mem_append.mpr ⟨List.forall_mem_append.mpr ⟨hgL_law_L_isStreet_0, List.forall_mem_append.mpr ⟨hgL_law_L_isStreet_1, List.forall_mem_append.mpr ⟨hgL_law_L_isStreet_2, List.forall_mem_append.mpr ⟨hgL_law_L_isStreet_3, List.forall_mem_append.mpr ⟨hgL_law_L_isStreet_4, hgL_law_L_isStreet_5⟩⟩⟩⟩⟩, hgL_law_L_isStreet_6⟩, hgL_law_L_isStreet_7⟩, hgL_law_L_isStreet_8⟩, hgL_law_L_isStreet_9⟩, hgL_law_L_isStreet_10⟩, hgL_law_L_isStreet_11⟩, hgL_law_L_isStreet_12⟩⟩) (by decide +kernel)
set_option maxRecDepth 20000 in
theorem gL_law_L_isStreet : GoodIn wsL_law (va_wsS RL 98 yL_isStreet wsL_isStreet) := goodIn_app (goodIn_of _ (by decide +kernel)) ggL_law_L_isStreet
set_option maxRecDepth 100000 in
theorem hgL_law_X7_init_0 : ∀ w ∈ wsX7_init_r1, w ∈ wsL_law := xw_in _ [6, 7, 8, 9, 10, 11, 12, 13, 14, 15, 16, 17, 18, 19, 20, 21, 22, 23, 24, 25, 26, 27, 28, 29] rfl
set_option maxRecDepth 100000 in
theorem hgL_law_X7_init_1 : ∀ w ∈ wsX7_init_r2, w ∈ wsL_law := xw_in _ [30, 31, 32, 33, 34, 35, 36, 37, 38, 39, 40, 41, 42, 43, 44, 45, 46, 47, 48, 49, 50, 51, 52, 53] rfl
set_option maxRecDepth 100000 in
theorem hgL_law_X7_init_2 : ∀ w ∈ wsX7_init_r3, w ∈ wsL_law := xw_in _ [54, 55, 56, 57, 58, 59, 60, 61, 62, 63, 64, 65, 66, 67, 68, 69, 70, 71, 72, 73, 74, 75, 76, 77] rfl
set_option maxRecDepth 100000 in
theorem hgL_law_X7_init_3 : ∀ w ∈ wsX7_init_r4, w ∈ wsL_law := xw_in _ [78, 79, 80, 81, 82, 83, 84, 85, 86, 87, 88, 89, 90, 91, 92, 93, 94, 95, 96, 97, 98, 99, 100, 101] rfl
set_option maxRecDepth 100000 in
theorem hgL_law_X7_init_4 : ∀ w ∈ wsX7_init_r5, w ∈ wsL_law := xw_in _ [102, 103] rfl
set_option maxRecDepth 100000 in
theorem hgL_law_X7_init_5 : ∀ w ∈ wsX60, w ∈ wsL_law := xw_in _ [489, 490, 491, 492] rfl
set_option maxRecDepth 100000 in
theorem hgL_law_X7_init_6 : ∀ w ∈ wsX70, w ∈ wsL_law := xw_in _ [481, 482, 483, 484, 485, 486, 487, 488] rfl
set_option maxRecDepth 100000 in
theorem hgL_law_X7_init_7 : ∀ w ∈ wsX00, w ∈ wsL_law := xw_in _ [493, 494, 495] rfl
set_option maxRecDepth 100000 in
theorem hgL_law_X7_init_8 : ∀ w ∈ wsX10, w ∈ wsL_law := xw_in _ [496, 497, 498] rfl
set_option maxRecDepth 100000 in
theorem hgL_law_X7_init_9 : ∀ w ∈ wsX30, w ∈ wsL_law := xw_in _ [499, 500, 501] rfl
set_option maxRecDepth 100000 in
theorem hgL_law_X7_init_10 : ∀ w ∈ wsX40, w ∈ wsL_law := xw_in _ [502, 503, 504] rfl
set_option maxRecDepth 100000 in
theorem hgL_law_X7_init_11 : ∀ w ∈ wsX50, w ∈ wsL_law := xw_in _ [505, 506, 507, 508, 509, 510] rfl
set_option maxRecDepth 100000 in
theorem hgL_law_X7_init_12 : ∀ w ∈ wsX20, w ∈ wsL_law := xw_in _ [511, 512, 513, 514, 515] rfl
set_option maxRecDepth 100000 in
theorem ggL_law_X7_init : GoodIn wsL_law wsX7_init := goodIn_sub (List.forall_mem_cons.mpr ⟨List.mem_of_getElem? (i := 5) rfl, List.forall_mem_append.mpr ⟨List.forall_mem_append.mpr ⟨List.forall_mem_append.mpr ⟨List.forall_mem_append.mpr ⟨List.forall_mem_append.mpr ⟨List.forall_mem_append.mpr ⟨List.forall_mem_append.mpr ⟨List.forall_mem_append.mpr ⟨List.forall_mem_append.mpr ⟨hgL_law_X7_init_0, List.forall_mem_append.mpr ⟨hgL_law_X7_init_1, List.forall_mem_append.mpr ⟨hgL_law_X7_init_2, List.forall_mem_append.mpr ⟨hgL_law_X7_init_3, hgL_law_X7_init_4⟩⟩⟩⟩, hgL_law_X7_init_5⟩, hgL_law_X7_init_6⟩, hgL_law_X7_init_7⟩, hgL_law_X7_init_8⟩, hgL_law_X7_init_9⟩, hgL_law_X7_init_10⟩, hgL_law_X7_init_11⟩, hgL_law_X7_init_12⟩⟩) (by decide +kernel)
set_option maxRecDepth 20000 in
theorem gL_law_X7_init : GoodIn wsL_law (wsX7_init) := ggL_law_X7_init
set_option maxRecDepth 100000 in
theorem hgL_law_L_areAll_0 : ∀ w ∈ wsL_areAll_r1, w ∈ wsL_law := xw_in _ [108, 109, 110, 2, 111, 12, 112, 113, 114, 115, 116, 117, 118, 27, 119, 20, 120, 121, 122, 123, 46, 124, 62, 61] rfl
set_option maxRecDepth 100000 in
theorem hgL_law_L_areAll_1 : ∀ w ∈ wsL_areAll_r2, w ∈ wsL_law := xw_in _ [125, 126, 127, 128, 16, 129, 130, 131, 15, 132, 133, 78, 79, 134, 135, 136, 137, 138, 139, 80, 140, 141, 142, 143] rfl
set_option maxRecDepth 100000 in
theorem hgL_law_L_areAll_2 : ∀ w ∈ wsL_areAll_r3, w ∈ wsL_law := xw_in _ [144, 145, 146, 147, 148, 149, 150, 151, 152, 153, 154, 155, 156, 157, 158, 159, 160, 161, 162, 163, 164, 165, 166, 167] rfl
set_option maxRecDepth 100000 in
theorem hgL_law_L_areAll_3 : ∀ w ∈ wsL_areAll_r4, w ∈ wsL_law := xw_in _ [168, 169, 170, 171, 172, 173, 174, 175, 176, 177, 178, 179, 180, 181, 182, 183, 184, 185, 186, 187, 188, 189, 190, 191] rfl
set_option maxRecDepth 100000 in
theorem hgL_law_L_areAll_4 : ∀ w ∈ wsL_areAll_r5, w ∈ wsL_law := xw_in _ [192, 193, 194, 195, 196, 197, 198, 199, 200, 201, 57, 202, 203, 204, 205, 206, 207, 208, 209, 210, 211, 212, 213, 214] rfl
set_option maxRecDepth 100000 in
theorem hgL_law_L_areAll_5 : ∀ w ∈ wsL_areAll_r6, w ∈ wsL_law := xw_in _ [215, 216, 217, 218, 219, 220, 221, 222, 223, 224, 225, 226, 227, 228, 229, 230, 231, 232, 233, 234, 235, 236, 237, 238] rfl
set_option maxRecDepth 100000 in
theorem hgL_law_L_areAll_6 : ∀ w ∈ wsL_areAll_r7, w ∈ wsL_law := xw_in _ [239, 240, 241, 242, 243, 244, 245, 246] rfl
set_option maxRecDepth 100000 in
theorem hgL_law_L_areAll_7 : ∀ w ∈ wsX70, w ∈ wsL_law := xw_in _ [481, 482, 483, 484, 485, 486, 487, 488] rfl
set_option maxRecDepth 100000 in
theorem hgL_law_L_areAll_8 : ∀ w ∈ wsX60, w ∈ wsL_law := xw_in _ [489, 490, 491, 492] rfl
set_option maxRecDepth 100000 in
theorem hgL_law_L_areAll_9 : ∀ w ∈ wsX50, w ∈ wsL_law := xw_in _ [505, 506, 507, 508, 509, 510] rfl
set_option maxRecDepth 100000 in
theorem hgL_law_L_areAll_10 : ∀ w ∈ wsX20, w ∈ wsL_law := xw_in _ [511, 512, 513, 514, 515] rfl
set_option maxRecDepth 100000 in
theorem hgL_law_L_areAll_11 : ∀ w ∈ wsX30, w ∈ wsL_law := xw_in _ [499, 500, 501] rfl
set_option maxRecDepth 100000 in
theorem hgL_law_L_areAll_12 : ∀ w ∈ wsX10, w ∈ wsL_law := xw_in _ [496, 497, 498] rfl
set_option maxRecDepth 100000 in
theorem hgL_law_L_areAll_13 : ∀ w ∈ wsX00, w ∈ wsL_law := xw_in _ [493, 494, 495] rfl
set_option maxRecDepth 100000 in
theorem ggL_law_L_areAll : GoodIn wsL_law wsL_areAll := goodIn_sub (List.forall_mem_cons.mpr ⟨List.mem_of_getElem? (i := 107) rfl, List.forall_mem_append.mpr ⟨List.forall_mem_append.mpr ⟨List.forall_mem_append.mpr ⟨List.forall_mem_append.mpr ⟨List.forall_mem_append.mpr ⟨List.forall_mem_append.mpr ⟨List.forall_mem_append.mpr ⟨List.forall_mem_append.mpr ⟨hgL_law_L_areAll_0, List.forall_mem_append.mpr ⟨hgL_law_L_areAll_1, List.forall_mem_append.mpr ⟨hgL_law_L_areAll_2, List.forall_mem_append.mpr ⟨hgL_law_L_areAll_3, List.forall_mem_append.mpr ⟨hgL_law_L_areAll_4, List.forall_mem_append.mpr ⟨hgL_law_L_areAll_5, hgL_law_L_areAll_6⟩⟩⟩⟩⟩⟩, hgL_law_L_areAll_7⟩, hgL_law_L_areAll_8⟩, hgL_law_L_areAll_9⟩, hgL_law_L_areAll_10⟩, hgL_law_L_areAll_11⟩, hgL_law_L_areAll_12⟩, hgL_law_L_areAll_13⟩⟩) (by decide +kernel)
set_option maxRecDepth 20000 in
theorem gL_law_L_areAll : GoodIn wsL_law (va_wsS RL 102 yL_areAll wsL_areAll) := goodIn_app (goodIn_of _ (by decide +kernel)) ggL_law_L_areAll
