set_option maxRecDepth 20000 in
theorem ggL_law_X7_street : GoodIn wsL_law wsX7_street := goodIn_r _ [382, 12, 112, 20, 197, 141, 142, 46, 143, 62, 144, 2, 145, 244, 245, 246, 383, 312, 313, 314, 315, 199, 200, 201, 57, 206, 207, 208, 209, 210, 211, 212, 357, 358, 359, 19, 360, 88, 87, 86, 268, 269, 270, 11, 271, 43, 47, 51, 52, 272, 273, 274, 151, 152, 153, 275, 276, 277, 278, 279, 280, 281, 282, 58, 59, 60, 61, 283, 284, 285, 50, 286, 66, 67, 68, 69, 70, 384, 72, 73, 74, 481, 482, 483, 484, 485, 486, 487, 488, 489, 490, 491, 492, 505, 506, 507, 508, 509, 510, 496, 497, 498, 511, 512, 513, 514, 515] (by decide +kernel) (by decide +kernel)
set_option maxRecDepth 20000 in
theorem gL_law_X7_street : GoodIn wsL_law (wsV RL 72 RX7 yX7_street wsX7_street) := goodIn_app (goodIn_of _ (by decide +kernel)) ggL_law_X7_street
set_option maxRecDepth 20000 in
theorem ggL_law_X7_change : GoodIn wsL_law wsX7_change := goodIn_r _ [388, 12, 112, 389, 390, 20, 197, 141, 142, 46, 143, 62, 144, 2, 145, 259, 244, 245, 246, 357, 358, 359, 19, 360, 88, 87, 86, 268, 269, 270, 11, 271, 43, 47, 51, 52, 272, 273, 274, 151, 152, 153, 275, 276, 277, 278, 279, 280, 281, 282, 57, 58, 59, 60, 61, 283, 284, 285, 50, 286, 66, 67, 68, 69, 70, 391, 392, 393, 394, 481, 482, 483, 484, 485, 486, 487, 488, 489, 490, 491, 492, 505, 506, 507, 508, 509, 510, 496, 497, 498, 511, 512, 513, 514, 515] (by decide +kernel) (by decide +kernel)
set_option maxRecDepth 20000 in
theorem gL_law_X7_change : GoodIn wsL_law (wsV RL 75 RX7 yX7_change wsX7_change) := goodIn_app (goodIn_of _ (by decide +kernel)) ggL_law_X7_change
set_option maxRecDepth 20000 in
theorem ggL_law_X7_wind : GoodIn wsL_law wsX7_wind := goodIn_r _ [398, 20, 12, 114, 241, 242, 2, 243, 244, 245, 246, 357, 358, 359, 19, 360, 88, 87, 86, 268, 269, 270, 11, 271, 43, 47, 51, 52, 272, 273, 274, 151, 152, 153, 275, 276, 277, 278, 279, 280, 281, 46, 282, 57, 58, 59, 60, 61, 62, 283, 284, 285, 50, 286, 66, 67, 68, 69, 70, 481, 482, 483, 484, 485, 486, 487, 488, 489, 490, 491, 492, 496, 497, 498, 505, 506, 507, 508, 509, 510, 511, 512, 513, 514, 515] (by decide +kernel) (by decide +kernel)
set_option maxRecDepth 20000 in
theorem gL_law_X7_wind : GoodIn wsL_law (wsV RL 40 RX7 yX7_wind wsX7_wind) := goodIn_app (goodIn_of _ (by decide +kernel)) ggL_law_X7_wind
set_option maxRecDepth 20000 in
theorem ggL_law_X7_pass : GoodIn wsL_law wsX7_pass := goodIn_r _ [412, 12, 115, 116, 20, 16, 114, 244, 245, 2, 246, 357, 358, 359, 19, 360, 88, 87, 86, 268, 269, 270, 11, 271, 43, 47, 51, 52, 272, 273, 274, 151, 152, 153, 275, 276, 277, 278, 279, 280, 281, 46, 282, 57, 58, 59, 60, 61, 62, 283, 284, 285, 50, 286, 66, 67, 68, 69, 70, 175, 176, 177, 15, 178, 160, 179, 180, 130, 131, 132, 133, 78, 79, 134, 135, 181, 137, 138, 139, 80, 140, 141, 142, 143, 144, 145, 146, 147, 148, 149, 150, 154, 155, 156, 157, 158, 159, 161, 162, 163, 164, 165, 166, 167, 168, 169, 170, 413, 414, 415, 416, 417, 418, 419, 420, 421, 422, 423, 481, 482, 483, 484, 485, 486, 487, 488, 489, 490, 491, 492, 511, 512, 513, 514, 515, 496, 497, 498, 505, 506, 507, 508, 509, 510, 493, 494, 495] (by decide +kernel) (by decide +kernel)
set_option maxRecDepth 20000 in
theorem gL_law_X7_pass : GoodIn wsL_law (wsV RL 31 RX7 yX7_pass wsX7_pass) := goodIn_app (goodIn_of _ (by decide +kernel)) ggL_law_X7_pass
set_option maxRecDepth 20000 in
theorem ggL_law_X7_set : GoodIn wsL_law wsX7_set := goodIn_r _ [402, 403, 404, 405, 20, 12, 118, 259, 144, 2, 145, 244, 245, 246, 357, 358, 359, 19, 360, 88, 87, 86, 268, 269, 270, 11, 271, 43, 47, 51, 52, 272, 273, 274, 151, 152, 153, 275, 276, 277, 278, 279, 280, 281, 46, 282, 57, 58, 59, 60, 61, 62, 283, 284, 285, 50, 286, 66, 67, 68, 69, 70, 481, 482, 483, 484, 485, 486, 487, 488, 489, 490, 491, 492, 496, 497, 498, 505, 506, 507, 508, 509, 510, 511, 512, 513, 514, 515] (by decide +kernel) (by decide +kernel)
set_option maxRecDepth 20000 in
theorem gL_law_X7_set : GoodIn wsL_law (wsV RL 79 RX7 yX7_set wsX7_set) := goodIn_app (goodIn_of _ (by decide +kernel)) ggL_law_X7_set
set_option maxRecDepth 20000 in
theorem ggL_law_X7_ifWind : GoodIn wsL_law wsX7_ifWind := goodIn_r _ [240, 241, 242, 2, 243, 244, 245, 246, 125, 126, 127, 128, 16, 12, 112, 129, 130, 131, 15, 132, 133, 78, 79, 134, 135, 136, 137, 138, 139, 80, 140, 141, 142, 46, 143, 62, 144, 145, 146, 147, 148, 149, 150, 151, 152, 153, 154, 155, 156, 157, 158, 159, 160, 161, 162, 163, 164, 165, 166, 167, 168, 169, 170, 481, 482, 483, 484, 485, 486, 487, 488, 489, 490, 491, 492, 505, 506, 507, 508, 509, 510, 493, 494, 495] (by decide +kernel) (by decide +kernel)
set_option maxRecDepth 20000 in
theorem gL_law_X7_ifWind : GoodIn wsL_law (wsV RL 25 RX7 yX7_ifWind wsX7_ifWind) := goodIn_app (goodIn_of _ (by decide +kernel)) ggL_law_X7_ifWind
set_option maxRecDepth 20000 in
theorem ggL_law_X7_windFor : GoodIn wsL_law wsX7_windFor := goodIn_r _ [430, 16, 12, 112, 244, 245, 2, 246, 129, 130, 131, 15, 132, 133, 78, 79, 134, 135, 136, 137, 138, 139, 80, 140, 141, 142, 46, 143, 62, 144, 145, 146, 147, 148, 149, 150, 151, 152, 153, 154, 155, 156, 157, 158, 159, 160, 161, 162, 163, 164, 165, 166, 167, 168, 169, 170, 481, 482, 483, 484, 485, 486, 487, 488, 489, 490, 491, 492, 505, 506, 507, 508, 509, 510, 493, 494, 495] (by decide +kernel) (by decide +kernel)
set_option maxRecDepth 20000 in
theorem gL_law_X7_windFor : GoodIn wsL_law (wsV RL 34 RX7 yX7_windFor wsX7_windFor) := goodIn_app (goodIn_of _ (by decide +kernel)) ggL_law_X7_windFor
set_option maxRecDepth 20000 in
theorem ggL_law_X7_now : GoodIn wsL_law wsX7_now := goodIn_r _ [221, 12, 112, 16, 187, 197, 141, 142, 46, 143, 62, 144, 2, 145, 175, 176, 177, 15, 178, 160, 179, 180, 130, 131, 132, 133, 78, 79, 134, 135, 181, 137, 138, 139, 80, 140, 146, 147, 148, 149, 150, 151, 152, 153, 154, 155, 222, 168, 169, 170, 165, 223, 224, 225, 226, 227, 228, 229, 230, 231, 232, 182, 162, 163, 164, 166, 167, 481, 482, 483, 484, 485, 486, 487, 488, 489, 490, 491, 492, 493, 494, 495, 505, 506, 507, 508, 509, 510] (by decide +kernel) (by decide +kernel)
set_option maxRecDepth 20000 in
theorem gL_law_X7_now : GoodIn wsL_law (wsV RL 18 RX7 yX7_now wsX7_now) := goodIn_app (goodIn_of _ (by decide +kernel)) ggL_law_X7_now
