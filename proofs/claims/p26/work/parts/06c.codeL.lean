set_option maxRecDepth 20000 in
theorem ggL_does_X7_count : GoodIn wsL_does wsX7_count := goodIn_r _ [5, 6, 7, 8, 9, 10, 11, 12, 13, 14, 15, 16, 17, 18, 19, 20, 21, 22, 23, 24, 25, 26, 27, 4, 28, 29, 30, 31, 32, 33, 34, 35, 36, 37, 38, 39, 40, 41, 42, 43, 44, 45, 46, 47, 48, 49, 50, 51, 52, 53, 54, 55, 56, 57, 58, 59, 60, 61, 62, 63, 64, 65, 66, 67, 68, 69, 70, 71, 72, 73, 74, 75, 76, 77, 78, 79, 80, 81, 82, 83, 84, 85, 86, 87, 88, 89, 90, 91, 92, 409, 410, 411, 412, 413, 414, 415, 416, 417, 418, 419, 420, 421, 422, 423, 424, 425, 426, 427, 428, 429, 430, 431, 432, 433, 434, 435, 436, 437, 438, 439, 440] (by decide +kernel) (by decide +kernel)
set_option maxRecDepth 20000 in
theorem gL_does_X7_count : GoodIn wsL_does (wsV RL 8 RX7 yX7_count wsX7_count) := goodIn_app (goodIn_of _ (by decide +kernel)) ggL_does_X7_count
set_option maxRecDepth 20000 in
theorem ggL_does_L_low : GoodIn wsL_does wsL_low := goodIn_r _ [96, 97] (by decide +kernel) (by decide +kernel)
set_option maxRecDepth 20000 in
theorem gL_does_L_low : GoodIn wsL_does (va_wsS RL 69 yL_low wsL_low) := goodIn_app (goodIn_of _ (by decide +kernel)) ggL_does_L_low
set_option maxRecDepth 20000 in
theorem ggL_does_X7_of : GoodIn wsL_does wsX7_of := goodIn_r _ [101, 6, 7, 102, 103, 104, 105, 106, 107, 46, 47, 21, 48, 23, 49, 4, 50, 108, 109, 110, 111, 112, 113, 114, 115, 116, 117, 118, 119, 120, 121, 122, 123, 124, 125, 126, 127, 128, 409, 410, 411, 412, 413, 414, 415, 416, 417, 418, 419, 420, 421, 422, 423, 424, 425, 426] (by decide +kernel) (by decide +kernel)
set_option maxRecDepth 20000 in
theorem gL_does_X7_of : GoodIn wsL_does (wsV RL 14 RX7 yX7_of wsX7_of) := goodIn_app (goodIn_of _ (by decide +kernel)) ggL_does_X7_of
set_option maxRecDepth 20000 in
theorem ggL_does_L_ones : GoodIn wsL_does wsL_ones := goodIn_r _ [131] (by decide +kernel) (by decide +kernel)
set_option maxRecDepth 20000 in
theorem gL_does_L_ones : GoodIn wsL_does (va_wsS RL 58 yL_ones wsL_ones) := goodIn_app (goodIn_of _ (by decide +kernel)) ggL_does_L_ones
set_option maxRecDepth 20000 in
theorem ggL_does_X7_street : GoodIn wsL_does wsX7_street := goodIn_r _ [135, 6, 7, 16, 107, 46, 47, 21, 48, 23, 49, 4, 50, 136, 137, 138, 139, 140, 141, 142, 143, 109, 110, 111, 112, 117, 118, 119, 120, 121, 122, 123, 144, 145, 146, 147, 148, 149, 150, 151, 152, 153, 154, 155, 156, 157, 158, 159, 160, 161, 162, 163, 56, 57, 58, 164, 165, 166, 167, 168, 169, 170, 171, 172, 173, 174, 24, 175, 176, 177, 178, 179, 180, 181, 182, 183, 184, 185, 186, 187, 188, 409, 410, 411, 412, 413, 414, 415, 416, 417, 418, 419, 420, 421, 422, 423, 424, 425, 426, 435, 436, 437, 427, 428, 429, 430, 431] (by decide +kernel) (by decide +kernel)
set_option maxRecDepth 20000 in
theorem gL_does_X7_street : GoodIn wsL_does (wsV RL 72 RX7 yX7_street wsX7_street) := goodIn_app (goodIn_of _ (by decide +kernel)) ggL_does_X7_street
set_option maxRecDepth 20000 in
theorem ggL_does_X7_change : GoodIn wsL_does wsX7_change := goodIn_r _ [192, 6, 7, 193, 194, 16, 107, 46, 47, 21, 48, 23, 49, 4, 50, 195, 136, 137, 138, 144, 145, 146, 147, 148, 149, 150, 151, 152, 153, 154, 155, 156, 157, 158, 159, 160, 161, 162, 163, 56, 57, 58, 164, 165, 166, 167, 168, 169, 170, 171, 112, 172, 173, 174, 24, 175, 176, 177, 178, 179, 180, 181, 182, 183, 184, 196, 197, 198, 199, 409, 410, 411, 412, 413, 414, 415, 416, 417, 418, 419, 420, 421, 422, 423, 424, 425, 426, 435, 436, 437, 427, 428, 429, 430, 431] (by decide +kernel) (by decide +kernel)
set_option maxRecDepth 20000 in
theorem gL_does_X7_change : GoodIn wsL_does (wsV RL 75 RX7 yX7_change wsX7_change) := goodIn_app (goodIn_of _ (by decide +kernel)) ggL_does_X7_change
set_option maxRecDepth 20000 in
theorem ggL_does_X7_wind : GoodIn wsL_does wsX7_wind := goodIn_r _ [203, 16, 6, 9, 204, 205, 4, 206, 136, 137, 138, 144, 145, 146, 147, 148, 149, 150, 151, 152, 153, 154, 155, 156, 157, 158, 159, 160, 161, 162, 163, 56, 57, 58, 164, 165, 166, 167, 168, 169, 170, 21, 171, 112, 172, 173, 174, 24, 23, 175, 176, 177, 178, 179, 180, 181, 182, 183, 184, 409, 410, 411, 412, 413, 414, 415, 416, 417, 418, 419, 420, 435, 436, 437, 421, 422, 423, 424, 425, 426, 427, 428, 429, 430, 431] (by decide +kernel) (by decide +kernel)
set_option maxRecDepth 20000 in
theorem gL_does_X7_wind : GoodIn wsL_does (wsV RL 40 RX7 yX7_wind wsX7_wind) := goodIn_app (goodIn_of _ (by decide +kernel)) ggL_does_X7_wind
set_option maxRecDepth 20000 in
theorem ggL_does_X7_set : GoodIn wsL_does wsX7_set := goodIn_r _ [210, 211, 212, 213, 16, 6, 13, 195, 49, 4, 50, 136, 137, 138, 144, 145, 146, 147, 148, 149, 150, 151, 152, 153, 154, 155, 156, 157, 158, 159, 160, 161, 162, 163, 56, 57, 58, 164, 165, 166, 167, 168, 169, 170, 21, 171, 112, 172, 173, 174, 24, 23, 175, 176, 177, 178, 179, 180, 181, 182, 183, 184, 409, 410, 411, 412, 413, 414, 415, 416, 417, 418, 419, 420, 435, 436, 437, 421, 422, 423, 424, 425, 426, 427, 428, 429, 430, 431] (by decide +kernel) (by decide +kernel)
set_option maxRecDepth 20000 in
theorem gL_does_X7_set : GoodIn wsL_does (wsV RL 79 RX7 yX7_set wsX7_set) := goodIn_app (goodIn_of _ (by decide +kernel)) ggL_does_X7_set
set_option maxRecDepth 20000 in
theorem ggL_does_L_isPassed : GoodIn wsL_does wsL_isPassed := goodIn_r _ [216, 1, 2, 3, 4, 5, 6, 7, 8, 9, 10, 11, 12, 13, 14, 15, 16, 17, 18, 19, 20, 21, 22, 23, 24, 25, 26, 27, 28, 29, 30, 31, 32, 33, 34, 35, 36, 37, 38, 39, 40, 41, 42, 43, 44, 45, 46, 47, 48, 49, 50, 51, 52, 53, 54, 55, 56, 57, 58, 59, 60, 61, 62, 63, 64, 65, 66, 67, 68, 69, 70, 71, 72, 73, 74, 75, 76, 77, 78, 79, 80, 81, 82, 83, 84, 85, 86, 87, 88, 89, 90, 91, 92, 217, 218, 219, 220, 221, 222, 223, 224, 225, 226, 178, 227, 183, 228, 195, 229, 230, 231, 232, 107, 233, 234, 235, 236, 237, 238, 239, 240, 241, 242, 243, 244, 245, 246, 247, 136, 137, 138, 144, 145, 146, 147, 148, 149, 150, 151, 152, 153, 154, 155, 156, 157, 158, 159, 160, 161, 162, 163, 164, 165, 166, 167, 168, 169, 170, 171, 112, 172, 173, 174, 175, 176, 177, 179, 180, 181, 182, 184, 248, 249, 250, 251, 252, 253, 254, 255, 256, 257, 258, 409, 410, 411, 412, 413, 414, 415, 416, 417, 418, 419, 420, 421, 422, 423, 424, 425, 426, 427, 428, 429, 430, 431, 432, 433, 434, 435, 436, 437, 438, 439, 440] (by decide +kernel) (by decide +kernel)
set_option maxRecDepth 20000 in
theorem gL_does_L_isPassed : GoodIn wsL_does (va_wsS RL 82 yL_isPassed wsL_isPassed) := goodIn_app (goodIn_of _ (by decide +kernel)) ggL_does_L_isPassed
set_option maxRecDepth 20000 in
theorem ggL_does_L_isLeast : GoodIn wsL_does wsL_isLeast := goodIn_r _ [261, 262, 263, 264, 4, 265, 29, 6, 7, 136, 137, 138, 30, 31, 32, 33, 34, 35, 36, 37, 38, 39, 40, 41, 42, 43, 44, 45, 46, 47, 21, 48, 23, 49, 50, 51, 52, 53, 54, 55, 56, 57, 58, 59, 60, 61, 62, 63, 64, 65, 66, 67, 68, 69, 70, 71, 72, 73, 74, 75, 266, 267, 268, 269, 204, 205, 206, 25, 26, 27, 28, 270, 271, 272, 273, 104, 107, 234, 235, 236, 237, 238, 98, 99, 100, 101, 102, 103, 105, 106, 108, 109, 110, 111, 112, 113, 114, 115, 116, 117, 118, 119, 120, 121, 122, 123, 124, 125, 126, 127, 128, 200, 201, 202, 203, 16, 9, 144, 145, 146, 147, 148, 149, 150, 151, 152, 153, 154, 155, 156, 157, 158, 159, 160, 161, 162, 163, 164, 165, 166, 167, 168, 169, 170, 171, 172, 173, 174, 24, 175, 176, 177, 178, 179, 180, 181, 182, 183, 184, 229, 230, 231, 232, 92, 80, 81, 82, 83, 84, 85, 86, 233, 239, 240, 241, 242, 243, 87, 1, 2, 3, 5, 8, 10, 11, 12, 13, 14, 15, 17, 18, 19, 20, 22, 76, 77, 78, 79, 88, 89, 90, 91, 409, 410, 411, 412, 413, 414, 415, 416, 417, 418, 419, 420, 421, 422, 423, 424, 425, 426, 438, 439, 440, 435, 436, 437, 427, 428, 429, 430, 431, 432, 433, 434] (by decide +kernel) (by decide +kernel)
set_option maxRecDepth 20000 in
theorem gL_does_L_isLeast : GoodIn wsL_does (va_wsS RL 86 yL_isLeast wsL_isLeast) := goodIn_app (goodIn_of _ (by decide +kernel)) ggL_does_L_isLeast
set_option maxRecDepth 20000 in
theorem ggL_does_L_isWithout : GoodIn wsL_does wsL_isWithout := goodIn_r _ [276, 277, 278, 279, 4, 280, 6, 7, 102, 29, 92, 9, 107, 46, 47, 21, 48, 23, 49, 50, 80, 81, 82, 33, 83, 65, 84, 85, 31, 32, 34, 35, 36, 37, 38, 39, 86, 41, 42, 43, 44, 45, 51, 52, 53, 54, 55, 56, 57, 58, 59, 60, 30, 40, 98, 99, 100, 101, 103, 104, 105, 106, 108, 109, 110, 111, 112, 113, 114, 115, 116, 117, 118, 119, 120, 121, 122, 123, 124, 125, 126, 127, 128, 1, 2, 3, 5, 8, 10, 11, 12, 13, 14, 15, 16, 17, 18, 19, 20, 22, 24, 25, 26, 27, 28, 61, 62, 63, 64, 66, 67, 68, 69, 70, 71, 72, 73, 74, 75, 76, 77, 78, 79, 87, 88, 89, 90, 91, 229, 230, 231, 232, 233, 234, 235, 236, 237, 238, 239, 240, 241, 242, 243, 409, 410, 411, 412, 413, 414, 415, 416, 417, 418, 419, 420, 421, 422, 423, 424, 425, 426, 438, 439, 440, 427, 428, 429, 430, 431, 432, 433, 434, 435, 436, 437] (by decide +kernel) (by decide +kernel)
set_option maxRecDepth 20000 in
theorem gL_does_L_isWithout : GoodIn wsL_does (va_wsS RL 90 yL_isWithout wsL_isWithout) := goodIn_app (goodIn_of _ (by decide +kernel)) ggL_does_L_isWithout
set_option maxRecDepth 20000 in
theorem ggL_does_L_isWritten : GoodIn wsL_does wsL_isWritten := goodIn_r _ [283, 1, 2, 3, 4, 5, 6, 7, 8, 9, 10, 11, 12, 13, 14, 15, 16, 17, 18, 19, 20, 21, 22, 23, 24, 25, 26, 27, 28, 29, 30, 31, 32, 33, 34, 35, 36, 37, 38, 39, 40, 41, 42, 43, 44, 45, 46, 47, 48, 49, 50, 51, 52, 53, 54, 55, 56, 57, 58, 59, 60, 61, 62, 63, 64, 65, 66, 67, 68, 69, 70, 71, 72, 73, 74, 75, 76, 77, 78, 79, 80, 81, 82, 83, 84, 85, 86, 87, 88, 89, 90, 91, 92, 98, 99, 100, 101, 102, 103, 104, 105, 106, 107, 108, 109, 110, 111, 112, 113, 114, 115, 116, 117, 118, 119, 120, 121, 122, 123, 124, 125, 126, 127, 128, 284, 285, 286, 287, 288, 289, 290, 291, 292, 293, 294, 295, 296, 297, 298, 299, 300, 301, 302, 303, 304, 305, 306, 307, 308, 309, 310, 311, 312, 165, 166, 167, 313, 314, 315, 316, 317, 318, 319, 320, 321, 322, 323, 324, 325, 326, 327, 328, 329, 330, 331, 332, 333, 334, 335, 336, 337, 338, 339, 340, 137, 138, 341, 140, 141, 142, 143, 342, 186, 187, 188, 172, 173, 174, 343, 344, 345, 346, 347, 348, 349, 350, 351, 352, 353, 354, 355, 356, 357, 358, 359, 360, 361, 362, 363, 364, 365, 366, 367, 368, 369, 370, 371, 372, 373, 374, 375, 376, 377, 378, 379, 380, 381, 382, 383, 384, 385, 386, 387, 195, 388, 389, 390, 391, 392, 144, 145, 146, 147, 148, 149, 150, 151, 152, 153, 154, 155, 156, 157, 158, 159, 160, 161, 162, 163, 164, 168, 169, 170, 171, 175, 176, 177, 178, 179, 180, 181, 182, 183, 184, 393, 129, 130, 95, 131, 394, 395, 396, 397, 398, 399, 400, 401, 402, 403, 404, 405, 409, 410, 411, 412, 413, 414, 415, 416, 417, 418, 419, 420, 421, 422, 423, 424, 425, 426, 427, 428, 429, 430, 431, 432, 433, 434, 435, 436, 437, 438, 439, 440, 441, 442, 443] (by decide +kernel) (by decide +kernel)
set_option maxRecDepth 20000 in
theorem gL_does_L_isWritten : GoodIn wsL_does (va_wsS RL 94 yL_isWritten wsL_isWritten) := goodIn_app (goodIn_of _ (by decide +kernel)) ggL_does_L_isWritten
set_option maxRecDepth 20000 in
theorem ggL_does_L_isStreet : GoodIn wsL_does wsL_isStreet := goodIn_r _ [408, 1, 2, 3, 4, 5, 6, 7, 8, 9, 10, 11, 12, 13, 14, 15, 16, 17, 18, 19, 20, 21, 22, 23, 24, 25, 26, 27, 28, 29, 30, 31, 32, 33, 34, 35, 36, 37, 38, 39, 40, 41, 42, 43, 44, 45, 46, 47, 48, 49, 50, 51, 52, 53, 54, 55, 56, 57, 58, 59, 60, 61, 62, 63, 64, 65, 66, 67, 68, 69, 70, 71, 72, 73, 74, 75, 76, 77, 78, 79, 80, 81, 82, 83, 84, 85, 86, 87, 88, 89, 90, 91, 92, 98, 99, 100, 101, 102, 103, 104, 105, 106, 107, 108, 109, 110, 111, 112, 113, 114, 115, 116, 117, 118, 119, 120, 121, 122, 123, 124, 125, 126, 127, 128, 229, 230, 231, 232, 233, 234, 235, 236, 237, 238, 239, 240, 241, 242, 243, 409, 410, 411, 412, 413, 414, 415, 416, 417, 418, 419, 420, 421, 422, 423, 424, 425, 426, 427, 428, 429, 430, 431, 432, 433, 434, 435, 436, 437, 438, 439, 440] (by decide +kernel) (by decide +kernel)
set_option maxRecDepth 20000 in
theorem gL_does_L_isStreet : GoodIn wsL_does (va_wsS RL 98 yL_isStreet wsL_isStreet) := goodIn_app (goodIn_of _ (by decide +kernel)) ggL_does_L_isStreet
theorem dL_does_0 : decode cL_does 0 = .ok (.aload_n 0, 1) := by decide +kernel
theorem dL_does_1 : decode cL_does 1 = .ok (.iconst 0, 1) := by decide +kernel
theorem dL_does_2 : decode cL_does 2 = .ok (.invokevirtual 8, 3) := by decide +kernel
theorem dL_does_5 : decode cL_does 5 = .ok (.istore_n 3, 1) := by decide +kernel
theorem dL_does_6 : decode cL_does 6 = .ok (.iload_n 1, 1) := by decide +kernel
theorem dL_does_7 : decode cL_does 7 = .ok (.iconst 5, 1) := by decide +kernel
theorem dL_does_8 : decode cL_does 8 = .ok (.ishr, 1) := by decide +kernel
theorem dL_does_9 : decode cL_does 9 = .ok (.iload_n 3, 1) := by decide +kernel
theorem dL_does_10 : decode cL_does 10 = .ok (.invokestatic 69, 3) := by decide +kernel
theorem dL_does_13 : decode cL_does 13 = .ok (.istore 4, 2) := by decide +kernel
theorem dL_does_15 : decode cL_does 15 = .ok (.iload_n 1, 1) := by decide +kernel
theorem dL_does_16 : decode cL_does 16 = .ok (.bipush 18, 2) := by decide +kernel
theorem dL_does_18 : decode cL_does 18 = .ok (.invokestatic 69, 3) := by decide +kernel
theorem dL_does_21 : decode cL_does 21 = .ok (.tableswitch 565 0 16 #[83, 83, 83, 199, 199, 199, 199, 199, 325, 325, 369, 480, 480, 505, 548, 548, 560], 83) := by decide +kernel
theorem dL_does_104 : decode cL_does 104 = .ok (.iconst 1, 1) := by decide +kernel
theorem dL_does_105 : decode cL_does 105 = .ok (.iload_n 2, 1) := by decide +kernel
theorem dL_does_106 : decode cL_does 106 = .ok (.bipush 9, 2) := by decide +kernel
theorem dL_does_108 : decode cL_does 108 = .ok (.invokestatic 69, 3) := by decide +kernel
theorem dL_does_111 : decode cL_does 111 = .ok (.iadd, 1) := by decide +kernel
theorem dL_does_112 : decode cL_does 112 = .ok (.istore 5, 2) := by decide +kernel
theorem dL_does_114 : decode cL_does 114 = .ok (.aload_n 0, 1) := by decide +kernel
theorem dL_does_115 : decode cL_does 115 = .ok (.iload 4, 2) := by decide +kernel
theorem dL_does_117 : decode cL_does 117 = .ok (.iconst 5, 1) := by decide +kernel
theorem dL_does_118 : decode cL_does 118 = .ok (.invokevirtual 14, 3) := by decide +kernel
theorem dL_does_121 : decode cL_does 121 = .ok (.invokestatic 58, 3) := by decide +kernel
theorem dL_does_124 : decode cL_does 124 = .ok (.istore 6, 2) := by decide +kernel
theorem dL_does_126 : decode cL_does 126 = .ok (.aload_n 0, 1) := by decide +kernel
theorem dL_does_127 : decode cL_does 127 = .ok (.iload 4, 2) := by decide +kernel
theorem dL_does_129 : decode cL_does 129 = .ok (.iload 5, 2) := by decide +kernel
theorem dL_does_131 : decode cL_does 131 = .ok (.invokevirtual 72, 3) := by decide +kernel
theorem dL_does_134 : decode cL_does 134 = .ok (.istore 7, 2) := by decide +kernel
theorem dL_does_136 : decode cL_does 136 = .ok (.iload_n 3, 1) := by decide +kernel
theorem dL_does_137 : decode cL_does 137 = .ok (.bipush 20, 2) := by decide +kernel
theorem dL_does_139 : decode cL_does 139 = .ok (.if_icmp .eq 9, 3) := by decide +kernel
theorem dL_does_142 : decode cL_does 142 = .ok (.iload 6, 2) := by decide +kernel
theorem dL_does_144 : decode cL_does 144 = .ok (.iconst 4, 1) := by decide +kernel
theorem dL_does_145 : decode cL_does 145 = .ok (.if_icmp .ne 18, 3) := by decide +kernel
theorem dL_does_148 : decode cL_does 148 = .ok (.iload 7, 2) := by decide +kernel
theorem dL_does_150 : decode cL_does 150 = .ok (.bipush (-4), 2) := by decide +kernel
theorem dL_does_152 : decode cL_does 152 = .ok (.if_icmp .ne 7, 3) := by decide +kernel
theorem dL_does_155 : decode cL_does 155 = .ok (.iconst 1, 1) := by decide +kernel
theorem dL_does_156 : decode cL_does 156 = .ok (.goto 63, 3) := by decide +kernel
theorem dL_does_159 : decode cL_does 159 = .ok (.iconst 0, 1) := by decide +kernel
theorem dL_does_160 : decode cL_does 160 = .ok (.goto 59, 3) := by decide +kernel
theorem dL_does_163 : decode cL_does 163 = .ok (.iload 7, 2) := by decide +kernel
theorem dL_does_165 : decode cL_does 165 = .ok (.iload_n 3, 1) := by decide +kernel
theorem dL_does_166 : decode cL_does 166 = .ok (.if_icmp .ne 52, 3) := by decide +kernel
theorem dL_does_169 : decode cL_does 169 = .ok (.aload_n 0, 1) := by decide +kernel
theorem dL_does_170 : decode cL_does 170 = .ok (.iload_n 3, 1) := by decide +kernel
theorem dL_does_171 : decode cL_does 171 = .ok (.iconst 0, 1) := by decide +kernel
theorem dL_does_172 : decode cL_does 172 = .ok (.invokevirtual 14, 3) := by decide +kernel
theorem dL_does_175 : decode cL_does 175 = .ok (.iload 4, 2) := by decide +kernel
theorem dL_does_177 : decode cL_does 177 = .ok (.if_icmp .ne 41, 3) := by decide +kernel
theorem dL_does_180 : decode cL_does 180 = .ok (.aload_n 0, 1) := by decide +kernel
theorem dL_does_181 : decode cL_does 181 = .ok (.iload_n 3, 1) := by decide +kernel
theorem dL_does_182 : decode cL_does 182 = .ok (.iconst 1, 1) := by decide +kernel
theorem dL_does_183 : decode cL_does 183 = .ok (.invokevirtual 14, 3) := by decide +kernel
theorem dL_does_186 : decode cL_does 186 = .ok (.iload 5, 2) := by decide +kernel
theorem dL_does_188 : decode cL_does 188 = .ok (.if_icmp .ne 30, 3) := by decide +kernel
theorem dL_does_191 : decode cL_does 191 = .ok (.aload_n 0, 1) := by decide +kernel
theorem dL_does_192 : decode cL_does 192 = .ok (.iload_n 3, 1) := by decide +kernel
theorem dL_does_193 : decode cL_does 193 = .ok (.iconst 2, 1) := by decide +kernel
theorem dL_does_194 : decode cL_does 194 = .ok (.invokevirtual 14, 3) := by decide +kernel
theorem dL_does_197 : decode cL_does 197 = .ok (.aload_n 0, 1) := by decide +kernel
theorem dL_does_198 : decode cL_does 198 = .ok (.iload_n 3, 1) := by decide +kernel
theorem dL_does_199 : decode cL_does 199 = .ok (.iconst 3, 1) := by decide +kernel
theorem dL_does_200 : decode cL_does 200 = .ok (.invokevirtual 14, 3) := by decide +kernel
theorem dL_does_203 : decode cL_does 203 = .ok (.iadd, 1) := by decide +kernel
theorem dL_does_204 : decode cL_does 204 = .ok (.aload_n 0, 1) := by decide +kernel
theorem dL_does_205 : decode cL_does 205 = .ok (.iload_n 3, 1) := by decide +kernel
theorem dL_does_206 : decode cL_does 206 = .ok (.iconst 4, 1) := by decide +kernel
theorem dL_does_207 : decode cL_does 207 = .ok (.invokevirtual 14, 3) := by decide +kernel
theorem dL_does_210 : decode cL_does 210 = .ok (.iadd, 1) := by decide +kernel
theorem dL_does_211 : decode cL_does 211 = .ok (.ifCond .ne 7, 3) := by decide +kernel
theorem dL_does_214 : decode cL_does 214 = .ok (.iconst 1, 1) := by decide +kernel
theorem dL_does_215 : decode cL_does 215 = .ok (.goto 4, 3) := by decide +kernel
theorem dL_does_218 : decode cL_does 218 = .ok (.iconst 0, 1) := by decide +kernel
theorem dL_does_219 : decode cL_does 219 = .ok (.ireturn, 1) := by decide +kernel
theorem dL_does_220 : decode cL_does 220 = .ok (.iload_n 2, 1) := by decide +kernel
theorem dL_does_221 : decode cL_does 221 = .ok (.iconst 4, 1) := by decide +kernel
theorem dL_does_222 : decode cL_does 222 = .ok (.invokestatic 69, 3) := by decide +kernel
theorem dL_does_225 : decode cL_does 225 = .ok (.istore 8, 2) := by decide +kernel
theorem dL_does_227 : decode cL_does 227 = .ok (.iload 8, 2) := by decide +kernel
theorem dL_does_229 : decode cL_does 229 = .ok (.iconst 3, 1) := by decide +kernel
theorem dL_does_230 : decode cL_does 230 = .ok (.if_icmp .ne 7, 3) := by decide +kernel
theorem dL_does_233 : decode cL_does 233 = .ok (.iconst 1, 1) := by decide +kernel
theorem dL_does_234 : decode cL_does 234 = .ok (.goto 7, 3) := by decide +kernel
theorem dL_does_237 : decode cL_does 237 = .ok (.iconst 2, 1) := by decide +kernel
theorem dL_does_238 : decode cL_does 238 = .ok (.iload 8, 2) := by decide +kernel
theorem dL_does_240 : decode cL_does 240 = .ok (.iadd, 1) := by decide +kernel
theorem dL_does_241 : decode cL_does 241 = .ok (.istore 9, 2) := by decide +kernel
theorem dL_does_243 : decode cL_does 243 = .ok (.iload 8, 2) := by decide +kernel
theorem dL_does_245 : decode cL_does 245 = .ok (.ifCond .ne 14, 3) := by decide +kernel
theorem dL_does_248 : decode cL_does 248 = .ok (.iload_n 2, 1) := by decide +kernel
theorem dL_does_249 : decode cL_does 249 = .ok (.iconst 2, 1) := by decide +kernel
theorem dL_does_250 : decode cL_does 250 = .ok (.ishr, 1) := by decide +kernel
theorem dL_does_251 : decode cL_does 251 = .ok (.bipush 6, 2) := by decide +kernel
theorem dL_does_253 : decode cL_does 253 = .ok (.invokestatic 69, 3) := by decide +kernel
theorem dL_does_256 : decode cL_does 256 = .ok (.goto 44, 3) := by decide +kernel
theorem dL_does_259 : decode cL_does 259 = .ok (.iload 8, 2) := by decide +kernel
theorem dL_does_261 : decode cL_does 261 = .ok (.iconst 1, 1) := by decide +kernel
theorem dL_does_262 : decode cL_does 262 = .ok (.if_icmp .ne 11, 3) := by decide +kernel
theorem dL_does_265 : decode cL_does 265 = .ok (.iload_n 2, 1) := by decide +kernel
theorem dL_does_266 : decode cL_does 266 = .ok (.iconst 2, 1) := by decide +kernel
theorem dL_does_267 : decode cL_does 267 = .ok (.ishr, 1) := by decide +kernel
theorem dL_does_268 : decode cL_does 268 = .ok (.iconst 1, 1) := by decide +kernel
theorem dL_does_269 : decode cL_does 269 = .ok (.iand, 1) := by decide +kernel
theorem dL_does_270 : decode cL_does 270 = .ok (.goto 30, 3) := by decide +kernel
theorem dL_does_273 : decode cL_does 273 = .ok (.iload 8, 2) := by decide +kernel
theorem dL_does_275 : decode cL_does 275 = .ok (.iconst 2, 1) := by decide +kernel
theorem dL_does_276 : decode cL_does 276 = .ok (.if_icmp .ne 14, 3) := by decide +kernel
theorem dL_does_279 : decode cL_does 279 = .ok (.iload_n 2, 1) := by decide +kernel
theorem dL_does_280 : decode cL_does 280 = .ok (.iconst 2, 1) := by decide +kernel
theorem dL_does_281 : decode cL_does 281 = .ok (.ishr, 1) := by decide +kernel
theorem dL_does_282 : decode cL_does 282 = .ok (.bipush 100, 2) := by decide +kernel
theorem dL_does_284 : decode cL_does 284 = .ok (.invokestatic 69, 3) := by decide +kernel
theorem dL_does_287 : decode cL_does 287 = .ok (.goto 13, 3) := by decide +kernel
theorem dL_does_290 : decode cL_does 290 = .ok (.iconst 1, 1) := by decide +kernel
theorem dL_does_291 : decode cL_does 291 = .ok (.iload_n 2, 1) := by decide +kernel
theorem dL_does_292 : decode cL_does 292 = .ok (.iconst 2, 1) := by decide +kernel
theorem dL_does_293 : decode cL_does 293 = .ok (.ishr, 1) := by decide +kernel
theorem dL_does_294 : decode cL_does 294 = .ok (.bipush 9, 2) := by decide +kernel
theorem dL_does_296 : decode cL_does 296 = .ok (.invokestatic 69, 3) := by decide +kernel
theorem dL_does_299 : decode cL_does 299 = .ok (.iadd, 1) := by decide +kernel
theorem dL_does_300 : decode cL_does 300 = .ok (.istore 10, 2) := by decide +kernel
theorem dL_does_302 : decode cL_does 302 = .ok (.aload_n 0, 1) := by decide +kernel
theorem dL_does_303 : decode cL_does 303 = .ok (.iload 4, 2) := by decide +kernel
theorem dL_does_305 : decode cL_does 305 = .ok (.iload 9, 2) := by decide +kernel
theorem dL_does_307 : decode cL_does 307 = .ok (.invokevirtual 14, 3) := by decide +kernel
theorem dL_does_310 : decode cL_does 310 = .ok (.istore 11, 2) := by decide +kernel
theorem dL_does_312 : decode cL_does 312 = .ok (.aload_n 0, 1) := by decide +kernel
theorem dL_does_313 : decode cL_does 313 = .ok (.iload 4, 2) := by decide +kernel
theorem dL_does_315 : decode cL_does 315 = .ok (.iload 8, 2) := by decide +kernel
theorem dL_does_317 : decode cL_does 317 = .ok (.iload 10, 2) := by decide +kernel
theorem dL_does_319 : decode cL_does 319 = .ok (.invokevirtual 75, 3) := by decide +kernel
theorem dL_does_322 : decode cL_does 322 = .ok (.iload 11, 2) := by decide +kernel
theorem dL_does_324 : decode cL_does 324 = .ok (.if_icmp .ne 20, 3) := by decide +kernel
theorem dL_does_327 : decode cL_does 327 = .ok (.aload_n 0, 1) := by decide +kernel
theorem dL_does_328 : decode cL_does 328 = .ok (.iload 4, 2) := by decide +kernel
theorem dL_does_330 : decode cL_does 330 = .ok (.iload 9, 2) := by decide +kernel
theorem dL_does_332 : decode cL_does 332 = .ok (.invokevirtual 14, 3) := by decide +kernel
theorem dL_does_335 : decode cL_does 335 = .ok (.iload 10, 2) := by decide +kernel
theorem dL_does_337 : decode cL_does 337 = .ok (.if_icmp .ne 7, 3) := by decide +kernel
theorem dL_does_340 : decode cL_does 340 = .ok (.iconst 1, 1) := by decide +kernel
theorem dL_does_341 : decode cL_does 341 = .ok (.goto 4, 3) := by decide +kernel
theorem dL_does_344 : decode cL_does 344 = .ok (.iconst 0, 1) := by decide +kernel
theorem dL_does_345 : decode cL_does 345 = .ok (.ireturn, 1) := by decide +kernel
theorem dL_does_346 : decode cL_does 346 = .ok (.aload_n 0, 1) := by decide +kernel
theorem dL_does_347 : decode cL_does 347 = .ok (.iconst 1, 1) := by decide +kernel
theorem dL_does_348 : decode cL_does 348 = .ok (.invokevirtual 8, 3) := by decide +kernel
theorem dL_does_351 : decode cL_does 351 = .ok (.istore 12, 2) := by decide +kernel
theorem dL_does_353 : decode cL_does 353 = .ok (.aload_n 0, 1) := by decide +kernel
theorem dL_does_354 : decode cL_does 354 = .ok (.iload_n 2, 1) := by decide +kernel
theorem dL_does_355 : decode cL_does 355 = .ok (.sipush 201, 3) := by decide +kernel
theorem dL_does_358 : decode cL_does 358 = .ok (.invokestatic 69, 3) := by decide +kernel
theorem dL_does_361 : decode cL_does 361 = .ok (.invokevirtual 40, 3) := by decide +kernel
theorem dL_does_364 : decode cL_does 364 = .ok (.iload 12, 2) := by decide +kernel
theorem dL_does_366 : decode cL_does 366 = .ok (.if_icmp .ne 22, 3) := by decide +kernel
theorem dL_does_369 : decode cL_does 369 = .ok (.aload_n 0, 1) := by decide +kernel
theorem dL_does_370 : decode cL_does 370 = .ok (.iconst 1, 1) := by decide +kernel
theorem dL_does_371 : decode cL_does 371 = .ok (.invokevirtual 8, 3) := by decide +kernel
theorem dL_does_374 : decode cL_does 374 = .ok (.iload_n 2, 1) := by decide +kernel
theorem dL_does_375 : decode cL_does 375 = .ok (.sipush 201, 3) := by decide +kernel
theorem dL_does_378 : decode cL_does 378 = .ok (.invokestatic 69, 3) := by decide +kernel
theorem dL_does_381 : decode cL_does 381 = .ok (.if_icmp .ne 7, 3) := by decide +kernel
theorem dL_does_384 : decode cL_does 384 = .ok (.iconst 1, 1) := by decide +kernel
theorem dL_does_385 : decode cL_does 385 = .ok (.goto 4, 3) := by decide +kernel
theorem dL_does_388 : decode cL_does 388 = .ok (.iconst 0, 1) := by decide +kernel
theorem dL_does_389 : decode cL_does 389 = .ok (.ireturn, 1) := by decide +kernel
theorem dL_does_390 : decode cL_does 390 = .ok (.iload_n 1, 1) := by decide +kernel
theorem dL_does_391 : decode cL_does 391 = .ok (.iconst 5, 1) := by decide +kernel
theorem dL_does_392 : decode cL_does 392 = .ok (.ishr, 1) := by decide +kernel
theorem dL_does_393 : decode cL_does 393 = .ok (.iconst 4, 1) := by decide +kernel
theorem dL_does_394 : decode cL_does 394 = .ok (.invokestatic 69, 3) := by decide +kernel
theorem dL_does_397 : decode cL_does 397 = .ok (.istore 13, 2) := by decide +kernel
theorem dL_does_399 : decode cL_does 399 = .ok (.iload 13, 2) := by decide +kernel
theorem dL_does_401 : decode cL_does 401 = .ok (.ifCond .ne 14, 3) := by decide +kernel
theorem dL_does_404 : decode cL_does 404 = .ok (.iconst 1, 1) := by decide +kernel
theorem dL_does_405 : decode cL_does 405 = .ok (.iload_n 2, 1) := by decide +kernel
theorem dL_does_406 : decode cL_does 406 = .ok (.bipush 20, 2) := by decide +kernel
theorem dL_does_408 : decode cL_does 408 = .ok (.invokestatic 69, 3) := by decide +kernel
theorem dL_does_411 : decode cL_does 411 = .ok (.iadd, 1) := by decide +kernel
theorem dL_does_412 : decode cL_does 412 = .ok (.goto 43, 3) := by decide +kernel
theorem dL_does_415 : decode cL_does 415 = .ok (.iload 13, 2) := by decide +kernel
theorem dL_does_417 : decode cL_does 417 = .ok (.iconst 1, 1) := by decide +kernel
theorem dL_does_418 : decode cL_does 418 = .ok (.if_icmp .ne 14, 3) := by decide +kernel
theorem dL_does_421 : decode cL_does 421 = .ok (.iconst 1, 1) := by decide +kernel
theorem dL_does_422 : decode cL_does 422 = .ok (.iload_n 2, 1) := by decide +kernel
theorem dL_does_423 : decode cL_does 423 = .ok (.bipush 60, 2) := by decide +kernel
theorem dL_does_425 : decode cL_does 425 = .ok (.invokestatic 69, 3) := by decide +kernel
theorem dL_does_428 : decode cL_does 428 = .ok (.iadd, 1) := by decide +kernel
theorem dL_does_429 : decode cL_does 429 = .ok (.goto 26, 3) := by decide +kernel
theorem dL_does_432 : decode cL_does 432 = .ok (.iload 13, 2) := by decide +kernel
theorem dL_does_434 : decode cL_does 434 = .ok (.iconst 2, 1) := by decide +kernel
theorem dL_does_435 : decode cL_does 435 = .ok (.if_icmp .ne 12, 3) := by decide +kernel
theorem dL_does_438 : decode cL_does 438 = .ok (.iload_n 2, 1) := by decide +kernel
theorem dL_does_439 : decode cL_does 439 = .ok (.bipush 101, 2) := by decide +kernel
theorem dL_does_441 : decode cL_does 441 = .ok (.invokestatic 69, 3) := by decide +kernel
theorem dL_does_444 : decode cL_does 444 = .ok (.goto 11, 3) := by decide +kernel
theorem dL_does_447 : decode cL_does 447 = .ok (.iconst 1, 1) := by decide +kernel
theorem dL_does_448 : decode cL_does 448 = .ok (.iload_n 2, 1) := by decide +kernel
theorem dL_does_449 : decode cL_does 449 = .ok (.bipush 30, 2) := by decide +kernel
theorem dL_does_451 : decode cL_does 451 = .ok (.invokestatic 69, 3) := by decide +kernel
theorem dL_does_454 : decode cL_does 454 = .ok (.iadd, 1) := by decide +kernel
theorem dL_does_455 : decode cL_does 455 = .ok (.istore 14, 2) := by decide +kernel
theorem dL_does_457 : decode cL_does 457 = .ok (.aload_n 0, 1) := by decide +kernel
theorem dL_does_458 : decode cL_does 458 = .ok (.bipush 8, 2) := by decide +kernel
theorem dL_does_460 : decode cL_does 460 = .ok (.iload 13, 2) := by decide +kernel
theorem dL_does_462 : decode cL_does 462 = .ok (.iadd, 1) := by decide +kernel
theorem dL_does_463 : decode cL_does 463 = .ok (.invokevirtual 8, 3) := by decide +kernel
theorem dL_does_466 : decode cL_does 466 = .ok (.istore 15, 2) := by decide +kernel
theorem dL_does_468 : decode cL_does 468 = .ok (.aload_n 0, 1) := by decide +kernel
theorem dL_does_469 : decode cL_does 469 = .ok (.iload 13, 2) := by decide +kernel
theorem dL_does_471 : decode cL_does 471 = .ok (.iload 14, 2) := by decide +kernel
theorem dL_does_473 : decode cL_does 473 = .ok (.invokevirtual 79, 3) := by decide +kernel
theorem dL_does_476 : decode cL_does 476 = .ok (.iload 15, 2) := by decide +kernel
theorem dL_does_478 : decode cL_does 478 = .ok (.if_icmp .ne 21, 3) := by decide +kernel
theorem dL_does_481 : decode cL_does 481 = .ok (.aload_n 0, 1) := by decide +kernel
theorem dL_does_482 : decode cL_does 482 = .ok (.bipush 8, 2) := by decide +kernel
theorem dL_does_484 : decode cL_does 484 = .ok (.iload 13, 2) := by decide +kernel
theorem dL_does_486 : decode cL_does 486 = .ok (.iadd, 1) := by decide +kernel
theorem dL_does_487 : decode cL_does 487 = .ok (.invokevirtual 8, 3) := by decide +kernel
theorem dL_does_490 : decode cL_does 490 = .ok (.iload 14, 2) := by decide +kernel
theorem dL_does_492 : decode cL_does 492 = .ok (.if_icmp .ne 7, 3) := by decide +kernel
theorem dL_does_495 : decode cL_does 495 = .ok (.iconst 1, 1) := by decide +kernel
theorem dL_does_496 : decode cL_does 496 = .ok (.goto 4, 3) := by decide +kernel
theorem dL_does_499 : decode cL_does 499 = .ok (.iconst 0, 1) := by decide +kernel
theorem dL_does_500 : decode cL_does 500 = .ok (.ireturn, 1) := by decide +kernel
theorem dL_does_501 : decode cL_does 501 = .ok (.aload_n 0, 1) := by decide +kernel
theorem dL_does_502 : decode cL_does 502 = .ok (.iconst 1, 1) := by decide +kernel
theorem dL_does_503 : decode cL_does 503 = .ok (.iload_n 2, 1) := by decide +kernel
theorem dL_does_504 : decode cL_does 504 = .ok (.iload_n 2, 1) := by decide +kernel
theorem dL_does_505 : decode cL_does 505 = .ok (.iconst 5, 1) := by decide +kernel
theorem dL_does_506 : decode cL_does 506 = .ok (.ishr, 1) := by decide +kernel
theorem dL_does_507 : decode cL_does 507 = .ok (.iconst 1, 1) := by decide +kernel
theorem dL_does_508 : decode cL_does 508 = .ok (.iand, 1) := by decide +kernel
theorem dL_does_509 : decode cL_does 509 = .ok (.ifCond .ne 8, 3) := by decide +kernel
theorem dL_does_512 : decode cL_does 512 = .ok (.bipush 24, 2) := by decide +kernel
theorem dL_does_514 : decode cL_does 514 = .ok (.goto 4, 3) := by decide +kernel
theorem dL_does_517 : decode cL_does 517 = .ok (.iconst 3, 1) := by decide +kernel
theorem dL_does_518 : decode cL_does 518 = .ok (.invokestatic 69, 3) := by decide +kernel
theorem dL_does_521 : decode cL_does 521 = .ok (.iadd, 1) := by decide +kernel
theorem dL_does_522 : decode cL_does 522 = .ok (.invokestatic 82, 3) := by decide +kernel
theorem dL_does_525 : decode cL_does 525 = .ok (.ireturn, 1) := by decide +kernel
theorem dL_does_526 : decode cL_does 526 = .ok (.iload_n 2, 1) := by decide +kernel
theorem dL_does_527 : decode cL_does 527 = .ok (.iconst 1, 1) := by decide +kernel
theorem dL_does_528 : decode cL_does 528 = .ok (.iand, 1) := by decide +kernel
theorem dL_does_529 : decode cL_does 529 = .ok (.ifCond .eq 34, 3) := by decide +kernel
theorem dL_does_532 : decode cL_does 532 = .ok (.aload_n 0, 1) := by decide +kernel
theorem dL_does_533 : decode cL_does 533 = .ok (.iconst 1, 1) := by decide +kernel
theorem dL_does_534 : decode cL_does 534 = .ok (.iload_n 2, 1) := by decide +kernel
theorem dL_does_535 : decode cL_does 535 = .ok (.iconst 1, 1) := by decide +kernel
theorem dL_does_536 : decode cL_does 536 = .ok (.ishr, 1) := by decide +kernel
theorem dL_does_537 : decode cL_does 537 = .ok (.sipush 200, 3) := by decide +kernel
theorem dL_does_540 : decode cL_does 540 = .ok (.invokestatic 69, 3) := by decide +kernel
theorem dL_does_543 : decode cL_does 543 = .ok (.iadd, 1) := by decide +kernel
theorem dL_does_544 : decode cL_does 544 = .ok (.iload 4, 2) := by decide +kernel
theorem dL_does_546 : decode cL_does 546 = .ok (.iconst 1, 1) := by decide +kernel
theorem dL_does_547 : decode cL_does 547 = .ok (.iload_n 2, 1) := by decide +kernel
theorem dL_does_548 : decode cL_does 548 = .ok (.bipush 9, 2) := by decide +kernel
theorem dL_does_550 : decode cL_does 550 = .ok (.ishr, 1) := by decide +kernel
theorem dL_does_551 : decode cL_does 551 = .ok (.bipush 12, 2) := by decide +kernel
theorem dL_does_553 : decode cL_does 553 = .ok (.invokestatic 69, 3) := by decide +kernel
theorem dL_does_556 : decode cL_does 556 = .ok (.iadd, 1) := by decide +kernel
theorem dL_does_557 : decode cL_does 557 = .ok (.invokestatic 86, 3) := by decide +kernel
theorem dL_does_560 : decode cL_does 560 = .ok (.ifCond .eq 7, 3) := by decide +kernel
theorem dL_does_563 : decode cL_does 563 = .ok (.iconst 1, 1) := by decide +kernel
theorem dL_does_564 : decode cL_does 564 = .ok (.goto 4, 3) := by decide +kernel
theorem dL_does_567 : decode cL_does 567 = .ok (.iconst 0, 1) := by decide +kernel
theorem dL_does_568 : decode cL_does 568 = .ok (.ireturn, 1) := by decide +kernel
theorem dL_does_569 : decode cL_does 569 = .ok (.aload_n 0, 1) := by decide +kernel
theorem dL_does_570 : decode cL_does 570 = .ok (.iload 4, 2) := by decide +kernel
theorem dL_does_572 : decode cL_does 572 = .ok (.iload_n 2, 1) := by decide +kernel
theorem dL_does_573 : decode cL_does 573 = .ok (.iload_n 3, 1) := by decide +kernel
theorem dL_does_574 : decode cL_does 574 = .ok (.invokestatic 69, 3) := by decide +kernel
theorem dL_does_577 : decode cL_does 577 = .ok (.invokestatic 90, 3) := by decide +kernel
theorem dL_does_580 : decode cL_does 580 = .ok (.ireturn, 1) := by decide +kernel
theorem dL_does_581 : decode cL_does 581 = .ok (.aload_n 0, 1) := by decide +kernel
theorem dL_does_582 : decode cL_does 582 = .ok (.invokestatic 94, 3) := by decide +kernel
theorem dL_does_585 : decode cL_does 585 = .ok (.ireturn, 1) := by decide +kernel
theorem dL_does_586 : decode cL_does 586 = .ok (.aload_n 0, 1) := by decide +kernel
theorem dL_does_587 : decode cL_does 587 = .ok (.iload 4, 2) := by decide +kernel
theorem dL_does_589 : decode cL_does 589 = .ok (.invokestatic 98, 3) := by decide +kernel
theorem dL_does_592 : decode cL_does 592 = .ok (.ireturn, 1) := by decide +kernel
set_option maxRecDepth 20000 in
theorem ggL_law_X7_init : GoodIn wsL_law wsX7_init := goodIn_r _ [5, 6, 7, 8, 9, 10, 11, 12, 13, 14, 15, 16, 17, 18, 19, 20, 21, 22, 23, 24, 25, 26, 27, 28, 29, 30, 31, 32, 33, 34, 35, 36, 37, 38, 39, 40, 41, 42, 43, 44, 45, 46, 47, 48, 49, 50, 51, 52, 53, 54, 55, 56, 57, 58, 59, 60, 61, 62, 63, 64, 65, 66, 67, 68, 69, 70, 71, 72, 73, 74, 75, 76, 77, 78, 79, 80, 81, 82, 83, 84, 85, 86, 87, 88, 89, 90, 91, 92, 93, 94, 95, 96, 97, 98, 99, 100, 101, 102, 103, 489, 490, 491, 492, 481, 482, 483, 484, 485, 486, 487, 488, 493, 494, 495, 496, 497, 498, 499, 500, 501, 502, 503, 504, 505, 506, 507, 508, 509, 510, 511, 512, 513, 514, 515] (by decide +kernel) (by decide +kernel)
set_option maxRecDepth 20000 in
theorem gL_law_X7_init : GoodIn wsL_law (wsX7_init) := ggL_law_X7_init
set_option maxRecDepth 20000 in
theorem ggL_law_L_areAll : GoodIn wsL_law wsL_areAll := goodIn_r _ [107, 108, 109, 110, 2, 111, 12, 112, 113, 114, 115, 116, 117, 118, 27, 119, 20, 120, 121, 122, 123, 46, 124, 62, 61, 125, 126, 127, 128, 16, 129, 130, 131, 15, 132, 133, 78, 79, 134, 135, 136, 137, 138, 139, 80, 140, 141, 142, 143, 144, 145, 146, 147, 148, 149, 150, 151, 152, 153, 154, 155, 156, 157, 158, 159, 160, 161, 162, 163, 164, 165, 166, 167, 168, 169, 170, 171, 172, 173, 174, 175, 176, 177, 178, 179, 180, 181, 182, 183, 184, 185, 186, 187, 188, 189, 190, 191, 192, 193, 194, 195, 196, 197, 198, 199, 200, 201, 57, 202, 203, 204, 205, 206, 207, 208, 209, 210, 211, 212, 213, 214, 215, 216, 217, 218, 219, 220, 221, 222, 223, 224, 225, 226, 227, 228, 229, 230, 231, 232, 233, 234, 235, 236, 237, 238, 239, 240, 241, 242, 243, 244, 245, 246, 481, 482, 483, 484, 485, 486, 487, 488, 489, 490, 491, 492, 505, 506, 507, 508, 509, 510, 511, 512, 513, 514, 515, 499, 500, 501, 496, 497, 498, 493, 494, 495] (by decide +kernel) (by decide +kernel)
set_option maxRecDepth 20000 in
theorem gL_law_L_areAll : GoodIn wsL_law (va_wsS RL 102 yL_areAll wsL_areAll) := goodIn_app (goodIn_of _ (by decide +kernel)) ggL_law_L_areAll
set_option maxRecDepth 20000 in
theorem ggL_law_X7_count : GoodIn wsL_law wsX7_count := goodIn_r _ [111, 12, 112, 113, 114, 115, 116, 117, 118, 27, 119, 20, 120, 121, 122, 123, 46, 124, 62, 61, 125, 126, 127, 2, 128, 16, 129, 130, 131, 15, 132, 133, 78, 79, 134, 135, 136, 137, 138, 139, 80, 140, 141, 142, 143, 144, 145, 146, 147, 148, 149, 150, 151, 152, 153, 154, 155, 156, 157, 158, 159, 160, 161, 162, 163, 164, 165, 166, 167, 168, 169, 170, 171, 172, 173, 174, 175, 176, 177, 178, 179, 180, 181, 182, 183, 184, 185, 186, 187, 481, 482, 483, 484, 485, 486, 487, 488, 489, 490, 491, 492, 505, 506, 507, 508, 509, 510, 511, 512, 513, 514, 515, 499, 500, 501, 496, 497, 498, 493, 494, 495] (by decide +kernel) (by decide +kernel)
set_option maxRecDepth 20000 in
theorem gL_law_X7_count : GoodIn wsL_law (wsV RL 8 RX7 yX7_count wsX7_count) := goodIn_app (goodIn_of _ (by decide +kernel)) ggL_law_X7_count
set_option maxRecDepth 20000 in
theorem ggL_law_X7_record : GoodIn wsL_law wsX7_record := goodIn_r _ [250, 12, 115, 251, 252, 253, 254, 255, 256, 50, 257, 69, 258, 151, 152, 153, 259, 144, 2, 145, 481, 482, 483, 484, 485, 486, 487, 488, 489, 490, 491, 492, 511, 512, 513, 514, 515] (by decide +kernel) (by decide +kernel)
set_option maxRecDepth 20000 in
theorem gL_law_X7_record : GoodIn wsL_law (wsV RL 28 RX7 yX7_record wsX7_record) := goodIn_app (goodIn_of _ (by decide +kernel)) ggL_law_X7_record
set_option maxRecDepth 20000 in
theorem ggL_law_X7_undo : GoodIn wsL_law wsX7_undo := goodIn_r _ [263, 20, 120, 12, 264, 265, 266, 19, 267, 88, 86, 87, 268, 269, 270, 11, 271, 43, 47, 51, 52, 272, 2, 273, 274, 151, 152, 153, 275, 276, 277, 278, 279, 280, 281, 46, 282, 57, 58, 59, 60, 61, 62, 283, 284, 285, 50, 286, 66, 67, 68, 69, 70, 481, 482, 483, 484, 485, 486, 487, 488, 496, 497, 498, 489, 490, 491, 492, 505, 506, 507, 508, 509, 510, 511, 512, 513, 514, 515] (by decide +kernel) (by decide +kernel)
set_option maxRecDepth 20000 in
theorem gL_law_X7_undo : GoodIn wsL_law (wsV RL 66 RX7 yX7_undo wsX7_undo) := goodIn_app (goodIn_of _ (by decide +kernel)) ggL_law_X7_undo
set_option maxRecDepth 20000 in
theorem ggL_law_X7_build : GoodIn wsL_law wsX7_build := goodIn_r _ [290, 32, 27, 20, 12, 112, 291, 113, 292, 293, 294, 31, 295, 101, 102, 103, 296, 297, 298, 299, 300, 46, 301, 62, 302, 303, 304, 305, 306, 307, 308, 309, 310, 245, 2, 246, 311, 312, 313, 314, 315, 199, 200, 201, 57, 206, 207, 208, 209, 210, 211, 212, 316, 72, 73, 74, 58, 59, 60, 61, 317, 318, 319, 320, 321, 322, 323, 324, 325, 326, 327, 328, 329, 330, 331, 332, 333, 334, 335, 336, 337, 338, 339, 340, 341, 342, 141, 142, 143, 144, 145, 343, 344, 345, 346, 347, 348, 349, 350, 351, 352, 353, 354, 355, 356, 357, 358, 359, 19, 360, 88, 87, 86, 268, 269, 270, 11, 271, 43, 47, 51, 52, 272, 273, 274, 151, 152, 153, 275, 276, 277, 278, 279, 280, 281, 282, 283, 284, 285, 50, 286, 66, 67, 68, 69, 70, 361, 362, 363, 364, 26, 365, 95, 96, 481, 482, 483, 484, 485, 486, 487, 488, 489, 490, 491, 492, 502, 503, 504, 505, 506, 507, 508, 509, 510, 499, 500, 501, 496, 497, 498, 511, 512, 513, 514, 515] (by decide +kernel) (by decide +kernel)
set_option maxRecDepth 20000 in
theorem gL_law_X7_build : GoodIn wsL_law (wsV RL 55 RX7 yX7_build wsX7_build) := goodIn_app (goodIn_of _ (by decide +kernel)) ggL_law_X7_build
set_option maxRecDepth 20000 in
theorem ggL_law_L_cell : GoodIn wsL_law wsL_cell := goodIn_r _ [368] (by decide +kernel) (by decide +kernel)
set_option maxRecDepth 20000 in
theorem gL_law_L_cell : GoodIn wsL_law (va_wsS RL 105 yL_cell wsL_cell) := goodIn_app (goodIn_of _ (by decide +kernel)) ggL_law_L_cell
set_option maxRecDepth 20000 in
theorem ggL_law_L_does : GoodIn wsL_law wsL_does := goodIn_r _ [371, 108, 109, 110, 2, 111, 12, 112, 113, 114, 115, 116, 117, 118, 27, 119, 20, 120, 121, 122, 123, 46, 124, 62, 61, 125, 126, 127, 128, 16, 129, 130, 131, 15, 132, 133, 78, 79, 134, 135, 136, 137, 138, 139, 80, 140, 141, 142, 143, 144, 145, 146, 147, 148, 149, 150, 151, 152, 153, 154, 155, 156, 157, 158, 159, 160, 161, 162, 163, 164, 165, 166, 167, 168, 169, 170, 171, 172, 173, 174, 175, 176, 177, 178, 179, 180, 181, 182, 183, 184, 185, 186, 187, 372, 373, 106, 374, 375, 188, 189, 190, 191, 192, 193, 194, 195, 196, 197, 198, 199, 200, 201, 57, 202, 203, 204, 205, 206, 207, 208, 209, 210, 211, 212, 213, 214, 215, 216, 217, 376, 377, 378, 379, 380, 381, 382, 244, 245, 246, 383, 312, 313, 314, 315, 357, 358, 359, 19, 360, 88, 87, 86, 268, 269, 270, 11, 271, 43, 47, 51, 52, 272, 273, 274, 275, 276, 277, 278, 279, 280, 281, 282, 58, 59, 60, 283, 284, 285, 50, 286, 66, 67, 68, 69, 70, 384, 72, 73, 74, 385, 386, 387, 388, 389, 390, 259, 391, 392, 393, 394, 395, 396, 397, 398, 241, 242, 243, 399, 400, 401, 402, 403, 404, 405, 406, 407, 408, 247, 248, 249, 250, 251, 252, 253, 254, 255, 256, 257, 258, 218, 219, 220, 221, 222, 223, 224, 225, 226, 227, 228, 229, 230, 231, 232, 409, 410, 411, 412, 413, 414, 415, 416, 417, 418, 419, 420, 421, 422, 423, 424, 425, 426, 427, 428, 429, 430, 237, 238, 239, 240, 431, 432, 433, 434, 435, 436, 437, 438, 439, 440, 441, 442, 443, 444, 445, 446, 447, 448, 28, 449, 362, 363, 364, 26, 365, 95, 96, 450, 451, 452, 453, 454, 455, 456, 457, 458, 459, 94, 460, 461, 462, 463, 464, 465, 466, 467, 468, 32, 292, 293, 294, 31, 295, 101, 102, 103, 296, 297, 298, 299, 300, 301, 302, 303, 304, 305, 306, 307, 308, 309, 310, 311, 316, 317, 318, 319, 320, 321, 322, 323, 324, 325, 326, 327, 328, 329, 330, 331, 332, 333, 334, 335, 336, 337, 338, 339, 340, 341, 342, 343, 344, 345, 346, 347, 348, 349, 350, 351, 352, 353, 354, 355, 356, 469, 470, 471, 472, 473, 287, 288, 289, 290, 291, 361, 474, 475, 476, 477, 260, 261, 262, 263, 264, 265, 266, 267, 478, 479, 480, 481, 482, 483, 484, 485, 486, 487, 488, 489, 490, 491, 492, 505, 506, 507, 508, 509, 510, 511, 512, 513, 514, 515, 499, 500, 501, 496, 497, 498, 493, 494, 495, 502, 503, 504] (by decide +kernel) (by decide +kernel)
set_option maxRecDepth 20000 in
theorem gL_law_L_does : GoodIn wsL_law (va_wsS RL 109 yL_does wsL_does) := goodIn_app (goodIn_of _ (by decide +kernel)) ggL_law_L_does
set_option maxRecDepth 20000 in
theorem ggL_law_L_low : GoodIn wsL_law wsL_low := goodIn_r _ [374, 375] (by decide +kernel) (by decide +kernel)
set_option maxRecDepth 20000 in
theorem gL_law_L_low : GoodIn wsL_law (va_wsS RL 69 yL_low wsL_low) := goodIn_app (goodIn_of _ (by decide +kernel)) ggL_law_L_low
set_option maxRecDepth 20000 in
theorem ggL_law_L_isStreet : GoodIn wsL_law wsL_isStreet := goodIn_r _ [480, 108, 109, 110, 2, 111, 12, 112, 113, 114, 115, 116, 117, 118, 27, 119, 20, 120, 121, 122, 123, 46, 124, 62, 61, 125, 126, 127, 128, 16, 129, 130, 131, 15, 132, 133, 78, 79, 134, 135, 136, 137, 138, 139, 80, 140, 141, 142, 143, 144, 145, 146, 147, 148, 149, 150, 151, 152, 153, 154, 155, 156, 157, 158, 159, 160, 161, 162, 163, 164, 165, 166, 167, 168, 169, 170, 171, 172, 173, 174, 175, 176, 177, 178, 179, 180, 181, 182, 183, 184, 185, 186, 187, 188, 189, 190, 191, 192, 193, 194, 195, 196, 197, 198, 199, 200, 201, 57, 202, 203, 204, 205, 206, 207, 208, 209, 210, 211, 212, 213, 214, 215, 216, 217, 218, 219, 220, 221, 222, 223, 224, 225, 226, 227, 228, 229, 230, 231, 232, 481, 482, 483, 484, 485, 486, 487, 488, 489, 490, 491, 492, 505, 506, 507, 508, 509, 510, 511, 512, 513, 514, 515, 499, 500, 501, 496, 497, 498, 493, 494, 495] (by decide +kernel) (by decide +kernel)
set_option maxRecDepth 20000 in
theorem gL_law_L_isStreet : GoodIn wsL_law (va_wsS RL 98 yL_isStreet wsL_isStreet) := goodIn_app (goodIn_of _ (by decide +kernel)) ggL_law_L_isStreet
set_option maxRecDepth 20000 in
theorem ggL_law_X7_street : GoodIn wsL_law wsX7_street := goodIn_r _ [382, 12, 112, 20, 197, 141, 142, 46, 143, 62, 144, 2, 145, 244, 245, 246, 383, 312, 313, 314, 315, 199, 200, 201, 57, 206, 207, 208, 209, 210, 211, 212, 357, 358, 359, 19, 360, 88, 87, 86, 268, 269, 270, 11, 271, 43, 47, 51, 52, 272, 273, 274, 151, 152, 153, 275, 276, 277, 278, 279, 280, 281, 282, 58, 59, 60, 61, 283, 284, 285, 50, 286, 66, 67, 68, 69, 70, 384, 72, 73, 74, 481, 482, 483, 484, 485, 486, 487, 488, 489, 490, 491, 492, 505, 506, 507, 508, 509, 510, 496, 497, 498, 511, 512, 513, 514, 515] (by decide +kernel) (by decide +kernel)
set_option maxRecDepth 20000 in
theorem gL_law_X7_street : GoodIn wsL_law (wsV RL 72 RX7 yX7_street wsX7_street) := goodIn_app (goodIn_of _ (by decide +kernel)) ggL_law_X7_street
set_option maxRecDepth 20000 in
theorem ggL_law_X7_change : GoodIn wsL_law wsX7_change := goodIn_r _ [388, 12, 112, 389, 390, 20, 197, 141, 142, 46, 143, 62, 144, 2, 145, 259, 244, 245, 246, 357, 358, 359, 19, 360, 88, 87, 86, 268, 269, 270, 11, 271, 43, 47, 51, 52, 272, 273, 274, 151, 152, 153, 275, 276, 277, 278, 279, 280, 281, 282, 57, 58, 59, 60, 61, 283, 284, 285, 50, 286, 66, 67, 68, 69, 70, 391, 392, 393, 394, 481, 482, 483, 484, 485, 486, 487, 488, 489, 490, 491, 492, 505, 506, 507, 508, 509, 510, 496, 497, 498, 511, 512, 513, 514, 515] (by decide +kernel) (by decide +kernel)
set_option maxRecDepth 20000 in
theorem gL_law_X7_change : GoodIn wsL_law (wsV RL 75 RX7 yX7_change wsX7_change) := goodIn_app (goodIn_of _ (by decide +kernel)) ggL_law_X7_change
set_option maxRecDepth 20000 in
theorem ggL_law_X7_wind : GoodIn wsL_law wsX7_wind := goodIn_r _ [398, 20, 12, 114, 241, 242, 2, 243, 244, 245, 246, 357, 358, 359, 19, 360, 88, 87, 86, 268, 269, 270, 11, 271, 43, 47, 51, 52, 272, 273, 274, 151, 152, 153, 275, 276, 277, 278, 279, 280, 281, 46, 282, 57, 58, 59, 60, 61, 62, 283, 284, 285, 50, 286, 66, 67, 68, 69, 70, 481, 482, 483, 484, 485, 486, 487, 488, 489, 490, 491, 492, 496, 497, 498, 505, 506, 507, 508, 509, 510, 511, 512, 513, 514, 515] (by decide +kernel) (by decide +kernel)
set_option maxRecDepth 20000 in
theorem gL_law_X7_wind : GoodIn wsL_law (wsV RL 40 RX7 yX7_wind wsX7_wind) := goodIn_app (goodIn_of _ (by decide +kernel)) ggL_law_X7_wind
set_option maxRecDepth 20000 in
theorem ggL_law_X7_pass : GoodIn wsL_law wsX7_pass := goodIn_r _ [412, 12, 115, 116, 20, 16, 114, 244, 245, 2, 246, 357, 358, 359, 19, 360, 88, 87, 86, 268, 269, 270, 11, 271, 43, 47, 51, 52, 272, 273, 274, 151, 152, 153, 275, 276, 277, 278, 279, 280, 281, 46, 282, 57, 58, 59, 60, 61, 62, 283, 284, 285, 50, 286, 66, 67, 68, 69, 70, 175, 176, 177, 15, 178, 160, 179, 180, 130, 131, 132, 133, 78, 79, 134, 135, 181, 137, 138, 139, 80, 140, 141, 142, 143, 144, 145, 146, 147, 148, 149, 150, 154, 155, 156, 157, 158, 159, 161, 162, 163, 164, 165, 166, 167, 168, 169, 170, 413, 414, 415, 416, 417, 418, 419, 420, 421, 422, 423, 481, 482, 483, 484, 485, 486, 487, 488, 489, 490, 491, 492, 511, 512, 513, 514, 515, 496, 497, 498, 505, 506, 507, 508, 509, 510, 493, 494, 495] (by decide +kernel) (by decide +kernel)
set_option maxRecDepth 20000 in
theorem gL_law_X7_pass : GoodIn wsL_law (wsV RL 31 RX7 yX7_pass wsX7_pass) := goodIn_app (goodIn_of _ (by decide +kernel)) ggL_law_X7_pass
set_option maxRecDepth 20000 in
theorem ggL_law_X7_set : GoodIn wsL_law wsX7_set := goodIn_r _ [402, 403, 404, 405, 20, 12, 118, 259, 144, 2, 145, 244, 245, 246, 357, 358, 359, 19, 360, 88, 87, 86, 268, 269, 270, 11, 271, 43, 47, 51, 52, 272, 273, 274, 151, 152, 153, 275, 276, 277, 278, 279, 280, 281, 46, 282, 57, 58, 59, 60, 61, 62, 283, 284, 285, 50, 286, 66, 67, 68, 69, 70, 481, 482, 483, 484, 485, 486, 487, 488, 489, 490, 491, 492, 496, 497, 498, 505, 506, 507, 508, 509, 510, 511, 512, 513, 514, 515] (by decide +kernel) (by decide +kernel)
set_option maxRecDepth 20000 in
theorem gL_law_X7_set : GoodIn wsL_law (wsV RL 79 RX7 yX7_set wsX7_set) := goodIn_app (goodIn_of _ (by decide +kernel)) ggL_law_X7_set
set_option maxRecDepth 20000 in
theorem ggL_law_X7_ifWind : GoodIn wsL_law wsX7_ifWind := goodIn_r _ [240, 241, 242, 2, 243, 244, 245, 246, 125, 126, 127, 128, 16, 12, 112, 129, 130, 131, 15, 132, 133, 78, 79, 134, 135, 136, 137, 138, 139, 80, 140, 141, 142, 46, 143, 62, 144, 145, 146, 147, 148, 149, 150, 151, 152, 153, 154, 155, 156, 157, 158, 159, 160, 161, 162, 163, 164, 165, 166, 167, 168, 169, 170, 481, 482, 483, 484, 485, 486, 487, 488, 489, 490, 491, 492, 505, 506, 507, 508, 509, 510, 493, 494, 495] (by decide +kernel) (by decide +kernel)
set_option maxRecDepth 20000 in
theorem gL_law_X7_ifWind : GoodIn wsL_law (wsV RL 25 RX7 yX7_ifWind wsX7_ifWind) := goodIn_app (goodIn_of _ (by decide +kernel)) ggL_law_X7_ifWind
set_option maxRecDepth 20000 in
theorem ggL_law_X7_windFor : GoodIn wsL_law wsX7_windFor := goodIn_r _ [430, 16, 12, 112, 244, 245, 2, 246, 129, 130, 131, 15, 132, 133, 78, 79, 134, 135, 136, 137, 138, 139, 80, 140, 141, 142, 46, 143, 62, 144, 145, 146, 147, 148, 149, 150, 151, 152, 153, 154, 155, 156, 157, 158, 159, 160, 161, 162, 163, 164, 165, 166, 167, 168, 169, 170, 481, 482, 483, 484, 485, 486, 487, 488, 489, 490, 491, 492, 505, 506, 507, 508, 509, 510, 493, 494, 495] (by decide +kernel) (by decide +kernel)
set_option maxRecDepth 20000 in
theorem gL_law_X7_windFor : GoodIn wsL_law (wsV RL 34 RX7 yX7_windFor wsX7_windFor) := goodIn_app (goodIn_of _ (by decide +kernel)) ggL_law_X7_windFor
set_option maxRecDepth 20000 in
theorem ggL_law_X7_now : GoodIn wsL_law wsX7_now := goodIn_r _ [221, 12, 112, 16, 187, 197, 141, 142, 46, 143, 62, 144, 2, 145, 175, 176, 177, 15, 178, 160, 179, 180, 130, 131, 132, 133, 78, 79, 134, 135, 181, 137, 138, 139, 80, 140, 146, 147, 148, 149, 150, 151, 152, 153, 154, 155, 222, 168, 169, 170, 165, 223, 224, 225, 226, 227, 228, 229, 230, 231, 232, 182, 162, 163, 164, 166, 167, 481, 482, 483, 484, 485, 486, 487, 488, 489, 490, 491, 492, 493, 494, 495, 505, 506, 507, 508, 509, 510] (by decide +kernel) (by decide +kernel)
set_option maxRecDepth 20000 in
theorem gL_law_X7_now : GoodIn wsL_law (wsV RL 18 RX7 yX7_now wsX7_now) := goodIn_app (goodIn_of _ (by decide +kernel)) ggL_law_X7_now
theorem dL_law_0 : decode cL_law 0 = .ok (.new 9, 3) := by decide +kernel
theorem dL_law_3 : decode cL_law 3 = .ok (.dup, 1) := by decide +kernel
theorem dL_law_4 : decode cL_law 4 = .ok (.invokespecial 101, 3) := by decide +kernel
theorem dL_law_7 : decode cL_law 7 = .ok (.astore_n 1, 1) := by decide +kernel
theorem dL_law_8 : decode cL_law 8 = .ok (.aload_n 1, 1) := by decide +kernel
theorem dL_law_9 : decode cL_law 9 = .ok (.invokestatic 102, 3) := by decide +kernel
theorem dL_law_12 : decode cL_law 12 = .ok (.ifCond .eq 49, 3) := by decide +kernel
theorem dL_law_15 : decode cL_law 15 = .ok (.aload_n 1, 1) := by decide +kernel
theorem dL_law_16 : decode cL_law 16 = .ok (.iconst 0, 1) := by decide +kernel
theorem dL_law_17 : decode cL_law 17 = .ok (.invokevirtual 8, 3) := by decide +kernel
theorem dL_law_20 : decode cL_law 20 = .ok (.iconst 1, 1) := by decide +kernel
theorem dL_law_21 : decode cL_law 21 = .ok (.if_icmp .ne 40, 3) := by decide +kernel
theorem dL_law_24 : decode cL_law 24 = .ok (.aload_n 1, 1) := by decide +kernel
theorem dL_law_25 : decode cL_law 25 = .ok (.bipush 13, 2) := by decide +kernel
theorem dL_law_27 : decode cL_law 27 = .ok (.invokevirtual 8, 3) := by decide +kernel
theorem dL_law_30 : decode cL_law 30 = .ok (.ifCond .ne 31, 3) := by decide +kernel
theorem dL_law_33 : decode cL_law 33 = .ok (.aload_n 1, 1) := by decide +kernel
theorem dL_law_34 : decode cL_law 34 = .ok (.iconst 0, 1) := by decide +kernel
theorem dL_law_35 : decode cL_law 35 = .ok (.iconst 0, 1) := by decide +kernel
theorem dL_law_36 : decode cL_law 36 = .ok (.invokevirtual 28, 3) := by decide +kernel
theorem dL_law_39 : decode cL_law 39 = .ok (.iconst (-1), 1) := by decide +kernel
theorem dL_law_40 : decode cL_law 40 = .ok (.if_icmp .ne 21, 3) := by decide +kernel
theorem dL_law_43 : decode cL_law 43 = .ok (.aload_n 1, 1) := by decide +kernel
theorem dL_law_44 : decode cL_law 44 = .ok (.invokevirtual 66, 3) := by decide +kernel
theorem dL_law_47 : decode cL_law 47 = .ok (.bipush (-5), 2) := by decide +kernel
theorem dL_law_49 : decode cL_law 49 = .ok (.if_icmp .ne 12, 3) := by decide +kernel
theorem dL_law_52 : decode cL_law 52 = .ok (.aload_n 1, 1) := by decide +kernel
theorem dL_law_53 : decode cL_law 53 = .ok (.invokevirtual 55, 3) := by decide +kernel
theorem dL_law_56 : decode cL_law 56 = .ok (.bipush (-3), 2) := by decide +kernel
theorem dL_law_58 : decode cL_law 58 = .ok (.if_icmp .eq 5, 3) := by decide +kernel
theorem dL_law_61 : decode cL_law 61 = .ok (.iconst 0, 1) := by decide +kernel
theorem dL_law_62 : decode cL_law 62 = .ok (.ireturn, 1) := by decide +kernel
theorem dL_law_63 : decode cL_law 63 = .ok (.iconst 0, 1) := by decide +kernel
theorem dL_law_64 : decode cL_law 64 = .ok (.istore_n 2, 1) := by decide +kernel
theorem dL_law_65 : decode cL_law 65 = .ok (.iload_n 2, 1) := by decide +kernel
theorem dL_law_66 : decode cL_law 66 = .ok (.bipush 110, 2) := by decide +kernel
theorem dL_law_68 : decode cL_law 68 = .ok (.if_icmp .ge 76, 3) := by decide +kernel
theorem dL_law_71 : decode cL_law 71 = .ok (.aload_n 0, 1) := by decide +kernel
theorem dL_law_72 : decode cL_law 72 = .ok (.iconst 2, 1) := by decide +kernel
theorem dL_law_73 : decode cL_law 73 = .ok (.iload_n 2, 1) := by decide +kernel
theorem dL_law_74 : decode cL_law 74 = .ok (.imul, 1) := by decide +kernel
theorem dL_law_75 : decode cL_law 75 = .ok (.invokestatic 105, 3) := by decide +kernel
theorem dL_law_78 : decode cL_law 78 = .ok (.istore_n 3, 1) := by decide +kernel
theorem dL_law_79 : decode cL_law 79 = .ok (.aload_n 1, 1) := by decide +kernel
theorem dL_law_80 : decode cL_law 80 = .ok (.iload_n 3, 1) := by decide +kernel
theorem dL_law_81 : decode cL_law 81 = .ok (.aload_n 0, 1) := by decide +kernel
theorem dL_law_82 : decode cL_law 82 = .ok (.iconst 2, 1) := by decide +kernel
theorem dL_law_83 : decode cL_law 83 = .ok (.iload_n 2, 1) := by decide +kernel
theorem dL_law_84 : decode cL_law 84 = .ok (.imul, 1) := by decide +kernel
theorem dL_law_85 : decode cL_law 85 = .ok (.iconst 1, 1) := by decide +kernel
theorem dL_law_86 : decode cL_law 86 = .ok (.iadd, 1) := by decide +kernel
theorem dL_law_87 : decode cL_law 87 = .ok (.invokestatic 105, 3) := by decide +kernel
theorem dL_law_90 : decode cL_law 90 = .ok (.invokestatic 109, 3) := by decide +kernel
theorem dL_law_93 : decode cL_law 93 = .ok (.ifCond .eq 43, 3) := by decide +kernel
theorem dL_law_96 : decode cL_law 96 = .ok (.iload_n 2, 1) := by decide +kernel
theorem dL_law_97 : decode cL_law 97 = .ok (.iconst 3, 1) := by decide +kernel
theorem dL_law_98 : decode cL_law 98 = .ok (.irem, 1) := by decide +kernel
theorem dL_law_99 : decode cL_law 99 = .ok (.iconst 1, 1) := by decide +kernel
theorem dL_law_100 : decode cL_law 100 = .ok (.if_icmp .ne 22, 3) := by decide +kernel
theorem dL_law_103 : decode cL_law 103 = .ok (.aload_n 1, 1) := by decide +kernel
theorem dL_law_104 : decode cL_law 104 = .ok (.iload_n 3, 1) := by decide +kernel
theorem dL_law_105 : decode cL_law 105 = .ok (.bipush 7, 2) := by decide +kernel
theorem dL_law_107 : decode cL_law 107 = .ok (.ishr, 1) := by decide +kernel
theorem dL_law_108 : decode cL_law 108 = .ok (.aload_n 1, 1) := by decide +kernel
theorem dL_law_109 : decode cL_law 109 = .ok (.iconst 0, 1) := by decide +kernel
theorem dL_law_110 : decode cL_law 110 = .ok (.invokevirtual 8, 3) := by decide +kernel
theorem dL_law_113 : decode cL_law 113 = .ok (.invokestatic 69, 3) := by decide +kernel
theorem dL_law_116 : decode cL_law 116 = .ok (.invokestatic 98, 3) := by decide +kernel
theorem dL_law_119 : decode cL_law 119 = .ok (.ifCond .eq 17, 3) := by decide +kernel
theorem dL_law_122 : decode cL_law 122 = .ok (.iload_n 2, 1) := by decide +kernel
theorem dL_law_123 : decode cL_law 123 = .ok (.iconst 4, 1) := by decide +kernel
theorem dL_law_124 : decode cL_law 124 = .ok (.irem, 1) := by decide +kernel
theorem dL_law_125 : decode cL_law 125 = .ok (.iconst 3, 1) := by decide +kernel
theorem dL_law_126 : decode cL_law 126 = .ok (.if_icmp .ne 12, 3) := by decide +kernel
theorem dL_law_129 : decode cL_law 129 = .ok (.aload_n 1, 1) := by decide +kernel
theorem dL_law_130 : decode cL_law 130 = .ok (.invokestatic 102, 3) := by decide +kernel
theorem dL_law_133 : decode cL_law 133 = .ok (.ifCond .ne 5, 3) := by decide +kernel
theorem dL_law_136 : decode cL_law 136 = .ok (.iconst 0, 1) := by decide +kernel
theorem dL_law_137 : decode cL_law 137 = .ok (.ireturn, 1) := by decide +kernel
theorem dL_law_138 : decode cL_law 138 = .ok (.iinc 2 1, 3) := by decide +kernel
theorem dL_law_141 : decode cL_law 141 = .ok (.goto (-76), 3) := by decide +kernel
theorem dL_law_144 : decode cL_law 144 = .ok (.aload_n 1, 1) := by decide +kernel
theorem dL_law_145 : decode cL_law 145 = .ok (.bipush 20, 2) := by decide +kernel
theorem dL_law_147 : decode cL_law 147 = .ok (.iconst 1, 1) := by decide +kernel
theorem dL_law_148 : decode cL_law 148 = .ok (.invokevirtual 72, 3) := by decide +kernel
theorem dL_law_151 : decode cL_law 151 = .ok (.iconst (-1), 1) := by decide +kernel
theorem dL_law_152 : decode cL_law 152 = .ok (.if_icmp .ne 107, 3) := by decide +kernel
theorem dL_law_155 : decode cL_law 155 = .ok (.aload_n 1, 1) := by decide +kernel
theorem dL_law_156 : decode cL_law 156 = .ok (.iconst 0, 1) := by decide +kernel
theorem dL_law_157 : decode cL_law 157 = .ok (.bipush 10, 2) := by decide +kernel
theorem dL_law_159 : decode cL_law 159 = .ok (.invokevirtual 72, 3) := by decide +kernel
theorem dL_law_162 : decode cL_law 162 = .ok (.bipush (-2), 2) := by decide +kernel
theorem dL_law_164 : decode cL_law 164 = .ok (.if_icmp .ne 95, 3) := by decide +kernel
theorem dL_law_167 : decode cL_law 167 = .ok (.aload_n 1, 1) := by decide +kernel
theorem dL_law_168 : decode cL_law 168 = .ok (.iconst 0, 1) := by decide +kernel
theorem dL_law_169 : decode cL_law 169 = .ok (.iconst 4, 1) := by decide +kernel
theorem dL_law_170 : decode cL_law 170 = .ok (.iconst 1, 1) := by decide +kernel
theorem dL_law_171 : decode cL_law 171 = .ok (.invokevirtual 75, 3) := by decide +kernel
theorem dL_law_174 : decode cL_law 174 = .ok (.bipush (-2), 2) := by decide +kernel
theorem dL_law_176 : decode cL_law 176 = .ok (.if_icmp .ne 83, 3) := by decide +kernel
theorem dL_law_179 : decode cL_law 179 = .ok (.aload_n 1, 1) := by decide +kernel
theorem dL_law_180 : decode cL_law 180 = .ok (.sipush 201, 3) := by decide +kernel
theorem dL_law_183 : decode cL_law 183 = .ok (.invokevirtual 40, 3) := by decide +kernel
theorem dL_law_186 : decode cL_law 186 = .ok (.bipush (-2), 2) := by decide +kernel
theorem dL_law_188 : decode cL_law 188 = .ok (.if_icmp .ne 71, 3) := by decide +kernel
theorem dL_law_191 : decode cL_law 191 = .ok (.aload_n 1, 1) := by decide +kernel
theorem dL_law_192 : decode cL_law 192 = .ok (.bipush 25, 2) := by decide +kernel
theorem dL_law_194 : decode cL_law 194 = .ok (.invokevirtual 31, 3) := by decide +kernel
theorem dL_law_197 : decode cL_law 197 = .ok (.bipush (-2), 2) := by decide +kernel
theorem dL_law_199 : decode cL_law 199 = .ok (.if_icmp .ne 60, 3) := by decide +kernel
theorem dL_law_202 : decode cL_law 202 = .ok (.aload_n 1, 1) := by decide +kernel
theorem dL_law_203 : decode cL_law 203 = .ok (.iconst 4, 1) := by decide +kernel
theorem dL_law_204 : decode cL_law 204 = .ok (.iconst 1, 1) := by decide +kernel
theorem dL_law_205 : decode cL_law 205 = .ok (.invokevirtual 79, 3) := by decide +kernel
theorem dL_law_208 : decode cL_law 208 = .ok (.bipush (-2), 2) := by decide +kernel
theorem dL_law_210 : decode cL_law 210 = .ok (.if_icmp .ne 49, 3) := by decide +kernel
theorem dL_law_213 : decode cL_law 213 = .ok (.aload_n 1, 1) := by decide +kernel
theorem dL_law_214 : decode cL_law 214 = .ok (.iconst (-1), 1) := by decide +kernel
theorem dL_law_215 : decode cL_law 215 = .ok (.invokevirtual 25, 3) := by decide +kernel
theorem dL_law_218 : decode cL_law 218 = .ok (.bipush (-2), 2) := by decide +kernel
theorem dL_law_220 : decode cL_law 220 = .ok (.if_icmp .ne 39, 3) := by decide +kernel
theorem dL_law_223 : decode cL_law 223 = .ok (.aload_n 1, 1) := by decide +kernel
theorem dL_law_224 : decode cL_law 224 = .ok (.iconst 0, 1) := by decide +kernel
theorem dL_law_225 : decode cL_law 225 = .ok (.invokevirtual 34, 3) := by decide +kernel
theorem dL_law_228 : decode cL_law 228 = .ok (.bipush (-2), 2) := by decide +kernel
theorem dL_law_230 : decode cL_law 230 = .ok (.if_icmp .ne 29, 3) := by decide +kernel
theorem dL_law_233 : decode cL_law 233 = .ok (.aload_n 1, 1) := by decide +kernel
theorem dL_law_234 : decode cL_law 234 = .ok (.iconst 0, 1) := by decide +kernel
theorem dL_law_235 : decode cL_law 235 = .ok (.iconst 5, 1) := by decide +kernel
theorem dL_law_236 : decode cL_law 236 = .ok (.invokevirtual 18, 3) := by decide +kernel
theorem dL_law_239 : decode cL_law 239 = .ok (.bipush (-2), 2) := by decide +kernel
theorem dL_law_241 : decode cL_law 241 = .ok (.if_icmp .ne 18, 3) := by decide +kernel
theorem dL_law_244 : decode cL_law 244 = .ok (.aload_n 1, 1) := by decide +kernel
theorem dL_law_245 : decode cL_law 245 = .ok (.bipush 14, 2) := by decide +kernel
theorem dL_law_247 : decode cL_law 247 = .ok (.invokevirtual 8, 3) := by decide +kernel
theorem dL_law_250 : decode cL_law 250 = .ok (.bipush (-2), 2) := by decide +kernel
theorem dL_law_252 : decode cL_law 252 = .ok (.if_icmp .ne 7, 3) := by decide +kernel
theorem dL_law_255 : decode cL_law 255 = .ok (.iconst 1, 1) := by decide +kernel
theorem dL_law_256 : decode cL_law 256 = .ok (.goto 4, 3) := by decide +kernel
theorem dL_law_259 : decode cL_law 259 = .ok (.iconst 0, 1) := by decide +kernel
theorem dL_law_260 : decode cL_law 260 = .ok (.ireturn, 1) := by decide +kernel
abbrev vwCl : List vw_C := [(RX0, TX0, 3), (RX1, TX1, 3), (RX2, TX2, 5), (RX3, TX3, 3), (RX4, TX4, 3), (RX5, TX5, 6), (RX6, TX6, 4), (RX7, TX7, 8)]
