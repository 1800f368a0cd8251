set_option maxRecDepth 20000 in
theorem ggL_law_X8_init : GoodIn wsL_law wsX8_init := goodIn_r _ [6, 7, 8, 9, 10, 11, 12, 13, 14, 15, 16, 17, 18, 19, 20, 21, 22, 23, 24, 25, 26, 27, 28, 29, 30, 31, 32, 33, 34, 35, 36, 37, 38, 39, 40, 41, 42, 43, 44, 45, 46, 47, 48, 49, 50, 51, 52, 53, 3, 54, 55, 56, 57, 58, 59, 60, 61, 62, 63, 64, 65, 66, 67, 68, 69, 70, 71, 72, 73, 74, 75, 76, 77, 78, 79, 80, 81, 82, 83, 84, 85, 86, 87, 88, 89, 90, 91, 92, 93, 94, 95, 96, 97, 98, 99, 100, 101, 102, 103, 104, 105, 106, 107, 108, 109, 110, 417, 418, 419, 408, 409, 410, 411, 412, 413, 414, 415, 416, 420, 421, 422, 423, 424, 425, 426, 427, 428, 429, 430, 431, 432, 433, 434, 435, 436, 437, 438, 439, 440, 441, 442, 443, 444, 445, 446] (by decide +kernel) (by decide +kernel)
set_option maxRecDepth 20000 in
theorem gL_law_X8_init : GoodIn wsL_law (wsX8_init) := ggL_law_X8_init
set_option maxRecDepth 20000 in
theorem ggL_law_L_cell : GoodIn wsL_law wsL_cell := goodIn_r _ [114, 115, 116] (by decide +kernel) (by decide +kernel)
set_option maxRecDepth 20000 in
theorem gL_law_L_cell : GoodIn wsL_law (va_wsS RL 61 yL_cell wsL_cell) := goodIn_app (goodIn_of _ (by decide +kernel)) ggL_law_L_cell
set_option maxRecDepth 20000 in
theorem ggL_law_L_low : GoodIn wsL_law wsL_low := goodIn_r _ [119, 120] (by decide +kernel) (by decide +kernel)
set_option maxRecDepth 20000 in
theorem gL_law_L_low : GoodIn wsL_law (va_wsS RL 50 yL_low wsL_low) := goodIn_app (goodIn_of _ (by decide +kernel)) ggL_law_L_low
set_option maxRecDepth 20000 in
theorem ggL_law_X8_hire : GoodIn wsL_law wsX8_hire := goodIn_r _ [124, 17, 13, 125, 126, 127, 128, 16, 129, 78, 79, 130, 131, 132, 12, 133, 45, 49, 50, 134, 135, 136, 44, 137, 54, 138, 139, 140, 141, 55, 56, 57, 58, 142, 143, 144, 48, 145, 62, 146, 63, 64, 147, 148, 149, 150, 151, 152, 153, 2, 154, 155, 156, 157, 158, 80, 159, 160, 161, 162, 408, 409, 410, 411, 412, 413, 414, 415, 416, 417, 418, 419, 420, 421, 422, 439, 440, 441, 442, 443, 444, 445, 446] (by decide +kernel) (by decide +kernel)
set_option maxRecDepth 20000 in
theorem gL_law_X8_hire : GoodIn wsL_law (wsV RL 65 RX8 yX8_hire wsX8_hire) := goodIn_app (goodIn_of _ (by decide +kernel)) ggL_law_X8_hire
set_option maxRecDepth 20000 in
theorem ggL_law_X8_dismiss : GoodIn wsL_law wsX8_dismiss := goodIn_r _ [166, 17, 13, 125, 126, 127, 128, 16, 129, 78, 79, 130, 131, 132, 12, 133, 45, 49, 50, 134, 135, 136, 44, 137, 54, 138, 139, 140, 141, 55, 56, 57, 58, 142, 143, 144, 48, 145, 62, 146, 63, 64, 167, 168, 169, 170, 171, 172, 173, 174, 151, 152, 153, 2, 154, 155, 156, 157, 158, 80, 159, 160, 161, 162, 408, 409, 410, 411, 412, 413, 414, 415, 416, 417, 418, 419, 420, 421, 422, 439, 440, 441, 442, 443, 444, 445, 446] (by decide +kernel) (by decide +kernel)
set_option maxRecDepth 20000 in
theorem gL_law_X8_dismiss : GoodIn wsL_law (wsV RL 69 RX8 yX8_dismiss wsX8_dismiss) := goodIn_app (goodIn_of _ (by decide +kernel)) ggL_law_X8_dismiss
set_option maxRecDepth 20000 in
theorem ggL_law_L_tidy : GoodIn wsL_law wsL_tidy := goodIn_r _ [177, 178, 179, 113, 180] (by decide +kernel) (by decide +kernel)
set_option maxRecDepth 20000 in
theorem gL_law_L_tidy : GoodIn wsL_law (va_wsS RL 72 yL_tidy wsL_tidy) := goodIn_app (goodIn_of _ (by decide +kernel)) ggL_law_L_tidy
set_option maxRecDepth 20000 in
theorem ggL_law_X8_refine : GoodIn wsL_law wsX8_refine := goodIn_r _ [184, 17, 13, 126, 127, 128, 16, 129, 78, 79, 130, 131, 132, 12, 133, 45, 49, 50, 134, 135, 136, 44, 137, 54, 138, 139, 140, 141, 55, 56, 57, 58, 142, 143, 144, 48, 145, 62, 146, 63, 64, 185, 186, 187, 2, 188, 189, 190, 191, 192, 28, 193, 194, 195, 196, 197, 198, 199, 27, 200, 201, 202, 203, 204, 205, 206, 207, 95, 208, 209, 210, 211, 212, 213, 214, 215, 216, 217, 218, 219, 220, 221, 222, 223, 224, 225, 226, 161, 227, 228, 229, 230, 231, 232, 233, 234, 235, 236, 70, 71, 72, 151, 152, 153, 154, 155, 156, 157, 158, 80, 159, 160, 162, 408, 409, 410, 411, 412, 413, 414, 415, 416, 420, 421, 422, 417, 418, 419, 439, 440, 441, 442, 443, 444, 445, 446, 429] (by decide +kernel) (by decide +kernel)
set_option maxRecDepth 20000 in
theorem gL_law_X8_refine : GoodIn wsL_law (wsV RL 76 RX8 yX8_refine wsX8_refine) := goodIn_app (goodIn_of _ (by decide +kernel)) ggL_law_X8_refine
set_option maxRecDepth 20000 in
theorem ggL_law_L_take : GoodIn wsL_law wsL_take := goodIn_r _ [239] (by decide +kernel) (by decide +kernel)
set_option maxRecDepth 20000 in
theorem gL_law_L_take : GoodIn wsL_law (va_wsS RL 80 yL_take wsL_take) := goodIn_app (goodIn_of _ (by decide +kernel)) ggL_law_L_take
set_option maxRecDepth 20000 in
theorem ggL_law_X8_join : GoodIn wsL_law wsX8_join := goodIn_r _ [243, 17, 13, 126, 127, 128, 16, 129, 78, 79, 130, 131, 132, 12, 133, 45, 49, 50, 134, 135, 136, 44, 137, 54, 138, 139, 140, 141, 55, 56, 57, 58, 142, 143, 144, 48, 145, 62, 146, 63, 64, 244, 245, 246, 2, 247, 189, 192, 190, 28, 193, 194, 195, 196, 197, 198, 199, 27, 200, 201, 202, 203, 204, 205, 206, 207, 95, 208, 209, 210, 211, 212, 213, 214, 215, 216, 217, 218, 191, 219, 220, 221, 222, 223, 224, 225, 226, 161, 227, 228, 229, 230, 231, 232, 233, 234, 235, 236, 70, 71, 72, 151, 152, 153, 154, 155, 156, 157, 158, 80, 159, 160, 162, 408, 409, 410, 411, 412, 413, 414, 415, 416, 420, 421, 422, 417, 418, 419, 439, 440, 441, 442, 443, 444, 445, 446, 429] (by decide +kernel) (by decide +kernel)
set_option maxRecDepth 20000 in
theorem gL_law_X8_join : GoodIn wsL_law (wsV RL 84 RX8 yX8_join wsX8_join) := goodIn_app (goodIn_of _ (by decide +kernel)) ggL_law_X8_join
set_option maxRecDepth 20000 in
theorem ggL_law_L_envelope : GoodIn wsL_law wsL_envelope := goodIn_r _ [250, 251, 252, 113, 253, 254, 255, 256, 257, 258, 259, 178, 179, 180] (by decide +kernel) (by decide +kernel)
set_option maxRecDepth 20000 in
theorem gL_law_L_envelope : GoodIn wsL_law (va_wsS RL 38 yL_envelope wsL_envelope) := goodIn_app (goodIn_of _ (by decide +kernel)) ggL_law_L_envelope
set_option maxRecDepth 20000 in
theorem ggL_law_X8_adopt : GoodIn wsL_law wsX8_adopt := goodIn_r _ [263, 17, 13, 126, 127, 128, 16, 129, 78, 79, 130, 131, 132, 12, 133, 45, 49, 50, 134, 135, 136, 44, 137, 54, 138, 139, 140, 141, 55, 56, 57, 58, 142, 143, 144, 48, 145, 62, 146, 63, 64, 264, 265, 266, 2, 267, 32, 125, 268, 28, 269, 270, 271, 272, 273, 274, 275, 31, 276, 101, 99, 100, 277, 278, 279, 280, 281, 282, 283, 284, 285, 286, 287, 288, 289, 290, 291, 292, 102, 103, 104, 105, 293, 294, 161, 295, 223, 224, 225, 226, 227, 296, 205, 206, 27, 207, 95, 214, 209, 210, 211, 212, 213, 215, 216, 217, 218, 189, 191, 219, 220, 221, 222, 228, 229, 230, 231, 232, 233, 234, 235, 201, 236, 70, 71, 72, 151, 152, 153, 154, 155, 156, 157, 158, 80, 159, 160, 162, 408, 409, 410, 411, 412, 413, 414, 415, 416, 420, 421, 422, 417, 418, 419, 439, 440, 441, 442, 443, 444, 445, 446, 430, 431, 432, 433, 434, 435, 436, 429] (by decide +kernel) (by decide +kernel)
set_option maxRecDepth 20000 in
theorem gL_law_X8_adopt : GoodIn wsL_law (wsV RL 87 RX8 yX8_adopt wsX8_adopt) := goodIn_app (goodIn_of _ (by decide +kernel)) ggL_law_X8_adopt
set_option maxRecDepth 20000 in
theorem ggL_law_X8_prior : GoodIn wsL_law wsX8_prior := goodIn_r _ [300, 17, 13, 126, 127, 128, 16, 129, 78, 79, 130, 131, 132, 12, 133, 45, 49, 50, 134, 135, 136, 44, 137, 54, 138, 139, 140, 141, 55, 56, 57, 58, 142, 143, 144, 48, 145, 62, 146, 63, 64, 301, 302, 303, 304, 65, 66, 67, 68, 69, 70, 71, 72, 151, 152, 153, 2, 154, 155, 156, 157, 158, 80, 159, 160, 161, 162, 408, 409, 410, 411, 412, 413, 414, 415, 416, 420, 421, 422, 417, 418, 419, 439, 440, 441, 442, 443, 444, 445, 446] (by decide +kernel) (by decide +kernel)
set_option maxRecDepth 20000 in
theorem gL_law_X8_prior : GoodIn wsL_law (wsV RL 91 RX8 yX8_prior wsX8_prior) := goodIn_app (goodIn_of _ (by decide +kernel)) ggL_law_X8_prior
