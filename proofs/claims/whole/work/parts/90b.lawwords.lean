set_option maxRecDepth 20000 in
theorem ggL_law_X8_init : GoodIn wsL_law wsX8_init := goodIn_r _ [9, 10, 11, 12, 13, 14, 15, 16, 17, 18, 19, 20, 21, 22, 23, 24, 25, 26, 27, 28, 29, 30, 31, 32, 33, 34, 35, 36, 37, 38, 39, 40, 41, 42, 43, 44, 45, 46, 47, 48, 49, 50, 51, 52, 53, 54, 55, 56, 57, 58, 59, 60, 61, 62, 63, 64, 65, 66, 67, 68, 69, 70, 71, 72, 73, 74, 75, 76, 77, 78, 79, 80, 81, 82, 83, 84, 85, 86, 87, 88, 89, 90, 91, 92, 93, 94, 95, 96, 97, 98, 99, 100, 101, 102, 103, 104, 105, 106, 107, 108, 109, 110, 111, 112, 113, 114, 801, 802, 803, 772, 773, 774, 775, 776, 777, 778, 779, 780, 804, 805, 806, 807, 808, 809, 810, 811, 812, 813, 814, 815, 816, 817, 818, 819, 820, 821, 822, 823, 824, 825, 826, 827, 828, 829, 830] (by decide +kernel) (by decide +kernel)
set_option maxRecDepth 20000 in
theorem gL_law_X8_init : GoodIn wsL_law (wsX8_init) := ggL_law_X8_init
set_option maxRecDepth 20000 in
theorem ggL_law_X9_init : GoodIn wsL_law wsX9_init := goodIn_r _ [117, 118, 11, 12, 57, 119, 120, 121, 122, 123, 124, 125, 126, 127, 128, 5, 129, 130, 131, 132, 133, 134, 135, 136, 137, 138, 139, 140, 141, 142, 781, 782, 783, 784, 785, 786, 787, 788, 789, 790, 791, 792, 793, 794, 795, 796, 797, 798, 799, 800] (by decide +kernel) (by decide +kernel)
set_option maxRecDepth 20000 in
theorem gL_law_X9_init : GoodIn wsL_law (wsX9_init) := ggL_law_X9_init
set_option maxRecDepth 20000 in
theorem ggL_law_X8_prior : GoodIn wsL_law wsX8_prior := goodIn_r _ [146, 20, 16, 147, 148, 149, 19, 150, 82, 83, 151, 152, 153, 15, 154, 48, 52, 53, 155, 156, 157, 47, 158, 58, 159, 160, 161, 162, 59, 60, 61, 62, 163, 164, 165, 51, 166, 66, 167, 67, 68, 168, 169, 170, 171, 69, 70, 71, 72, 73, 74, 75, 76, 172, 173, 174, 2, 175, 176, 177, 178, 179, 84, 180, 181, 182, 183, 772, 773, 774, 775, 776, 777, 778, 779, 780, 804, 805, 806, 801, 802, 803, 823, 824, 825, 826, 827, 828, 829, 830] (by decide +kernel) (by decide +kernel)
set_option maxRecDepth 20000 in
theorem gL_law_X8_prior : GoodIn wsL_law (wsV RL 13 RX8 yX8_prior wsX8_prior) := goodIn_app (goodIn_of _ (by decide +kernel)) ggL_law_X8_prior
set_option maxRecDepth 20000 in
theorem ggL_law_X9_prior : GoodIn wsL_law wsX9_prior := goodIn_r _ [187, 119, 188, 189, 5, 190, 191, 192, 193, 194, 195, 120, 196, 197, 198, 199, 200, 201, 202, 126, 127, 128, 129, 130, 131, 132, 133, 134, 135, 136, 137, 138, 125, 124, 139, 140, 141, 142, 781, 782, 783, 784, 785, 786, 787, 788, 789, 790, 791, 792, 793, 794, 795, 796, 797, 798, 799, 800] (by decide +kernel) (by decide +kernel)
set_option maxRecDepth 20000 in
theorem gL_law_X9_prior : GoodIn wsL_law (wsV RL 17 RX9 yX9_prior wsX9_prior) := goodIn_app (goodIn_of _ (by decide +kernel)) ggL_law_X9_prior
set_option maxRecDepth 20000 in
theorem ggL_law_X8_hire : GoodIn wsL_law wsX8_hire := goodIn_r _ [206, 20, 16, 207, 147, 148, 149, 19, 150, 82, 83, 151, 152, 153, 15, 154, 48, 52, 53, 155, 156, 157, 47, 158, 58, 159, 160, 161, 162, 59, 60, 61, 62, 163, 164, 165, 51, 166, 66, 167, 67, 68, 208, 209, 210, 211, 172, 173, 174, 2, 175, 176, 177, 178, 179, 84, 180, 181, 182, 183, 772, 773, 774, 775, 776, 777, 778, 779, 780, 801, 802, 803, 804, 805, 806, 823, 824, 825, 826, 827, 828, 829, 830] (by decide +kernel) (by decide +kernel)
set_option maxRecDepth 20000 in
theorem gL_law_X8_hire : GoodIn wsL_law (wsV RL 18 RX8 yX8_hire wsX8_hire) := goodIn_app (goodIn_of _ (by decide +kernel)) ggL_law_X8_hire
set_option maxRecDepth 20000 in
theorem ggL_law_X9_hire : GoodIn wsL_law wsX9_hire := goodIn_r _ [215, 216, 217, 218, 5, 219, 119, 188, 189, 190, 191, 192, 193, 194, 195, 120, 196, 197, 198, 220, 221, 222, 223, 781, 782, 783, 784, 785, 786, 787, 788, 789, 790, 791, 792, 793, 794, 795, 796, 797, 798, 799, 800] (by decide +kernel) (by decide +kernel)
set_option maxRecDepth 20000 in
theorem gL_law_X9_hire : GoodIn wsL_law (wsV RL 22 RX9 yX9_hire wsX9_hire) := goodIn_app (goodIn_of _ (by decide +kernel)) ggL_law_X9_hire
set_option maxRecDepth 20000 in
theorem ggL_law_X8_dismiss : GoodIn wsL_law wsX8_dismiss := goodIn_r _ [227, 20, 16, 207, 147, 148, 149, 19, 150, 82, 83, 151, 152, 153, 15, 154, 48, 52, 53, 155, 156, 157, 47, 158, 58, 159, 160, 161, 162, 59, 60, 61, 62, 163, 164, 165, 51, 166, 66, 167, 67, 68, 228, 229, 230, 231, 232, 233, 234, 235, 172, 173, 174, 2, 175, 176, 177, 178, 179, 84, 180, 181, 182, 183, 772, 773, 774, 775, 776, 777, 778, 779, 780, 801, 802, 803, 804, 805, 806, 823, 824, 825, 826, 827, 828, 829, 830] (by decide +kernel) (by decide +kernel)
set_option maxRecDepth 20000 in
theorem gL_law_X8_dismiss : GoodIn wsL_law (wsV RL 23 RX8 yX8_dismiss wsX8_dismiss) := goodIn_app (goodIn_of _ (by decide +kernel)) ggL_law_X8_dismiss
set_option maxRecDepth 20000 in
theorem ggL_law_X9_dismiss : GoodIn wsL_law wsX9_dismiss := goodIn_r _ [239, 240, 241, 242, 5, 243, 119, 188, 189, 190, 191, 192, 193, 194, 195, 120, 196, 197, 198, 244, 245, 246, 247, 781, 782, 783, 784, 785, 786, 787, 788, 789, 790, 791, 792, 793, 794, 795, 796, 797, 798, 799, 800] (by decide +kernel) (by decide +kernel)
set_option maxRecDepth 20000 in
theorem gL_law_X9_dismiss : GoodIn wsL_law (wsV RL 26 RX9 yX9_dismiss wsX9_dismiss) := goodIn_app (goodIn_of _ (by decide +kernel)) ggL_law_X9_dismiss
set_option maxRecDepth 20000 in
theorem ggL_law_X8_refine : GoodIn wsL_law wsX8_refine := goodIn_r _ [251, 20, 16, 147, 148, 149, 19, 150, 82, 83, 151, 152, 153, 15, 154, 48, 52, 53, 155, 156, 157, 47, 158, 58, 159, 160, 161, 162, 59, 60, 61, 62, 163, 164, 165, 51, 166, 66, 167, 67, 68, 252, 253, 254, 2, 255, 256, 257, 258, 259, 31, 260, 261, 262, 263, 264, 265, 266, 30, 267, 268, 269, 270, 271, 272, 273, 274, 99, 275, 276, 277, 278, 279, 280, 281, 282, 283, 284, 285, 286, 287, 288, 289, 290, 291, 292, 293, 182, 294, 295, 296, 297, 298, 299, 300, 301, 302, 303, 74, 75, 76, 172, 173, 174, 175, 176, 177, 178, 179, 84, 180, 181, 183, 772, 773, 774, 775, 776, 777, 778, 779, 780, 804, 805, 806, 801, 802, 803, 823, 824, 825, 826, 827, 828, 829, 830, 813] (by decide +kernel) (by decide +kernel)
set_option maxRecDepth 20000 in
theorem gL_law_X8_refine : GoodIn wsL_law (wsV RL 27 RX8 yX8_refine wsX8_refine) := goodIn_app (goodIn_of _ (by decide +kernel)) ggL_law_X8_refine
set_option maxRecDepth 20000 in
theorem ggL_law_X9_refine : GoodIn wsL_law wsX9_refine := goodIn_r _ [307, 119, 134, 308, 309, 310, 5, 311, 188, 189, 190, 135, 136, 137, 138, 125, 124, 312, 313, 314, 315, 316, 317, 318, 191, 192, 193, 194, 195, 120, 196, 197, 198, 139, 140, 141, 142, 781, 782, 783, 784, 785, 786, 787, 788, 789, 790, 791, 792, 793, 794, 795, 796, 797, 798, 799, 800] (by decide +kernel) (by decide +kernel)
set_option maxRecDepth 20000 in
theorem gL_law_X9_refine : GoodIn wsL_law (wsV RL 31 RX9 yX9_refine wsX9_refine) := goodIn_app (goodIn_of _ (by decide +kernel)) ggL_law_X9_refine
set_option maxRecDepth 20000 in
theorem ggL_law_X8_join : GoodIn wsL_law wsX8_join := goodIn_r _ [322, 20, 16, 147, 148, 149, 19, 150, 82, 83, 151, 152, 153, 15, 154, 48, 52, 53, 155, 156, 157, 47, 158, 58, 159, 160, 161, 162, 59, 60, 61, 62, 163, 164, 165, 51, 166, 66, 167, 67, 68, 323, 324, 325, 2, 326, 256, 259, 257, 31, 260, 261, 262, 263, 264, 265, 266, 30, 267, 268, 269, 270, 271, 272, 273, 274, 99, 275, 276, 277, 278, 279, 280, 281, 282, 283, 284, 285, 258, 286, 287, 288, 289, 290, 291, 292, 293, 182, 294, 295, 296, 297, 298, 299, 300, 301, 302, 303, 74, 75, 76, 172, 173, 174, 175, 176, 177, 178, 179, 84, 180, 181, 183, 772, 773, 774, 775, 776, 777, 778, 779, 780, 804, 805, 806, 801, 802, 803, 823, 824, 825, 826, 827, 828, 829, 830, 813] (by decide +kernel) (by decide +kernel)
set_option maxRecDepth 20000 in
theorem gL_law_X8_join : GoodIn wsL_law (wsV RL 32 RX8 yX8_join wsX8_join) := goodIn_app (goodIn_of _ (by decide +kernel)) ggL_law_X8_join
set_option maxRecDepth 20000 in
theorem ggL_law_X9_join : GoodIn wsL_law wsX9_join := goodIn_r _ [330, 119, 134, 308, 309, 310, 5, 311, 188, 189, 190, 135, 136, 137, 138, 125, 124, 312, 313, 314, 315, 316, 317, 318, 191, 192, 193, 194, 195, 120, 196, 197, 198, 139, 140, 141, 142, 781, 782, 783, 784, 785, 786, 787, 788, 789, 790, 791, 792, 793, 794, 795, 796, 797, 798, 799, 800] (by decide +kernel) (by decide +kernel)
set_option maxRecDepth 20000 in
theorem gL_law_X9_join : GoodIn wsL_law (wsV RL 35 RX9 yX9_join wsX9_join) := goodIn_app (goodIn_of _ (by decide +kernel)) ggL_law_X9_join
set_option maxRecDepth 20000 in
theorem ggL_law_X8_adopt : GoodIn wsL_law wsX8_adopt := goodIn_r _ [334, 20, 16, 147, 148, 149, 19, 150, 82, 83, 151, 152, 153, 15, 154, 48, 52, 53, 155, 156, 157, 47, 158, 58, 159, 160, 161, 162, 59, 60, 61, 62, 163, 164, 165, 51, 166, 66, 167, 67, 68, 335, 336, 337, 2, 338, 35, 207, 339, 31, 340, 341, 342, 343, 344, 345, 346, 34, 347, 105, 103, 104, 348, 349, 350, 351, 352, 353, 354, 355, 356, 357, 358, 359, 360, 361, 362, 363, 106, 107, 108, 109, 364, 365, 182, 366, 290, 291, 292, 293, 294, 367, 272, 273, 30, 274, 99, 281, 276, 277, 278, 279, 280, 282, 283, 284, 285, 256, 258, 286, 287, 288, 289, 295, 296, 297, 298, 299, 300, 301, 302, 268, 303, 74, 75, 76, 172, 173, 174, 175, 176, 177, 178, 179, 84, 180, 181, 183, 772, 773, 774, 775, 776, 777, 778, 779, 780, 804, 805, 806, 801, 802, 803, 823, 824, 825, 826, 827, 828, 829, 830, 814, 815, 816, 817, 818, 819, 820, 813] (by decide +kernel) (by decide +kernel)
set_option maxRecDepth 20000 in
theorem gL_law_X8_adopt : GoodIn wsL_law (wsV RL 36 RX8 yX8_adopt wsX8_adopt) := goodIn_app (goodIn_of _ (by decide +kernel)) ggL_law_X8_adopt
set_option maxRecDepth 20000 in
theorem ggL_law_X9_adopt : GoodIn wsL_law wsX9_adopt := goodIn_r _ [371, 191, 192, 193, 5, 194, 195, 120, 119, 196, 197, 198, 372, 373, 374, 375, 134, 376, 377, 378, 379, 380, 381, 382, 383, 384, 385, 386, 387, 388, 389, 390, 391, 392, 393, 394, 395, 396, 397, 398, 399, 400, 401, 402, 403, 316, 317, 318, 404, 405, 406, 407, 135, 136, 137, 138, 125, 124, 139, 140, 141, 142, 781, 782, 783, 784, 785, 786, 787, 788, 789, 790, 791, 792, 793, 794, 795, 796, 797, 798, 799, 800] (by decide +kernel) (by decide +kernel)
set_option maxRecDepth 20000 in
theorem gL_law_X9_adopt : GoodIn wsL_law (wsV RL 40 RX9 yX9_adopt wsX9_adopt) := goodIn_app (goodIn_of _ (by decide +kernel)) ggL_law_X9_adopt
set_option maxRecDepth 20000 in
theorem ggL_law_X8_receiver : GoodIn wsL_law wsX8_receiver := goodIn_r _ [411, 16, 207, 412, 413, 414, 415, 416, 233, 234, 47, 235, 62, 417, 418, 419, 420, 352, 353, 354, 355, 59, 58, 772, 773, 774, 775, 776, 777, 778, 779, 780, 801, 802, 803, 823, 824, 825, 826, 827] (by decide +kernel) (by decide +kernel)
set_option maxRecDepth 20000 in
theorem gL_law_X8_receiver : GoodIn wsL_law (wsV RL 41 RX8 yX8_receiver wsX8_receiver) := goodIn_app (goodIn_of _ (by decide +kernel)) ggL_law_X8_receiver
set_option maxRecDepth 20000 in
theorem ggL_law_X9_receiver : GoodIn wsL_law wsX9_receiver := goodIn_r _ [424, 240, 241, 242, 5, 243, 119, 188, 189, 190, 394, 395, 396, 397, 425, 426, 427, 428, 390, 391, 392, 393, 781, 782, 783, 784, 785, 786, 787, 788, 789, 790, 791, 792, 793, 794, 795, 796, 797, 798, 799, 800] (by decide +kernel) (by decide +kernel)
set_option maxRecDepth 20000 in
theorem gL_law_X9_receiver : GoodIn wsL_law (wsV RL 45 RX9 yX9_receiver wsX9_receiver) := goodIn_app (goodIn_of _ (by decide +kernel)) ggL_law_X9_receiver
set_option maxRecDepth 20000 in
theorem ggL_law_X8_part : GoodIn wsL_law wsX8_part := goodIn_r _ [432, 16, 256, 259, 257, 207, 260, 261, 262, 51, 263, 68, 433, 434, 435, 47, 436, 62, 352, 353, 354, 355, 59, 58, 437, 349, 350, 351, 61, 60, 772, 773, 774, 775, 776, 777, 778, 779, 780, 801, 802, 803, 828, 829, 830, 823, 824, 825, 826, 827] (by decide +kernel) (by decide +kernel)
set_option maxRecDepth 20000 in
theorem gL_law_X8_part : GoodIn wsL_law (wsV RL 46 RX8 yX8_part wsX8_part) := goodIn_app (goodIn_of _ (by decide +kernel)) ggL_law_X8_part
set_option maxRecDepth 20000 in
theorem ggL_law_X9_part : GoodIn wsL_law wsX9_part := goodIn_r _ [441, 119, 308, 309, 310, 5, 311, 188, 189, 190, 386, 387, 388, 389, 390, 391, 392, 393, 394, 395, 396, 397, 382, 383, 384, 385, 781, 782, 783, 784, 785, 786, 787, 788, 789, 790, 791, 792, 793, 794, 795, 796, 797, 798, 799, 800] (by decide +kernel) (by decide +kernel)
set_option maxRecDepth 20000 in
theorem gL_law_X9_part : GoodIn wsL_law (wsV RL 49 RX9 yX9_part wsX9_part) := goodIn_app (goodIn_of _ (by decide +kernel)) ggL_law_X9_part
set_option maxRecDepth 20000 in
theorem ggL_law_X8_value : GoodIn wsL_law wsX8_value := goodIn_r _ [445, 16, 207, 446, 279, 2, 280, 437, 349, 350, 47, 351, 62, 61, 60, 352, 353, 354, 355, 59, 58, 772, 773, 774, 775, 776, 777, 778, 779, 780, 801, 802, 803, 823, 824, 825, 826, 827] (by decide +kernel) (by decide +kernel)
set_option maxRecDepth 20000 in
theorem gL_law_X8_value : GoodIn wsL_law (wsV RL 50 RX8 yX8_value wsX8_value) := goodIn_app (goodIn_of _ (by decide +kernel)) ggL_law_X8_value
set_option maxRecDepth 20000 in
theorem ggL_law_X9_value : GoodIn wsL_law wsX9_value := goodIn_r _ [450, 451, 452, 5, 453, 188, 189, 190, 382, 383, 384, 385, 119, 386, 387, 388, 389, 390, 391, 392, 393, 394, 395, 396, 397, 781, 782, 783, 784, 785, 786, 787, 788, 789, 790, 791, 792, 793, 794, 795, 796, 797, 798, 799, 800] (by decide +kernel) (by decide +kernel)
set_option maxRecDepth 20000 in
theorem gL_law_X9_value : GoodIn wsL_law (wsV RL 53 RX9 yX9_value wsX9_value) := goodIn_app (goodIn_of _ (by decide +kernel)) ggL_law_X9_value
set_option maxRecDepth 20000 in
theorem ggL_law_X8_mean : GoodIn wsL_law wsX8_mean := goodIn_r _ [457, 16, 39, 458, 459, 460, 461, 462, 2, 463, 464, 465, 466, 15, 467, 52, 468, 469, 48, 470, 471, 349, 350, 47, 351, 62, 61, 60, 352, 353, 354, 355, 59, 58, 472, 473, 474, 51, 475, 68, 66, 476, 477, 478, 38, 479, 113, 114, 290, 291, 292, 293, 182, 294, 772, 773, 774, 775, 776, 777, 778, 779, 780, 821, 822, 801, 802, 803, 828, 829, 830, 823, 824, 825, 826, 827] (by decide +kernel) (by decide +kernel)
set_option maxRecDepth 20000 in
theorem gL_law_X8_mean : GoodIn wsL_law (wsV RL 54 RX8 yX8_mean wsX8_mean) := goodIn_app (goodIn_of _ (by decide +kernel)) ggL_law_X8_mean
set_option maxRecDepth 20000 in
theorem ggL_law_X9_mean : GoodIn wsL_law wsX9_mean := goodIn_r _ [483, 402, 484, 403, 485, 486, 487, 5, 488, 119, 382, 383, 384, 385, 386, 387, 388, 389, 390, 391, 392, 393, 394, 395, 396, 397, 489, 490, 491, 492, 398, 399, 400, 401, 316, 317, 318, 781, 782, 783, 784, 785, 786, 787, 788, 789, 790, 791, 792, 793, 794, 795, 796, 797, 798, 799, 800] (by decide +kernel) (by decide +kernel)
set_option maxRecDepth 20000 in
theorem gL_law_X9_mean : GoodIn wsL_law (wsV RL 57 RX9 yX9_mean wsX9_mean) := goodIn_app (goodIn_of _ (by decide +kernel)) ggL_law_X9_mean
set_option maxRecDepth 20000 in
theorem ggL_law_X8_worth : GoodIn wsL_law wsX8_worth := goodIn_r _ [496, 16, 207, 39, 458, 460, 416, 233, 234, 47, 235, 62, 461, 462, 2, 463, 497, 498, 499, 15, 500, 52, 468, 469, 48, 470, 501, 502, 503, 504, 59, 58, 505, 365, 182, 366, 472, 473, 474, 51, 475, 68, 66, 476, 477, 478, 38, 479, 113, 114, 290, 291, 292, 293, 294, 772, 773, 774, 775, 776, 777, 778, 779, 780, 801, 802, 803, 821, 822, 823, 824, 825, 826, 827, 828, 829, 830] (by decide +kernel) (by decide +kernel)
set_option maxRecDepth 20000 in
theorem gL_law_X8_worth : GoodIn wsL_law (wsV RL 58 RX8 yX8_worth wsX8_worth) := goodIn_app (goodIn_of _ (by decide +kernel)) ggL_law_X8_worth
