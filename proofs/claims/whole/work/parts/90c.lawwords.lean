set_option maxRecDepth 20000 in
theorem ggL_law_X9_worth : GoodIn wsL_law wsX9_worth := goodIn_r _ [509, 119, 402, 403, 240, 241, 242, 5, 243, 188, 189, 190, 510, 511, 512, 513, 394, 395, 396, 397, 489, 490, 491, 492, 398, 399, 400, 401, 316, 317, 318, 781, 782, 783, 784, 785, 786, 787, 788, 789, 790, 791, 792, 793, 794, 795, 796, 797, 798, 799, 800] (by decide +kernel) (by decide +kernel)
set_option maxRecDepth 20000 in
theorem gL_law_X9_worth : GoodIn wsL_law (wsV RL 61 RX9 yX9_worth wsX9_worth) := goodIn_app (goodIn_of _ (by decide +kernel)) ggL_law_X9_worth
set_option maxRecDepth 20000 in
theorem ggL_law_X8_count : GoodIn wsL_law wsX8_count := goodIn_r _ [517, 16, 339, 207, 518, 256, 258, 27, 519, 20, 520, 521, 473, 474, 51, 475, 68, 66, 522, 523, 524, 2, 525, 39, 35, 40, 458, 460, 464, 465, 466, 15, 467, 52, 468, 469, 48, 470, 471, 349, 350, 47, 351, 62, 61, 60, 352, 353, 354, 355, 59, 58, 472, 476, 477, 478, 38, 479, 113, 114, 290, 291, 292, 293, 182, 294, 526, 527, 528, 529, 344, 345, 346, 34, 347, 105, 103, 104, 348, 356, 357, 358, 359, 360, 361, 362, 363, 106, 107, 108, 109, 364, 365, 366, 530, 531, 532, 533, 534, 535, 536, 537, 538, 772, 773, 774, 775, 776, 777, 778, 779, 780, 801, 802, 803, 823, 824, 825, 826, 827, 828, 829, 830, 807, 808, 809, 810, 811, 812, 804, 805, 806, 821, 822, 814, 815, 816, 817, 818, 819, 820] (by decide +kernel) (by decide +kernel)
set_option maxRecDepth 20000 in
theorem gL_law_X8_count : GoodIn wsL_law (wsV RL 62 RX8 yX8_count wsX8_count) := goodIn_app (goodIn_of _ (by decide +kernel)) ggL_law_X8_count
set_option maxRecDepth 20000 in
theorem ggL_law_X9_count : GoodIn wsL_law wsX9_count := goodIn_r _ [542, 119, 543, 195, 489, 490, 491, 5, 492, 544, 545, 546, 547, 402, 403, 485, 486, 487, 488, 382, 383, 384, 385, 386, 387, 388, 389, 390, 391, 392, 393, 394, 395, 396, 397, 398, 399, 400, 401, 316, 317, 318, 378, 379, 380, 381, 376, 377, 781, 782, 783, 784, 785, 786, 787, 788, 789, 790, 791, 792, 793, 794, 795, 796, 797, 798, 799, 800] (by decide +kernel) (by decide +kernel)
set_option maxRecDepth 20000 in
theorem gL_law_X9_count : GoodIn wsL_law (wsV RL 65 RX9 yX9_count wsX9_count) := goodIn_app (goodIn_of _ (by decide +kernel)) ggL_law_X9_count
set_option maxRecDepth 20000 in
theorem ggL_law_X8_envelope : GoodIn wsL_law wsX8_envelope := goodIn_r _ [551, 35, 39, 458, 459, 460, 446, 279, 2, 280, 461, 462, 463, 526, 527, 528, 529, 16, 207, 344, 345, 346, 34, 347, 105, 103, 104, 348, 349, 350, 47, 351, 62, 61, 60, 352, 353, 354, 355, 59, 58, 356, 357, 358, 359, 360, 361, 362, 363, 106, 107, 108, 109, 364, 365, 182, 366, 290, 291, 292, 293, 294, 530, 531, 532, 533, 534, 535, 536, 537, 538, 477, 478, 38, 479, 113, 114, 772, 773, 774, 775, 776, 777, 778, 779, 780, 821, 822, 801, 802, 803, 814, 815, 816, 817, 818, 819, 820, 823, 824, 825, 826, 827] (by decide +kernel) (by decide +kernel)
set_option maxRecDepth 20000 in
theorem gL_law_X8_envelope : GoodIn wsL_law (wsV RL 66 RX8 yX8_envelope wsX8_envelope) := goodIn_app (goodIn_of _ (by decide +kernel)) ggL_law_X8_envelope
set_option maxRecDepth 20000 in
theorem ggL_law_X9_envelope : GoodIn wsL_law wsX9_envelope := goodIn_r _ [555, 402, 484, 403, 451, 452, 5, 453, 188, 189, 190, 378, 379, 380, 381, 376, 377, 382, 383, 384, 385, 119, 386, 387, 388, 389, 390, 391, 392, 393, 394, 395, 396, 397, 398, 399, 400, 401, 316, 317, 318, 781, 782, 783, 784, 785, 786, 787, 788, 789, 790, 791, 792, 793, 794, 795, 796, 797, 798, 799, 800] (by decide +kernel) (by decide +kernel)
set_option maxRecDepth 20000 in
theorem gL_law_X9_envelope : GoodIn wsL_law (wsV RL 69 RX9 yX9_envelope wsX9_envelope) := goodIn_app (goodIn_of _ (by decide +kernel)) ggL_law_X9_envelope
set_option maxRecDepth 20000 in
theorem ggL_law_X8_best : GoodIn wsL_law wsX8_best := goodIn_r _ [559, 35, 340, 342, 341, 343, 446, 279, 2, 280, 526, 527, 528, 529, 16, 207, 344, 345, 346, 34, 347, 105, 103, 104, 348, 349, 350, 47, 351, 62, 61, 60, 352, 353, 354, 355, 59, 58, 356, 357, 358, 359, 360, 361, 362, 363, 106, 107, 108, 109, 364, 365, 182, 366, 290, 291, 292, 293, 294, 772, 773, 774, 775, 776, 777, 778, 779, 780, 814, 815, 816, 817, 818, 819, 820, 801, 802, 803, 823, 824, 825, 826, 827] (by decide +kernel) (by decide +kernel)
set_option maxRecDepth 20000 in
theorem gL_law_X8_best : GoodIn wsL_law (wsV RL 70 RX8 yX8_best wsX8_best) := goodIn_app (goodIn_of _ (by decide +kernel)) ggL_law_X8_best
set_option maxRecDepth 20000 in
theorem ggL_law_X9_best : GoodIn wsL_law wsX9_best := goodIn_r _ [563, 376, 377, 451, 452, 5, 453, 188, 189, 190, 378, 379, 380, 381, 382, 383, 384, 385, 119, 386, 387, 388, 389, 390, 391, 392, 393, 394, 395, 396, 397, 398, 399, 400, 401, 402, 403, 316, 317, 318, 404, 405, 406, 407, 781, 782, 783, 784, 785, 786, 787, 788, 789, 790, 791, 792, 793, 794, 795, 796, 797, 798, 799, 800] (by decide +kernel) (by decide +kernel)
set_option maxRecDepth 20000 in
theorem gL_law_X9_best : GoodIn wsL_law (wsV RL 73 RX9 yX9_best wsX9_best) := goodIn_app (goodIn_of _ (by decide +kernel)) ggL_law_X9_best
set_option maxRecDepth 20000 in
theorem ggL_law_X8_mostGained : GoodIn wsL_law wsX8_mostGained := goodIn_r _ [567, 39, 458, 460, 568, 569, 570, 2, 571, 35, 16, 207, 40, 344, 345, 346, 34, 347, 105, 103, 104, 348, 349, 350, 47, 351, 62, 61, 60, 352, 353, 354, 355, 59, 58, 356, 357, 358, 359, 572, 477, 478, 38, 479, 113, 114, 290, 291, 292, 293, 182, 294, 360, 361, 362, 363, 106, 107, 108, 109, 364, 365, 366, 573, 574, 575, 576, 534, 535, 536, 537, 538, 577, 578, 579, 580, 772, 773, 774, 775, 776, 777, 778, 779, 780, 821, 822, 801, 802, 803, 814, 815, 816, 817, 818, 819, 820, 823, 824, 825, 826, 827] (by decide +kernel) (by decide +kernel)
set_option maxRecDepth 20000 in
theorem gL_law_X8_mostGained : GoodIn wsL_law (wsV RL 74 RX8 yX8_mostGained wsX8_mostGained) := goodIn_app (goodIn_of _ (by decide +kernel)) ggL_law_X8_mostGained
set_option maxRecDepth 20000 in
theorem ggL_law_X9_mostGained : GoodIn wsL_law wsX9_mostGained := goodIn_r _ [584, 402, 403, 188, 189, 5, 190, 378, 379, 380, 381, 376, 377, 382, 383, 384, 385, 119, 386, 387, 388, 389, 390, 391, 392, 393, 394, 395, 396, 397, 398, 399, 400, 401, 316, 317, 318, 781, 782, 783, 784, 785, 786, 787, 788, 789, 790, 791, 792, 793, 794, 795, 796, 797, 798, 799, 800] (by decide +kernel) (by decide +kernel)
set_option maxRecDepth 20000 in
theorem gL_law_X9_mostGained : GoodIn wsL_law (wsV RL 77 RX9 yX9_mostGained wsX9_mostGained) := goodIn_app (goodIn_of _ (by decide +kernel)) ggL_law_X9_mostGained
set_option maxRecDepth 20000 in
theorem ggL_law_X8_put : GoodIn wsL_law wsX8_put := goodIn_r _ [588, 27, 589, 590, 591, 26, 592, 593, 92, 90, 772, 773, 774, 775, 776, 777, 778, 779, 780, 807, 808, 809, 810, 811, 812] (by decide +kernel) (by decide +kernel)
set_option maxRecDepth 20000 in
theorem gL_law_X8_put : GoodIn wsL_law (wsV RL 80 RX8 yX8_put wsX8_put) := goodIn_app (goodIn_of _ (by decide +kernel)) ggL_law_X8_put
set_option maxRecDepth 20000 in
theorem ggL_law_X9_put : GoodIn wsL_law wsX9_put := goodIn_r _ [597, 598, 543, 123, 188, 189, 5, 190, 781, 782, 783, 784, 785, 786, 787, 788, 789, 790, 791, 792, 793, 794, 795, 796, 797, 798, 799, 800] (by decide +kernel) (by decide +kernel)
set_option maxRecDepth 20000 in
theorem gL_law_X9_put : GoodIn wsL_law (wsV RL 84 RX9 yX9_put wsX9_put) := goodIn_app (goodIn_of _ (by decide +kernel)) ggL_law_X9_put
set_option maxRecDepth 20000 in
theorem ggL_law_X8_wipe : GoodIn wsL_law wsX8_wipe := goodIn_r _ [602, 27, 519, 772, 773, 774, 775, 776, 777, 778, 779, 780, 807, 808, 809, 810, 811, 812] (by decide +kernel) (by decide +kernel)
set_option maxRecDepth 20000 in
theorem gL_law_X8_wipe : GoodIn wsL_law (wsV RL 85 RX8 yX8_wipe wsX8_wipe) := goodIn_app (goodIn_of _ (by decide +kernel)) ggL_law_X8_wipe
set_option maxRecDepth 20000 in
theorem ggL_law_X9_wipe : GoodIn wsL_law wsX9_wipe := goodIn_r _ [606, 543, 781, 782, 783, 784, 785, 786, 787, 788, 789, 790, 791, 792, 793, 794, 795, 796, 797, 798, 799, 800] (by decide +kernel) (by decide +kernel)
set_option maxRecDepth 20000 in
theorem gL_law_X9_wipe : GoodIn wsL_law (wsV RL 88 RX9 yX9_wipe wsX9_wipe) := goodIn_app (goodIn_of _ (by decide +kernel)) ggL_law_X9_wipe
set_option maxRecDepth 20000 in
theorem ggL_law_X8_fault : GoodIn wsL_law wsX8_fault := goodIn_r _ [610, 27, 611, 612, 613, 26, 614, 93, 92, 615, 616, 617, 618, 95, 94, 619, 620, 621, 622, 623, 624, 625, 626, 90, 627, 628, 629, 630, 91, 631, 632, 633, 634, 635, 636, 637, 638, 639, 640, 641, 642, 643, 644, 645, 646, 647, 648, 649, 772, 773, 774, 775, 776, 777, 778, 779, 780, 807, 808, 809, 810, 811, 812] (by decide +kernel) (by decide +kernel)
set_option maxRecDepth 20000 in
theorem gL_law_X8_fault : GoodIn wsL_law (wsV RL 89 RX8 yX8_fault wsX8_fault) := goodIn_app (goodIn_of _ (by decide +kernel)) ggL_law_X8_fault
set_option maxRecDepth 20000 in
theorem ggL_law_X9_fault : GoodIn wsL_law wsX9_fault := goodIn_r _ [653, 654, 655, 656, 5, 657, 658, 543, 659, 660, 661, 662, 663, 664, 665, 666, 667, 668, 123, 669, 670, 671, 672, 673, 674, 675, 676, 677, 678, 679, 680, 681, 682, 683, 188, 189, 190, 684, 685, 686, 687, 688, 689, 690, 691, 134, 451, 452, 453, 135, 136, 137, 138, 125, 124, 781, 782, 783, 784, 785, 786, 787, 788, 789, 790, 791, 792, 793, 794, 795, 796, 797, 798, 799, 800] (by decide +kernel) (by decide +kernel)
set_option maxRecDepth 20000 in
theorem gL_law_X9_fault : GoodIn wsL_law (wsV RL 92 RX9 yX9_fault wsX9_fault) := goodIn_app (goodIn_of _ (by decide +kernel)) ggL_law_X9_fault
set_option maxRecDepth 20000 in
theorem ggL_law_X8_carryOut : GoodIn wsL_law wsX8_carryOut := goodIn_r _ [695, 27, 20, 16, 519, 611, 612, 613, 26, 614, 93, 92, 615, 616, 617, 618, 95, 94, 619, 620, 621, 622, 623, 624, 625, 626, 90, 627, 628, 629, 630, 91, 631, 632, 633, 634, 635, 636, 637, 638, 639, 640, 641, 642, 643, 644, 645, 646, 647, 648, 649, 147, 148, 149, 19, 150, 82, 83, 151, 152, 153, 15, 154, 48, 52, 53, 155, 156, 157, 47, 158, 58, 159, 160, 161, 162, 59, 60, 61, 62, 163, 164, 165, 51, 166, 66, 167, 67, 68, 696, 697, 698, 2, 699, 700, 701, 702, 703, 704, 705, 706, 207, 707, 708, 709, 710, 208, 209, 210, 211, 228, 229, 230, 231, 232, 233, 234, 235, 168, 169, 170, 171, 69, 70, 71, 72, 73, 74, 75, 76, 711, 712, 713, 714, 31, 715, 339, 367, 272, 273, 30, 274, 99, 446, 279, 280, 281, 276, 277, 278, 286, 287, 288, 289, 290, 291, 292, 293, 182, 294, 295, 296, 297, 298, 716, 717, 718, 719, 282, 283, 284, 285, 256, 258, 299, 300, 301, 302, 268, 303, 335, 336, 337, 338, 35, 340, 341, 342, 343, 344, 345, 346, 34, 347, 105, 103, 104, 348, 349, 350, 351, 352, 353, 354, 355, 356, 357, 358, 359, 360, 361, 362, 363, 106, 107, 108, 109, 364, 365, 366, 172, 173, 174, 175, 176, 177, 178, 179, 84, 180, 181, 183, 772, 773, 774, 775, 776, 777, 778, 779, 780, 807, 808, 809, 810, 811, 812, 804, 805, 806, 801, 802, 803, 823, 824, 825, 826, 827, 828, 829, 830, 813, 814, 815, 816, 817, 818, 819, 820] (by decide +kernel) (by decide +kernel)
set_option maxRecDepth 20000 in
theorem gL_law_X8_carryOut : GoodIn wsL_law (wsV RL 93 RX8 yX8_carryOut wsX8_carryOut) := goodIn_app (goodIn_of _ (by decide +kernel)) ggL_law_X8_carryOut
set_option maxRecDepth 20000 in
theorem ggL_law_X9_carryOut : GoodIn wsL_law wsX9_carryOut := goodIn_r _ [723, 658, 543, 654, 655, 656, 5, 657, 659, 660, 661, 662, 663, 664, 665, 666, 667, 668, 123, 669, 670, 671, 672, 673, 674, 675, 676, 677, 678, 679, 680, 681, 682, 683, 188, 189, 190, 684, 685, 686, 687, 688, 689, 690, 691, 134, 451, 452, 453, 135, 136, 137, 138, 125, 124, 191, 192, 193, 194, 195, 120, 119, 196, 197, 198, 724, 725, 726, 727, 216, 217, 218, 219, 240, 241, 242, 243, 728, 729, 730, 731, 312, 313, 314, 315, 316, 317, 318, 732, 733, 734, 735, 736, 737, 738, 739, 220, 221, 222, 223, 244, 245, 246, 247, 199, 200, 201, 202, 126, 127, 128, 129, 130, 131, 132, 133, 139, 140, 141, 142, 372, 373, 374, 375, 376, 377, 378, 379, 380, 381, 382, 383, 384, 385, 386, 387, 388, 389, 390, 391, 392, 393, 394, 395, 396, 397, 398, 399, 400, 401, 402, 403, 404, 405, 406, 407, 781, 782, 783, 784, 785, 786, 787, 788, 789, 790, 791, 792, 793, 794, 795, 796, 797, 798, 799, 800] (by decide +kernel) (by decide +kernel)
set_option maxRecDepth 20000 in
theorem gL_law_X9_carryOut : GoodIn wsL_law (wsV RL 96 RX9 yX9_carryOut wsX9_carryOut) := goodIn_app (goodIn_of _ (by decide +kernel)) ggL_law_X9_carryOut
set_option maxRecDepth 20000 in
theorem ggL_law_X8_undo : GoodIn wsL_law wsX8_undo := goodIn_r _ [743, 20, 520, 16, 744, 745, 746, 19, 747, 84, 83, 82, 151, 152, 153, 15, 154, 48, 52, 53, 155, 156, 157, 47, 158, 58, 159, 160, 161, 162, 59, 60, 61, 62, 163, 164, 165, 51, 166, 66, 167, 67, 68, 772, 773, 774, 775, 776, 777, 778, 779, 780, 804, 805, 806, 801, 802, 803, 823, 824, 825, 826, 827, 828, 829, 830] (by decide +kernel) (by decide +kernel)
set_option maxRecDepth 20000 in
theorem gL_law_X8_undo : GoodIn wsL_law (wsV RL 97 RX8 yX8_undo wsX8_undo) := goodIn_app (goodIn_of _ (by decide +kernel)) ggL_law_X8_undo
set_option maxRecDepth 20000 in
theorem ggL_law_X9_undo : GoodIn wsL_law wsX9_undo := goodIn_r _ [751, 195, 120, 119, 196, 197, 5, 198, 781, 782, 783, 784, 785, 786, 787, 788, 789, 790, 791, 792, 793, 794, 795, 796, 797, 798, 799, 800] (by decide +kernel) (by decide +kernel)
set_option maxRecDepth 20000 in
theorem gL_law_X9_undo : GoodIn wsL_law (wsV RL 100 RX9 yX9_undo wsX9_undo) := goodIn_app (goodIn_of _ (by decide +kernel)) ggL_law_X9_undo
set_option maxRecDepth 20000 in
theorem ggL_law_X8_save : GoodIn wsL_law wsX8_save := goodIn_r _ [755, 21, 16, 23, 339, 756, 757, 2, 758, 759, 152, 153, 15, 154, 48, 52, 53, 155, 156, 157, 47, 158, 58, 159, 160, 161, 162, 59, 60, 61, 62, 163, 164, 165, 51, 166, 66, 167, 67, 68, 772, 773, 774, 775, 776, 777, 778, 779, 780, 801, 802, 803, 823, 824, 825, 826, 827, 828, 829, 830] (by decide +kernel) (by decide +kernel)
set_option maxRecDepth 20000 in
theorem gL_law_X8_save : GoodIn wsL_law (wsV RL 101 RX8 yX8_save wsX8_save) := goodIn_app (goodIn_of _ (by decide +kernel)) ggL_law_X8_save
set_option maxRecDepth 20000 in
theorem ggL_law_X9_save : GoodIn wsL_law wsX9_save := goodIn_r _ [763, 119, 121, 122, 188, 189, 5, 190, 196, 197, 198, 781, 782, 783, 784, 785, 786, 787, 788, 789, 790, 791, 792, 793, 794, 795, 796, 797, 798, 799, 800] (by decide +kernel) (by decide +kernel)
set_option maxRecDepth 20000 in
theorem gL_law_X9_save : GoodIn wsL_law (wsV RL 104 RX9 yX9_save wsX9_save) := goodIn_app (goodIn_of _ (by decide +kernel)) ggL_law_X9_save
set_option maxRecDepth 20000 in
theorem ggL_law_X8_restore : GoodIn wsL_law wsX8_restore := goodIn_r _ [767, 23, 20, 16, 21, 339, 756, 757, 2, 758, 147, 148, 149, 19, 150, 82, 83, 151, 152, 153, 15, 154, 48, 52, 53, 155, 156, 157, 47, 158, 58, 159, 160, 161, 162, 59, 60, 61, 62, 163, 164, 165, 51, 166, 66, 167, 67, 68, 759, 172, 173, 174, 175, 176, 177, 178, 179, 84, 180, 181, 182, 183, 772, 773, 774, 775, 776, 777, 778, 779, 780, 801, 802, 803, 804, 805, 806, 823, 824, 825, 826, 827, 828, 829, 830] (by decide +kernel) (by decide +kernel)
set_option maxRecDepth 20000 in
theorem gL_law_X8_restore : GoodIn wsL_law (wsV RL 105 RX8 yX8_restore wsX8_restore) := goodIn_app (goodIn_of _ (by decide +kernel)) ggL_law_X8_restore
set_option maxRecDepth 20000 in
theorem ggL_law_X9_restore : GoodIn wsL_law wsX9_restore := goodIn_r _ [771, 122, 121, 119, 188, 189, 5, 190, 191, 192, 193, 194, 195, 120, 196, 197, 198, 781, 782, 783, 784, 785, 786, 787, 788, 789, 790, 791, 792, 793, 794, 795, 796, 797, 798, 799, 800] (by decide +kernel) (by decide +kernel)
set_option maxRecDepth 20000 in
theorem gL_law_X9_restore : GoodIn wsL_law (wsV RL 108 RX9 yX9_restore wsX9_restore) := goodIn_app (goodIn_of _ (by decide +kernel)) ggL_law_X9_restore
