set_option maxRecDepth 20000 in
theorem ggL_law_X8_covered : GoodIn wsL_law wsX8_covered := goodIn_r _ [372, 104, 373, 374, 375, 5, 376, 194, 105, 106, 107, 377, 378, 379, 380, 71, 64, 72, 61, 73, 70, 65, 74, 75, 381, 382, 383, 384, 68, 755, 756, 757, 758, 759, 760, 761, 762, 763, 764, 765, 766, 767, 768, 769, 770, 771, 772, 773, 774, 775, 776, 777, 778, 779, 780, 781, 782, 783, 784, 785, 786, 787, 788] (by decide +kernel) (by decide +kernel)
set_option maxRecDepth 20000 in
theorem gL_law_X8_covered : GoodIn wsL_law (wsV RL 145 RX8 yX8_covered wsX8_covered) := goodIn_app (goodIn_of _ (by decide +kernel)) ggL_law_X8_covered
set_option maxRecDepth 20000 in
theorem ggL_law_L_due : GoodIn wsL_law wsL_due := goodIn_ca (goodIn_r _ [387, 87, 388, 389, 390, 2, 391, 346, 347, 348, 349, 98, 99, 206, 23, 392, 393, 394, 395, 17, 396, 397, 398, 399, 400, 401, 402, 239, 269, 403, 30, 404, 405, 406, 407, 408, 409, 410, 411, 412, 413, 414, 415, 416, 417, 32, 418, 137, 43, 46, 44, 419, 420, 421, 422, 423, 424, 425, 744, 745, 746, 747, 748, 749, 750, 751, 752, 753, 754, 807, 808, 809, 810, 811, 812, 813, 814, 803, 804, 805, 806, 792, 793, 794, 795, 796] (by decide +kernel) (by decide +kernel)) (goodIn_sub (fun _ h => List.mem_append_left _ (List.mem_append_right _ h)) (by decide +kernel))
set_option maxRecDepth 20000 in
theorem gL_law_L_due : GoodIn wsL_law (va_wsS RL 146 yL_due wsL_due) := goodIn_app (goodIn_of _ (by decide +kernel)) ggL_law_L_due
set_option maxRecDepth 20000 in
theorem ggL_law_X8_due : GoodIn wsL_law wsX8_due := goodIn_r _ [429, 104, 373, 374, 375, 5, 376, 194, 105, 106, 107, 430, 431, 432, 433, 64, 61, 56, 65, 62, 63, 434, 435, 436, 437, 55, 438, 439, 440, 441, 442, 443, 444, 445, 446, 447, 448, 449, 450, 57, 59, 60, 58, 451, 452, 453, 755, 756, 757, 758, 759, 760, 761, 762, 763, 764, 765, 766, 767, 768, 769, 770, 771, 772, 773, 774, 775, 776, 777, 778, 779, 780, 781, 782, 783, 784, 785, 786, 787, 788] (by decide +kernel) (by decide +kernel)
set_option maxRecDepth 20000 in
theorem gL_law_X8_due : GoodIn wsL_law (wsV RL 148 RX8 yX8_due wsX8_due) := goodIn_app (goodIn_of _ (by decide +kernel)) ggL_law_X8_due
set_option maxRecDepth 20000 in
theorem ggL_law_L_record : GoodIn wsL_law wsL_record := goodIn_ca (goodIn_ca (goodIn_r _ [456, 87, 88, 457, 458, 459, 2, 460, 93, 94, 396, 461, 403, 462, 463, 346, 347, 348, 349, 98, 99, 206, 23, 464, 465, 466, 283, 467, 294, 295, 296, 807, 808, 809, 810, 811, 812, 813, 814, 803, 804, 805, 806, 744, 745, 746, 747, 748, 749, 750, 751, 752, 753, 754] (by decide +kernel) (by decide +kernel)) (goodIn_sub (fun _ h => List.mem_append_left _ (List.mem_append_left _ (List.mem_append_right _ h))) (by decide +kernel))) (goodIn_sub (fun _ h => List.mem_append_left _ (List.mem_append_right _ h)) (by decide +kernel))
set_option maxRecDepth 20000 in
theorem gL_law_L_record : GoodIn wsL_law (va_wsS RL 149 yL_record wsL_record) := goodIn_app (goodIn_of _ (by decide +kernel)) ggL_law_L_record
set_option maxRecDepth 20000 in
theorem ggL_law_X8_record : GoodIn wsL_law wsX8_record := goodIn_r _ [471, 104, 64, 65, 66, 69, 373, 374, 375, 5, 376, 194, 105, 106, 107, 472, 473, 474, 475, 381, 382, 383, 384, 68, 755, 756, 757, 758, 759, 760, 761, 762, 763, 764, 765, 766, 767, 768, 769, 770, 771, 772, 773, 774, 775, 776, 777, 778, 779, 780, 781, 782, 783, 784, 785, 786, 787, 788] (by decide +kernel) (by decide +kernel)
set_option maxRecDepth 20000 in
theorem gL_law_X8_record : GoodIn wsL_law (wsV RL 152 RX8 yX8_record wsX8_record) := goodIn_app (goodIn_of _ (by decide +kernel)) ggL_law_X8_record
set_option maxRecDepth 20000 in
theorem ggL_law_L_read : GoodIn wsL_law wsL_read := goodIn_ca (goodIn_ca (goodIn_r _ [478, 87, 115, 479, 480, 481, 2, 482, 120, 121, 463, 483, 346, 347, 348, 349, 98, 99, 206, 23, 807, 808, 809, 810, 811, 812, 813, 814, 744, 745, 746, 747, 748, 749, 750, 751, 752, 753, 754] (by decide +kernel) (by decide +kernel)) (goodIn_sub (fun _ h => List.mem_append_right _ h) (by decide +kernel))) (goodIn_sub (fun _ h => List.mem_append_left _ (List.mem_append_right _ h)) (by decide +kernel))
set_option maxRecDepth 20000 in
theorem gL_law_L_read : GoodIn wsL_law (va_wsS RL 153 yL_read wsL_read) := goodIn_app (goodIn_of _ (by decide +kernel)) ggL_law_L_read
set_option maxRecDepth 20000 in
theorem ggL_law_X8_read : GoodIn wsL_law wsX8_read := goodIn_r _ [487, 69, 104, 67, 373, 374, 375, 5, 376, 194, 105, 106, 107, 755, 756, 757, 758, 759, 760, 761, 762, 763, 764, 765, 766, 767, 768, 769, 770, 771, 772, 773, 774, 775, 776, 777, 778, 779, 780, 781, 782, 783, 784, 785, 786, 787, 788] (by decide +kernel) (by decide +kernel)
set_option maxRecDepth 20000 in
theorem gL_law_X8_read : GoodIn wsL_law (wsV RL 155 RX8 yX8_read wsX8_read) := goodIn_app (goodIn_of _ (by decide +kernel)) ggL_law_X8_read
set_option maxRecDepth 20000 in
theorem ggL_law_L_find : GoodIn wsL_law wsL_find := goodIn_ca (goodIn_r _ [490, 88, 491, 492, 493, 2, 494, 93, 94, 206, 23, 463, 495, 362, 363, 283, 364, 294, 295, 296, 496, 366, 367, 368, 297, 744, 745, 746, 747, 748, 749, 750, 751, 752, 753, 754, 807, 808, 809, 810, 811, 812, 813, 814] (by decide +kernel) (by decide +kernel)) (goodIn_sub (fun _ h => List.mem_append_left _ (List.mem_append_left _ (List.mem_append_right _ h))) (by decide +kernel))
set_option maxRecDepth 20000 in
theorem gL_law_L_find : GoodIn wsL_law (va_wsS RL 156 yL_find wsL_find) := goodIn_app (goodIn_of _ (by decide +kernel)) ggL_law_L_find
set_option maxRecDepth 20000 in
theorem ggL_law_X8_find : GoodIn wsL_law wsX8_find := goodIn_r _ [500, 104, 194, 69, 65, 105, 106, 5, 107, 381, 382, 383, 384, 68, 755, 756, 757, 758, 759, 760, 761, 762, 763, 764, 765, 766, 767, 768, 769, 770, 771, 772, 773, 774, 775, 776, 777, 778, 779, 780, 781, 782, 783, 784, 785, 786, 787, 788] (by decide +kernel) (by decide +kernel)
set_option maxRecDepth 20000 in
theorem gL_law_X8_find : GoodIn wsL_law (wsV RL 159 RX8 yX8_find wsX8_find) := goodIn_app (goodIn_of _ (by decide +kernel)) ggL_law_X8_find
set_option maxRecDepth 20000 in
theorem ggL_law_L_draw : GoodIn wsL_law wsL_draw := goodIn_ca (goodIn_ca (goodIn_ca (goodIn_r _ [503, 87, 88, 115, 504, 505, 506, 2, 507, 120, 121, 508, 25, 24, 509, 510, 240, 29, 95, 96, 97, 98, 99, 245, 246, 247, 248, 93, 94, 129, 130, 131, 132, 511, 512, 513, 514, 15, 139, 140, 141, 142, 143, 515, 516, 517, 518, 206, 23, 463, 350, 351, 352, 353, 21, 354, 355, 356, 34, 357, 318, 319, 358, 359, 320, 360, 321, 322, 323, 361, 362, 363, 283, 364, 294, 295, 296, 365, 366, 367, 368, 297, 392, 393, 394, 395, 17, 396, 397, 398, 399, 400, 401, 402, 239, 269, 403, 30, 404, 405, 406, 407, 408, 409, 410, 411, 412, 413, 414, 415, 416, 417, 32, 418, 137, 43, 46, 44, 419, 420, 421, 422, 423, 424, 425, 519, 520, 521, 522, 12, 13, 523, 524, 525, 526, 527, 528, 529, 530, 531, 532, 533, 534, 535, 536, 148, 149, 150, 28, 151, 152, 39, 153, 154, 155, 156, 38, 157, 158, 159, 160, 161, 162, 163, 164, 165, 166, 167, 168, 744, 745, 746, 747, 748, 749, 750, 751, 752, 753, 754, 815, 816, 817, 818, 789, 790, 791, 807, 808, 809, 810, 811, 812, 813, 814, 797, 798, 799, 800, 801, 802, 803, 804, 805, 806, 792, 793, 794, 795, 796] (by decide +kernel) (by decide +kernel)) (goodIn_sub (fun _ h => List.mem_append_right _ h) (by decide +kernel))) (goodIn_sub (fun _ h => List.mem_append_left _ (List.mem_append_right _ h)) (by decide +kernel))) (goodIn_sub (fun _ h => List.mem_append_left _ (List.mem_append_left _ (List.mem_append_right _ h))) (by decide +kernel))
set_option maxRecDepth 20000 in
theorem gL_law_L_draw : GoodIn wsL_law (va_wsS RL 160 yL_draw wsL_draw) := goodIn_app (goodIn_of _ (by decide +kernel)) ggL_law_L_draw
set_option maxRecDepth 20000 in
theorem ggL_law_X8_draw : GoodIn wsL_law wsX8_draw := goodIn_r _ [540, 194, 541, 104, 78, 76, 77, 253, 542, 543, 544, 5, 545, 69, 430, 431, 432, 433, 64, 61, 56, 65, 62, 63, 434, 435, 436, 437, 55, 438, 439, 440, 441, 442, 443, 444, 445, 446, 447, 448, 449, 450, 57, 59, 60, 58, 451, 452, 453, 377, 378, 379, 380, 71, 72, 73, 70, 74, 75, 381, 382, 383, 384, 68, 105, 106, 107, 546, 547, 548, 549, 258, 259, 260, 261, 177, 550, 551, 552, 553, 54, 181, 182, 183, 184, 185, 186, 187, 188, 189, 81, 82, 190, 191, 192, 193, 67, 195, 196, 197, 198, 755, 756, 757, 758, 759, 760, 761, 762, 763, 764, 765, 766, 767, 768, 769, 770, 771, 772, 773, 774, 775, 776, 777, 778, 779, 780, 781, 782, 783, 784, 785, 786, 787, 788] (by decide +kernel) (by decide +kernel)
set_option maxRecDepth 20000 in
theorem gL_law_X8_draw : GoodIn wsL_law (wsV RL 162 RX8 yX8_draw wsX8_draw) := goodIn_app (goodIn_of _ (by decide +kernel)) ggL_law_X8_draw
