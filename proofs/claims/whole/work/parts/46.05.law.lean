set_option maxRecDepth 20000 in
theorem ggL_law_X7_init : GoodIn wsL_law wsX7_init := goodIn_r _ [10, 11, 12, 13, 14, 15, 16, 17, 18, 19, 20, 21, 22, 23, 24, 25, 26, 27, 28, 29, 30, 31, 32, 33, 34, 35, 36, 37, 38, 6, 39, 40, 41, 42, 43, 44, 45, 46, 47, 48, 49, 744, 745, 746, 747, 748, 749, 750, 751, 752, 753, 754, 789, 790, 791, 792, 793, 794, 795, 796, 797, 798, 799, 800, 801, 802] (by decide +kernel) (by decide +kernel)
set_option maxRecDepth 20000 in
theorem gL_law_X7_init : GoodIn wsL_law (wsX7_init) := ggL_law_X7_init
set_option maxRecDepth 20000 in
theorem ggL_law_X8_init : GoodIn wsL_law wsX8_init := goodIn_r _ [52, 53, 12, 13, 14, 54, 55, 56, 57, 58, 59, 45, 60, 61, 62, 63, 64, 65, 66, 6, 67, 68, 69, 70, 71, 72, 73, 74, 75, 76, 77, 78, 79, 80, 81, 82, 755, 756, 757, 758, 759, 760, 761, 762, 763, 764, 765, 766, 767, 768, 769, 770, 771, 772, 773, 774, 775, 776, 777, 778, 779, 780, 781, 782, 783, 784, 785, 786, 787, 788] (by decide +kernel) (by decide +kernel)
set_option maxRecDepth 20000 in
theorem gL_law_X8_init : GoodIn wsL_law (wsX8_init) := ggL_law_X8_init
set_option maxRecDepth 20000 in
theorem ggL_law_L_officer : GoodIn wsL_law wsL_officer := goodIn_ca (goodIn_ca (goodIn_r _ [86, 87, 88, 89, 90, 91, 2, 92, 93, 94, 15, 95, 96, 97, 98, 99, 744, 745, 746, 747, 748, 749, 750, 751, 752, 753, 754] (by decide +kernel) (by decide +kernel)) (goodIn_sub (fun _ h => List.mem_append_left _ (List.mem_append_left _ (List.mem_append_right _ h))) (by decide +kernel))) (goodIn_sub (fun _ h => List.mem_append_left _ (List.mem_append_right _ h)) (by decide +kernel))
set_option maxRecDepth 20000 in
theorem gL_law_L_officer : GoodIn wsL_law (va_wsS RL 102 yL_officer wsL_officer) := goodIn_app (goodIn_of _ (by decide +kernel)) ggL_law_L_officer
set_option maxRecDepth 20000 in
theorem ggL_law_X8_officer : GoodIn wsL_law wsX8_officer := goodIn_r _ [103, 104, 54, 105, 106, 5, 107, 755, 756, 757, 758, 759, 760, 761, 762, 763, 764, 765, 766, 767, 768, 769, 770, 771, 772, 773, 774, 775, 776, 777, 778, 779, 780, 781, 782, 783, 784, 785, 786, 787, 788] (by decide +kernel) (by decide +kernel)
set_option maxRecDepth 20000 in
theorem gL_law_X8_officer : GoodIn wsL_law (wsV RL 107 RX8 yX8_officer wsX8_officer) := goodIn_app (goodIn_of _ (by decide +kernel)) ggL_law_X8_officer
set_option maxRecDepth 20000 in
theorem ggL_law_X8_thrown : GoodIn wsL_law wsX8_thrown := goodIn_r _ [111, 104, 755, 756, 757, 758, 759, 760, 761, 762, 763, 764, 765, 766, 767, 768, 769, 770, 771, 772, 773, 774, 775, 776, 777, 778, 779, 780, 781, 782, 783, 784, 785, 786, 787, 788] (by decide +kernel) (by decide +kernel)
set_option maxRecDepth 20000 in
theorem gL_law_X8_thrown : GoodIn wsL_law (wsV RL 108 RX8 yX8_thrown wsX8_thrown) := goodIn_app (goodIn_of _ (by decide +kernel)) ggL_law_X8_thrown
set_option maxRecDepth 20000 in
theorem ggL_law_L_version : GoodIn wsL_law wsL_version := goodIn_ca (goodIn_ca (goodIn_ca (goodIn_r _ [114, 87, 88, 115, 116, 117, 118, 2, 119, 93, 94, 120, 121, 17, 122, 29, 123, 124, 125, 98, 99, 126, 127, 128, 129, 130, 131, 132, 133, 134, 135, 32, 136, 137, 138, 43, 139, 140, 141, 142, 143, 144, 145, 146, 147, 44, 46, 148, 149, 150, 28, 151, 152, 39, 153, 154, 155, 156, 38, 157, 158, 159, 160, 161, 162, 163, 164, 165, 166, 167, 168, 744, 745, 746, 747, 748, 749, 750, 751, 752, 753, 754, 792, 793, 794, 795, 796, 789, 790, 791] (by decide +kernel) (by decide +kernel)) (goodIn_sub (fun _ h => List.mem_append_left _ (List.mem_append_left _ (List.mem_append_right _ h))) (by decide +kernel))) (goodIn_sub (fun _ h => List.mem_append_right _ h) (by decide +kernel))) (goodIn_sub (fun _ h => List.mem_append_left _ (List.mem_append_right _ h)) (by decide +kernel))
set_option maxRecDepth 20000 in
theorem gL_law_L_version : GoodIn wsL_law (va_wsS RL 112 yL_version wsL_version) := goodIn_app (goodIn_of _ (by decide +kernel)) ggL_law_L_version
set_option maxRecDepth 20000 in
theorem ggL_law_X8_version : GoodIn wsL_law wsX8_version := goodIn_r _ [172, 57, 104, 56, 58, 59, 60, 105, 106, 5, 107, 173, 174, 175, 176, 177, 178, 179, 180, 181, 182, 183, 184, 185, 186, 187, 188, 189, 81, 82, 190, 191, 192, 193, 194, 67, 195, 196, 197, 198, 755, 756, 757, 758, 759, 760, 761, 762, 763, 764, 765, 766, 767, 768, 769, 770, 771, 772, 773, 774, 775, 776, 777, 778, 779, 780, 781, 782, 783, 784, 785, 786, 787, 788] (by decide +kernel) (by decide +kernel)
set_option maxRecDepth 20000 in
theorem gL_law_X8_version : GoodIn wsL_law (wsV RL 115 RX8 yX8_version wsX8_version) := goodIn_app (goodIn_of _ (by decide +kernel)) ggL_law_X8_version
set_option maxRecDepth 20000 in
theorem ggL_law_L_fiscal : GoodIn wsL_law wsL_fiscal := goodIn_ca (goodIn_ca (goodIn_r _ [201, 88, 115, 202, 203, 204, 2, 205, 93, 94, 120, 121, 206, 30, 744, 745, 746, 747, 748, 749, 750, 751, 752, 753, 754] (by decide +kernel) (by decide +kernel)) (goodIn_sub (fun _ h => List.mem_append_left _ (List.mem_append_left _ (List.mem_append_right _ h))) (by decide +kernel))) (goodIn_sub (fun _ h => List.mem_append_right _ h) (by decide +kernel))
set_option maxRecDepth 20000 in
theorem gL_law_L_fiscal : GoodIn wsL_law (va_wsS RL 116 yL_fiscal wsL_fiscal) := goodIn_app (goodIn_of _ (by decide +kernel)) ggL_law_L_fiscal
set_option maxRecDepth 20000 in
theorem ggL_law_X8_fiscal : GoodIn wsL_law wsX8_fiscal := goodIn_r _ [210, 194, 104, 55, 105, 106, 5, 107, 755, 756, 757, 758, 759, 760, 761, 762, 763, 764, 765, 766, 767, 768, 769, 770, 771, 772, 773, 774, 775, 776, 777, 778, 779, 780, 781, 782, 783, 784, 785, 786, 787, 788] (by decide +kernel) (by decide +kernel)
set_option maxRecDepth 20000 in
theorem gL_law_X8_fiscal : GoodIn wsL_law (wsV RL 119 RX8 yX8_fiscal wsX8_fiscal) := goodIn_app (goodIn_of _ (by decide +kernel)) ggL_law_X8_fiscal
set_option maxRecDepth 20000 in
theorem ggL_law_L_open : GoodIn wsL_law wsL_open := goodIn_ca (goodIn_ca (goodIn_r _ [213, 87, 115, 214, 215, 216, 2, 217, 98, 99, 120, 121, 19, 17, 122, 18, 218, 219, 29, 123, 124, 125, 139, 140, 141, 142, 143, 220, 221, 222, 223, 12, 13, 224, 225, 226, 227, 148, 149, 150, 28, 151, 152, 39, 153, 154, 155, 156, 38, 157, 158, 159, 160, 161, 162, 163, 164, 165, 166, 167, 168, 744, 745, 746, 747, 748, 749, 750, 751, 752, 753, 754, 792, 793, 794, 795, 796, 803, 804, 805, 806, 789, 790, 791] (by decide +kernel) (by decide +kernel)) (goodIn_sub (fun _ h => List.mem_append_left _ (List.mem_append_right _ h)) (by decide +kernel))) (goodIn_sub (fun _ h => List.mem_append_right _ h) (by decide +kernel))
set_option maxRecDepth 20000 in
theorem gL_law_L_open : GoodIn wsL_law (va_wsS RL 120 yL_open wsL_open) := goodIn_app (goodIn_of _ (by decide +kernel)) ggL_law_L_open
set_option maxRecDepth 20000 in
theorem ggL_law_X8_open : GoodIn wsL_law wsX8_open := goodIn_r _ [231, 61, 57, 104, 105, 106, 5, 107, 181, 182, 183, 184, 185, 186, 187, 188, 189, 81, 82, 190, 191, 192, 193, 194, 67, 195, 196, 197, 198, 755, 756, 757, 758, 759, 760, 761, 762, 763, 764, 765, 766, 767, 768, 769, 770, 771, 772, 773, 774, 775, 776, 777, 778, 779, 780, 781, 782, 783, 784, 785, 786, 787, 788] (by decide +kernel) (by decide +kernel)
set_option maxRecDepth 20000 in
theorem gL_law_X8_open : GoodIn wsL_law (wsV RL 122 RX8 yX8_open wsX8_open) := goodIn_app (goodIn_of _ (by decide +kernel)) ggL_law_X8_open
