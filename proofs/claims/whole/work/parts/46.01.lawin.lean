theorem mem_r {big : List Cond} (ws : List Cond) (ps : List Nat) (hp : ws = ps.filterMap (fun i => big[i]?)) : ∀ w ∈ ws, w ∈ big := by
  intro w hw
  rw [hp] at hw
  obtain ⟨i, -, hi⟩ := List.mem_filterMap.mp hw
  exact List.mem_of_getElem? hi
set_option maxRecDepth 20000 in
theorem lwi_r1 : ∀ w ∈ wsL_law0_r1, w ∈ lw_tbl := mem_r _ [53, 54, 35, 763, 764, 39, 90, 1079, 55, 56, 57, 58, 59, 60, 89, 140, 61, 141, 63, 142, 65, 143, 67, 144] (by decide +kernel)
set_option maxRecDepth 20000 in
theorem lwi_r2 : ∀ w ∈ wsL_law0_r2, w ∈ lw_tbl := mem_r _ [69, 145, 71, 72, 36, 146, 150, 91, 37, 115, 38, 74, 75, 76, 77, 78, 93, 94, 95, 96, 97, 114, 98, 117] (by decide +kernel)
set_option maxRecDepth 20000 in
theorem lwi_r3 : ∀ w ∈ wsL_law0_r3, w ∈ lw_tbl := mem_r _ [118, 119, 765, 766, 767, 768, 770, 771, 773, 774, 775, 776, 777, 778, 779, 780, 782, 783, 784, 785, 786, 787, 788, 789] (by decide +kernel)
set_option maxRecDepth 20000 in
theorem lwi_r4 : ∀ w ∈ wsL_law0_r4, w ∈ lw_tbl := mem_r _ [790, 791, 792, 793, 795, 796, 797, 798, 799, 801, 802, 195, 196, 34, 197, 198, 199, 200, 201, 202, 203, 275, 44, 204] (by decide +kernel)
set_option maxRecDepth 20000 in
theorem lwi_r5 : ∀ w ∈ wsL_law0_r5, w ∈ lw_tbl := mem_r _ [205, 206, 207, 43, 899, 900, 901, 902, 769, 881, 882, 883, 872, 873, 874, 875, 291, 292, 293, 294, 295, 296, 297, 298] (by decide +kernel)
set_option maxRecDepth 20000 in
theorem lwi_r6 : ∀ w ∈ wsL_law0_r6, w ∈ lw_tbl := mem_r _ [321, 45, 102, 299, 300, 301, 303, 304, 305, 307, 308, 309, 310, 312, 313, 314, 315, 101, 99, 317, 319, 2, 320, 81] (by decide +kernel)
set_option maxRecDepth 20000 in
theorem lwi_r7 : ∀ w ∈ wsL_law0_r7, w ∈ lw_tbl := mem_r _ [338, 339, 340, 341, 342, 343, 344, 345, 80, 346, 347, 348, 349, 350, 187, 188, 189, 190, 179, 180, 181, 191, 192, 193] (by decide +kernel)
set_option maxRecDepth 20000 in
theorem lwi_r8 : ∀ w ∈ wsL_law0_r8, w ∈ lw_tbl := mem_r _ [194, 903, 904, 905, 906, 907, 909, 15, 910, 880, 884, 885, 886, 911, 913, 16, 914, 800, 915, 917, 17, 918, 919, 921] (by decide +kernel)
set_option maxRecDepth 20000 in
theorem lwi_r9 : ∀ w ∈ wsL_law0_r9, w ∈ lw_tbl := mem_r _ [18, 922, 781, 923, 924, 925, 926, 351, 352, 353, 354, 355, 356, 357, 147, 927, 928, 929, 930, 360, 361, 362, 363, 364] (by decide +kernel)
set_option maxRecDepth 20000 in
theorem lwi_r10 : ∀ w ∈ wsL_law0_r10, w ∈ lw_tbl := mem_r _ [365, 366, 369, 46, 370, 371, 372, 373, 380, 382, 374, 377, 931, 932, 933, 934, 393, 394, 395, 396, 397, 398, 399, 381] (by decide +kernel)
set_option maxRecDepth 20000 in
theorem lwi_r11 : ∀ w ∈ wsL_law0_r11, w ∈ lw_tbl := mem_r _ [149, 400, 402, 3, 403, 404, 406, 4, 407, 935, 936, 937, 938, 772, 939, 941, 19, 942, 943, 945, 20, 946, 410, 411] (by decide +kernel)
set_option maxRecDepth 20000 in
theorem lwi_r12 : ∀ w ∈ wsL_law0_r12, w ∈ lw_tbl := mem_r _ [412, 413, 414, 415, 416, 383, 947, 948, 949, 950, 418, 419, 420, 421, 422, 423, 424, 429, 432, 47, 425, 426, 427, 433] (by decide +kernel)
set_option maxRecDepth 20000 in
theorem lwi_r13 : ∀ w ∈ wsL_law0_r13, w ∈ lw_tbl := mem_r _ [434, 435, 436, 437, 440, 442, 444, 445, 446, 447, 951, 952, 953, 954, 955, 467, 468, 469, 470, 471, 472, 473, 121, 474] (by decide +kernel)
set_option maxRecDepth 20000 in
theorem lwi_r14 : ∀ w ∈ wsL_law0_r14, w ∈ lw_tbl := mem_r _ [475, 476, 480, 481, 482, 483, 120, 122, 123, 124, 125, 126, 1004, 1005, 1006, 1007, 484, 485, 486, 487, 488, 489, 490, 1008] (by decide +kernel)
set_option maxRecDepth 20000 in
theorem lwi_r15 : ∀ w ∈ wsL_law0_r15, w ∈ lw_tbl := mem_r _ [1009, 1010, 1011, 492, 493, 494, 495, 496, 497, 498, 499, 501, 5, 502, 504, 506, 6, 507, 508, 509, 510, 511, 438, 375] (by decide +kernel)
set_option maxRecDepth 20000 in
theorem lwi_r16 : ∀ w ∈ wsL_law0_r16, w ∈ lw_tbl := mem_r _ [378, 512, 513, 514, 515, 516, 517, 518, 519, 956, 957, 958, 959, 960, 962, 21, 963, 964, 966, 22, 967, 968, 970, 23] (by decide +kernel)
set_option maxRecDepth 20000 in
theorem lwi_r17 : ∀ w ∈ wsL_law0_r17, w ∈ lw_tbl := mem_r _ [971, 520, 521, 522, 523, 524, 525, 526, 527, 529, 7, 530, 439, 379, 531, 533, 8, 534, 100, 448, 535, 536, 48, 537] (by decide +kernel)
set_option maxRecDepth 20000 in
theorem lwi_r18 : ∀ w ∈ wsL_law0_r18, w ∈ lw_tbl := mem_r _ [538, 539, 540, 541, 542, 543, 544, 546, 547, 548, 549, 550, 551, 552, 553, 554, 49, 555, 972, 973, 974, 975, 976, 978] (by decide +kernel)
set_option maxRecDepth 20000 in
theorem lwi_r19 : ∀ w ∈ wsL_law0_r19, w ∈ lw_tbl := mem_r _ [24, 979, 980, 982, 25, 983, 890, 891, 892, 893, 894, 895, 896, 897, 898, 984, 986, 26, 987, 887, 888, 889, 556, 557] (by decide +kernel)
set_option maxRecDepth 20000 in
theorem lwi_r20 : ∀ w ∈ wsL_law0_r20, w ∈ lw_tbl := mem_r _ [558, 559, 560, 561, 562, 376, 441, 449, 563, 564, 565, 566, 988, 989, 990, 991, 992, 994, 27, 995, 568, 569, 570, 571] (by decide +kernel)
set_option maxRecDepth 20000 in
theorem lwi_r21 : ∀ w ∈ wsL_law0_r21, w ∈ lw_tbl := mem_r _ [572, 573, 574, 443, 996, 997, 998, 999, 576, 577, 578, 579, 580, 581, 582, 584, 585, 1000, 1001, 1002, 1003, 586, 587, 588] (by decide +kernel)
set_option maxRecDepth 20000 in
theorem lwi_r22 : ∀ w ∈ wsL_law0_r22, w ∈ lw_tbl := mem_r _ [589, 590, 591, 592, 148, 604, 50, 593, 595, 9, 596, 599, 601, 10, 602, 605, 606, 607, 608, 614, 609, 611, 625, 626] (by decide +kernel)
set_option maxRecDepth 20000 in
theorem lwi_r23 : ∀ w ∈ wsL_law0_r23, w ∈ lw_tbl := mem_r _ [627, 628, 629, 630, 51, 631, 632, 633, 634, 1012, 1013, 1014, 1015, 794, 1016, 1018, 28, 1019, 1020, 1022, 29, 1023, 1024, 1026] (by decide +kernel)
set_option maxRecDepth 20000 in
theorem lwi_r24 : ∀ w ∈ wsL_law0_r24, w ∈ lw_tbl := mem_r _ [30, 1027, 635, 636, 637, 638, 639, 640, 641, 642, 644, 11, 645, 648, 649, 650, 651, 652, 653, 654, 655, 1028, 1029, 1030] (by decide +kernel)
set_option maxRecDepth 20000 in
theorem lwi_r25 : ∀ w ∈ wsL_law0_r25, w ∈ lw_tbl := mem_r _ [1031, 1032, 1034, 31, 1035, 656, 657, 658, 659, 660, 661, 662, 610, 663, 664, 665, 615, 667, 668, 669, 670, 613, 672, 673] (by decide +kernel)
set_option maxRecDepth 20000 in
theorem lwi_r26 : ∀ w ∈ wsL_law0_r26, w ∈ lw_tbl := mem_r _ [674, 675, 676, 677, 678, 679, 680, 681, 52, 682, 683, 684, 685, 1036, 1037, 1038, 1039, 1040, 1041, 1042, 686, 687, 688, 689] (by decide +kernel)
set_option maxRecDepth 20000 in
theorem lwi_r27 : ∀ w ∈ wsL_law0_r27, w ∈ lw_tbl := mem_r _ [690, 691, 692, 693, 695, 696, 697, 698, 699, 1043, 1044, 1045, 1046, 1047, 1049, 32, 1050, 700, 701, 702, 703, 704, 705, 706] (by decide +kernel)
set_option maxRecDepth 20000 in
theorem lwi_r28 : ∀ w ∈ wsL_law0_r28, w ∈ lw_tbl := mem_r _ [612, 708, 709, 711, 12, 712, 1051, 1052, 1053, 1054, 713, 714, 715, 716, 717, 718, 719, 720, 722, 13, 723, 1055, 1056, 1057] (by decide +kernel)
set_option maxRecDepth 20000 in
theorem lwi_r29 : ∀ w ∈ wsL_law0_r29, w ∈ lw_tbl := mem_r _ [1058, 725, 726, 727, 728, 729, 730, 731, 732, 734, 14, 735, 737, 738, 739, 178, 1059, 1060, 1061, 1062, 1063, 1065, 33, 1066] (by decide +kernel)
set_option maxRecDepth 20000 in
theorem lwi_r30 : ∀ w ∈ wsL_law0_r30, w ∈ lw_tbl := mem_r _ [741, 742, 743, 744, 745, 746, 747, 79, 1067, 1068, 1069, 1070, 748, 749, 750, 751, 752, 753, 754, 755, 1071, 1072, 1073, 1074] (by decide +kernel)
set_option maxRecDepth 20000 in
theorem lwi_r31 : ∀ w ∈ wsL_law0_r31, w ∈ lw_tbl := mem_r _ [174, 175, 176, 177, 182, 184, 0, 185, 186, 1075, 1076, 1077, 1078, 756, 757, 758, 759, 760, 761, 762, 876, 877, 878, 879] (by decide +kernel)
set_option maxRecDepth 20000 in
theorem lwi_wsX70 : ∀ w ∈ wsX70, w ∈ lw_tbl := mem_r _ [151, 153, 155, 157, 159, 161, 163, 165, 167, 169, 171] (by decide +kernel)
set_option maxRecDepth 20000 in
theorem lwi_wsX80 : ∀ w ∈ wsX80, w ∈ lw_tbl := mem_r _ [803, 805, 807, 809, 811, 813, 815, 817, 819, 821, 823, 825, 827, 829, 831, 833, 835, 837, 839, 841, 843, 845, 847, 849, 851, 853, 855, 857, 859, 861, 863, 865, 867, 869] (by decide +kernel)
set_option maxRecDepth 20000 in
theorem lwi_wsX00 : ∀ w ∈ wsX00, w ∈ lw_tbl := mem_r _ [82, 84, 86] (by decide +kernel)
set_option maxRecDepth 20000 in
theorem lwi_wsX60 : ∀ w ∈ wsX60, w ∈ lw_tbl := mem_r _ [103, 105, 107, 109, 111] (by decide +kernel)
set_option maxRecDepth 20000 in
theorem lwi_wsX50 : ∀ w ∈ wsX50, w ∈ lw_tbl := mem_r _ [127, 129, 131, 133, 135, 137] (by decide +kernel)
set_option maxRecDepth 20000 in
theorem lwi_wsX40 : ∀ w ∈ wsX40, w ∈ lw_tbl := mem_r _ [384, 386, 388, 390] (by decide +kernel)
set_option maxRecDepth 20000 in
theorem lwi_wsX30 : ∀ w ∈ wsX30, w ∈ lw_tbl := mem_r _ [450, 452, 454, 456, 458, 460, 462, 464] (by decide +kernel)
set_option maxRecDepth 20000 in
theorem lwi_wsX20 : ∀ w ∈ wsX20, w ∈ lw_tbl := mem_r _ [616, 618, 620, 622] (by decide +kernel)
theorem wsL_law_in0 : ∀ w ∈ wsL_law0, w ∈ lw_tbl := by
  unfold wsL_law0
  exact List.forall_mem_append.mpr ⟨List.forall_mem_append.mpr ⟨List.forall_mem_append.mpr ⟨List.forall_mem_append.mpr ⟨List.forall_mem_append.mpr ⟨List.forall_mem_append.mpr ⟨List.forall_mem_append.mpr ⟨List.forall_mem_append.mpr ⟨List.forall_mem_append.mpr ⟨List.forall_mem_append.mpr ⟨lwi_r1, List.forall_mem_append.mpr ⟨lwi_r2, List.forall_mem_append.mpr ⟨lwi_r3, List.forall_mem_append.mpr ⟨lwi_r4, List.forall_mem_append.mpr ⟨lwi_r5, List.forall_mem_append.mpr ⟨lwi_r6, List.forall_mem_append.mpr ⟨lwi_r7, List.forall_mem_append.mpr ⟨lwi_r8, List.forall_mem_append.mpr ⟨lwi_r9, List.forall_mem_append.mpr ⟨lwi_r10, List.forall_mem_append.mpr ⟨lwi_r11, List.forall_mem_append.mpr ⟨lwi_r12, List.forall_mem_append.mpr ⟨lwi_r13, List.forall_mem_append.mpr ⟨lwi_r14, List.forall_mem_append.mpr ⟨lwi_r15, List.forall_mem_append.mpr ⟨lwi_r16, List.forall_mem_append.mpr ⟨lwi_r17, List.forall_mem_append.mpr ⟨lwi_r18, List.forall_mem_append.mpr ⟨lwi_r19, List.forall_mem_append.mpr ⟨lwi_r20, List.forall_mem_append.mpr ⟨lwi_r21, List.forall_mem_append.mpr ⟨lwi_r22, List.forall_mem_append.mpr ⟨lwi_r23, List.forall_mem_append.mpr ⟨lwi_r24, List.forall_mem_append.mpr ⟨lwi_r25, List.forall_mem_append.mpr ⟨lwi_r26, List.forall_mem_append.mpr ⟨lwi_r27, List.forall_mem_append.mpr ⟨lwi_r28, List.forall_mem_append.mpr ⟨lwi_r29, List.forall_mem_append.mpr ⟨lwi_r30, lwi_r31⟩⟩⟩⟩⟩⟩⟩⟩⟩⟩⟩⟩⟩⟩⟩⟩⟩⟩⟩⟩⟩⟩⟩⟩⟩⟩⟩⟩⟩⟩, lwi_wsX70⟩, lwi_wsX80⟩, lwi_wsX00⟩, lwi_wsX60⟩, lwi_wsX50⟩, lwi_wsX40⟩, lwi_wsX30⟩, lwi_wsX20⟩, fun _ h => absurd h List.not_mem_nil⟩
theorem wsL_law_x0 : ∀ w ∈ (vx_atS RX7 64 "java/lang/IllegalArgumentException" ["java/lang/RuntimeException", "java/lang/Exception"]).filter goodWord, w ∈ lw_tbl := by decide +kernel
theorem wsL_law_x1 : ∀ w ∈ (vx_atS RX7 113 "java/lang/IndexOutOfBoundsException" ["java/lang/RuntimeException", "java/lang/Exception"]).filter goodWord, w ∈ lw_tbl := by decide +kernel
theorem wsL_law_x2 : ∀ w ∈ (vx_atS RX7 93 "java/lang/IllegalStateException" ["java/lang/RuntimeException", "java/lang/Exception"]).filter goodWord, w ∈ lw_tbl := by decide +kernel
theorem wsL_law_in : ∀ w ∈ wsL_law, w ∈ lw_tbl := fun w h => (List.mem_append.mp h).elim (fun h => (List.mem_append.mp h).elim (fun h => (List.mem_append.mp h).elim (fun h => wsL_law_in0 w h) (fun h => wsL_law_x0 w h)) (fun h => wsL_law_x1 w h)) (fun h => wsL_law_x2 w h)
theorem inlX0 : ∀ w ∈ wsX00, w ∈ wsL_law := fun _ h => List.mem_append_left _ (List.mem_append_left _ (List.mem_append_left _ (List.mem_append_left _ (List.mem_append_left _ (List.mem_append_left _ (List.mem_append_left _ (List.mem_append_left _ (List.mem_append_left _ (List.mem_append_right _ h)))))))))
theorem inlX2 : ∀ w ∈ wsX20, w ∈ wsL_law := fun _ h => List.mem_append_left _ (List.mem_append_left _ (List.mem_append_left _ (List.mem_append_left _ (List.mem_append_right _ h))))
theorem inlX3 : ∀ w ∈ wsX30, w ∈ wsL_law := fun _ h => List.mem_append_left _ (List.mem_append_left _ (List.mem_append_left _ (List.mem_append_left _ (List.mem_append_left _ (List.mem_append_right _ h)))))
theorem inlX4 : ∀ w ∈ wsX40, w ∈ wsL_law := fun _ h => List.mem_append_left _ (List.mem_append_left _ (List.mem_append_left _ (List.mem_append_left _ (List.mem_append_left _ (List.mem_append_left _ (List.mem_append_right _ h))))))
theorem inlX5 : ∀ w ∈ wsX50, w ∈ wsL_law := fun _ h => List.mem_append_left _ (List.mem_append_left _ (List.mem_append_left _ (List.mem_append_left _ (List.mem_append_left _ (List.mem_append_left _ (List.mem_append_left _ (List.mem_append_right _ h)))))))
theorem inlX6 : ∀ w ∈ wsX60, w ∈ wsL_law := fun _ h => List.mem_append_left _ (List.mem_append_left _ (List.mem_append_left _ (List.mem_append_left _ (List.mem_append_left _ (List.mem_append_left _ (List.mem_append_left _ (List.mem_append_left _ (List.mem_append_right _ h))))))))
theorem inlX7 : ∀ w ∈ wsX70, w ∈ wsL_law := fun _ h => List.mem_append_left _ (List.mem_append_left _ (List.mem_append_left _ (List.mem_append_left _ (List.mem_append_left _ (List.mem_append_left _ (List.mem_append_left _ (List.mem_append_left _ (List.mem_append_left _ (List.mem_append_left _ (List.mem_append_left _ (List.mem_append_right _ h)))))))))))
theorem inlX8 : ∀ w ∈ wsX80, w ∈ wsL_law := fun _ h => List.mem_append_left _ (List.mem_append_left _ (List.mem_append_left _ (List.mem_append_left _ (List.mem_append_left _ (List.mem_append_left _ (List.mem_append_left _ (List.mem_append_left _ (List.mem_append_left _ (List.mem_append_left _ (List.mem_append_right _ h))))))))))
