set_option maxRecDepth 20000 in
theorem ggL_officer_X7_officer : GoodIn wsL_officer wsX7_officer := goodIn_ca (goodIn_ca (goodIn_r _ [7, 8, 9, 10, 11, 12, 6, 13, 14, 15, 16, 17, 18, 19, 20, 21, 22, 23, 24, 25, 26] (by decide +kernel) (by decide +kernel)) (goodIn_sub (fun _ h => List.mem_cons_of_mem _ (List.mem_append_left _ (List.mem_append_right _ h))) (by decide +kernel))) (goodIn_sub (fun _ h => List.mem_cons_of_mem _ (List.mem_append_right _ h)) (by decide +kernel))
set_option maxRecDepth 20000 in
theorem gL_officer_X7_officer : GoodIn wsL_officer (wsV RL 7 RX7 yX7_officer wsX7_officer) := goodIn_app (goodIn_of _ (by decide +kernel)) ggL_officer_X7_officer
theorem dL_officer_0 : decode cL_officer 0 = .ok (.aload_n 0, 1) := by decide +kernel
theorem dL_officer_1 : decode cL_officer 1 = .ok (.iload_n 1, 1) := by decide +kernel
theorem dL_officer_2 : decode cL_officer 2 = .ok (.iload_n 2, 1) := by decide +kernel
theorem dL_officer_3 : decode cL_officer 3 = .ok (.invokevirtual 7, 3) := by decide +kernel
theorem dL_officer_6 : decode cL_officer 6 = .ok (.goto 9, 3) := by decide +kernel
theorem dL_officer_9 : decode cL_officer 9 = .ok (.astore_n 3, 1) := by decide +kernel
theorem dL_officer_10 : decode cL_officer 10 = .ok (.iconst 1, 1) := by decide +kernel
theorem dL_officer_11 : decode cL_officer 11 = .ok (.ireturn, 1) := by decide +kernel
theorem dL_officer_12 : decode cL_officer 12 = .ok (.astore_n 3, 1) := by decide +kernel
theorem dL_officer_13 : decode cL_officer 13 = .ok (.iconst 2, 1) := by decide +kernel
theorem dL_officer_14 : decode cL_officer 14 = .ok (.ireturn, 1) := by decide +kernel
theorem dL_officer_15 : decode cL_officer 15 = .ok (.iconst 0, 1) := by decide +kernel
theorem dL_officer_16 : decode cL_officer 16 = .ok (.ireturn, 1) := by decide +kernel
set_option maxRecDepth 20000 in
theorem ggL_version_X7_version : GoodIn wsL_version wsX7_version := goodIn_ca (goodIn_ca (goodIn_ca (goodIn_r _ [8, 9, 10, 11, 12, 13, 14, 15, 16, 17, 7, 18, 19, 20, 21, 22, 23, 24, 25, 26, 27, 28, 29, 30, 31, 32, 33, 34, 35, 36, 37, 38, 39, 40, 41, 42, 43, 44, 45, 46, 47, 48, 49, 50, 51, 52, 53, 54, 55, 56, 57, 58, 59, 60, 61, 62, 63, 64, 65, 66, 67, 68, 69, 70, 71, 72, 73, 74, 75, 76, 77, 78, 79, 80, 81, 82, 83, 84, 85, 86, 87, 88, 89] (by decide +kernel) (by decide +kernel)) (goodIn_sub (fun _ h => List.mem_cons_of_mem _ (List.mem_append_left _ (List.mem_append_left _ (List.mem_append_right _ h)))) (by decide +kernel))) (goodIn_sub (fun _ h => List.mem_cons_of_mem _ (List.mem_append_left _ (List.mem_append_right _ h))) (by decide +kernel))) (goodIn_sub (fun _ h => List.mem_cons_of_mem _ (List.mem_append_right _ h)) (by decide +kernel))
set_option maxRecDepth 20000 in
theorem gL_version_X7_version : GoodIn wsL_version (wsV RL 17 RX7 yX7_version wsX7_version) := goodIn_app (goodIn_of _ (by decide +kernel)) ggL_version_X7_version
theorem dL_version_0 : decode cL_version 0 = .ok (.aload 7, 2) := by decide +kernel
theorem dL_version_2 : decode cL_version 2 = .ok (.iconst 0, 1) := by decide +kernel
theorem dL_version_3 : decode cL_version 3 = .ok (.aload_n 0, 1) := by decide +kernel
theorem dL_version_4 : decode cL_version 4 = .ok (.iload_n 1, 1) := by decide +kernel
theorem dL_version_5 : decode cL_version 5 = .ok (.iload_n 2, 1) := by decide +kernel
theorem dL_version_6 : decode cL_version 6 = .ok (.iload_n 3, 1) := by decide +kernel
theorem dL_version_7 : decode cL_version 7 = .ok (.iload 4, 2) := by decide +kernel
theorem dL_version_9 : decode cL_version 9 = .ok (.iload 5, 2) := by decide +kernel
theorem dL_version_11 : decode cL_version 11 = .ok (.iload 6, 2) := by decide +kernel
theorem dL_version_13 : decode cL_version 13 = .ok (.invokevirtual 17, 3) := by decide +kernel
theorem dL_version_16 : decode cL_version 16 = .ok (.i2l, 1) := by decide +kernel
theorem dL_version_17 : decode cL_version 17 = .ok (.lastore, 1) := by decide +kernel
theorem dL_version_18 : decode cL_version 18 = .ok (.goto 15, 3) := by decide +kernel
theorem dL_version_21 : decode cL_version 21 = .ok (.astore 8, 2) := by decide +kernel
theorem dL_version_23 : decode cL_version 23 = .ok (.iconst 1, 1) := by decide +kernel
theorem dL_version_24 : decode cL_version 24 = .ok (.ireturn, 1) := by decide +kernel
theorem dL_version_25 : decode cL_version 25 = .ok (.astore 8, 2) := by decide +kernel
theorem dL_version_27 : decode cL_version 27 = .ok (.iconst 2, 1) := by decide +kernel
theorem dL_version_28 : decode cL_version 28 = .ok (.ireturn, 1) := by decide +kernel
theorem dL_version_29 : decode cL_version 29 = .ok (.astore 8, 2) := by decide +kernel
theorem dL_version_31 : decode cL_version 31 = .ok (.iconst 3, 1) := by decide +kernel
theorem dL_version_32 : decode cL_version 32 = .ok (.ireturn, 1) := by decide +kernel
theorem dL_version_33 : decode cL_version 33 = .ok (.iconst 0, 1) := by decide +kernel
theorem dL_version_34 : decode cL_version 34 = .ok (.ireturn, 1) := by decide +kernel
set_option maxRecDepth 20000 in
theorem ggL_fiscal_X7_fiscal : GoodIn wsL_fiscal wsX7_fiscal := goodIn_ca (goodIn_ca (goodIn_r _ [7, 8, 9, 10, 11, 12, 13, 14, 15, 16, 17, 18, 19, 20, 21, 22, 23, 24] (by decide +kernel) (by decide +kernel)) (goodIn_sub (fun _ h => List.mem_cons_of_mem _ (List.mem_append_left _ (List.mem_append_right _ h))) (by decide +kernel))) (goodIn_sub (fun _ h => List.mem_cons_of_mem _ (List.mem_append_right _ h)) (by decide +kernel))
set_option maxRecDepth 20000 in
theorem gL_fiscal_X7_fiscal : GoodIn wsL_fiscal (wsV RL 23 RX7 yX7_fiscal wsX7_fiscal) := goodIn_app (goodIn_of _ (by decide +kernel)) ggL_fiscal_X7_fiscal
theorem dL_fiscal_0 : decode cL_fiscal 0 = .ok (.aload_n 0, 1) := by decide +kernel
theorem dL_fiscal_1 : decode cL_fiscal 1 = .ok (.iload_n 1, 1) := by decide +kernel
theorem dL_fiscal_2 : decode cL_fiscal 2 = .ok (.invokevirtual 23, 3) := by decide +kernel
theorem dL_fiscal_5 : decode cL_fiscal 5 = .ok (.goto 9, 3) := by decide +kernel
theorem dL_fiscal_8 : decode cL_fiscal 8 = .ok (.astore_n 2, 1) := by decide +kernel
theorem dL_fiscal_9 : decode cL_fiscal 9 = .ok (.iconst 1, 1) := by decide +kernel
theorem dL_fiscal_10 : decode cL_fiscal 10 = .ok (.ireturn, 1) := by decide +kernel
theorem dL_fiscal_11 : decode cL_fiscal 11 = .ok (.astore_n 2, 1) := by decide +kernel
theorem dL_fiscal_12 : decode cL_fiscal 12 = .ok (.iconst 2, 1) := by decide +kernel
theorem dL_fiscal_13 : decode cL_fiscal 13 = .ok (.ireturn, 1) := by decide +kernel
theorem dL_fiscal_14 : decode cL_fiscal 14 = .ok (.iconst 0, 1) := by decide +kernel
theorem dL_fiscal_15 : decode cL_fiscal 15 = .ok (.ireturn, 1) := by decide +kernel
set_option maxRecDepth 20000 in
theorem ggL_open_X7_open : GoodIn wsL_open wsX7_open := goodIn_ca (goodIn_ca (goodIn_r _ [7, 8, 9, 10, 11, 12, 13, 14, 15, 16, 17, 18, 19, 20, 6, 21, 22, 23, 24, 25, 26, 27, 28, 29, 30, 31, 32, 33, 34, 35, 36, 37, 38, 39, 40, 41, 42, 43, 44, 45, 46, 47, 48, 49, 50, 51, 52, 53, 54, 55, 56, 57, 58, 59, 60, 61, 62, 63, 64, 65, 66, 67, 68, 69, 70, 71, 72, 73, 74, 75, 76, 77, 78, 79, 80, 81, 82, 83] (by decide +kernel) (by decide +kernel)) (goodIn_sub (fun _ h => List.mem_cons_of_mem _ (List.mem_append_left _ (List.mem_append_right _ h))) (by decide +kernel))) (goodIn_sub (fun _ h => List.mem_cons_of_mem _ (List.mem_append_right _ h)) (by decide +kernel))
set_option maxRecDepth 20000 in
theorem gL_open_X7_open : GoodIn wsL_open (wsV RL 27 RX7 yX7_open wsX7_open) := goodIn_app (goodIn_of _ (by decide +kernel)) ggL_open_X7_open
theorem dL_open_0 : decode cL_open 0 = .ok (.aload_n 0, 1) := by decide +kernel
theorem dL_open_1 : decode cL_open 1 = .ok (.iload_n 1, 1) := by decide +kernel
theorem dL_open_2 : decode cL_open 2 = .ok (.iload_n 2, 1) := by decide +kernel
theorem dL_open_3 : decode cL_open 3 = .ok (.invokevirtual 27, 3) := by decide +kernel
theorem dL_open_6 : decode cL_open 6 = .ok (.goto 9, 3) := by decide +kernel
theorem dL_open_9 : decode cL_open 9 = .ok (.astore_n 3, 1) := by decide +kernel
theorem dL_open_10 : decode cL_open 10 = .ok (.iconst 1, 1) := by decide +kernel
theorem dL_open_11 : decode cL_open 11 = .ok (.ireturn, 1) := by decide +kernel
theorem dL_open_12 : decode cL_open 12 = .ok (.astore_n 3, 1) := by decide +kernel
theorem dL_open_13 : decode cL_open 13 = .ok (.iconst 2, 1) := by decide +kernel
theorem dL_open_14 : decode cL_open 14 = .ok (.ireturn, 1) := by decide +kernel
theorem dL_open_15 : decode cL_open 15 = .ok (.iconst 0, 1) := by decide +kernel
theorem dL_open_16 : decode cL_open 16 = .ok (.ireturn, 1) := by decide +kernel
set_option maxRecDepth 20000 in
theorem ggL_close_X7_close : GoodIn wsL_close wsX7_close := goodIn_ca (goodIn_ca (goodIn_ca (goodIn_r _ [8, 9, 10, 11, 12, 13, 14, 15, 16, 7, 17, 18, 19, 20, 21, 22, 23, 24, 25, 26, 27, 28, 29, 30, 31, 32, 33, 34, 35, 36, 37, 38, 39, 40, 41, 42, 43, 44, 45, 46, 47, 48, 49, 50, 51, 52, 53, 54, 55, 56, 57, 58, 59, 60, 61, 62, 63, 64, 65, 66, 67, 68, 69, 70, 71, 72, 73, 74, 75, 76, 77] (by decide +kernel) (by decide +kernel)) (goodIn_sub (fun _ h => List.mem_cons_of_mem _ (List.mem_append_left _ (List.mem_append_left _ (List.mem_append_right _ h)))) (by decide +kernel))) (goodIn_sub (fun _ h => List.mem_cons_of_mem _ (List.mem_append_left _ (List.mem_append_right _ h))) (by decide +kernel))) (goodIn_sub (fun _ h => List.mem_cons_of_mem _ (List.mem_append_right _ h)) (by decide +kernel))
set_option maxRecDepth 20000 in
theorem gL_close_X7_close : GoodIn wsL_close (wsV RL 30 RX7 yX7_close wsX7_close) := goodIn_app (goodIn_of _ (by decide +kernel)) ggL_close_X7_close
theorem dL_close_0 : decode cL_close 0 = .ok (.aload_n 0, 1) := by decide +kernel
theorem dL_close_1 : decode cL_close 1 = .ok (.iload_n 1, 1) := by decide +kernel
theorem dL_close_2 : decode cL_close 2 = .ok (.iload_n 2, 1) := by decide +kernel
theorem dL_close_3 : decode cL_close 3 = .ok (.invokevirtual 30, 3) := by decide +kernel
theorem dL_close_6 : decode cL_close 6 = .ok (.goto 12, 3) := by decide +kernel
theorem dL_close_9 : decode cL_close 9 = .ok (.astore_n 3, 1) := by decide +kernel
theorem dL_close_10 : decode cL_close 10 = .ok (.iconst 1, 1) := by decide +kernel
theorem dL_close_11 : decode cL_close 11 = .ok (.ireturn, 1) := by decide +kernel
theorem dL_close_12 : decode cL_close 12 = .ok (.astore_n 3, 1) := by decide +kernel
theorem dL_close_13 : decode cL_close 13 = .ok (.iconst 2, 1) := by decide +kernel
theorem dL_close_14 : decode cL_close 14 = .ok (.ireturn, 1) := by decide +kernel
theorem dL_close_15 : decode cL_close 15 = .ok (.astore_n 3, 1) := by decide +kernel
theorem dL_close_16 : decode cL_close 16 = .ok (.iconst 3, 1) := by decide +kernel
theorem dL_close_17 : decode cL_close 17 = .ok (.ireturn, 1) := by decide +kernel
theorem dL_close_18 : decode cL_close 18 = .ok (.iconst 0, 1) := by decide +kernel
theorem dL_close_19 : decode cL_close 19 = .ok (.ireturn, 1) := by decide +kernel
set_option maxRecDepth 20000 in
theorem ggL_left_X7_left : GoodIn wsL_left wsX7_left := goodIn_ca (goodIn_ca (goodIn_ca (goodIn_r _ [8, 9, 10, 11, 12, 13, 14, 15, 16, 7, 17, 18, 19, 20, 21, 22, 23, 24, 25, 26, 27, 28, 29, 30, 31, 32, 33, 34, 35, 36, 37, 38, 39, 40, 41, 42, 43, 44, 45, 46, 47, 48, 49, 50, 51, 52, 53, 54, 55, 56, 57, 58, 59, 60, 61, 62, 63, 64, 65, 66, 67, 68, 69, 70, 71, 72, 73, 74, 75, 76, 77] (by decide +kernel) (by decide +kernel)) (goodIn_sub (fun _ h => List.mem_cons_of_mem _ (List.mem_append_left _ (List.mem_append_left _ (List.mem_append_right _ h)))) (by decide +kernel))) (goodIn_sub (fun _ h => List.mem_cons_of_mem _ (List.mem_append_left _ (List.mem_append_right _ h))) (by decide +kernel))) (goodIn_sub (fun _ h => List.mem_cons_of_mem _ (List.mem_append_right _ h)) (by decide +kernel))
set_option maxRecDepth 20000 in
theorem gL_left_X7_left : GoodIn wsL_left (wsV RL 33 RX7 yX7_left wsX7_left) := goodIn_app (goodIn_of _ (by decide +kernel)) ggL_left_X7_left
theorem dL_left_0 : decode cL_left 0 = .ok (.aload_n 0, 1) := by decide +kernel
theorem dL_left_1 : decode cL_left 1 = .ok (.iload_n 1, 1) := by decide +kernel
theorem dL_left_2 : decode cL_left 2 = .ok (.iload_n 2, 1) := by decide +kernel
theorem dL_left_3 : decode cL_left 3 = .ok (.invokevirtual 33, 3) := by decide +kernel
theorem dL_left_6 : decode cL_left 6 = .ok (.goto 12, 3) := by decide +kernel
theorem dL_left_9 : decode cL_left 9 = .ok (.astore_n 3, 1) := by decide +kernel
theorem dL_left_10 : decode cL_left 10 = .ok (.iconst 1, 1) := by decide +kernel
theorem dL_left_11 : decode cL_left 11 = .ok (.ireturn, 1) := by decide +kernel
theorem dL_left_12 : decode cL_left 12 = .ok (.astore_n 3, 1) := by decide +kernel
theorem dL_left_13 : decode cL_left 13 = .ok (.iconst 2, 1) := by decide +kernel
theorem dL_left_14 : decode cL_left 14 = .ok (.ireturn, 1) := by decide +kernel
theorem dL_left_15 : decode cL_left 15 = .ok (.astore_n 3, 1) := by decide +kernel
theorem dL_left_16 : decode cL_left 16 = .ok (.iconst 3, 1) := by decide +kernel
theorem dL_left_17 : decode cL_left 17 = .ok (.ireturn, 1) := by decide +kernel
theorem dL_left_18 : decode cL_left 18 = .ok (.iconst 0, 1) := by decide +kernel
theorem dL_left_19 : decode cL_left 19 = .ok (.ireturn, 1) := by decide +kernel
set_option maxRecDepth 20000 in
theorem ggL_file_X7_file : GoodIn wsL_file wsX7_file := goodIn_ca (goodIn_ca (goodIn_ca (goodIn_r _ [8, 9, 10, 11, 12, 13, 14, 15, 16, 17, 18, 19, 20, 21, 22, 23, 24, 7, 25, 26, 27, 28, 29, 30, 31, 32, 33, 34, 35, 36, 37, 38, 39, 40, 41, 42, 43, 44, 45, 46, 47, 48, 49, 50, 51, 52, 53, 54, 55, 56, 57, 58, 59, 60, 61, 62, 63, 64, 65, 66, 67, 68, 69, 70, 71, 72, 73, 74, 75, 76, 77, 78, 79, 80, 81, 82, 83, 84, 85, 86, 87, 88, 89, 90, 91, 92, 93, 94, 95, 96, 97, 98, 99, 100, 101, 102, 103, 104, 105, 106, 107] (by decide +kernel) (by decide +kernel)) (goodIn_sub (fun _ h => List.mem_cons_of_mem _ (List.mem_append_left _ (List.mem_append_left _ (List.mem_append_right _ h)))) (by decide +kernel))) (goodIn_sub (fun _ h => List.mem_cons_of_mem _ (List.mem_append_left _ (List.mem_append_right _ h))) (by decide +kernel))) (goodIn_sub (fun _ h => List.mem_cons_of_mem _ (List.mem_append_right _ h)) (by decide +kernel))
set_option maxRecDepth 20000 in
theorem gL_file_X7_file : GoodIn wsL_file (wsV RL 36 RX7 yX7_file wsX7_file) := goodIn_app (goodIn_of _ (by decide +kernel)) ggL_file_X7_file
theorem dL_file_0 : decode cL_file 0 = .ok (.aload 9, 2) := by decide +kernel
theorem dL_file_2 : decode cL_file 2 = .ok (.iconst 0, 1) := by decide +kernel
theorem dL_file_3 : decode cL_file 3 = .ok (.aload_n 0, 1) := by decide +kernel
theorem dL_file_4 : decode cL_file 4 = .ok (.iload_n 1, 1) := by decide +kernel
theorem dL_file_5 : decode cL_file 5 = .ok (.iload_n 2, 1) := by decide +kernel
theorem dL_file_6 : decode cL_file 6 = .ok (.lload_n 3, 1) := by decide +kernel
theorem dL_file_7 : decode cL_file 7 = .ok (.iload 5, 2) := by decide +kernel
theorem dL_file_9 : decode cL_file 9 = .ok (.iload 6, 2) := by decide +kernel
theorem dL_file_11 : decode cL_file 11 = .ok (.iload 7, 2) := by decide +kernel
theorem dL_file_13 : decode cL_file 13 = .ok (.iload 8, 2) := by decide +kernel
theorem dL_file_15 : decode cL_file 15 = .ok (.invokevirtual 36, 3) := by decide +kernel
theorem dL_file_18 : decode cL_file 18 = .ok (.i2l, 1) := by decide +kernel
theorem dL_file_19 : decode cL_file 19 = .ok (.lastore, 1) := by decide +kernel
theorem dL_file_20 : decode cL_file 20 = .ok (.goto 15, 3) := by decide +kernel
theorem dL_file_23 : decode cL_file 23 = .ok (.astore 10, 2) := by decide +kernel
theorem dL_file_25 : decode cL_file 25 = .ok (.iconst 1, 1) := by decide +kernel
theorem dL_file_26 : decode cL_file 26 = .ok (.ireturn, 1) := by decide +kernel
theorem dL_file_27 : decode cL_file 27 = .ok (.astore 10, 2) := by decide +kernel
theorem dL_file_29 : decode cL_file 29 = .ok (.iconst 2, 1) := by decide +kernel
theorem dL_file_30 : decode cL_file 30 = .ok (.ireturn, 1) := by decide +kernel
theorem dL_file_31 : decode cL_file 31 = .ok (.astore 10, 2) := by decide +kernel
theorem dL_file_33 : decode cL_file 33 = .ok (.iconst 3, 1) := by decide +kernel
theorem dL_file_34 : decode cL_file 34 = .ok (.ireturn, 1) := by decide +kernel
theorem dL_file_35 : decode cL_file 35 = .ok (.iconst 0, 1) := by decide +kernel
theorem dL_file_36 : decode cL_file 36 = .ok (.ireturn, 1) := by decide +kernel
set_option maxRecDepth 20000 in
theorem ggL_hold_X7_hold : GoodIn wsL_hold wsX7_hold := goodIn_ca (goodIn_ca (goodIn_ca (goodIn_r _ [8, 9, 10, 11, 12, 13, 14, 15, 16, 17, 18, 19, 7, 20, 21, 22, 23, 24, 25, 26, 27, 28, 29, 30, 31, 32, 33, 34, 35, 36, 37, 38, 39, 40, 41, 42, 43, 44, 45, 46, 47, 48, 49, 50, 51, 52, 53, 54, 55, 56, 57, 58, 59, 60, 61, 62, 63, 64, 65, 66, 67, 68, 69, 70, 71, 72, 73, 74, 75, 76, 77, 78, 79, 80, 81, 82, 83, 84, 85, 86, 87, 88, 89, 90] (by decide +kernel) (by decide +kernel)) (goodIn_sub (fun _ h => List.mem_cons_of_mem _ (List.mem_append_left _ (List.mem_append_left _ (List.mem_append_right _ h)))) (by decide +kernel))) (goodIn_sub (fun _ h => List.mem_cons_of_mem _ (List.mem_append_left _ (List.mem_append_right _ h))) (by decide +kernel))) (goodIn_sub (fun _ h => List.mem_cons_of_mem _ (List.mem_append_right _ h)) (by decide +kernel))
set_option maxRecDepth 20000 in
theorem gL_hold_X7_hold : GoodIn wsL_hold (wsV RL 40 RX7 yX7_hold wsX7_hold) := goodIn_app (goodIn_of _ (by decide +kernel)) ggL_hold_X7_hold
theorem dL_hold_0 : decode cL_hold 0 = .ok (.aload_n 0, 1) := by decide +kernel
theorem dL_hold_1 : decode cL_hold 1 = .ok (.iload_n 1, 1) := by decide +kernel
theorem dL_hold_2 : decode cL_hold 2 = .ok (.iload_n 2, 1) := by decide +kernel
theorem dL_hold_3 : decode cL_hold 3 = .ok (.iload_n 3, 1) := by decide +kernel
theorem dL_hold_4 : decode cL_hold 4 = .ok (.iload 4, 2) := by decide +kernel
theorem dL_hold_6 : decode cL_hold 6 = .ok (.iload 5, 2) := by decide +kernel
theorem dL_hold_8 : decode cL_hold 8 = .ok (.iload 6, 2) := by decide +kernel
theorem dL_hold_10 : decode cL_hold 10 = .ok (.invokevirtual 40, 3) := by decide +kernel
theorem dL_hold_13 : decode cL_hold 13 = .ok (.goto 15, 3) := by decide +kernel
theorem dL_hold_16 : decode cL_hold 16 = .ok (.astore 7, 2) := by decide +kernel
theorem dL_hold_18 : decode cL_hold 18 = .ok (.iconst 1, 1) := by decide +kernel
theorem dL_hold_19 : decode cL_hold 19 = .ok (.ireturn, 1) := by decide +kernel
theorem dL_hold_20 : decode cL_hold 20 = .ok (.astore 7, 2) := by decide +kernel
theorem dL_hold_22 : decode cL_hold 22 = .ok (.iconst 2, 1) := by decide +kernel
theorem dL_hold_23 : decode cL_hold 23 = .ok (.ireturn, 1) := by decide +kernel
theorem dL_hold_24 : decode cL_hold 24 = .ok (.astore 7, 2) := by decide +kernel
theorem dL_hold_26 : decode cL_hold 26 = .ok (.iconst 3, 1) := by decide +kernel
theorem dL_hold_27 : decode cL_hold 27 = .ok (.ireturn, 1) := by decide +kernel
theorem dL_hold_28 : decode cL_hold 28 = .ok (.iconst 0, 1) := by decide +kernel
theorem dL_hold_29 : decode cL_hold 29 = .ok (.ireturn, 1) := by decide +kernel
set_option maxRecDepth 20000 in
theorem ggL_lift_X7_lift : GoodIn wsL_lift wsX7_lift := goodIn_ca (goodIn_ca (goodIn_r _ [7, 8, 9, 10, 11, 12, 13, 14, 6, 15, 16, 17, 18, 19, 20, 21, 22, 23, 24, 25, 26, 27, 28, 29, 30, 31, 32, 33, 34, 35, 36, 37, 38, 39, 40, 41, 42, 43, 44, 45, 46, 47, 48, 49, 50, 51, 52, 53, 54, 55, 56, 57, 58, 59, 60, 61, 62, 63, 64, 65, 66] (by decide +kernel) (by decide +kernel)) (goodIn_sub (fun _ h => List.mem_cons_of_mem _ (List.mem_append_left _ (List.mem_append_right _ h))) (by decide +kernel))) (goodIn_sub (fun _ h => List.mem_cons_of_mem _ (List.mem_append_right _ h)) (by decide +kernel))
set_option maxRecDepth 20000 in
theorem gL_lift_X7_lift : GoodIn wsL_lift (wsV RL 44 RX7 yX7_lift wsX7_lift) := goodIn_app (goodIn_of _ (by decide +kernel)) ggL_lift_X7_lift
theorem dL_lift_0 : decode cL_lift 0 = .ok (.aload_n 0, 1) := by decide +kernel
theorem dL_lift_1 : decode cL_lift 1 = .ok (.iload_n 1, 1) := by decide +kernel
theorem dL_lift_2 : decode cL_lift 2 = .ok (.invokevirtual 44, 3) := by decide +kernel
theorem dL_lift_5 : decode cL_lift 5 = .ok (.goto 9, 3) := by decide +kernel
theorem dL_lift_8 : decode cL_lift 8 = .ok (.astore_n 2, 1) := by decide +kernel
theorem dL_lift_9 : decode cL_lift 9 = .ok (.iconst 1, 1) := by decide +kernel
theorem dL_lift_10 : decode cL_lift 10 = .ok (.ireturn, 1) := by decide +kernel
theorem dL_lift_11 : decode cL_lift 11 = .ok (.astore_n 2, 1) := by decide +kernel
theorem dL_lift_12 : decode cL_lift 12 = .ok (.iconst 2, 1) := by decide +kernel
theorem dL_lift_13 : decode cL_lift 13 = .ok (.ireturn, 1) := by decide +kernel
theorem dL_lift_14 : decode cL_lift 14 = .ok (.iconst 0, 1) := by decide +kernel
theorem dL_lift_15 : decode cL_lift 15 = .ok (.ireturn, 1) := by decide +kernel
set_option maxRecDepth 20000 in
theorem ggL_covered_X7_covered : GoodIn wsL_covered wsX7_covered := goodIn_ca (goodIn_r _ [6, 7, 8, 9, 5, 10, 11, 12, 13, 14, 15, 16, 17, 18, 19, 20, 21, 22, 23, 24, 25, 26, 27, 28, 29, 30, 31, 32, 33, 34, 35, 36, 37, 38, 39, 40, 41, 42, 43, 44, 45, 46, 47, 48, 49, 50, 51, 52, 53, 54, 55, 56, 57, 58, 59, 60, 61, 62, 63, 64, 65, 66, 67, 68, 69, 70, 71, 72, 73, 74, 75] (by decide +kernel) (by decide +kernel)) (goodIn_sub (fun _ h => List.mem_cons_of_mem _ (List.mem_append_right _ h)) (by decide +kernel))
set_option maxRecDepth 20000 in
theorem gL_covered_X7_covered : GoodIn wsL_covered (wsV RL 47 RX7 yX7_covered wsX7_covered) := goodIn_app (goodIn_of _ (by decide +kernel)) ggL_covered_X7_covered
