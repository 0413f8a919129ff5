theorem dL_cell_0 : decode cL_cell 0 = .ok (.iload_n 1, 1) := by decide +kernel
theorem dL_cell_1 : decode cL_cell 1 = .ok (.aload_n 0, 1) := by decide +kernel
theorem dL_cell_2 : decode cL_cell 2 = .ok (.arraylength, 1) := by decide +kernel
theorem dL_cell_3 : decode cL_cell 3 = .ok (.if_icmp .ge 9, 3) := by decide +kernel
theorem dL_cell_6 : decode cL_cell 6 = .ok (.aload_n 0, 1) := by decide +kernel
theorem dL_cell_7 : decode cL_cell 7 = .ok (.iload_n 1, 1) := by decide +kernel
theorem dL_cell_8 : decode cL_cell 8 = .ok (.iaload, 1) := by decide +kernel
theorem dL_cell_9 : decode cL_cell 9 = .ok (.goto 4, 3) := by decide +kernel
theorem dL_cell_12 : decode cL_cell 12 = .ok (.iconst 0, 1) := by decide +kernel
theorem dL_cell_13 : decode cL_cell 13 = .ok (.ireturn, 1) := by decide +kernel
set_option maxRecDepth 20000 in
theorem ggL_literal_X5_literal : GoodIn wsL_literal wsX5_literal := goodIn_ca (goodIn_ca (goodIn_r _ [7, 8, 9, 10, 11, 12, 13, 14, 15, 16, 17, 18, 19, 20, 21, 22, 23, 24, 25, 26, 27, 28, 29, 30, 31, 32, 33, 34, 35] rfl (by decide +kernel)) (goodIn_sub (fun _ h => List.mem_cons_of_mem _ (List.mem_append_left _ (List.mem_append_right _ h))) (by decide +kernel))) (goodIn_sub (fun _ h => List.mem_cons_of_mem _ (List.mem_append_right _ h)) (by decide +kernel))
set_option maxRecDepth 20000 in
theorem gL_literal_X5_literal : GoodIn wsL_literal (wsV RL 7 RX5 yX5_literal wsX5_literal) := goodIn_app (goodIn_of _ (by decide +kernel)) ggL_literal_X5_literal
theorem dL_literal_0 : decode cL_literal 0 = .ok (.aload_n 2, 1) := by decide +kernel
theorem dL_literal_1 : decode cL_literal 1 = .ok (.iconst 0, 1) := by decide +kernel
theorem dL_literal_2 : decode cL_literal 2 = .ok (.aload_n 0, 1) := by decide +kernel
theorem dL_literal_3 : decode cL_literal 3 = .ok (.iload_n 1, 1) := by decide +kernel
theorem dL_literal_4 : decode cL_literal 4 = .ok (.invokevirtual 7, 3) := by decide +kernel
theorem dL_literal_7 : decode cL_literal 7 = .ok (.i2l, 1) := by decide +kernel
theorem dL_literal_8 : decode cL_literal 8 = .ok (.lastore, 1) := by decide +kernel
theorem dL_literal_9 : decode cL_literal 9 = .ok (.goto 9, 3) := by decide +kernel
theorem dL_literal_12 : decode cL_literal 12 = .ok (.astore_n 3, 1) := by decide +kernel
theorem dL_literal_13 : decode cL_literal 13 = .ok (.iconst 1, 1) := by decide +kernel
theorem dL_literal_14 : decode cL_literal 14 = .ok (.ireturn, 1) := by decide +kernel
theorem dL_literal_15 : decode cL_literal 15 = .ok (.astore_n 3, 1) := by decide +kernel
theorem dL_literal_16 : decode cL_literal 16 = .ok (.iconst 2, 1) := by decide +kernel
theorem dL_literal_17 : decode cL_literal 17 = .ok (.ireturn, 1) := by decide +kernel
theorem dL_literal_18 : decode cL_literal 18 = .ok (.iconst 0, 1) := by decide +kernel
theorem dL_literal_19 : decode cL_literal 19 = .ok (.ireturn, 1) := by decide +kernel
set_option maxRecDepth 20000 in
theorem ggL_triple_X5_triple : GoodIn wsL_triple wsX5_triple := goodIn_ca (goodIn_ca (goodIn_r _ [7, 8, 9, 10, 11, 12, 13, 14, 15, 6, 16, 17, 18, 19, 20, 21, 22, 23, 24, 25, 26, 27, 28, 29, 30, 31, 32, 33, 34, 35, 36, 37, 38, 39, 40, 41, 42, 43, 44, 45, 46, 47, 48, 49, 50, 51, 52, 53, 54, 55, 56, 57, 58, 59, 60, 61] rfl (by decide +kernel)) (goodIn_sub (fun _ h => List.mem_cons_of_mem _ (List.mem_append_left _ (List.mem_append_right _ h))) (by decide +kernel))) (goodIn_sub (fun _ h => List.mem_cons_of_mem _ (List.mem_append_right _ h)) (by decide +kernel))
set_option maxRecDepth 20000 in
theorem gL_triple_X5_triple : GoodIn wsL_triple (wsV RL 17 RX5 yX5_triple wsX5_triple) := goodIn_app (goodIn_of _ (by decide +kernel)) ggL_triple_X5_triple
theorem dL_triple_0 : decode cL_triple 0 = .ok (.aload 4, 2) := by decide +kernel
theorem dL_triple_2 : decode cL_triple 2 = .ok (.iconst 0, 1) := by decide +kernel
theorem dL_triple_3 : decode cL_triple 3 = .ok (.aload_n 0, 1) := by decide +kernel
theorem dL_triple_4 : decode cL_triple 4 = .ok (.iload_n 1, 1) := by decide +kernel
theorem dL_triple_5 : decode cL_triple 5 = .ok (.iload_n 2, 1) := by decide +kernel
theorem dL_triple_6 : decode cL_triple 6 = .ok (.iload_n 3, 1) := by decide +kernel
theorem dL_triple_7 : decode cL_triple 7 = .ok (.invokevirtual 17, 3) := by decide +kernel
theorem dL_triple_10 : decode cL_triple 10 = .ok (.i2l, 1) := by decide +kernel
theorem dL_triple_11 : decode cL_triple 11 = .ok (.lastore, 1) := by decide +kernel
theorem dL_triple_12 : decode cL_triple 12 = .ok (.goto 11, 3) := by decide +kernel
theorem dL_triple_15 : decode cL_triple 15 = .ok (.astore 5, 2) := by decide +kernel
theorem dL_triple_17 : decode cL_triple 17 = .ok (.iconst 1, 1) := by decide +kernel
theorem dL_triple_18 : decode cL_triple 18 = .ok (.ireturn, 1) := by decide +kernel
theorem dL_triple_19 : decode cL_triple 19 = .ok (.astore 5, 2) := by decide +kernel
theorem dL_triple_21 : decode cL_triple 21 = .ok (.iconst 2, 1) := by decide +kernel
theorem dL_triple_22 : decode cL_triple 22 = .ok (.ireturn, 1) := by decide +kernel
theorem dL_triple_23 : decode cL_triple 23 = .ok (.iconst 0, 1) := by decide +kernel
theorem dL_triple_24 : decode cL_triple 24 = .ok (.ireturn, 1) := by decide +kernel
set_option maxRecDepth 20000 in
theorem ggL_remove_X5_remove : GoodIn wsL_remove wsX5_remove := goodIn_ca (goodIn_r _ [6, 7, 8, 9, 10, 11, 12, 13, 5, 14, 15, 16, 17, 18, 19, 20, 21, 22, 23, 24, 25, 26, 27, 28, 29, 30, 31, 32, 33, 34, 35, 36, 37, 38, 39, 40, 41, 42, 43, 44, 45, 46, 47, 48, 49, 50, 51, 52, 53, 54, 55, 56, 57, 58, 59, 60, 61, 62, 63, 64, 65, 66, 67, 68, 69, 70, 71, 72, 73, 74, 75, 76, 77, 78, 79, 80, 81, 82, 83, 84, 85, 86, 87, 88] rfl (by decide +kernel)) (goodIn_sub (fun _ h => List.mem_cons_of_mem _ (List.mem_append_right _ h)) (by decide +kernel))
set_option maxRecDepth 20000 in
theorem gL_remove_X5_remove : GoodIn wsL_remove (wsV RL 21 RX5 yX5_remove wsX5_remove) := goodIn_app (goodIn_of _ (by decide +kernel)) ggL_remove_X5_remove
theorem dL_remove_0 : decode cL_remove 0 = .ok (.aload 4, 2) := by decide +kernel
theorem dL_remove_2 : decode cL_remove 2 = .ok (.iconst 0, 1) := by decide +kernel
theorem dL_remove_3 : decode cL_remove 3 = .ok (.aload_n 0, 1) := by decide +kernel
theorem dL_remove_4 : decode cL_remove 4 = .ok (.iload_n 1, 1) := by decide +kernel
theorem dL_remove_5 : decode cL_remove 5 = .ok (.iload_n 2, 1) := by decide +kernel
theorem dL_remove_6 : decode cL_remove 6 = .ok (.iload_n 3, 1) := by decide +kernel
theorem dL_remove_7 : decode cL_remove 7 = .ok (.invokevirtual 21, 3) := by decide +kernel
theorem dL_remove_10 : decode cL_remove 10 = .ok (.i2l, 1) := by decide +kernel
theorem dL_remove_11 : decode cL_remove 11 = .ok (.lastore, 1) := by decide +kernel
theorem dL_remove_12 : decode cL_remove 12 = .ok (.goto 7, 3) := by decide +kernel
theorem dL_remove_15 : decode cL_remove 15 = .ok (.astore 5, 2) := by decide +kernel
theorem dL_remove_17 : decode cL_remove 17 = .ok (.iconst 1, 1) := by decide +kernel
theorem dL_remove_18 : decode cL_remove 18 = .ok (.ireturn, 1) := by decide +kernel
theorem dL_remove_19 : decode cL_remove 19 = .ok (.iconst 0, 1) := by decide +kernel
theorem dL_remove_20 : decode cL_remove 20 = .ok (.ireturn, 1) := by decide +kernel
set_option maxRecDepth 20000 in
theorem ggL_count_X5_count : GoodIn wsL_count wsX5_count := goodIn_ca (goodIn_r _ [6, 7, 8, 9, 10, 11, 12, 13, 14, 15, 16, 17, 18, 19, 20, 21, 22, 23, 24] rfl (by decide +kernel)) (goodIn_sub (fun _ h => List.mem_cons_of_mem _ (List.mem_append_right _ h)) (by decide +kernel))
set_option maxRecDepth 20000 in
theorem gL_count_X5_count : GoodIn wsL_count (wsV RL 24 RX5 yX5_count wsX5_count) := goodIn_app (goodIn_of _ (by decide +kernel)) ggL_count_X5_count
theorem dL_count_0 : decode cL_count 0 = .ok (.aload_n 0, 1) := by decide +kernel
theorem dL_count_1 : decode cL_count 1 = .ok (.iload_n 1, 1) := by decide +kernel
theorem dL_count_2 : decode cL_count 2 = .ok (.invokevirtual 24, 3) := by decide +kernel
theorem dL_count_5 : decode cL_count 5 = .ok (.goto 6, 3) := by decide +kernel
theorem dL_count_8 : decode cL_count 8 = .ok (.astore_n 2, 1) := by decide +kernel
theorem dL_count_9 : decode cL_count 9 = .ok (.iconst 1, 1) := by decide +kernel
theorem dL_count_10 : decode cL_count 10 = .ok (.ireturn, 1) := by decide +kernel
theorem dL_count_11 : decode cL_count 11 = .ok (.iconst 0, 1) := by decide +kernel
theorem dL_count_12 : decode cL_count 12 = .ok (.ireturn, 1) := by decide +kernel
