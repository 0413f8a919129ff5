set_option maxRecDepth 20000 in
theorem ggL_run_X5_run : GoodIn wsL_run wsX5_run := goodIn_ca (goodIn_r _ [6, 7, 8, 9, 10, 11, 12, 13, 14, 15, 16, 17, 18, 19, 20, 21, 22, 23, 24, 25, 26, 27, 28, 29, 30, 31, 32, 33, 34, 35, 36, 37, 38, 39, 40, 41, 42, 43, 44, 45, 46, 47, 48, 49, 50, 51, 52, 53, 54, 55, 56, 57, 58, 59, 60, 61, 62, 63, 64, 65, 66, 67, 68, 69, 70, 71, 72, 73, 74, 75, 76, 77, 78, 79, 80, 81, 82, 83, 84, 85, 86, 87, 88, 89, 90, 91, 92, 93, 94, 95, 96, 97, 98, 99, 100, 101, 102, 103, 104, 105, 106, 107, 108, 109, 110, 111, 112, 113, 114, 115, 116, 117, 118, 119, 120, 121, 122, 123, 124, 125, 126, 127, 128, 129, 130, 131, 132, 133, 134, 135, 136, 137, 138, 139, 140, 141, 142, 143, 144, 145, 146, 147, 148, 149, 150, 151, 152, 153, 154, 155, 156, 157, 158, 159, 160, 161, 162, 163, 164, 165, 166, 167, 168, 169, 170, 171, 172, 173, 174, 175, 176, 177, 178, 179, 180, 181, 182, 183] rfl (by decide +kernel)) (goodIn_sub (fun _ h => List.mem_cons_of_mem _ (List.mem_append_right _ h)) (by decide +kernel))
set_option maxRecDepth 20000 in
theorem gL_run_X5_run : GoodIn wsL_run (wsV RL 28 RX5 yX5_run wsX5_run) := goodIn_app (goodIn_of _ (by decide +kernel)) ggL_run_X5_run
theorem dL_run_0 : decode cL_run 0 = .ok (.aload_n 1, 1) := by decide +kernel
theorem dL_run_1 : decode cL_run 1 = .ok (.iconst 0, 1) := by decide +kernel
theorem dL_run_2 : decode cL_run 2 = .ok (.aload_n 0, 1) := by decide +kernel
theorem dL_run_3 : decode cL_run 3 = .ok (.invokevirtual 28, 3) := by decide +kernel
theorem dL_run_6 : decode cL_run 6 = .ok (.i2l, 1) := by decide +kernel
theorem dL_run_7 : decode cL_run 7 = .ok (.lastore, 1) := by decide +kernel
theorem dL_run_8 : decode cL_run 8 = .ok (.goto 6, 3) := by decide +kernel
theorem dL_run_11 : decode cL_run 11 = .ok (.astore_n 2, 1) := by decide +kernel
theorem dL_run_12 : decode cL_run 12 = .ok (.iconst 1, 1) := by decide +kernel
theorem dL_run_13 : decode cL_run 13 = .ok (.ireturn, 1) := by decide +kernel
theorem dL_run_14 : decode cL_run 14 = .ok (.iconst 0, 1) := by decide +kernel
theorem dL_run_15 : decode cL_run 15 = .ok (.ireturn, 1) := by decide +kernel
set_option maxRecDepth 20000 in
theorem ggL_closed_X5_closed : GoodIn wsL_closed wsX5_closed := goodIn_ca (goodIn_r _ [6, 7, 8, 9, 10, 11, 12, 13, 14, 15, 16, 17, 18, 19, 20, 21, 22, 23, 24, 25, 26, 27, 28, 29, 30, 31, 32, 33, 34, 35, 36, 37, 38, 39, 40, 41, 42, 43, 44] rfl (by decide +kernel)) (goodIn_sub (fun _ h => List.mem_cons_of_mem _ (List.mem_append_right _ h)) (by decide +kernel))
set_option maxRecDepth 20000 in
theorem gL_closed_X5_closed : GoodIn wsL_closed (wsV RL 34 RX5 yX5_closed wsX5_closed) := goodIn_app (goodIn_of _ (by decide +kernel)) ggL_closed_X5_closed
theorem dL_closed_0 : decode cL_closed 0 = .ok (.aload_n 3, 1) := by decide +kernel
theorem dL_closed_1 : decode cL_closed 1 = .ok (.iconst 0, 1) := by decide +kernel
theorem dL_closed_2 : decode cL_closed 2 = .ok (.aload_n 0, 1) := by decide +kernel
theorem dL_closed_3 : decode cL_closed 3 = .ok (.iload_n 1, 1) := by decide +kernel
theorem dL_closed_4 : decode cL_closed 4 = .ok (.iload_n 2, 1) := by decide +kernel
theorem dL_closed_5 : decode cL_closed 5 = .ok (.invokevirtual 34, 3) := by decide +kernel
theorem dL_closed_8 : decode cL_closed 8 = .ok (.i2l, 1) := by decide +kernel
theorem dL_closed_9 : decode cL_closed 9 = .ok (.lastore, 1) := by decide +kernel
theorem dL_closed_10 : decode cL_closed 10 = .ok (.goto 7, 3) := by decide +kernel
theorem dL_closed_13 : decode cL_closed 13 = .ok (.astore 4, 2) := by decide +kernel
theorem dL_closed_15 : decode cL_closed 15 = .ok (.iconst 1, 1) := by decide +kernel
theorem dL_closed_16 : decode cL_closed 16 = .ok (.ireturn, 1) := by decide +kernel
theorem dL_closed_17 : decode cL_closed 17 = .ok (.iconst 0, 1) := by decide +kernel
theorem dL_closed_18 : decode cL_closed 18 = .ok (.ireturn, 1) := by decide +kernel
set_option maxRecDepth 20000 in
theorem ggL_trace_X5_trace : GoodIn wsL_trace wsX5_trace := goodIn_ca (goodIn_r _ [6, 7, 8, 9, 10, 11, 12, 13, 14, 15, 16, 17, 18, 19, 20, 21, 22, 23, 24, 25, 26, 27, 28, 29, 30, 31, 32, 33, 34, 35, 36, 37, 38, 39, 40, 41, 42, 43, 44, 45, 46, 47, 48] rfl (by decide +kernel)) (goodIn_sub (fun _ h => List.mem_cons_of_mem _ (List.mem_append_right _ h)) (by decide +kernel))
set_option maxRecDepth 20000 in
theorem gL_trace_X5_trace : GoodIn wsL_trace (wsV RL 38 RX5 yX5_trace wsX5_trace) := goodIn_app (goodIn_of _ (by decide +kernel)) ggL_trace_X5_trace
theorem dL_trace_0 : decode cL_trace 0 = .ok (.aload_n 2, 1) := by decide +kernel
theorem dL_trace_1 : decode cL_trace 1 = .ok (.iconst 0, 1) := by decide +kernel
theorem dL_trace_2 : decode cL_trace 2 = .ok (.aload_n 0, 1) := by decide +kernel
theorem dL_trace_3 : decode cL_trace 3 = .ok (.iload_n 1, 1) := by decide +kernel
theorem dL_trace_4 : decode cL_trace 4 = .ok (.invokevirtual 38, 3) := by decide +kernel
theorem dL_trace_7 : decode cL_trace 7 = .ok (.i2l, 1) := by decide +kernel
theorem dL_trace_8 : decode cL_trace 8 = .ok (.lastore, 1) := by decide +kernel
theorem dL_trace_9 : decode cL_trace 9 = .ok (.goto 6, 3) := by decide +kernel
theorem dL_trace_12 : decode cL_trace 12 = .ok (.astore_n 3, 1) := by decide +kernel
theorem dL_trace_13 : decode cL_trace 13 = .ok (.iconst 1, 1) := by decide +kernel
theorem dL_trace_14 : decode cL_trace 14 = .ok (.ireturn, 1) := by decide +kernel
theorem dL_trace_15 : decode cL_trace 15 = .ok (.iconst 0, 1) := by decide +kernel
theorem dL_trace_16 : decode cL_trace 16 = .ok (.ireturn, 1) := by decide +kernel
set_option maxRecDepth 20000 in
theorem ggL_proof_X5_proof : GoodIn wsL_proof wsX5_proof := goodIn_ca (goodIn_r _ [6, 7, 8, 9, 10, 11, 12, 13, 14, 15, 16, 17, 18, 19, 20, 21, 22, 23, 24, 25, 26, 27, 28, 29, 30, 31, 32, 33, 34, 35, 36, 37, 38, 39, 40, 41, 42, 43, 44, 45, 46, 47, 48] rfl (by decide +kernel)) (goodIn_sub (fun _ h => List.mem_cons_of_mem _ (List.mem_append_right _ h)) (by decide +kernel))
set_option maxRecDepth 20000 in
theorem gL_proof_X5_proof : GoodIn wsL_proof (wsV RL 41 RX5 yX5_proof wsX5_proof) := goodIn_app (goodIn_of _ (by decide +kernel)) ggL_proof_X5_proof
theorem dL_proof_0 : decode cL_proof 0 = .ok (.aload_n 3, 1) := by decide +kernel
theorem dL_proof_1 : decode cL_proof 1 = .ok (.iconst 0, 1) := by decide +kernel
theorem dL_proof_2 : decode cL_proof 2 = .ok (.aload_n 0, 1) := by decide +kernel
theorem dL_proof_3 : decode cL_proof 3 = .ok (.iload_n 1, 1) := by decide +kernel
theorem dL_proof_4 : decode cL_proof 4 = .ok (.iload_n 2, 1) := by decide +kernel
theorem dL_proof_5 : decode cL_proof 5 = .ok (.invokevirtual 41, 3) := by decide +kernel
theorem dL_proof_8 : decode cL_proof 8 = .ok (.i2l, 1) := by decide +kernel
theorem dL_proof_9 : decode cL_proof 9 = .ok (.lastore, 1) := by decide +kernel
theorem dL_proof_10 : decode cL_proof 10 = .ok (.goto 7, 3) := by decide +kernel
theorem dL_proof_13 : decode cL_proof 13 = .ok (.astore 4, 2) := by decide +kernel
theorem dL_proof_15 : decode cL_proof 15 = .ok (.iconst 1, 1) := by decide +kernel
theorem dL_proof_16 : decode cL_proof 16 = .ok (.ireturn, 1) := by decide +kernel
theorem dL_proof_17 : decode cL_proof 17 = .ok (.iconst 0, 1) := by decide +kernel
theorem dL_proof_18 : decode cL_proof 18 = .ok (.ireturn, 1) := by decide +kernel
set_option maxRecDepth 20000 in
theorem ggL_rule_X5_rule : GoodIn wsL_rule wsX5_rule := goodIn_ca (goodIn_r _ [6, 7, 8, 9, 10, 11, 12, 13, 14, 15, 16, 17, 18, 19, 20, 21, 22, 23, 24, 25, 26, 27, 28, 29, 30, 31, 32, 33, 34] rfl (by decide +kernel)) (goodIn_sub (fun _ h => List.mem_cons_of_mem _ (List.mem_append_right _ h)) (by decide +kernel))
set_option maxRecDepth 20000 in
theorem gL_rule_X5_rule : GoodIn wsL_rule (wsV RL 44 RX5 yX5_rule wsX5_rule) := goodIn_app (goodIn_of _ (by decide +kernel)) ggL_rule_X5_rule
theorem dL_rule_0 : decode cL_rule 0 = .ok (.aload_n 2, 1) := by decide +kernel
theorem dL_rule_1 : decode cL_rule 1 = .ok (.iconst 0, 1) := by decide +kernel
theorem dL_rule_2 : decode cL_rule 2 = .ok (.aload_n 0, 1) := by decide +kernel
theorem dL_rule_3 : decode cL_rule 3 = .ok (.iload_n 1, 1) := by decide +kernel
theorem dL_rule_4 : decode cL_rule 4 = .ok (.invokevirtual 44, 3) := by decide +kernel
theorem dL_rule_7 : decode cL_rule 7 = .ok (.i2l, 1) := by decide +kernel
theorem dL_rule_8 : decode cL_rule 8 = .ok (.lastore, 1) := by decide +kernel
theorem dL_rule_9 : decode cL_rule 9 = .ok (.goto 6, 3) := by decide +kernel
theorem dL_rule_12 : decode cL_rule 12 = .ok (.astore_n 3, 1) := by decide +kernel
theorem dL_rule_13 : decode cL_rule 13 = .ok (.iconst 1, 1) := by decide +kernel
theorem dL_rule_14 : decode cL_rule 14 = .ok (.ireturn, 1) := by decide +kernel
theorem dL_rule_15 : decode cL_rule 15 = .ok (.iconst 0, 1) := by decide +kernel
theorem dL_rule_16 : decode cL_rule 16 = .ok (.ireturn, 1) := by decide +kernel
set_option maxRecDepth 20000 in
theorem ggL_told_X5_told : GoodIn wsL_told wsX5_told := goodIn_ca (goodIn_r _ [6, 7, 8, 9, 10, 11, 12, 13, 14, 15, 16, 17, 18, 19, 20, 21, 22, 23, 24, 25, 26, 27, 28, 29, 30, 31, 32, 33, 34, 35, 36, 37, 38, 39, 40, 41, 42, 43, 44, 45, 46, 47, 48, 49, 50, 51, 52, 53, 54, 55, 56, 57, 58, 59, 60, 61, 62, 63, 64] rfl (by decide +kernel)) (goodIn_sub (fun _ h => List.mem_cons_of_mem _ (List.mem_append_right _ h)) (by decide +kernel))
set_option maxRecDepth 20000 in
theorem gL_told_X5_told : GoodIn wsL_told (wsV RL 47 RX5 yX5_told wsX5_told) := goodIn_app (goodIn_of _ (by decide +kernel)) ggL_told_X5_told
theorem dL_told_0 : decode cL_told 0 = .ok (.aload_n 2, 1) := by decide +kernel
theorem dL_told_1 : decode cL_told 1 = .ok (.iconst 0, 1) := by decide +kernel
theorem dL_told_2 : decode cL_told 2 = .ok (.aload_n 0, 1) := by decide +kernel
theorem dL_told_3 : decode cL_told 3 = .ok (.iload_n 1, 1) := by decide +kernel
theorem dL_told_4 : decode cL_told 4 = .ok (.invokevirtual 47, 3) := by decide +kernel
theorem dL_told_7 : decode cL_told 7 = .ok (.i2l, 1) := by decide +kernel
theorem dL_told_8 : decode cL_told 8 = .ok (.lastore, 1) := by decide +kernel
theorem dL_told_9 : decode cL_told 9 = .ok (.goto 6, 3) := by decide +kernel
theorem dL_told_12 : decode cL_told 12 = .ok (.astore_n 3, 1) := by decide +kernel
theorem dL_told_13 : decode cL_told 13 = .ok (.iconst 1, 1) := by decide +kernel
theorem dL_told_14 : decode cL_told 14 = .ok (.ireturn, 1) := by decide +kernel
theorem dL_told_15 : decode cL_told 15 = .ok (.iconst 0, 1) := by decide +kernel
theorem dL_told_16 : decode cL_told 16 = .ok (.ireturn, 1) := by decide +kernel
