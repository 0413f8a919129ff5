set_option maxRecDepth 20000 in
theorem ggL_law_L_cell : GoodIn wsL_law wsL_cell := goodIn_r _ [10] rfl (by decide +kernel)
set_option maxRecDepth 20000 in
theorem gL_law_L_cell : GoodIn wsL_law (va_wsS RL 50 yL_cell wsL_cell) := goodIn_app (goodIn_of _ (by decide +kernel)) ggL_law_L_cell
set_option maxRecDepth 20000 in
theorem ggL_law_X5_init : GoodIn wsL_law wsX5_init := goodIn_r _ [13, 14, 15, 16, 17, 18, 19, 20, 21, 22, 23, 24, 25, 26, 27, 28, 29, 30, 31, 32, 33, 34, 35, 36, 37, 38, 39, 40, 41, 42, 43, 44, 45, 46, 47, 48, 49, 50, 51, 52, 53, 54, 55, 56, 57, 58, 59, 60, 61, 62, 63, 64, 65, 66, 67, 68, 69, 70, 71, 72, 73, 74, 75, 76, 77, 78, 79, 80, 81, 82, 83, 84, 85, 86, 87, 88, 89, 90, 523, 524, 501, 502, 503, 504, 505, 506, 525, 526, 527, 528, 529, 530, 531, 532, 533, 534, 535, 536, 537, 538, 539, 540, 541, 542, 543, 544, 545, 546, 547, 548, 549, 550, 551] rfl (by decide +kernel)
set_option maxRecDepth 20000 in
theorem gL_law_X5_init : GoodIn wsL_law (wsX5_init) := ggL_law_X5_init
set_option maxRecDepth 20000 in
theorem ggL_law_X6_init : GoodIn wsL_law wsX6_init := goodIn_r _ [93, 94, 15, 16, 95, 41, 96, 97, 98, 99, 100, 101, 102, 507, 508, 509, 510, 511, 512, 513, 514, 515, 516, 517, 518, 519, 520, 521, 522] rfl (by decide +kernel)
set_option maxRecDepth 20000 in
theorem gL_law_X6_init : GoodIn wsL_law (wsX6_init) := ggL_law_X6_init
set_option maxRecDepth 20000 in
theorem ggL_law_L_literal : GoodIn wsL_law wsL_literal := goodIn_ca (goodIn_ca (goodIn_r _ [105, 106, 107, 108, 109, 110, 2, 111, 112, 113, 114, 115, 20, 116, 117, 118, 19, 119, 120, 121, 122, 123, 43, 124, 125, 126, 127, 42, 501, 502, 503, 504, 505, 506, 523, 524] rfl (by decide +kernel)) (goodIn_sub (fun _ h => List.mem_append_left _ (List.mem_append_left _ (List.mem_append_right _ h))) (by decide +kernel))) (goodIn_sub (fun _ h => List.mem_append_left _ (List.mem_append_right _ h)) (by decide +kernel))
set_option maxRecDepth 20000 in
theorem gL_law_L_literal : GoodIn wsL_law (va_wsS RL 61 yL_literal wsL_literal) := goodIn_app (goodIn_of _ (by decide +kernel)) ggL_law_L_literal
set_option maxRecDepth 20000 in
theorem ggL_law_X6_literal : GoodIn wsL_law wsX6_literal := goodIn_r _ [131, 132, 97, 133, 134, 135, 5, 136, 137, 138, 139, 140, 141, 507, 508, 509, 510, 511, 512, 513, 514, 515, 516, 517, 518, 519, 520, 521, 522] rfl (by decide +kernel)
set_option maxRecDepth 20000 in
theorem gL_law_X6_literal : GoodIn wsL_law (wsV RL 64 RX6 yX6_literal wsX6_literal) := goodIn_app (goodIn_of _ (by decide +kernel)) ggL_law_X6_literal
set_option maxRecDepth 20000 in
theorem ggL_law_X6_thrown : GoodIn wsL_law wsX6_thrown := goodIn_r _ [145, 141, 507, 508, 509, 510, 511, 512, 513, 514, 515, 516, 517, 518, 519, 520, 521, 522] rfl (by decide +kernel)
set_option maxRecDepth 20000 in
theorem gL_law_X6_thrown : GoodIn wsL_law (wsV RL 65 RX6 yX6_thrown wsX6_thrown) := goodIn_app (goodIn_of _ (by decide +kernel)) ggL_law_X6_thrown
set_option maxRecDepth 20000 in
theorem ggL_law_L_triple : GoodIn wsL_law wsL_triple := goodIn_ca (goodIn_ca (goodIn_r _ [148, 106, 107, 149, 150, 151, 2, 152, 112, 113, 114, 115, 24, 153, 154, 155, 156, 20, 116, 117, 118, 19, 119, 157, 158, 159, 160, 161, 162, 163, 164, 165, 43, 166, 167, 168, 23, 169, 50, 47, 48, 49, 170, 171, 172, 173, 174, 175, 176, 177, 501, 502, 503, 504, 505, 506, 523, 524, 525, 526, 527, 528] rfl (by decide +kernel)) (goodIn_sub (fun _ h => List.mem_append_left _ (List.mem_append_left _ (List.mem_append_right _ h))) (by decide +kernel))) (goodIn_sub (fun _ h => List.mem_append_left _ (List.mem_append_right _ h)) (by decide +kernel))
set_option maxRecDepth 20000 in
theorem gL_law_L_triple : GoodIn wsL_law (va_wsS RL 68 yL_triple wsL_triple) := goodIn_app (goodIn_of _ (by decide +kernel)) ggL_law_L_triple
set_option maxRecDepth 20000 in
theorem ggL_law_X6_triple : GoodIn wsL_law wsX6_triple := goodIn_r _ [181, 182, 96, 183, 184, 185, 5, 186, 187, 188, 189, 190, 133, 134, 135, 136, 191, 192, 193, 194, 132, 137, 138, 139, 140, 141, 507, 508, 509, 510, 511, 512, 513, 514, 515, 516, 517, 518, 519, 520, 521, 522] rfl (by decide +kernel)
set_option maxRecDepth 20000 in
theorem gL_law_X6_triple : GoodIn wsL_law (wsV RL 71 RX6 yX6_triple wsX6_triple) := goodIn_app (goodIn_of _ (by decide +kernel)) ggL_law_X6_triple
set_option maxRecDepth 20000 in
theorem ggL_law_L_remove : GoodIn wsL_law wsL_remove := goodIn_ca (goodIn_r _ [197, 106, 198, 199, 200, 2, 201, 112, 113, 24, 28, 153, 154, 155, 156, 20, 116, 117, 118, 19, 119, 157, 158, 159, 160, 161, 162, 163, 164, 165, 43, 166, 167, 168, 23, 169, 50, 47, 48, 49, 202, 203, 204, 205, 206, 207, 208, 27, 209, 210, 211, 212, 213, 55, 214, 215, 216, 217, 57, 56, 218, 219, 220, 221, 222, 223, 224, 225, 226, 227, 228, 229, 230, 231, 501, 502, 503, 504, 505, 506, 523, 524, 525, 526, 527, 528, 529, 530, 531] rfl (by decide +kernel)) (goodIn_sub (fun _ h => List.mem_append_left _ (List.mem_append_left _ (List.mem_append_right _ h))) (by decide +kernel))
set_option maxRecDepth 20000 in
theorem gL_law_L_remove : GoodIn wsL_law (va_wsS RL 72 yL_remove wsL_remove) := goodIn_app (goodIn_of _ (by decide +kernel)) ggL_law_L_remove
set_option maxRecDepth 20000 in
theorem ggL_law_X6_remove : GoodIn wsL_law wsX6_remove := goodIn_r _ [235, 182, 96, 187, 188, 189, 5, 190, 133, 134, 135, 136, 191, 192, 193, 194, 132, 137, 138, 139, 140, 141, 183, 184, 185, 186, 236, 237, 238, 239, 240, 241, 242, 243, 244, 245, 246, 247, 248, 249, 250, 251, 252, 253, 254, 255, 256, 102, 95, 507, 508, 509, 510, 511, 512, 513, 514, 515, 516, 517, 518, 519, 520, 521, 522] rfl (by decide +kernel)
set_option maxRecDepth 20000 in
theorem gL_law_X6_remove : GoodIn wsL_law (wsV RL 74 RX6 yX6_remove wsX6_remove) := goodIn_app (goodIn_of _ (by decide +kernel)) ggL_law_X6_remove
set_option maxRecDepth 20000 in
theorem ggL_law_X5_axioms : GoodIn wsL_law wsX5_axioms := goodIn_r _ [260, 28, 261, 262, 263, 27, 264, 55, 501, 502, 503, 504, 505, 506, 529, 530, 531] rfl (by decide +kernel)
set_option maxRecDepth 20000 in
theorem gL_law_X5_axioms : GoodIn wsL_law (wsV RL 75 RX5 yX5_axioms wsX5_axioms) := goodIn_app (goodIn_of _ (by decide +kernel)) ggL_law_X5_axioms
set_option maxRecDepth 20000 in
theorem ggL_law_X6_axioms : GoodIn wsL_law wsX6_axioms := goodIn_r _ [268, 141, 240, 507, 508, 509, 510, 511, 512, 513, 514, 515, 516, 517, 518, 519, 520, 521, 522] rfl (by decide +kernel)
set_option maxRecDepth 20000 in
theorem gL_law_X6_axioms : GoodIn wsL_law (wsV RL 79 RX6 yX6_axioms wsX6_axioms) := goodIn_app (goodIn_of _ (by decide +kernel)) ggL_law_X6_axioms
set_option maxRecDepth 20000 in
theorem ggL_law_L_count : GoodIn wsL_law wsL_count := goodIn_ca (goodIn_r _ [271, 106, 272, 273, 274, 2, 275, 112, 113, 28, 276, 277, 278, 27, 279, 56, 501, 502, 503, 504, 505, 506, 529, 530, 531] rfl (by decide +kernel)) (goodIn_sub (fun _ h => List.mem_append_left _ (List.mem_append_left _ (List.mem_append_right _ h))) (by decide +kernel))
set_option maxRecDepth 20000 in
theorem gL_law_L_count : GoodIn wsL_law (va_wsS RL 80 yL_count wsL_count) := goodIn_app (goodIn_of _ (by decide +kernel)) ggL_law_L_count
set_option maxRecDepth 20000 in
theorem ggL_law_X6_count : GoodIn wsL_law wsX6_count := goodIn_r _ [283, 95, 137, 138, 139, 5, 140, 141, 507, 508, 509, 510, 511, 512, 513, 514, 515, 516, 517, 518, 519, 520, 521, 522] rfl (by decide +kernel)
set_option maxRecDepth 20000 in
theorem gL_law_X6_count : GoodIn wsL_law (wsV RL 83 RX6 yX6_count wsX6_count) := goodIn_app (goodIn_of _ (by decide +kernel)) ggL_law_X6_count
