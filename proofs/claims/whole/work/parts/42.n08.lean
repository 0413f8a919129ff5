set_option maxRecDepth 20000 in
theorem ggL_law_L_closed : GoodIn wsL_law wsL_closed := goodIn_ca (goodIn_r _ [395, 106, 396, 397, 398, 2, 399, 112, 113, 32, 400, 401, 402, 31, 403, 72, 404, 405, 406, 407, 62, 63, 64, 65, 66, 67, 68, 501, 502, 503, 504, 505, 506, 532, 533, 534, 535, 536, 537, 538, 539, 540, 541, 542, 543] rfl (by decide +kernel)) (goodIn_sub (fun _ h => List.mem_append_left _ (List.mem_append_left _ (List.mem_append_right _ h))) (by decide +kernel))
set_option maxRecDepth 20000 in
theorem gL_law_L_closed : GoodIn wsL_law (va_wsS RL 88 yL_closed wsL_closed) := goodIn_app (goodIn_of _ (by decide +kernel)) ggL_law_L_closed
set_option maxRecDepth 20000 in
theorem ggL_law_X6_closed : GoodIn wsL_law wsX6_closed := goodIn_r _ [411, 372, 98, 137, 138, 139, 5, 140, 141, 507, 508, 509, 510, 511, 512, 513, 514, 515, 516, 517, 518, 519, 520, 521, 522] rfl (by decide +kernel)
set_option maxRecDepth 20000 in
theorem gL_law_X6_closed : GoodIn wsL_law (wsV RL 91 RX6 yX6_closed wsX6_closed) := goodIn_app (goodIn_of _ (by decide +kernel)) ggL_law_X6_closed
set_option maxRecDepth 20000 in
theorem ggL_law_X5_find : GoodIn wsL_law wsX5_find := goodIn_r _ [415, 32, 416, 417, 418, 31, 419, 69, 307, 308, 309, 310, 311, 62, 63, 64, 501, 502, 503, 504, 505, 506, 532, 533, 534, 535, 536, 537, 538, 539, 540, 541, 542, 543] rfl (by decide +kernel)
set_option maxRecDepth 20000 in
theorem gL_law_X5_find : GoodIn wsL_law (wsV RL 92 RX5 yX5_find wsX5_find) := goodIn_app (goodIn_of _ (by decide +kernel)) ggL_law_X5_find
set_option maxRecDepth 20000 in
theorem ggL_law_X6_find : GoodIn wsL_law wsX6_find := goodIn_r _ [423, 141, 372, 98, 507, 508, 509, 510, 511, 512, 513, 514, 515, 516, 517, 518, 519, 520, 521, 522] rfl (by decide +kernel)
set_option maxRecDepth 20000 in
theorem gL_law_X6_find : GoodIn wsL_law (wsV RL 95 RX6 yX6_find wsX6_find) := goodIn_app (goodIn_of _ (by decide +kernel)) ggL_law_X6_find
set_option maxRecDepth 20000 in
theorem ggL_law_L_trace : GoodIn wsL_law wsL_trace := goodIn_ca (goodIn_r _ [426, 106, 427, 428, 429, 2, 430, 112, 113, 32, 400, 401, 402, 31, 403, 72, 431, 432, 433, 434, 71, 435, 436, 437, 438, 66, 67, 439, 440, 441, 442, 501, 502, 503, 504, 505, 506, 532, 533, 534, 535, 536, 537, 538, 539, 540, 541, 542, 543] rfl (by decide +kernel)) (goodIn_sub (fun _ h => List.mem_append_left _ (List.mem_append_left _ (List.mem_append_right _ h))) (by decide +kernel))
set_option maxRecDepth 20000 in
theorem gL_law_L_trace : GoodIn wsL_law (va_wsS RL 96 yL_trace wsL_trace) := goodIn_app (goodIn_of _ (by decide +kernel)) ggL_law_L_trace
set_option maxRecDepth 20000 in
theorem ggL_law_X6_trace : GoodIn wsL_law wsX6_trace := goodIn_r _ [446, 372, 137, 138, 139, 5, 140, 141, 447, 448, 449, 450, 101, 98, 507, 508, 509, 510, 511, 512, 513, 514, 515, 516, 517, 518, 519, 520, 521, 522] rfl (by decide +kernel)
set_option maxRecDepth 20000 in
theorem gL_law_X6_trace : GoodIn wsL_law (wsV RL 98 RX6 yX6_trace wsX6_trace) := goodIn_app (goodIn_of _ (by decide +kernel)) ggL_law_X6_trace
set_option maxRecDepth 20000 in
theorem ggL_law_L_proof : GoodIn wsL_law wsL_proof := goodIn_ca (goodIn_r _ [453, 106, 454, 455, 456, 2, 457, 112, 113, 32, 400, 401, 402, 31, 403, 72, 458, 459, 460, 461, 71, 435, 436, 437, 438, 66, 67, 439, 440, 441, 442, 501, 502, 503, 504, 505, 506, 532, 533, 534, 535, 536, 537, 538, 539, 540, 541, 542, 543] rfl (by decide +kernel)) (goodIn_sub (fun _ h => List.mem_append_left _ (List.mem_append_left _ (List.mem_append_right _ h))) (by decide +kernel))
set_option maxRecDepth 20000 in
theorem gL_law_L_proof : GoodIn wsL_law (va_wsS RL 99 yL_proof wsL_proof) := goodIn_app (goodIn_of _ (by decide +kernel)) ggL_law_L_proof
set_option maxRecDepth 20000 in
theorem ggL_law_X6_proof : GoodIn wsL_law wsX6_proof := goodIn_r _ [465, 372, 101, 137, 138, 139, 5, 140, 141, 447, 448, 449, 450, 98, 507, 508, 509, 510, 511, 512, 513, 514, 515, 516, 517, 518, 519, 520, 521, 522] rfl (by decide +kernel)
set_option maxRecDepth 20000 in
theorem gL_law_X6_proof : GoodIn wsL_law (wsV RL 101 RX6 yX6_proof wsX6_proof) := goodIn_app (goodIn_of _ (by decide +kernel)) ggL_law_X6_proof
set_option maxRecDepth 20000 in
theorem ggL_law_L_rule : GoodIn wsL_law wsL_rule := goodIn_ca (goodIn_r _ [468, 106, 469, 470, 471, 2, 472, 112, 113, 32, 473, 474, 475, 31, 476, 72, 65, 501, 502, 503, 504, 505, 506, 532, 533, 534, 535, 536, 537, 538, 539, 540, 541, 542, 543] rfl (by decide +kernel)) (goodIn_sub (fun _ h => List.mem_append_left _ (List.mem_append_left _ (List.mem_append_right _ h))) (by decide +kernel))
set_option maxRecDepth 20000 in
theorem gL_law_L_rule : GoodIn wsL_law (va_wsS RL 102 yL_rule wsL_rule) := goodIn_app (goodIn_of _ (by decide +kernel)) ggL_law_L_rule
set_option maxRecDepth 20000 in
theorem ggL_law_X6_rule : GoodIn wsL_law wsX6_rule := goodIn_r _ [480, 372, 98, 137, 138, 139, 5, 140, 141, 507, 508, 509, 510, 511, 512, 513, 514, 515, 516, 517, 518, 519, 520, 521, 522] rfl (by decide +kernel)
set_option maxRecDepth 20000 in
theorem gL_law_X6_rule : GoodIn wsL_law (wsV RL 104 RX6 yX6_rule wsX6_rule) := goodIn_app (goodIn_of _ (by decide +kernel)) ggL_law_X6_rule
set_option maxRecDepth 20000 in
theorem ggL_law_L_told : GoodIn wsL_law wsL_told := goodIn_ca (goodIn_r _ [483, 106, 484, 485, 486, 2, 487, 112, 113, 32, 24, 20, 488, 322, 323, 31, 324, 72, 170, 171, 172, 23, 173, 50, 120, 121, 122, 19, 123, 43, 489, 490, 491, 492, 62, 493, 494, 495, 496, 63, 74, 501, 502, 503, 504, 505, 506, 532, 533, 534, 535, 536, 537, 538, 539, 540, 541, 542, 543, 525, 526, 527, 528, 523, 524] rfl (by decide +kernel)) (goodIn_sub (fun _ h => List.mem_append_left _ (List.mem_append_left _ (List.mem_append_right _ h))) (by decide +kernel))
set_option maxRecDepth 20000 in
theorem gL_law_L_told : GoodIn wsL_law (va_wsS RL 105 yL_told wsL_told) := goodIn_app (goodIn_of _ (by decide +kernel)) ggL_law_L_told
set_option maxRecDepth 20000 in
theorem ggL_law_X6_told : GoodIn wsL_law wsX6_told := goodIn_r _ [500, 372, 182, 132, 98, 373, 137, 138, 139, 5, 140, 141, 507, 508, 509, 510, 511, 512, 513, 514, 515, 516, 517, 518, 519, 520, 521, 522] rfl (by decide +kernel)
set_option maxRecDepth 20000 in
theorem gL_law_X6_told : GoodIn wsL_law (wsV RL 107 RX6 yX6_told wsX6_told) := goodIn_app (goodIn_of _ (by decide +kernel)) ggL_law_X6_told
