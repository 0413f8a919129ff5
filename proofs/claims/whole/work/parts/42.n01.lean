set_option maxRecDepth 20000 in
theorem wsL_law0_r8_in : ∀ w ∈ wsL_law0_r8, w ∈ lw_tbl := in_r [352, 353, 354, 355, 356, 357, 359, 360, 361, 362, 649, 650, 651, 652, 588, 653, 655, 18, 656, 657, 659, 19, 660, 661] rfl
set_option maxRecDepth 20000 in
theorem wsL_law0_r9_in : ∀ w ∈ wsL_law0_r9, w ∈ lw_tbl := in_r [663, 20, 664, 363, 364, 365, 366, 367, 368, 369, 370, 371, 372, 373, 374, 375, 376, 377, 378, 380, 3, 381, 382, 383] rfl
set_option maxRecDepth 20000 in
theorem wsL_law0_r10_in : ∀ w ∈ wsL_law0_r10, w ∈ lw_tbl := in_r [384, 385, 386, 388, 4, 389, 390, 392, 394, 5, 395, 396, 398, 400, 6, 401, 665, 666, 667, 668, 669, 671, 21, 672] rfl
set_option maxRecDepth 20000 in
theorem wsL_law0_r11_in : ∀ w ∈ wsL_law0_r11, w ∈ lw_tbl := in_r [586, 673, 675, 22, 676, 677, 678, 679, 680, 681, 682, 683, 684, 685, 686, 687, 688, 200, 201, 202, 203, 204, 205, 206] rfl
set_option maxRecDepth 20000 in
theorem wsL_law0_r12_in : ∀ w ∈ wsL_law0_r12, w ∈ lw_tbl := in_r [207, 689, 690, 691, 692, 402, 403, 404, 405, 406, 407, 408, 410, 411, 412, 413, 693, 694, 695, 696, 414, 415, 416, 417] rfl
set_option maxRecDepth 20000 in
theorem wsL_law0_r13_in : ∀ w ∈ wsL_law0_r13, w ∈ lw_tbl := in_r [418, 419, 420, 421, 486, 42, 422, 423, 424, 425, 426, 427, 428, 429, 430, 431, 432, 433, 434, 216, 218, 0, 219, 220] rfl
set_option maxRecDepth 20000 in
theorem wsL_law0_r14_in : ∀ w ∈ wsL_law0_r14, w ∈ lw_tbl := in_r [435, 436, 437, 438, 439, 440, 441, 442, 443, 444, 445, 446, 447, 448, 449, 450, 451, 452, 454, 7, 455, 456, 458, 8] rfl
