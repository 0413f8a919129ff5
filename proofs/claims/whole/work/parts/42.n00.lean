theorem in_r {big ws : List Cond} (ps : List Nat) (hp : ws = ps.filterMap (fun i => big[i]?)) : ∀ w ∈ ws, w ∈ big := by
  intro w hw
  rw [hp] at hw
  obtain ⟨i, -, hi⟩ := List.mem_filterMap.mp hw
  first | exact List.mem_of_getElem? hi | exact List.getElem?_mem hi
theorem in_app {big a b : List Cond} (ha : ∀ w ∈ a, w ∈ big) (hb : ∀ w ∈ b, w ∈ big) : ∀ w ∈ a ++ b, w ∈ big := fun w h => (List.mem_append.mp h).elim (ha w) (hb w)
set_option maxRecDepth 20000 in
theorem wsL_law0_r1_in : ∀ w ∈ wsL_law0_r1, w ∈ lw_tbl := in_r [43, 44, 29, 578, 579, 36, 748, 221, 222, 28, 223, 45, 46, 47, 48, 49, 50, 51, 52, 30, 181, 65, 66, 31] rfl
set_option maxRecDepth 20000 in
theorem wsL_law0_r2_in : ∀ w ∈ wsL_law0_r2, w ∈ lw_tbl := in_r [182, 84, 85, 32, 183, 100, 101, 33, 185, 186, 150, 151, 35, 184, 54, 55, 56, 64, 57, 58, 68, 69, 70, 71] rfl
set_option maxRecDepth 20000 in
theorem wsL_law0_r3_in : ∀ w ∈ wsL_law0_r3, w ∈ lw_tbl := in_r [72, 73, 74, 86, 87, 88, 89, 91, 92, 90, 102, 103, 104, 105, 109, 111, 113, 115, 116, 117, 118, 119, 149, 120] rfl
set_option maxRecDepth 20000 in
theorem wsL_law0_r4_in : ∀ w ∈ wsL_law0_r4, w ∈ lw_tbl := in_r [121, 122, 123, 106, 107, 34, 108, 152, 153, 154, 155, 158, 159, 160, 161, 162, 163, 156, 157, 580, 581, 582, 583, 587] rfl
set_option maxRecDepth 20000 in
theorem wsL_law0_r5_in : ∀ w ∈ wsL_law0_r5, w ∈ lw_tbl := in_r [589, 591, 593, 596, 597, 599, 585, 224, 225, 226, 227, 228, 229, 230, 231, 232, 237, 40, 309, 41, 233, 234, 235, 236] rfl
set_option maxRecDepth 20000 in
theorem wsL_law0_r6_in : ∀ w ∈ wsL_law0_r6, w ∈ lw_tbl := in_r [305, 306, 307, 308, 325, 326, 327, 328, 637, 638, 639, 640, 590, 641, 643, 16, 644, 645, 647, 17, 648, 584, 633, 634] rfl
set_option maxRecDepth 20000 in
theorem wsL_law0_r7_in : ∀ w ∈ wsL_law0_r7, w ∈ lw_tbl := in_r [635, 636, 329, 330, 331, 332, 333, 334, 335, 336, 338, 2, 339, 340, 341, 342, 343, 344, 345, 346, 347, 348, 350, 351] rfl
