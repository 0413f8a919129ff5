set_option maxRecDepth 20000 in
theorem ggL_law_X6_run : GoodIn wsL_law wsX6_run := goodIn_r _ [369, 141, 370, 371, 100, 240, 182, 96, 99, 372, 102, 95, 373, 98, 241, 242, 243, 5, 244, 245, 246, 247, 248, 249, 250, 251, 252, 253, 254, 255, 256, 374, 375, 376, 377, 378, 379, 380, 381, 382, 383, 384, 385, 386, 387, 388, 97, 389, 390, 391, 392, 137, 138, 139, 140, 507, 508, 509, 510, 511, 512, 513, 514, 515, 516, 517, 518, 519, 520, 521, 522] rfl (by decide +kernel)
set_option maxRecDepth 20000 in
theorem gL_law_X6_run : GoodIn wsL_law (wsV RL 87 RX6 yX6_run wsX6_run) := goodIn_app (goodIn_of _ (by decide +kernel)) ggL_law_X6_run
