set_option maxRecDepth 20000 in
theorem kw_wsL_law0_r6 : ∀ w ∈ wsL_law0_r6, w ∈ lw_tbl := fun w h => (goodIn_r (big := lw_tbl) wsL_law0_r6 [507, 508, 509, 510, 511, 512, 513, 514, 515, 342, 343, 8, 344, 516, 517, 518, 519, 520, 521, 346, 347, 348, 349, 350] (by decide +kernel) (by decide +kernel) w h).1
set_option maxRecDepth 20000 in
theorem kw_wsL_law0_r7 : ∀ w ∈ wsL_law0_r7, w ∈ lw_tbl := fun w h => (goodIn_r (big := lw_tbl) wsL_law0_r7 [351, 352, 338, 339, 340, 341, 535, 536, 537, 538, 539, 540, 541, 543, 544, 545, 546, 37, 547, 587, 588, 589, 288, 590] (by decide +kernel) (by decide +kernel) w h).1
set_option maxRecDepth 20000 in
theorem kw_wsL_law0_r8 : ∀ w ∈ wsL_law0_r8, w ∈ lw_tbl := fun w h => (goodIn_r (big := lw_tbl) wsL_law0_r8 [591, 592, 593, 296, 13, 56, 58, 595, 325, 326, 327, 328, 594, 345, 596, 238, 239, 240, 241, 242, 243, 145, 233, 245] (by decide +kernel) (by decide +kernel) w h).1
set_option maxRecDepth 20000 in
theorem kw_wsL_law0_r9 : ∀ w ∈ wsL_law0_r9, w ∈ lw_tbl := fun w h => (goodIn_r (big := lw_tbl) wsL_law0_r9 [246, 247, 248, 150, 14, 249, 250, 251, 268, 269, 270, 271, 273, 275, 1, 276, 107, 277, 278, 279, 218, 219, 220, 221] (by decide +kernel) (by decide +kernel) w h).1
set_option maxRecDepth 20000 in
theorem kw_wsL_law0_r10 : ∀ w ∈ wsL_law0_r10, w ∈ lw_tbl := fun w h => (goodIn_r (big := lw_tbl) wsL_law0_r10 [222, 223, 224, 225, 227, 226, 15, 228, 229, 230, 231, 232, 39, 41, 280, 281, 282, 283, 285, 286, 287, 289, 290, 291] (by decide +kernel) (by decide +kernel) w h).1
