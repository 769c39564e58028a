set_option maxRecDepth 20000 in
theorem kw_wsL_law0_r1 : ∀ w ∈ wsL_law0_r1, w ∈ lw_tbl := fun w h => (goodIn_r (big := lw_tbl) wsL_law0_r1 [16, 17, 3, 52, 317, 18, 19, 20, 21, 22, 23, 24, 25, 4, 105, 106, 109, 103, 110, 104, 111, 83, 84, 6] (by decide +kernel) (by decide +kernel) w h).1
set_option maxRecDepth 20000 in
theorem kw_wsL_law0_r2 : ∀ w ∈ wsL_law0_r2, w ∈ lw_tbl := fun w h => (goodIn_r (big := lw_tbl) wsL_law0_r2 [113, 26, 27, 28, 29, 55, 57, 59, 61, 63, 30, 31, 5, 65, 32, 33, 34, 35, 36, 85, 86, 87, 88, 89] (by decide +kernel) (by decide +kernel) w h).1
set_option maxRecDepth 20000 in
theorem kw_wsL_law0_r3 : ∀ w ∈ wsL_law0_r3, w ∈ lw_tbl := fun w h => (goodIn_r (big := lw_tbl) wsL_law0_r3 [133, 134, 2, 135, 136, 137, 138, 139, 140, 141, 234, 235, 236, 237, 630, 631, 632, 633, 634, 495, 496, 497, 244, 284] (by decide +kernel) (by decide +kernel) w h).1
set_option maxRecDepth 20000 in
theorem kw_wsL_law0_r4 : ∀ w ∈ wsL_law0_r4, w ∈ lw_tbl := fun w h => (goodIn_r (big := lw_tbl) wsL_law0_r4 [498, 499, 500, 501, 252, 12, 54, 60, 64, 62, 66, 38, 40, 42, 108, 112, 502, 384, 385, 386, 377, 485, 486, 487] (by decide +kernel) (by decide +kernel) w h).1
set_option maxRecDepth 20000 in
theorem kw_wsL_law0_r5 : ∀ w ∈ wsL_law0_r5, w ∈ lw_tbl := fun w h => (goodIn_r (big := lw_tbl) wsL_law0_r5 [488, 366, 367, 368, 369, 53, 370, 371, 372, 373, 374, 375, 376, 489, 490, 7, 491, 492, 493, 494, 503, 504, 505, 506] (by decide +kernel) (by decide +kernel) w h).1
