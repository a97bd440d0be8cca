set_option maxRecDepth 20000 in
theorem lawr_1 : ∀ w ∈ wsL_law0_r1, w ∈ lw_tbl := fun w h => (goodIn_p wsL_law0_r1 [34, 37] (by decide +kernel) (by decide +kernel) w h).1
set_option maxRecDepth 20000 in
theorem lawr_2 : ∀ w ∈ wsL_law0_r2, w ∈ lw_tbl := fun w h => (goodIn_p wsL_law0_r2 [45, 49, 384, 389] (by decide +kernel) (by decide +kernel) w h).1
set_option maxRecDepth 20000 in
theorem lawr_3 : ∀ w ∈ wsL_law0_r3, w ∈ lw_tbl := fun w h => (goodIn_p wsL_law0_r3 [392, 396, 94] (by decide +kernel) (by decide +kernel) w h).1
