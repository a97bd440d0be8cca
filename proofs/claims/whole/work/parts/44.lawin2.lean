set_option maxRecDepth 20000 in
theorem lawr_4 : ∀ w ∈ wsL_law0_r4, w ∈ lw_tbl := fun w h => (goodIn_p wsL_law0_r4 [168, 172, 175, 180, 184, 429] (by decide +kernel) (by decide +kernel) w h).1
set_option maxRecDepth 20000 in
theorem lawr_5 : ∀ w ∈ wsL_law0_r5, w ∈ lw_tbl := fun w h => (goodIn_p wsL_law0_r5 [434, 425, 79, 83, 86, 438] (by decide +kernel) (by decide +kernel) w h).1
set_option maxRecDepth 20000 in
theorem lawr_6 : ∀ w ∈ wsL_law0_r6, w ∈ lw_tbl := fun w h => (goodIn_p wsL_law0_r6 [442, 191, 446, 199, 204] (by decide +kernel) (by decide +kernel) w h).1
