set_option maxRecDepth 20000 in
theorem lawX0 : ∀ w ∈ wsX00, w ∈ lw_tbl := by decide +kernel
set_option maxRecDepth 20000 in
theorem lawX1 : ∀ w ∈ wsX10, w ∈ lw_tbl := by decide +kernel
theorem mem_or {p : Cond → Prop} {a b : List Cond} (h1 : ∀ w ∈ a, p w) (h2 : ∀ w ∈ b, p w) : ∀ w ∈ a ++ b, p w := fun w h => (List.mem_append.mp h).elim (h1 w) (h2 w)
theorem wsL_law_in0 : ∀ w ∈ wsL_law0, w ∈ lw_tbl := mem_or (mem_or (mem_or (mem_or lawr_1 (mem_or lawr_2 (mem_or lawr_3 (mem_or lawr_4 (mem_or lawr_5 (mem_or lawr_6 (mem_or lawr_7 (mem_or lawr_8 (mem_or lawr_9 (mem_or lawr_10 (mem_or lawr_11 (mem_or lawr_12 (mem_or lawr_13 (mem_or lawr_14 lawr_15)))))))))))))) lawX0) lawX1) (fun _ h => nomatch h)
set_option maxRecDepth 20000 in
theorem wsL_law_x0 : ∀ w ∈ (vx_atS RX0 51 "java/lang/IllegalArgumentException" ["java/lang/RuntimeException", "java/lang/Exception"]).filter goodWord, w ∈ lw_tbl := by decide +kernel
set_option maxRecDepth 20000 in
theorem wsL_law_x1 : ∀ w ∈ (vx_atS RX0 150 "java/lang/IndexOutOfBoundsException" ["java/lang/RuntimeException", "java/lang/Exception"]).filter goodWord, w ∈ lw_tbl := by decide +kernel
set_option maxRecDepth 20000 in
theorem wsL_law_x2 : ∀ w ∈ (vx_atS RX0 111 "java/lang/UnsupportedOperationException" ["java/lang/RuntimeException", "java/lang/Exception"]).filter goodWord, w ∈ lw_tbl := by decide +kernel
set_option maxRecDepth 20000 in
theorem wsL_law_in : ∀ w ∈ wsL_law, w ∈ lw_tbl := fun w h => (List.mem_append.mp h).elim (fun h => (List.mem_append.mp h).elim (fun h => (List.mem_append.mp h).elim (fun h => wsL_law_in0 w h) (fun h => wsL_law_x0 w h)) (fun h => wsL_law_x1 w h)) (fun h => wsL_law_x2 w h)
