set_option maxRecDepth 20000 in
theorem inq_1 : ∀ w ∈ wsL_law0_r1, w ∈ lw_tbl := fun w h => (goodIn_p wsL_law0_r1 [207, 353, 34, 37] rfl (by decide +kernel) w h).1
set_option maxRecDepth 20000 in
theorem inq_2 : ∀ w ∈ wsL_law0_r2, w ∈ lw_tbl := fun w h => (goodIn_p wsL_law0_r2 [520, 525] rfl (by decide +kernel) w h).1
