set_option maxRecDepth 20000 in
theorem inq_9 : ∀ w ∈ wsL_law0_r9, w ∈ lw_tbl := fun w h => (goodIn_p wsL_law0_r9 [377, 385, 311, 349, 344, 340] rfl (by decide +kernel) w h).1
set_option maxRecDepth 20000 in
theorem inq_10 : ∀ w ∈ wsL_law0_r10, w ∈ lw_tbl := fun w h => (goodIn_p wsL_law0_r10 [323, 328, 332, 400, 275, 404] rfl (by decide +kernel) w h).1
