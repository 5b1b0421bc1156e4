set_option maxRecDepth 20000 in
theorem inq_5 : ∀ w ∈ wsL_law0_r5, w ∈ lw_tbl := fun w h => (goodIn_p wsL_law0_r5 [174, 412, 94, 98, 506, 336] rfl (by decide +kernel) w h).1
set_option maxRecDepth 20000 in
theorem inq_6 : ∀ w ∈ wsL_law0_r6, w ∈ lw_tbl := fun w h => (goodIn_p wsL_law0_r6 [178, 200, 204, 512] rfl (by decide +kernel) w h).1
