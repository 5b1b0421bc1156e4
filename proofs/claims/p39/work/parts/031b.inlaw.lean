set_option maxRecDepth 20000 in
theorem inq_3 : ∀ w ∈ wsL_law0_r3, w ∈ lw_tbl := fun w h => (goodIn_p wsL_law0_r3 [478, 474, 482, 495, 486] rfl (by decide +kernel) w h).1
set_option maxRecDepth 20000 in
theorem inq_4 : ∀ w ∈ wsL_law0_r4, w ∈ lw_tbl := fun w h => (goodIn_p wsL_law0_r4 [490, 417, 500, 170] rfl (by decide +kernel) w h).1
