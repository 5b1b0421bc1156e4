set_option maxRecDepth 20000 in
theorem inq_11 : ∀ w ∈ wsL_law0_r11, w ∈ lw_tbl := fun w h => (goodIn_p wsL_law0_r11 [408, 357, 236, 240, 244, 291] rfl (by decide +kernel) w h).1
set_option maxRecDepth 20000 in
theorem inq_12 : ∀ w ∈ wsL_law0_r12, w ∈ lw_tbl := fun w h => (goodIn_p wsL_law0_r12 [295, 299, 303, 253, 262] rfl (by decide +kernel) w h).1
