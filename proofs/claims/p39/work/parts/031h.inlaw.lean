set_option maxRecDepth 20000 in
theorem inq_15 : ∀ w ∈ wsL_law0_r15, w ∈ lw_tbl := fun w h => (goodIn_p wsL_law0_r15 [433, 437, 443] rfl (by decide +kernel) w h).1
set_option maxRecDepth 20000 in
theorem inq_16 : ∀ w ∈ wsL_law0_r16, w ∈ lw_tbl := fun w h => (goodIn_p wsL_law0_r16 [458, 465] rfl (by decide +kernel) w h).1
