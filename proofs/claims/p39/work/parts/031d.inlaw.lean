set_option maxRecDepth 20000 in
theorem inq_7 : ∀ w ∈ wsL_law0_r7, w ∈ lw_tbl := fun w h => (goodIn_p wsL_law0_r7 [211, 232, 516, 421, 425, 429] rfl (by decide +kernel) w h).1
set_option maxRecDepth 20000 in
theorem inq_8 : ∀ w ∈ wsL_law0_r8, w ∈ lw_tbl := fun w h => (goodIn_p wsL_law0_r8 [389, 249, 258, 369, 381] rfl (by decide +kernel) w h).1
