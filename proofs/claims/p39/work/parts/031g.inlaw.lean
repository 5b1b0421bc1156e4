set_option maxRecDepth 20000 in
theorem inq_13 : ∀ w ∈ wsL_law0_r13, w ∈ lw_tbl := fun w h => (goodIn_p wsL_law0_r13 [266, 270, 279, 283, 287, 307] rfl (by decide +kernel) w h).1
set_option maxRecDepth 20000 in
theorem inq_14 : ∀ w ∈ wsL_law0_r14, w ∈ lw_tbl := fun w h => (goodIn_p wsL_law0_r14 [315, 319, 373, 361, 365] rfl (by decide +kernel) w h).1
