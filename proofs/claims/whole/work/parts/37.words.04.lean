set_option maxRecDepth 20000 in
theorem wsL_law0_r33_in : ∀ w ∈ wsL_law0_r33, w ∈ lw_tbl := fun w h => (goodIn_p wsL_law0_r33 [793, 797, 800, 1018, 1022, 1025] (by decide +kernel) (by decide +kernel) w h).1
set_option maxRecDepth 20000 in
theorem wsL_law0_r34_in : ∀ w ∈ wsL_law0_r34, w ∈ lw_tbl := fun w h => (goodIn_p wsL_law0_r34 [1028, 1032, 1036, 1039, 1043] (by decide +kernel) (by decide +kernel) w h).1
theorem inWX4 : ∀ w ∈ wsX40, w ∈ lw_tbl := by decide +kernel
theorem inWX5 : ∀ w ∈ wsX50, w ∈ lw_tbl := by decide +kernel
theorem inWJx4a65c : ∀ w ∈ wsJx4a65c0, w ∈ lw_tbl := by decide +kernel
theorem inWX2 : ∀ w ∈ wsX20, w ∈ lw_tbl := by decide +kernel
theorem inWX1 : ∀ w ∈ wsX10, w ∈ lw_tbl := by decide +kernel
theorem inWX3 : ∀ w ∈ wsX30, w ∈ lw_tbl := by decide +kernel
