set_option maxRecDepth 100000 in
theorem wsL_law0_r13_in : ∀ w ∈ wsL_law0_r13, w ∈ lw_tbl := fun w h => (goodIn_p wsL_law0_r13 [260, 271, 649, 653, 657, 661] rfl (by decide +kernel) w h).1
set_option maxRecDepth 100000 in
theorem wsL_law0_r14_in : ∀ w ∈ wsL_law0_r14, w ∈ lw_tbl := fun w h => (goodIn_p wsL_law0_r14 [665, 669, 673, 276, 280, 677] rfl (by decide +kernel) w h).1
set_option maxRecDepth 100000 in
theorem wsL_law0_r15_in : ∀ w ∈ wsL_law0_r15, w ∈ lw_tbl := fun w h => (goodIn_p wsL_law0_r15 [681, 284, 685, 288, 689, 292] rfl (by decide +kernel) w h).1
set_option maxRecDepth 100000 in
theorem wsL_law0_r16_in : ∀ w ∈ wsL_law0_r16, w ∈ lw_tbl := fun w h => (goodIn_p wsL_law0_r16 [296, 300, 693, 697, 305] rfl (by decide +kernel) w h).1
set_option maxRecDepth 100000 in
theorem wsL_law0_r17_in : ∀ w ∈ wsL_law0_r17, w ∈ lw_tbl := fun w h => (goodIn_p wsL_law0_r17 [309, 701, 495, 705, 502] rfl (by decide +kernel) w h).1
set_option maxRecDepth 100000 in
theorem wsL_law0_r18_in : ∀ w ∈ wsL_law0_r18, w ∈ lw_tbl := fun w h => (goodIn_p wsL_law0_r18 [506, 709, 514, 713] rfl (by decide +kernel) w h).1
