theorem kApp {α : Type} {P : α → Prop} {a b : List α} (ha : ∀ w ∈ a, P w) (hb : ∀ w ∈ b, P w) : ∀ w ∈ a ++ b, P w := List.forall_mem_append.mpr ⟨ha, hb⟩
set_option maxRecDepth 100000 in
theorem wsL_law0_r1_in : ∀ w ∈ wsL_law0_r1, w ∈ lw_tbl := fun w h => (goodIn_p wsL_law0_r1 [332, 46, 49] rfl (by decide +kernel) w h).1
set_option maxRecDepth 100000 in
theorem wsL_law0_r2_in : ∀ w ∈ wsL_law0_r2, w ∈ lw_tbl := fun w h => (goodIn_p wsL_law0_r2 [145, 148, 54] rfl (by decide +kernel) w h).1
set_option maxRecDepth 100000 in
theorem wsL_law0_r3_in : ∀ w ∈ wsL_law0_r3, w ∈ lw_tbl := fun w h => (goodIn_p wsL_law0_r3 [83, 89, 151] rfl (by decide +kernel) w h).1
set_option maxRecDepth 100000 in
theorem wsL_law0_r4_in : ∀ w ∈ wsL_law0_r4, w ∈ lw_tbl := fun w h => (goodIn_p wsL_law0_r4 [540, 545] rfl (by decide +kernel) w h).1
set_option maxRecDepth 100000 in
theorem wsL_law0_r5_in : ∀ w ∈ wsL_law0_r5, w ∈ lw_tbl := fun w h => (goodIn_p wsL_law0_r5 [549, 342] rfl (by decide +kernel) w h).1
set_option maxRecDepth 100000 in
theorem wsL_law0_r6_in : ∀ w ∈ wsL_law0_r6, w ∈ lw_tbl := fun w h => (goodIn_p wsL_law0_r6 [345, 348, 351, 449, 329] rfl (by decide +kernel) w h).1
