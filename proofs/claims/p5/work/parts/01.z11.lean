set_option maxRecDepth 20000 in
theorem ggX5_goTo_X5_isDone : GoodIn wsX5_goTo wsX5_isDone := goodIn_r _ [24, 18, 17, 25, 26, 20, 3, 27, 16, 14, 4, 28, 19, 29, 30, 31, 8, 32, 33, 42, 43, 44, 45, 46, 47, 48, 49, 50, 51, 52, 53, 54, 55, 56, 57, 58, 59, 60, 61, 62, 63, 64] rfl (by decide +kernel)
set_option maxRecDepth 20000 in
theorem gX5_goTo_X5_isDone : GoodIn wsX5_goTo (wsV RX5 99 RX5 yX5_isDone wsX5_isDone) := goodIn_app (goodIn_of _ (by decide +kernel)) ggX5_goTo_X5_isDone
set_option maxRecDepth 20000 in
theorem ggX5_goTo_X5_keep : GoodIn wsX5_goTo wsX5_keep := goodIn_r _ [37, 3, 38, 39, 40, 41, 42, 43, 44, 45, 46, 47, 48, 49, 50, 51, 52, 53, 54, 55, 56, 57, 58, 59, 60, 61, 62, 63, 64] rfl (by decide +kernel)
set_option maxRecDepth 20000 in
theorem gX5_goTo_X5_keep : GoodIn wsX5_goTo (wsV RX5 103 RX5 yX5_keep wsX5_keep) := goodIn_app (goodIn_of _ (by decide +kernel)) ggX5_goTo_X5_keep
set_option maxRecDepth 20000 in
theorem ggX5_local_X5_isLocal : GoodIn wsX5_local wsX5_isLocal := goodIn_r _ [7] rfl (by decide +kernel)
set_option maxRecDepth 20000 in
theorem gX5_local_X5_isLocal : GoodIn wsX5_local (va_wsS RX5 85 yX5_isLocal wsX5_isLocal) := goodIn_app (goodIn_of _ (by decide +kernel)) ggX5_local_X5_isLocal
set_option maxRecDepth 20000 in
theorem ggX5_clear_X5_anew : GoodIn wsX5_clear wsX5_anew := goodIn_r _ [9, 10, 11, 12, 13, 14, 15, 16, 17, 18, 8, 19, 20, 3, 21, 22, 23, 24, 25, 26, 27, 28, 29, 30, 31, 32, 33, 34, 35, 36, 37, 38, 39, 40, 41, 42, 43, 44, 45, 46, 47, 48, 49, 50] rfl (by decide +kernel)
set_option maxRecDepth 20000 in
theorem gX5_clear_X5_anew : GoodIn wsX5_clear (wsV RX5 48 RX5 yX5_anew wsX5_anew) := goodIn_app (goodIn_of _ (by decide +kernel)) ggX5_clear_X5_anew
set_option maxRecDepth 20000 in
theorem ggL_line_X4_line : GoodIn wsL_line wsX4_line := goodIn_ca (goodIn_ca (goodIn_ca (goodIn_r _ [8, 9, 10, 11, 12, 13, 14, 15, 16, 17, 18, 19, 20, 21, 22, 23, 24, 25, 26, 27, 7, 28, 29, 30, 31, 32, 33, 34, 35, 36, 37, 38, 39, 40, 41, 42, 43, 44, 45, 46, 47, 48, 49, 50, 51, 52, 53, 54, 55, 56, 57, 58, 59, 60, 61, 62, 63, 64, 65, 66, 67, 68, 69, 70, 71, 72, 73, 74, 75, 76, 77, 78, 79, 80, 81, 82, 83, 84, 85] rfl (by decide +kernel)) (goodIn_sub (fun _ h => List.mem_cons_of_mem _ (List.mem_append_left _ (List.mem_append_left _ (List.mem_append_right _ h)))) (by decide +kernel))) (goodIn_sub (fun _ h => List.mem_cons_of_mem _ (List.mem_append_left _ (List.mem_append_right _ h))) (by decide +kernel))) (goodIn_sub (fun _ h => List.mem_cons_of_mem _ (List.mem_append_right _ h)) (by decide +kernel))
set_option maxRecDepth 20000 in
theorem gL_line_X4_line : GoodIn wsL_line (wsV RL 7 RX4 yX4_line wsX4_line) := goodIn_app (goodIn_of _ (by decide +kernel)) ggL_line_X4_line
set_option maxRecDepth 20000 in
theorem ggL_poke_X4_poke : GoodIn wsL_poke wsX4_poke := goodIn_ca (goodIn_ca (goodIn_r _ [7, 8, 9, 10, 11, 12, 13, 14, 15, 16, 17, 6, 18, 19, 20, 21, 22, 23, 24, 25, 26, 27, 28, 29, 30, 31, 32, 33, 34, 35, 36, 37, 38, 39, 40, 41, 42, 43, 44, 45, 46, 47, 48, 49, 50, 51, 52, 53, 54, 55, 56, 57, 58, 59, 60, 61, 62] rfl (by decide +kernel)) (goodIn_sub (fun _ h => List.mem_cons_of_mem _ (List.mem_append_left _ (List.mem_append_right _ h))) (by decide +kernel))) (goodIn_sub (fun _ h => List.mem_cons_of_mem _ (List.mem_append_right _ h)) (by decide +kernel))
set_option maxRecDepth 20000 in
theorem gL_poke_X4_poke : GoodIn wsL_poke (wsV RL 19 RX4 yX4_poke wsX4_poke) := goodIn_app (goodIn_of _ (by decide +kernel)) ggL_poke_X4_poke
set_option maxRecDepth 20000 in
theorem ggL_mark_X4_mark : GoodIn wsL_mark wsX4_mark := goodIn_ca (goodIn_r _ [6, 7, 8, 9, 10, 11, 12, 13, 14, 15, 16, 17, 18, 19, 20, 21, 22, 23, 24, 25, 26, 27] rfl (by decide +kernel)) (goodIn_sub (fun _ h => List.mem_cons_of_mem _ (List.mem_append_right _ h)) (by decide +kernel))
set_option maxRecDepth 20000 in
theorem gL_mark_X4_mark : GoodIn wsL_mark (wsV RL 25 RX4 yX4_mark wsX4_mark) := goodIn_app (goodIn_of _ (by decide +kernel)) ggL_mark_X4_mark
set_option maxRecDepth 20000 in
theorem ggL_watch_X4_watch : GoodIn wsL_watch wsX4_watch := goodIn_ca (goodIn_r _ [6, 7, 8, 9, 10, 11, 5, 12, 13, 14, 15, 16, 17, 18] rfl (by decide +kernel)) (goodIn_sub (fun _ h => List.mem_cons_of_mem _ (List.mem_append_right _ h)) (by decide +kernel))
set_option maxRecDepth 20000 in
theorem gL_watch_X4_watch : GoodIn wsL_watch (wsV RL 29 RX4 yX4_watch wsX4_watch) := goodIn_app (goodIn_of _ (by decide +kernel)) ggL_watch_X4_watch
