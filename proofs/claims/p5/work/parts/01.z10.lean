set_option maxRecDepth 20000 in
theorem ggX5_replay_X5_begin : GoodIn wsX5_replay wsX5_begin := goodIn_r _ [6, 7, 8, 9, 10, 11, 1, 12, 13, 14, 28, 29, 30, 31, 32, 33, 34, 35, 36, 37, 38, 39, 40, 41, 42, 43, 44, 45, 46, 47, 48, 49, 50] rfl (by decide +kernel)
set_option maxRecDepth 20000 in
theorem gX5_replay_X5_begin : GoodIn wsX5_replay (wsV RX5 67 RX5 yX5_begin wsX5_begin) := goodIn_app (goodIn_of _ (by decide +kernel)) ggX5_replay_X5_begin
set_option maxRecDepth 20000 in
theorem ggX5_replay_X5_isDone : GoodIn wsX5_replay wsX5_isDone := goodIn_r _ [18, 11, 10, 19, 20, 14, 1, 21, 9, 7, 13, 22, 12, 23, 24, 25, 5, 26, 27, 28, 29, 30, 31, 32, 33, 34, 35, 36, 37, 38, 39, 40, 41, 42, 43, 44, 45, 46, 47, 48, 49, 50] rfl (by decide +kernel)
set_option maxRecDepth 20000 in
theorem gX5_replay_X5_isDone : GoodIn wsX5_replay (wsV RX5 99 RX5 yX5_isDone wsX5_isDone) := goodIn_app (goodIn_of _ (by decide +kernel)) ggX5_replay_X5_isDone
set_option maxRecDepth 20000 in
theorem ggX5_back_X5_replay : GoodIn wsX5_back wsX5_replay := goodIn_r _ [8, 3, 9, 10, 11, 7, 12, 13, 14, 15, 16, 17, 18, 19, 20, 21, 22, 23, 24, 25, 26, 27, 28, 29, 30, 31, 32, 33, 34, 35, 36, 37, 38, 39, 40, 41, 42, 43, 44, 45, 46, 47, 48, 49, 50, 51, 52, 53, 54, 55, 56] rfl (by decide +kernel)
set_option maxRecDepth 20000 in
theorem gX5_back_X5_replay : GoodIn wsX5_back (wsV RX5 120 RX5 yX5_replay wsX5_replay) := goodIn_app (goodIn_of _ (by decide +kernel)) ggX5_back_X5_replay
set_option maxRecDepth 20000 in
theorem ggX5_reverse_X5_begin : GoodIn wsX5_reverse wsX5_begin := goodIn_r _ [10, 11, 12, 13, 14, 15, 3, 16, 17, 4, 40, 41, 42, 43, 44, 45, 46, 47, 48, 49, 50, 51, 52, 53, 54, 55, 56, 57, 58, 59, 60, 61, 62] rfl (by decide +kernel)
set_option maxRecDepth 20000 in
theorem gX5_reverse_X5_begin : GoodIn wsX5_reverse (wsV RX5 67 RX5 yX5_begin wsX5_begin) := goodIn_app (goodIn_of _ (by decide +kernel)) ggX5_reverse_X5_begin
set_option maxRecDepth 20000 in
theorem ggX5_reverse_X5_isDone : GoodIn wsX5_reverse wsX5_isDone := goodIn_r _ [21, 15, 14, 22, 23, 4, 3, 24, 13, 11, 17, 25, 16, 26, 27, 28, 9, 29, 30, 40, 41, 42, 43, 44, 45, 46, 47, 48, 49, 50, 51, 52, 53, 54, 55, 56, 57, 58, 59, 60, 61, 62] rfl (by decide +kernel)
set_option maxRecDepth 20000 in
theorem gX5_reverse_X5_isDone : GoodIn wsX5_reverse (wsV RX5 99 RX5 yX5_isDone wsX5_isDone) := goodIn_app (goodIn_of _ (by decide +kernel)) ggX5_reverse_X5_isDone
set_option maxRecDepth 20000 in
theorem ggX5_reverse_X5_isMarked : GoodIn wsX5_reverse wsX5_isMarked := goodIn_r _ [34, 15, 14, 30, 35, 40, 41, 42, 43, 44, 45, 46, 47, 48, 49, 50, 51, 52, 53, 54, 55, 56, 57, 58, 59, 60, 61, 62] rfl (by decide +kernel)
set_option maxRecDepth 20000 in
theorem gX5_reverse_X5_isMarked : GoodIn wsX5_reverse (wsV RX5 106 RX5 yX5_isMarked wsX5_isMarked) := goodIn_app (goodIn_of _ (by decide +kernel)) ggX5_reverse_X5_isMarked
set_option maxRecDepth 20000 in
theorem ggX5_reverse_X5_replay : GoodIn wsX5_reverse wsX5_replay := goodIn_r _ [39, 3, 6, 7, 8, 9, 10, 11, 12, 13, 14, 15, 16, 17, 4, 18, 19, 20, 21, 22, 23, 24, 25, 26, 27, 28, 29, 30, 40, 41, 42, 43, 44, 45, 46, 47, 48, 49, 50, 51, 52, 53, 54, 55, 56, 57, 58, 59, 60, 61, 62] rfl (by decide +kernel)
set_option maxRecDepth 20000 in
theorem gX5_reverse_X5_replay : GoodIn wsX5_reverse (wsV RX5 120 RX5 yX5_replay wsX5_replay) := goodIn_app (goodIn_of _ (by decide +kernel)) ggX5_reverse_X5_replay
set_option maxRecDepth 20000 in
theorem ggX5_goTo_X5_replay : GoodIn wsX5_goTo wsX5_replay := goodIn_r _ [9, 3, 10, 11, 12, 8, 13, 14, 15, 16, 17, 18, 19, 4, 20, 21, 22, 23, 24, 25, 26, 27, 28, 29, 30, 31, 32, 33, 42, 43, 44, 45, 46, 47, 48, 49, 50, 51, 52, 53, 54, 55, 56, 57, 58, 59, 60, 61, 62, 63, 64] rfl (by decide +kernel)
set_option maxRecDepth 20000 in
theorem gX5_goTo_X5_replay : GoodIn wsX5_goTo (wsV RX5 120 RX5 yX5_replay wsX5_replay) := goodIn_app (goodIn_of _ (by decide +kernel)) ggX5_goTo_X5_replay
