set_option maxRecDepth 20000 in
theorem ggX5_anew_X5_begin : GoodIn wsX5_anew wsX5_begin := goodIn_r _ [11, 12, 13, 14, 15, 16, 17, 18, 19, 20, 21, 22, 23, 24, 25, 26, 27, 28, 29, 30, 31, 32, 33, 34, 35, 36, 37, 38, 39, 40, 41, 42, 43] rfl (by decide +kernel)
set_option maxRecDepth 20000 in
theorem gX5_anew_X5_begin : GoodIn wsX5_anew (wsV RX5 67 RX5 yX5_begin wsX5_begin) := goodIn_app (goodIn_of _ (by decide +kernel)) ggX5_anew_X5_begin
set_option maxRecDepth 20000 in
theorem ggX5_isRight_X5_isLocal : GoodIn wsX5_isRight wsX5_isLocal := goodIn_r _ [4] rfl (by decide +kernel)
set_option maxRecDepth 20000 in
theorem gX5_isRight_X5_isLocal : GoodIn wsX5_isRight (va_wsS RX5 85 yX5_isLocal wsX5_isLocal) := goodIn_app (goodIn_of _ (by decide +kernel)) ggX5_isRight_X5_isLocal
set_option maxRecDepth 20000 in
theorem ggX5_line_X5_isRight : GoodIn wsX5_line wsX5_isRight := goodIn_r _ [11, 12, 13, 10, 14] rfl (by decide +kernel)
set_option maxRecDepth 20000 in
theorem gX5_line_X5_isRight : GoodIn wsX5_line (va_wsS RX5 89 yX5_isRight wsX5_isRight) := goodIn_app (goodIn_of _ (by decide +kernel)) ggX5_line_X5_isRight
set_option maxRecDepth 20000 in
theorem ggX5_line_X5_anew : GoodIn wsX5_line wsX5_anew := goodIn_r _ [18, 19, 20, 21, 22, 23, 24, 25, 26, 27, 10, 28, 29, 30, 31, 32, 33, 1, 34, 35, 36, 37, 38, 39, 40, 41, 42, 43, 44, 45, 46, 47, 48, 49, 50, 51, 52, 53, 54, 55, 56, 57, 58, 59] rfl (by decide +kernel)
set_option maxRecDepth 20000 in
theorem gX5_line_X5_anew : GoodIn wsX5_line (wsV RX5 48 RX5 yX5_anew wsX5_anew) := goodIn_app (goodIn_of _ (by decide +kernel)) ggX5_line_X5_anew
set_option maxRecDepth 20000 in
theorem ggX5_poke_X5_anew : GoodIn wsX5_poke wsX5_anew := goodIn_r _ [8, 9, 10, 11, 12, 13, 14, 15, 16, 17, 7, 18, 19, 3, 20, 21, 22, 1, 23, 24, 25, 26, 27, 28, 29, 30, 31, 32, 33, 34, 35, 36, 37, 38, 39, 40, 41, 42, 43, 44, 45, 46, 47, 48] rfl (by decide +kernel)
set_option maxRecDepth 20000 in
theorem gX5_poke_X5_anew : GoodIn wsX5_poke (wsV RX5 48 RX5 yX5_anew wsX5_anew) := goodIn_app (goodIn_of _ (by decide +kernel)) ggX5_poke_X5_anew
set_option maxRecDepth 20000 in
theorem ggX5_isDone_X5_canDo : GoodIn wsX5_isDone wsX5_canDo := goodIn_r _ [17, 18, 2, 3, 4, 7, 8, 12, 19, 20, 21, 22, 23, 24, 25, 26, 27, 28, 29, 30, 31, 32, 33, 34, 35, 36, 37, 38, 39, 40, 41] rfl (by decide +kernel)
set_option maxRecDepth 20000 in
theorem gX5_isDone_X5_canDo : GoodIn wsX5_isDone (wsV RX5 96 RX5 yX5_canDo wsX5_canDo) := goodIn_app (goodIn_of _ (by decide +kernel)) ggX5_isDone_X5_canDo
set_option maxRecDepth 20000 in
theorem ggX5_oneMore_X5_isDone : GoodIn wsX5_oneMore wsX5_isDone := goodIn_r _ [9, 10, 11, 12, 13, 3, 14, 15, 16, 17, 2, 18, 19, 20, 21, 22, 8, 23, 24, 38, 39, 40, 41, 42, 43, 44, 45, 46, 47, 48, 49, 50, 51, 52, 53, 54, 55, 56, 57, 58, 59, 60] rfl (by decide +kernel)
set_option maxRecDepth 20000 in
theorem gX5_oneMore_X5_isDone : GoodIn wsX5_oneMore (wsV RX5 99 RX5 yX5_isDone wsX5_isDone) := goodIn_app (goodIn_of _ (by decide +kernel)) ggX5_oneMore_X5_isDone
set_option maxRecDepth 20000 in
theorem ggX5_oneMore_X5_keep : GoodIn wsX5_oneMore wsX5_keep := goodIn_r _ [28, 14, 29, 30, 31, 32, 38, 39, 40, 41, 42, 43, 44, 45, 46, 47, 48, 49, 50, 51, 52, 53, 54, 55, 56, 57, 58, 59, 60] rfl (by decide +kernel)
set_option maxRecDepth 20000 in
theorem gX5_oneMore_X5_keep : GoodIn wsX5_oneMore (wsV RX5 103 RX5 yX5_keep wsX5_keep) := goodIn_app (goodIn_of _ (by decide +kernel)) ggX5_oneMore_X5_keep
