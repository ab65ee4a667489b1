set_option maxRecDepth 20000 in
theorem ggX5_oneMore_X5_isMarked : GoodIn wsX5_oneMore wsX5_isMarked := goodIn_r _ [36, 10, 11, 24, 37, 38, 39, 40, 41, 42, 43, 44, 45, 46, 47, 48, 49, 50, 51, 52, 53, 54, 55, 56, 57, 58, 59, 60] rfl (by decide +kernel)
set_option maxRecDepth 20000 in
theorem gX5_oneMore_X5_isMarked : GoodIn wsX5_oneMore (wsV RX5 106 RX5 yX5_isMarked wsX5_isMarked) := goodIn_app (goodIn_of _ (by decide +kernel)) ggX5_oneMore_X5_isMarked
set_option maxRecDepth 20000 in
theorem ggX5_step_X5_barred : GoodIn wsX5_step wsX5_barred := goodIn_r _ [6, 7, 8, 9, 47, 48, 49, 50, 51, 52, 53, 54, 55, 56, 57, 58, 59, 60, 61, 62, 63, 64, 65, 66, 67, 68, 69] rfl (by decide +kernel)
set_option maxRecDepth 20000 in
theorem gX5_step_X5_barred : GoodIn wsX5_step (wsV RX5 109 RX5 yX5_barred wsX5_barred) := goodIn_app (goodIn_of _ (by decide +kernel)) ggX5_step_X5_barred
set_option maxRecDepth 20000 in
theorem ggX5_step_X5_oneMore : GoodIn wsX5_step wsX5_oneMore := goodIn_r _ [13, 7, 8, 14, 15, 16, 17, 18, 5, 19, 20, 21, 22, 23, 9, 24, 25, 26, 27, 28, 29, 30, 31, 32, 33, 34, 35, 36, 37, 38, 39, 40, 41, 42, 43, 44, 45, 46, 47, 48, 49, 50, 51, 52, 53, 54, 55, 56, 57, 58, 59, 60, 61, 62, 63, 64, 65, 66, 67, 68, 69] rfl (by decide +kernel)
set_option maxRecDepth 20000 in
theorem gX5_step_X5_oneMore : GoodIn wsX5_step (wsV RX5 113 RX5 yX5_oneMore wsX5_oneMore) := goodIn_app (goodIn_of _ (by decide +kernel)) ggX5_step_X5_oneMore
set_option maxRecDepth 20000 in
theorem ggX5_goTill_X5_barred : GoodIn wsX5_goTill wsX5_barred := goodIn_r _ [7, 8, 9, 2, 46, 47, 48, 49, 50, 51, 52, 53, 54, 55, 56, 57, 58, 59, 60, 61, 62, 63, 64, 65, 66, 67, 68] rfl (by decide +kernel)
set_option maxRecDepth 20000 in
theorem gX5_goTill_X5_barred : GoodIn wsX5_goTill (wsV RX5 109 RX5 yX5_barred wsX5_barred) := goodIn_app (goodIn_of _ (by decide +kernel)) ggX5_goTill_X5_barred
set_option maxRecDepth 20000 in
theorem ggX5_goTill_X5_oneMore : GoodIn wsX5_goTill wsX5_oneMore := goodIn_r _ [13, 8, 9, 14, 15, 16, 17, 18, 6, 19, 20, 1, 21, 22, 2, 23, 24, 25, 26, 27, 28, 29, 30, 31, 32, 33, 34, 35, 36, 37, 38, 39, 40, 41, 42, 43, 44, 45, 46, 47, 48, 49, 50, 51, 52, 53, 54, 55, 56, 57, 58, 59, 60, 61, 62, 63, 64, 65, 66, 67, 68] rfl (by decide +kernel)
set_option maxRecDepth 20000 in
theorem gX5_goTill_X5_oneMore : GoodIn wsX5_goTill (wsV RX5 113 RX5 yX5_oneMore wsX5_oneMore) := goodIn_app (goodIn_of _ (by decide +kernel)) ggX5_goTill_X5_oneMore
set_option maxRecDepth 20000 in
theorem ggX5_next_X5_goTill : GoodIn wsX5_next wsX5_goTill := goodIn_r _ [7, 2, 8, 9, 10, 11, 6, 12, 13, 14, 15, 16, 17, 18, 19, 20, 21, 22, 23, 24, 25, 26, 27, 28, 29, 30, 31, 32, 33, 34, 35, 36, 37, 38, 39, 40, 41, 42, 43, 44, 45, 46, 47, 48, 49, 50, 51, 52, 53, 54, 55, 56, 57, 58, 59, 60, 61, 62, 63, 64, 65, 66, 67, 68, 69, 70, 71, 72, 73] rfl (by decide +kernel)
set_option maxRecDepth 20000 in
theorem gX5_next_X5_goTill : GoodIn wsX5_next (wsV RX5 116 RX5 yX5_goTill wsX5_goTill) := goodIn_app (goodIn_of _ (by decide +kernel)) ggX5_next_X5_goTill
set_option maxRecDepth 20000 in
theorem ggX5_finish_X5_goTill : GoodIn wsX5_finish wsX5_goTill := goodIn_r _ [7, 2, 8, 9, 10, 11, 6, 12, 13, 14, 15, 16, 17, 18, 19, 20, 21, 22, 23, 24, 25, 26, 27, 28, 29, 30, 31, 32, 33, 34, 35, 36, 37, 38, 39, 40, 41, 42, 43, 44, 45, 46, 47, 48, 49, 50, 51, 52, 53, 54, 55, 56, 57, 58, 59, 60, 61, 62, 63, 64, 65, 66, 67, 68, 69, 70, 71, 72, 73] rfl (by decide +kernel)
set_option maxRecDepth 20000 in
theorem gX5_finish_X5_goTill : GoodIn wsX5_finish (wsV RX5 116 RX5 yX5_goTill wsX5_goTill) := goodIn_app (goodIn_of _ (by decide +kernel)) ggX5_finish_X5_goTill
set_option maxRecDepth 20000 in
theorem ggX5_go_X5_goTill : GoodIn wsX5_go wsX5_goTill := goodIn_r _ [6, 7, 8, 9, 10, 11, 5, 12, 13, 14, 15, 16, 17, 18, 19, 20, 21, 22, 23, 24, 25, 26, 27, 28, 29, 30, 31, 32, 33, 34, 35, 36, 37, 38, 39, 40, 41, 42, 43, 44, 45, 46, 47, 48, 49, 50, 51, 52, 53, 54, 55, 56, 57, 58, 59, 60, 61, 62, 63, 64, 65, 66, 67, 68, 69, 70, 71, 72, 73] rfl (by decide +kernel)
set_option maxRecDepth 20000 in
theorem gX5_go_X5_goTill : GoodIn wsX5_go (wsV RX5 116 RX5 yX5_goTill wsX5_goTill) := goodIn_app (goodIn_of _ (by decide +kernel)) ggX5_go_X5_goTill
