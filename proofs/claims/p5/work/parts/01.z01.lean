set_option maxRecDepth 20000 in
theorem ggX1_perform_X1_read : GoodIn wsX1_perform wsX1_read := goodIn_r _ [18, 1, 8, 9, 50, 51, 52, 53, 54, 55, 56, 57, 58, 59] rfl (by decide +kernel)
set_option maxRecDepth 20000 in
theorem gX1_perform_X1_read : GoodIn wsX1_perform (wsV RX1 58 RX1 yX1_read wsX1_read) := goodIn_app (goodIn_of _ (by decide +kernel)) ggX1_perform_X1_read
set_option maxRecDepth 20000 in
theorem ggX1_perform_X4_isCell : GoodIn wsX1_perform wsX4_isCell := goodIn_r _ [21] rfl (by decide +kernel)
set_option maxRecDepth 20000 in
theorem gX1_perform_X4_isCell_n62 : GoodIn wsX1_perform (wsX4_isCell) := ggX1_perform_X4_isCell
set_option maxRecDepth 20000 in
theorem ggX1_perform_X1_store : GoodIn wsX1_perform wsX1_store := goodIn_r _ [25, 1, 2, 26, 19, 20, 21, 10, 11, 12, 6, 13, 14, 9, 50, 51, 52, 53, 54, 55, 56, 57, 58, 59] rfl (by decide +kernel)
set_option maxRecDepth 20000 in
theorem gX1_perform_X1_store : GoodIn wsX1_perform (wsV RX1 68 RX1 yX1_store wsX1_store) := goodIn_app (goodIn_of _ (by decide +kernel)) ggX1_perform_X1_store
set_option maxRecDepth 20000 in
theorem ggX1_perform_X1_jump : GoodIn wsX1_perform wsX1_jump := goodIn_r _ [30, 1, 14, 9, 50, 51, 52, 53, 54, 55, 56, 57, 58, 59] rfl (by decide +kernel)
set_option maxRecDepth 20000 in
theorem gX1_perform_X1_jump : GoodIn wsX1_perform (wsV RX1 71 RX1 yX1_jump wsX1_jump) := goodIn_app (goodIn_of _ (by decide +kernel)) ggX1_perform_X1_jump
set_option maxRecDepth 20000 in
theorem ggX1_perform_X1_pass : GoodIn wsX1_perform wsX1_pass := goodIn_r _ [13, 1, 14, 9, 50, 51, 52, 53, 54, 55, 56, 57, 58, 59] rfl (by decide +kernel)
set_option maxRecDepth 20000 in
theorem gX1_perform_X1_pass : GoodIn wsX1_perform (wsV RX1 74 RX1 yX1_pass wsX1_pass) := goodIn_app (goodIn_of _ (by decide +kernel)) ggX1_perform_X1_pass
set_option maxRecDepth 20000 in
theorem ggX1_perform_X1_enter : GoodIn wsX1_perform wsX1_enter := goodIn_r _ [34, 1, 9, 8, 10, 11, 12, 6, 13, 14, 27, 28, 29, 30, 50, 51, 52, 53, 54, 55, 56, 57, 58, 59] rfl (by decide +kernel)
set_option maxRecDepth 20000 in
theorem gX1_perform_X1_enter : GoodIn wsX1_perform (wsV RX1 78 RX1 yX1_enter wsX1_enter) := goodIn_app (goodIn_of _ (by decide +kernel)) ggX1_perform_X1_enter
set_option maxRecDepth 20000 in
theorem ggX1_perform_X1_leave : GoodIn wsX1_perform wsX1_leave := goodIn_r _ [38, 1, 9, 8, 39, 40, 41, 6, 42, 43, 50, 51, 52, 53, 54, 55, 56, 57, 58, 59] rfl (by decide +kernel)
set_option maxRecDepth 20000 in
theorem gX1_perform_X1_leave : GoodIn wsX1_perform (wsV RX1 81 RX1 yX1_leave wsX1_leave) := goodIn_app (goodIn_of _ (by decide +kernel)) ggX1_perform_X1_leave
set_option maxRecDepth 20000 in
theorem ggX1_perform_X1_print : GoodIn wsX1_perform wsX1_print := goodIn_r _ [47, 1, 48, 49, 10, 11, 12, 6, 13, 14, 9, 50, 51, 52, 53, 54, 55, 56, 57, 58, 59] rfl (by decide +kernel)
set_option maxRecDepth 20000 in
theorem gX1_perform_X1_print : GoodIn wsX1_perform (wsV RX1 84 RX1 yX1_print wsX1_print) := goodIn_app (goodIn_of _ (by decide +kernel)) ggX1_perform_X1_print
