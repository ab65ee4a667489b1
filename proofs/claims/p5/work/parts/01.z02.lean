set_option maxRecDepth 20000 in
theorem ggX1_perform_X1_end : GoodIn wsX1_perform wsX1_end := goodIn_r _ [42, 1, 43, 50, 51, 52, 53, 54, 55, 56, 57, 58, 59] rfl (by decide +kernel)
set_option maxRecDepth 20000 in
theorem gX1_perform_X1_end : GoodIn wsX1_perform (wsV RX1 87 RX1 yX1_end wsX1_end) := goodIn_app (goodIn_of _ (by decide +kernel)) ggX1_perform_X1_end
set_option maxRecDepth 20000 in
theorem ggX1_put_X1_pass : GoodIn wsX1_put wsX1_pass := goodIn_r _ [8, 1, 9, 3, 10, 11, 12, 13, 14, 15, 16, 17, 18, 19] rfl (by decide +kernel)
set_option maxRecDepth 20000 in
theorem gX1_put_X1_pass : GoodIn wsX1_put (wsV RX1 74 RX1 yX1_pass wsX1_pass) := goodIn_app (goodIn_of _ (by decide +kernel)) ggX1_put_X1_pass
set_option maxRecDepth 20000 in
theorem ggX1_store_X4_isCell : GoodIn wsX1_store wsX4_isCell := goodIn_r _ [6] rfl (by decide +kernel)
set_option maxRecDepth 20000 in
theorem gX1_store_X4_isCell_n62 : GoodIn wsX1_store (wsX4_isCell) := ggX1_store_X4_isCell
set_option maxRecDepth 20000 in
theorem ggX1_store_X1_pass : GoodIn wsX1_store wsX1_pass := goodIn_r _ [11, 1, 12, 13, 14, 15, 16, 17, 18, 19, 20, 21, 22, 23] rfl (by decide +kernel)
set_option maxRecDepth 20000 in
theorem gX1_store_X1_pass : GoodIn wsX1_store (wsV RX1 74 RX1 yX1_pass wsX1_pass) := goodIn_app (goodIn_of _ (by decide +kernel)) ggX1_store_X1_pass
set_option maxRecDepth 20000 in
theorem ggX1_enter_X1_pass : GoodIn wsX1_enter wsX1_pass := goodIn_r _ [8, 1, 9, 2, 14, 15, 16, 17, 18, 19, 20, 21, 22, 23] rfl (by decide +kernel)
set_option maxRecDepth 20000 in
theorem gX1_enter_X1_pass : GoodIn wsX1_enter (wsV RX1 74 RX1 yX1_pass wsX1_pass) := goodIn_app (goodIn_of _ (by decide +kernel)) ggX1_enter_X1_pass
set_option maxRecDepth 20000 in
theorem ggX1_enter_X1_jump : GoodIn wsX1_enter wsX1_jump := goodIn_r _ [13, 1, 9, 2, 14, 15, 16, 17, 18, 19, 20, 21, 22, 23] rfl (by decide +kernel)
set_option maxRecDepth 20000 in
theorem gX1_enter_X1_jump : GoodIn wsX1_enter (wsV RX1 71 RX1 yX1_jump wsX1_jump) := goodIn_app (goodIn_of _ (by decide +kernel)) ggX1_enter_X1_jump
set_option maxRecDepth 20000 in
theorem ggX1_leave_X1_end : GoodIn wsX1_leave wsX1_end := goodIn_r _ [8, 1, 9, 10, 11, 12, 13, 14, 15, 16, 17, 18, 19] rfl (by decide +kernel)
set_option maxRecDepth 20000 in
theorem gX1_leave_X1_end : GoodIn wsX1_leave (wsV RX1 87 RX1 yX1_end wsX1_end) := goodIn_app (goodIn_of _ (by decide +kernel)) ggX1_leave_X1_end
set_option maxRecDepth 20000 in
theorem ggX1_print_X1_pass : GoodIn wsX1_print wsX1_pass := goodIn_r _ [8, 1, 9, 10, 11, 12, 13, 14, 15, 16, 17, 18, 19, 20] rfl (by decide +kernel)
set_option maxRecDepth 20000 in
theorem gX1_print_X1_pass : GoodIn wsX1_print (wsV RX1 74 RX1 yX1_pass wsX1_pass) := goodIn_app (goodIn_of _ (by decide +kernel)) ggX1_print_X1_pass
