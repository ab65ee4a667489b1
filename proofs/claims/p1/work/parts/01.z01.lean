set_option maxRecDepth 20000 in
theorem ggX4_init_X0_init : GoodIn wsX4_init wsX0_init := goodIn_r _ [53, 54, 2, 3, 55, 56, 57, 58, 59, 39, 40, 44, 45, 46, 30, 47, 48, 49, 50, 74, 75, 76, 77, 78, 79, 80, 81, 82, 83, 84, 85] rfl (by decide +kernel)
set_option maxRecDepth 20000 in
theorem gX4_init_X0_init : GoodIn wsX4_init (wsX0_init) := ggX4_init_X0_init
set_option maxRecDepth 20000 in
theorem ggX4_line_X2_allows : GoodIn wsX4_line wsX2_allows := goodIn_r _ [15, 16, 17, 14, 18, 19, 20, 21] rfl (by decide +kernel)
set_option maxRecDepth 20000 in
theorem gX4_line_X2_allows : GoodIn wsX4_line (va_wsS RX4 50 yX2_allows wsX2_allows) := goodIn_app (goodIn_of _ (by decide +kernel)) ggX4_line_X2_allows
set_option maxRecDepth 20000 in
theorem ggX4_line_X2_append : GoodIn wsX4_line wsX2_append := goodIn_r _ [25, 26, 27, 28, 29, 69, 70, 71, 72, 73] rfl (by decide +kernel)
set_option maxRecDepth 20000 in
theorem gX4_line_X2_append : GoodIn wsX4_line (wsV RX4 72 RX2 yX2_append wsX2_append) := goodIn_app (goodIn_of _ (by decide +kernel)) ggX4_line_X2_append
set_option maxRecDepth 20000 in
theorem ggX4_line_X0_restart : GoodIn wsX4_line wsX0_restart := goodIn_r _ [34, 35, 36, 37, 38, 39, 40, 41, 42, 43, 44, 45, 46, 47, 48, 49, 50, 51, 52, 53, 54, 55, 74, 75, 76, 77, 78, 62, 63, 64, 65, 66, 67, 68] rfl (by decide +kernel)
set_option maxRecDepth 20000 in
theorem gX4_line_X0_restart : GoodIn wsX4_line (wsV RX4 76 RX0 yX0_restart wsX0_restart) := goodIn_app (goodIn_of _ (by decide +kernel)) ggX4_line_X0_restart
set_option maxRecDepth 20000 in
theorem ggX4_poke_X4_isCell : GoodIn wsX4_poke wsX4_isCell := goodIn_r _ [12] rfl (by decide +kernel)
set_option maxRecDepth 20000 in
theorem gX4_poke_X4_isCell : GoodIn wsX4_poke (va_wsS RX4 80 yX4_isCell wsX4_isCell) := goodIn_app (goodIn_of _ (by decide +kernel)) ggX4_poke_X4_isCell
set_option maxRecDepth 20000 in
theorem ggX4_poke_X0_restart : GoodIn wsX4_poke wsX0_restart := goodIn_r _ [17, 18, 19, 20, 21, 22, 23, 24, 25, 26, 27, 28, 29, 30, 31, 32, 33, 34, 35, 36, 37, 38, 52, 53, 54, 55, 56, 45, 46, 47, 48, 49, 50, 51] rfl (by decide +kernel)
set_option maxRecDepth 20000 in
theorem gX4_poke_X0_restart : GoodIn wsX4_poke (wsV RX4 76 RX0 yX0_restart wsX0_restart) := goodIn_app (goodIn_of _ (by decide +kernel)) ggX4_poke_X0_restart
set_option maxRecDepth 20000 in
theorem ggX4_mark_X2_has : GoodIn wsX4_mark wsX2_has := goodIn_r _ [9, 10, 17, 18, 19, 20, 21] rfl (by decide +kernel)
set_option maxRecDepth 20000 in
theorem gX4_mark_X2_has : GoodIn wsX4_mark (wsV RX4 91 RX2 yX2_has wsX2_has) := goodIn_app (goodIn_of _ (by decide +kernel)) ggX4_mark_X2_has
set_option maxRecDepth 20000 in
theorem ggX4_watch_X4_isCell : GoodIn wsX4_watch wsX4_isCell := goodIn_r _ [7] rfl (by decide +kernel)
set_option maxRecDepth 20000 in
theorem gX4_watch_X4_isCell : GoodIn wsX4_watch (va_wsS RX4 80 yX4_isCell wsX4_isCell) := goodIn_app (goodIn_of _ (by decide +kernel)) ggX4_watch_X4_isCell
