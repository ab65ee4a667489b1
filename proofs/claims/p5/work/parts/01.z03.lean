set_option maxRecDepth 20000 in
theorem ggX2_allows_X2_takesLocalA : GoodIn wsX2_allows wsX2_takesLocalA := goodIn_r _ [4] rfl (by decide +kernel)
set_option maxRecDepth 20000 in
theorem gX2_allows_X2_takesLocalA : GoodIn wsX2_allows (va_wsS RX2 25 yX2_takesLocalA wsX2_takesLocalA) := goodIn_app (goodIn_of _ (by decide +kernel)) ggX2_allows_X2_takesLocalA
set_option maxRecDepth 20000 in
theorem ggX2_allows_X4_isLocal : GoodIn wsX2_allows wsX4_isLocal := goodIn_r _ [7] rfl (by decide +kernel)
set_option maxRecDepth 20000 in
theorem gX2_allows_X4_isLocal_n29 : GoodIn wsX2_allows (wsX4_isLocal) := ggX2_allows_X4_isLocal
set_option maxRecDepth 20000 in
theorem ggX2_isMarked_X2_has : GoodIn wsX2_isMarked wsX2_has := goodIn_r _ [6, 7, 8, 9, 10, 11, 12] rfl (by decide +kernel)
set_option maxRecDepth 20000 in
theorem gX2_isMarked_X2_has : GoodIn wsX2_isMarked (wsV RX2 36 RX2 yX2_has wsX2_has) := goodIn_app (goodIn_of _ (by decide +kernel)) ggX2_isMarked_X2_has
set_option maxRecDepth 20000 in
theorem ggX4_init_X2_init : GoodIn wsX4_init wsX2_init := goodIn_r _ [28, 29, 2, 3, 30, 31, 32, 33, 14, 34, 60, 61, 62, 63, 64] rfl (by decide +kernel)
set_option maxRecDepth 20000 in
theorem gX4_init_X2_init_n9 : GoodIn wsX4_init (wsX2_init) := ggX4_init_X2_init
set_option maxRecDepth 20000 in
theorem ggX4_init_X1_init : GoodIn wsX4_init wsX1_init := goodIn_r _ [36, 37, 2, 3, 38, 39, 40, 41, 30, 42, 43, 44, 45, 46, 47, 48, 49, 50, 79, 80, 81, 82, 83, 84, 85, 71, 72, 73] rfl (by decide +kernel)
set_option maxRecDepth 20000 in
theorem gX4_init_X1_init_n18 : GoodIn wsX4_init (wsX1_init) := ggX4_init_X1_init
set_option maxRecDepth 20000 in
theorem ggX4_init_X0_init : GoodIn wsX4_init wsX0_init := goodIn_r _ [53, 54, 2, 3, 55, 56, 57, 58, 59, 39, 40, 44, 45, 46, 30, 47, 48, 49, 50, 74, 75, 76, 77, 78, 79, 80, 81, 82, 83, 84, 85] rfl (by decide +kernel)
set_option maxRecDepth 20000 in
theorem gX4_init_X0_init : GoodIn wsX4_init (wsX0_init) := ggX4_init_X0_init
set_option maxRecDepth 20000 in
theorem ggX4_line_X2_allows : GoodIn wsX4_line wsX2_allows := goodIn_r _ [15, 16, 17, 14, 18, 19, 20, 21] rfl (by decide +kernel)
set_option maxRecDepth 20000 in
theorem gX4_line_X2_allows : GoodIn wsX4_line (va_wsS RX4 50 yX2_allows wsX2_allows) := goodIn_app (goodIn_of _ (by decide +kernel)) ggX4_line_X2_allows
set_option maxRecDepth 20000 in
theorem ggX4_line_X2_append : GoodIn wsX4_line wsX2_append := goodIn_r _ [25, 26, 27, 28, 29, 69, 70, 71, 72, 73] rfl (by decide +kernel)
set_option maxRecDepth 20000 in
theorem gX4_line_X2_append : GoodIn wsX4_line (wsV RX4 72 RX2 yX2_append wsX2_append) := goodIn_app (goodIn_of _ (by decide +kernel)) ggX4_line_X2_append
