set_option maxRecDepth 20000 in
theorem ggX0_init_X3_init : GoodIn wsX0_init wsX3_init := goodIn_r _ [12, 13, 2, 3, 14, 15, 16, 17, 18, 24, 25, 26, 27, 28, 29, 30] rfl (by decide +kernel)
set_option maxRecDepth 20000 in
theorem gX0_init_X3_init_n27 : GoodIn wsX0_init (wsX3_init) := ggX0_init_X3_init
set_option maxRecDepth 20000 in
theorem ggX0_restart_X3_copyFrom : GoodIn wsX0_restart wsX3_copyFrom := goodIn_r _ [10, 11, 12, 13, 14, 15, 16, 17, 18, 19, 20, 21, 27, 28, 29, 30, 31, 32, 33] rfl (by decide +kernel)
set_option maxRecDepth 20000 in
theorem gX0_restart_X3_copyFrom : GoodIn wsX0_restart (wsV RX0 28 RX3 yX3_copyFrom wsX3_copyFrom) := goodIn_app (goodIn_of _ (by decide +kernel)) ggX0_restart_X3_copyFrom
set_option maxRecDepth 20000 in
theorem ggX0_arrive_X0_thinOut : GoodIn wsX0_arrive wsX0_thinOut := goodIn_r _ [10, 4, 5, 3, 34, 35, 36, 37, 38] rfl (by decide +kernel)
set_option maxRecDepth 20000 in
theorem gX0_arrive_X0_thinOut : GoodIn wsX0_arrive (wsV RX0 38 RX0 yX0_thinOut wsX0_thinOut) := goodIn_app (goodIn_of _ (by decide +kernel)) ggX0_arrive_X0_thinOut
set_option maxRecDepth 20000 in
theorem ggX0_arrive_X3_copyFrom : GoodIn wsX0_arrive wsX3_copyFrom := goodIn_r _ [15, 16, 17, 18, 19, 20, 21, 22, 23, 24, 25, 26, 27, 28, 29, 30, 31, 32, 33] rfl (by decide +kernel)
set_option maxRecDepth 20000 in
theorem gX0_arrive_X3_copyFrom : GoodIn wsX0_arrive (wsV RX0 28 RX3 yX3_copyFrom wsX3_copyFrom) := goodIn_app (goodIn_of _ (by decide +kernel)) ggX0_arrive_X3_copyFrom
set_option maxRecDepth 20000 in
theorem ggX1_init_X3_init : GoodIn wsX1_init wsX3_init := goodIn_r _ [12, 13, 2, 3, 8, 14, 15, 16, 17, 18, 19, 20, 21, 22, 23, 24] rfl (by decide +kernel)
set_option maxRecDepth 20000 in
theorem gX1_init_X3_init_n11 : GoodIn wsX1_init (wsX3_init) := ggX1_init_X3_init
set_option maxRecDepth 20000 in
theorem ggX1_doLine_X2_has : GoodIn wsX1_doLine wsX2_has := goodIn_r _ [13, 14, 74, 75, 76, 77, 78] rfl (by decide +kernel)
set_option maxRecDepth 20000 in
theorem gX1_doLine_X2_has : GoodIn wsX1_doLine (wsV RX1 32 RX2 yX2_has wsX2_has) := goodIn_app (goodIn_of _ (by decide +kernel)) ggX1_doLine_X2_has
set_option maxRecDepth 20000 in
theorem ggX1_doLine_X1_perform : GoodIn wsX1_doLine wsX1_perform := goodIn_r _ [19, 2, 20, 21, 22, 23, 18, 24, 25, 4, 26, 27, 28, 29, 3, 30, 31, 32, 33, 34, 35, 36, 37, 38, 39, 40, 1, 41, 42, 43, 44, 45, 46, 47, 48, 49, 50, 51, 52, 53, 54, 55, 56, 57, 58, 59, 60, 61, 62, 63, 64, 65, 66, 67, 68, 69, 70, 71, 72, 73] rfl (by decide +kernel)
set_option maxRecDepth 20000 in
theorem gX1_doLine_X1_perform : GoodIn wsX1_doLine (wsV RX1 47 RX1 yX1_perform wsX1_perform) := goodIn_app (goodIn_of _ (by decide +kernel)) ggX1_doLine_X1_perform
set_option maxRecDepth 20000 in
theorem ggX1_perform_X1_put : GoodIn wsX1_perform wsX1_put := goodIn_r _ [7, 1, 8, 9, 10, 11, 12, 6, 13, 14, 50, 51, 52, 53, 54, 55, 56, 57, 58, 59] rfl (by decide +kernel)
set_option maxRecDepth 20000 in
theorem gX1_perform_X1_put : GoodIn wsX1_perform (wsV RX1 54 RX1 yX1_put wsX1_put) := goodIn_app (goodIn_of _ (by decide +kernel)) ggX1_perform_X1_put
