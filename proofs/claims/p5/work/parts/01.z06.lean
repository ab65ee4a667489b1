set_option maxRecDepth 20000 in
theorem ggX4_local_X4_isLocal : GoodIn wsX4_local wsX4_isLocal := goodIn_r _ [15] rfl (by decide +kernel)
set_option maxRecDepth 20000 in
theorem gX4_local_X4_isLocal : GoodIn wsX4_local (va_wsS RX4 128 yX4_isLocal wsX4_isLocal) := goodIn_app (goodIn_of _ (by decide +kernel)) ggX4_local_X4_isLocal
set_option maxRecDepth 20000 in
theorem ggX4_at_X3_hasFrame : GoodIn wsX4_at wsX3_hasFrame := goodIn_r _ [10, 11, 18, 19, 20, 21, 22, 23, 24] rfl (by decide +kernel)
set_option maxRecDepth 20000 in
theorem gX4_at_X3_hasFrame : GoodIn wsX4_at (wsV RX4 125 RX3 yX3_hasFrame wsX3_hasFrame) := goodIn_app (goodIn_of _ (by decide +kernel)) ggX4_at_X3_hasFrame
set_option maxRecDepth 20000 in
theorem ggX4_cell_X4_isCell : GoodIn wsX4_cell wsX4_isCell := goodIn_r _ [8] rfl (by decide +kernel)
set_option maxRecDepth 20000 in
theorem gX4_cell_X4_isCell : GoodIn wsX4_cell (va_wsS RX4 80 yX4_isCell wsX4_isCell) := goodIn_app (goodIn_of _ (by decide +kernel)) ggX4_cell_X4_isCell
set_option maxRecDepth 20000 in
theorem ggX4_clear_X2_empty : GoodIn wsX4_clear wsX2_empty := goodIn_r _ [10, 11, 12, 49, 50, 51, 52, 53] rfl (by decide +kernel)
set_option maxRecDepth 20000 in
theorem gX4_clear_X2_empty : GoodIn wsX4_clear (wsV RX4 150 RX2 yX2_empty wsX2_empty) := goodIn_app (goodIn_of _ (by decide +kernel)) ggX4_clear_X2_empty
set_option maxRecDepth 20000 in
theorem ggX4_clear_X3_reset : GoodIn wsX4_clear wsX3_reset := goodIn_r _ [17, 18, 19, 20, 21, 22, 23, 24, 54, 55, 56, 57, 58, 59, 60] rfl (by decide +kernel)
set_option maxRecDepth 20000 in
theorem gX4_clear_X3_reset : GoodIn wsX4_clear (wsV RX4 153 RX3 yX3_reset wsX3_reset) := goodIn_app (goodIn_of _ (by decide +kernel)) ggX4_clear_X3_reset
set_option maxRecDepth 20000 in
theorem ggX4_clear_X0_restart : GoodIn wsX4_clear wsX0_restart := goodIn_r _ [29, 30, 31, 32, 33, 34, 35, 36, 37, 16, 38, 18, 39, 40, 41, 42, 19, 20, 21, 22, 23, 24, 61, 62, 63, 64, 65, 54, 55, 56, 57, 58, 59, 60] rfl (by decide +kernel)
set_option maxRecDepth 20000 in
theorem gX4_clear_X0_restart : GoodIn wsX4_clear (wsV RX4 76 RX0 yX0_restart wsX0_restart) := goodIn_app (goodIn_of _ (by decide +kernel)) ggX4_clear_X0_restart
set_option maxRecDepth 20000 in
theorem ggX4_advance_X1_doLine : GoodIn wsX4_advance wsX1_doLine := goodIn_r _ [16, 17, 18, 19, 20, 21, 22, 23, 24, 25, 26, 27, 28, 29, 30, 31, 32, 33, 15, 34, 35, 36, 37, 38, 39, 40, 41, 42, 43, 44, 45, 46, 47, 48, 49, 50, 51, 52, 53, 54, 55, 56, 57, 58, 59, 60, 61, 62, 63, 64, 65, 66, 67, 68, 69, 70, 71, 72, 73, 74, 75, 76, 77, 78, 128, 129, 130, 121, 122, 123, 124, 125, 126, 127, 131, 132, 133, 134, 135] rfl (by decide +kernel)
set_option maxRecDepth 20000 in
theorem gX4_advance_X1_doLine : GoodIn wsX4_advance (wsV RX4 156 RX1 yX1_doLine wsX1_doLine) := goodIn_app (goodIn_of _ (by decide +kernel)) ggX4_advance_X1_doLine
set_option maxRecDepth 20000 in
theorem ggX4_advance_X0_arrive : GoodIn wsX4_advance wsX0_arrive := goodIn_r _ [83, 84, 85, 86, 87, 88, 89, 90, 91, 82, 92, 93, 94, 95, 96, 97, 98, 99, 100, 101, 102, 103, 104, 105, 106, 107, 108, 121, 122, 123, 124, 125, 126, 127, 136, 137, 138, 139, 140] rfl (by decide +kernel)
set_option maxRecDepth 20000 in
theorem gX4_advance_X0_arrive : GoodIn wsX4_advance (wsV RX4 160 RX0 yX0_arrive wsX0_arrive) := goodIn_app (goodIn_of _ (by decide +kernel)) ggX4_advance_X0_arrive
