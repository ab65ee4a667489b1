set_option maxRecDepth 20000 in
theorem ggX4_line_X0_restart : GoodIn wsX4_line wsX0_restart := goodIn_r _ [34, 35, 36, 37, 38, 39, 40, 41, 42, 43, 44, 45, 46, 47, 48, 49, 50, 51, 52, 53, 54, 55, 74, 75, 76, 77, 78, 62, 63, 64, 65, 66, 67, 68] rfl (by decide +kernel)
set_option maxRecDepth 20000 in
theorem gX4_line_X0_restart : GoodIn wsX4_line (wsV RX4 76 RX0 yX0_restart wsX0_restart) := goodIn_app (goodIn_of _ (by decide +kernel)) ggX4_line_X0_restart
set_option maxRecDepth 20000 in
theorem ggX4_poke_X4_isCell : GoodIn wsX4_poke wsX4_isCell := goodIn_r _ [12] rfl (by decide +kernel)
set_option maxRecDepth 20000 in
theorem gX4_poke_X4_isCell : GoodIn wsX4_poke (va_wsS RX4 80 yX4_isCell wsX4_isCell) := goodIn_app (goodIn_of _ (by decide +kernel)) ggX4_poke_X4_isCell
set_option maxRecDepth 20000 in
theorem ggX4_poke_X0_restart : GoodIn wsX4_poke wsX0_restart := goodIn_r _ [17, 18, 19, 20, 21, 22, 23, 24, 25, 26, 27, 28, 29, 30, 31, 32, 33, 34, 35, 36, 37, 38, 52, 53, 54, 55, 56, 45, 46, 47, 48, 49, 50, 51] rfl (by decide +kernel)
set_option maxRecDepth 20000 in
theorem gX4_poke_X0_restart : GoodIn wsX4_poke (wsV RX4 76 RX0 yX0_restart wsX0_restart) := goodIn_app (goodIn_of _ (by decide +kernel)) ggX4_poke_X0_restart
set_option maxRecDepth 20000 in
theorem ggX4_mark_X2_has : GoodIn wsX4_mark wsX2_has := goodIn_r _ [9, 10, 17, 18, 19, 20, 21] rfl (by decide +kernel)
set_option maxRecDepth 20000 in
theorem gX4_mark_X2_has : GoodIn wsX4_mark (wsV RX4 91 RX2 yX2_has wsX2_has) := goodIn_app (goodIn_of _ (by decide +kernel)) ggX4_mark_X2_has
set_option maxRecDepth 20000 in
theorem ggX4_watch_X4_isCell : GoodIn wsX4_watch wsX4_isCell := goodIn_r _ [7] rfl (by decide +kernel)
set_option maxRecDepth 20000 in
theorem gX4_watch_X4_isCell : GoodIn wsX4_watch (va_wsS RX4 80 yX4_isCell wsX4_isCell) := goodIn_app (goodIn_of _ (by decide +kernel)) ggX4_watch_X4_isCell
set_option maxRecDepth 20000 in
theorem ggX4_step_X4_advance : GoodIn wsX4_step wsX4_advance := goodIn_r _ [5, 6, 7, 8, 9, 10, 11, 12, 13, 14, 15, 16, 17, 18, 19, 20, 21, 22, 23, 24, 25, 26, 27, 28, 29, 30, 31, 32, 33, 34, 35, 36, 37, 38, 39, 40, 41, 42, 43, 44, 45, 46, 47, 48, 49, 50, 51, 52, 53, 54, 4, 55, 56, 57, 58, 59, 60, 61, 62, 63, 64, 65, 66, 67, 68, 69, 70, 71, 72, 73, 74, 75, 76, 77, 78, 79, 80, 81, 82, 83, 84, 85, 86, 87, 88, 89, 90, 91, 92, 93, 94, 95, 96, 97, 98, 99, 100, 101, 102, 103, 104, 105, 106, 107, 108, 109, 110, 111, 112, 113, 114, 115, 116, 117, 118, 119, 120, 121, 122, 123, 124, 125, 126, 127, 128, 129, 130, 131, 132, 133, 134, 135, 136, 137, 138, 139, 140, 141, 142, 143, 144] rfl (by decide +kernel)
set_option maxRecDepth 20000 in
theorem gX4_step_X4_advance : GoodIn wsX4_step (wsV RX4 97 RX4 yX4_advance wsX4_advance) := goodIn_app (goodIn_of _ (by decide +kernel)) ggX4_step_X4_advance
set_option maxRecDepth 20000 in
theorem ggX4_next_X4_advanceTillFramesAre : GoodIn wsX4_next wsX4_advanceTillFramesAre := goodIn_r _ [7, 1, 2, 8, 9, 10, 6, 11, 12, 13, 14, 15, 16, 17, 18, 19, 20, 21, 22, 23, 24, 25, 26, 27, 28, 29, 30, 31, 32, 33, 34, 35, 36, 37, 38, 39, 40, 41, 42, 43, 44, 45, 46, 47, 48, 49, 50, 51, 52, 53, 54, 55, 56, 57, 58, 59, 60, 61, 62, 63, 64, 65, 66, 67, 68, 69, 70, 71, 72, 73, 74, 75, 76, 77, 78, 79, 80, 81, 82, 83, 84, 85, 86, 87, 88, 89, 90, 91, 92, 93, 94, 95, 96, 97, 98, 99, 100, 101, 102, 103, 104, 105, 106, 107, 108, 109, 110, 111, 112, 113, 114, 115, 116, 117, 118, 119, 120, 121, 122, 123, 124, 125, 126, 127, 128, 129, 130, 131, 132, 133, 134, 135, 136, 137, 138, 139, 140, 141, 142, 143, 144, 145, 146, 147, 148] rfl (by decide +kernel)
set_option maxRecDepth 20000 in
theorem gX4_next_X4_advanceTillFramesAre : GoodIn wsX4_next (wsV RX4 104 RX4 yX4_advanceTillFramesAre wsX4_advanceTillFramesAre) := goodIn_app (goodIn_of _ (by decide +kernel)) ggX4_next_X4_advanceTillFramesAre
set_option maxRecDepth 20000 in
theorem ggX4_finish_X4_advanceTillFramesAre : GoodIn wsX4_finish wsX4_advanceTillFramesAre := goodIn_r _ [7, 1, 2, 8, 9, 10, 6, 11, 12, 13, 14, 15, 16, 17, 18, 19, 20, 21, 22, 23, 24, 25, 26, 27, 28, 29, 30, 31, 32, 33, 34, 35, 36, 37, 38, 39, 40, 41, 42, 43, 44, 45, 46, 47, 48, 49, 50, 51, 52, 53, 54, 55, 56, 57, 58, 59, 60, 61, 62, 63, 64, 65, 66, 67, 68, 69, 70, 71, 72, 73, 74, 75, 76, 77, 78, 79, 80, 81, 82, 83, 84, 85, 86, 87, 88, 89, 90, 91, 92, 93, 94, 95, 96, 97, 98, 99, 100, 101, 102, 103, 104, 105, 106, 107, 108, 109, 110, 111, 112, 113, 114, 115, 116, 117, 118, 119, 120, 121, 122, 123, 124, 125, 126, 127, 128, 129, 130, 131, 132, 133, 134, 135, 136, 137, 138, 139, 140, 141, 142, 143, 144, 145, 146, 147, 148] rfl (by decide +kernel)
set_option maxRecDepth 20000 in
theorem gX4_finish_X4_advanceTillFramesAre : GoodIn wsX4_finish (wsV RX4 104 RX4 yX4_advanceTillFramesAre wsX4_advanceTillFramesAre) := goodIn_app (goodIn_of _ (by decide +kernel)) ggX4_finish_X4_advanceTillFramesAre
