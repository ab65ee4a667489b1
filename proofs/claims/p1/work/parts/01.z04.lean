set_option maxRecDepth 20000 in
theorem ggX4_travelTo_X0_latestUpTo : GoodIn wsX4_travelTo wsX0_latestUpTo := goodIn_r _ [10, 11, 12, 13, 138, 139, 140, 141, 142, 131, 132, 133, 134, 135, 136, 137] rfl (by decide +kernel)
set_option maxRecDepth 20000 in
theorem gX4_travelTo_X0_latestUpTo : GoodIn wsX4_travelTo (wsV RX4 115 RX0 yX0_latestUpTo wsX0_latestUpTo) := goodIn_app (goodIn_of _ (by decide +kernel)) ggX4_travelTo_X0_latestUpTo
set_option maxRecDepth 20000 in
theorem ggX4_travelTo_X4_advance : GoodIn wsX4_travelTo wsX4_advance := goodIn_r _ [34, 5, 2, 35, 3, 36, 37, 1, 38, 39, 40, 41, 42, 43, 44, 45, 46, 47, 48, 49, 50, 51, 52, 53, 54, 55, 56, 57, 58, 59, 60, 61, 62, 63, 64, 65, 66, 67, 68, 69, 70, 71, 72, 73, 74, 75, 76, 77, 78, 79, 33, 80, 81, 82, 83, 84, 85, 86, 87, 88, 89, 90, 91, 92, 93, 94, 95, 96, 97, 98, 99, 100, 101, 102, 103, 104, 105, 106, 107, 108, 109, 110, 9, 111, 13, 112, 113, 11, 12, 114, 115, 116, 117, 118, 15, 16, 17, 18, 19, 20, 21, 22, 23, 24, 25, 26, 27, 28, 29, 119, 120, 121, 122, 123, 124, 125, 126, 127, 128, 129, 130, 131, 132, 133, 134, 135, 136, 137, 143, 144, 145, 146, 147, 148, 149, 150, 138, 139, 140, 141, 142] rfl (by decide +kernel)
set_option maxRecDepth 20000 in
theorem gX4_travelTo_X4_advance : GoodIn wsX4_travelTo (wsV RX4 97 RX4 yX4_advance wsX4_advance) := goodIn_app (goodIn_of _ (by decide +kernel)) ggX4_travelTo_X4_advance
set_option maxRecDepth 20000 in
theorem ggX5_init_X5_anew : GoodIn wsX5_init wsX5_anew := goodIn_r _ [22, 17, 23, 16, 24, 25, 26, 27, 28, 29, 21, 30, 12, 11, 13, 31, 14, 32, 33, 34, 35, 36, 37, 38, 39, 40, 41, 42, 43, 44, 45, 46, 47, 48, 49, 50, 51, 52, 53, 54, 55, 56, 57, 58] rfl (by decide +kernel)
set_option maxRecDepth 20000 in
theorem gX5_init_X5_anew : GoodIn wsX5_init (wsV RX5 48 RX5 yX5_anew wsX5_anew) := goodIn_app (goodIn_of _ (by decide +kernel)) ggX5_init_X5_anew
set_option maxRecDepth 20000 in
theorem ggX5_anew_X5_begin : GoodIn wsX5_anew wsX5_begin := goodIn_r _ [11, 12, 13, 14, 15, 16, 17, 18, 19, 20, 21, 22, 23, 24, 25, 26, 27, 28, 29, 30, 31, 32, 33, 34, 35, 36, 37, 38, 39, 40, 41, 42, 43] rfl (by decide +kernel)
set_option maxRecDepth 20000 in
theorem gX5_anew_X5_begin : GoodIn wsX5_anew (wsV RX5 67 RX5 yX5_begin wsX5_begin) := goodIn_app (goodIn_of _ (by decide +kernel)) ggX5_anew_X5_begin
set_option maxRecDepth 20000 in
theorem ggX5_isRight_X5_isLocal : GoodIn wsX5_isRight wsX5_isLocal := goodIn_r _ [4] rfl (by decide +kernel)
set_option maxRecDepth 20000 in
theorem gX5_isRight_X5_isLocal : GoodIn wsX5_isRight (va_wsS RX5 85 yX5_isLocal wsX5_isLocal) := goodIn_app (goodIn_of _ (by decide +kernel)) ggX5_isRight_X5_isLocal
set_option maxRecDepth 20000 in
theorem ggX5_line_X5_isRight : GoodIn wsX5_line wsX5_isRight := goodIn_r _ [11, 12, 13, 10, 14] rfl (by decide +kernel)
set_option maxRecDepth 20000 in
theorem gX5_line_X5_isRight : GoodIn wsX5_line (va_wsS RX5 89 yX5_isRight wsX5_isRight) := goodIn_app (goodIn_of _ (by decide +kernel)) ggX5_line_X5_isRight
set_option maxRecDepth 20000 in
theorem ggX5_line_X5_anew : GoodIn wsX5_line wsX5_anew := goodIn_r _ [18, 19, 20, 21, 22, 23, 24, 25, 26, 27, 10, 28, 29, 30, 31, 32, 33, 1, 34, 35, 36, 37, 38, 39, 40, 41, 42, 43, 44, 45, 46, 47, 48, 49, 50, 51, 52, 53, 54, 55, 56, 57, 58, 59] rfl (by decide +kernel)
set_option maxRecDepth 20000 in
theorem gX5_line_X5_anew : GoodIn wsX5_line (wsV RX5 48 RX5 yX5_anew wsX5_anew) := goodIn_app (goodIn_of _ (by decide +kernel)) ggX5_line_X5_anew
set_option maxRecDepth 20000 in
theorem ggX5_poke_X5_anew : GoodIn wsX5_poke wsX5_anew := goodIn_r _ [8, 9, 10, 11, 12, 13, 14, 15, 16, 17, 7, 18, 19, 3, 20, 21, 22, 1, 23, 24, 25, 26, 27, 28, 29, 30, 31, 32, 33, 34, 35, 36, 37, 38, 39, 40, 41, 42, 43, 44, 45, 46, 47, 48] rfl (by decide +kernel)
set_option maxRecDepth 20000 in
theorem gX5_poke_X5_anew : GoodIn wsX5_poke (wsV RX5 48 RX5 yX5_anew wsX5_anew) := goodIn_app (goodIn_of _ (by decide +kernel)) ggX5_poke_X5_anew
