set_option maxRecDepth 20000 in
theorem ggX4_advance_X2_isMarked : GoodIn wsX4_advance wsX2_isMarked := goodIn_r _ [112, 113, 114, 26, 27, 28, 29, 30, 131, 132, 133, 134, 135] rfl (by decide +kernel)
set_option maxRecDepth 20000 in
theorem gX4_advance_X2_isMarked : GoodIn wsX4_advance (wsV RX4 166 RX2 yX2_isMarked wsX2_isMarked) := goodIn_app (goodIn_of _ (by decide +kernel)) ggX4_advance_X2_isMarked
set_option maxRecDepth 20000 in
theorem ggX4_advanceTillFramesAre_X4_advance : GoodIn wsX4_advanceTillFramesAre wsX4_advance := goodIn_r _ [7, 8, 1, 9, 10, 11, 12, 13, 14, 15, 16, 2, 17, 18, 19, 20, 21, 22, 23, 24, 25, 26, 27, 28, 29, 30, 31, 32, 33, 34, 35, 36, 37, 38, 39, 40, 41, 42, 43, 44, 45, 46, 47, 48, 49, 50, 51, 52, 53, 54, 6, 55, 56, 57, 58, 59, 60, 61, 62, 63, 64, 65, 66, 67, 68, 69, 70, 71, 72, 73, 74, 75, 76, 77, 78, 79, 80, 81, 82, 83, 84, 85, 86, 87, 88, 89, 90, 91, 92, 93, 94, 95, 96, 97, 98, 99, 100, 101, 102, 103, 104, 105, 106, 107, 108, 109, 110, 111, 112, 113, 114, 115, 116, 117, 118, 119, 120, 121, 122, 123, 124, 125, 126, 127, 128, 129, 130, 131, 132, 133, 134, 135, 136, 137, 138, 139, 140, 141, 142, 143, 144] rfl (by decide +kernel)
set_option maxRecDepth 20000 in
theorem gX4_advanceTillFramesAre_X4_advance : GoodIn wsX4_advanceTillFramesAre (wsV RX4 97 RX4 yX4_advance wsX4_advance) := goodIn_app (goodIn_of _ (by decide +kernel)) ggX4_advanceTillFramesAre_X4_advance
set_option maxRecDepth 20000 in
theorem ggX4_travelTo_X0_latestUpTo : GoodIn wsX4_travelTo wsX0_latestUpTo := goodIn_r _ [10, 11, 12, 13, 138, 139, 140, 141, 142, 131, 132, 133, 134, 135, 136, 137] rfl (by decide +kernel)
set_option maxRecDepth 20000 in
theorem gX4_travelTo_X0_latestUpTo : GoodIn wsX4_travelTo (wsV RX4 115 RX0 yX0_latestUpTo wsX0_latestUpTo) := goodIn_app (goodIn_of _ (by decide +kernel)) ggX4_travelTo_X0_latestUpTo
set_option maxRecDepth 20000 in
theorem ggX4_travelTo_X3_copyFrom : GoodIn wsX4_travelTo wsX3_copyFrom := goodIn_r _ [18, 19, 20, 21, 22, 23, 24, 25, 26, 27, 28, 29, 131, 132, 133, 134, 135, 136, 137] rfl (by decide +kernel)
set_option maxRecDepth 20000 in
theorem gX4_travelTo_X3_copyFrom : GoodIn wsX4_travelTo (wsV RX4 169 RX3 yX3_copyFrom wsX3_copyFrom) := goodIn_app (goodIn_of _ (by decide +kernel)) ggX4_travelTo_X3_copyFrom
set_option maxRecDepth 20000 in
theorem ggX4_travelTo_X4_advance : GoodIn wsX4_travelTo wsX4_advance := goodIn_r _ [34, 5, 2, 35, 3, 36, 37, 1, 38, 39, 40, 41, 42, 43, 44, 45, 46, 47, 48, 49, 50, 51, 52, 53, 54, 55, 56, 57, 58, 59, 60, 61, 62, 63, 64, 65, 66, 67, 68, 69, 70, 71, 72, 73, 74, 75, 76, 77, 78, 79, 33, 80, 81, 82, 83, 84, 85, 86, 87, 88, 89, 90, 91, 92, 93, 94, 95, 96, 97, 98, 99, 100, 101, 102, 103, 104, 105, 106, 107, 108, 109, 110, 9, 111, 13, 112, 113, 11, 12, 114, 115, 116, 117, 118, 15, 16, 17, 18, 19, 20, 21, 22, 23, 24, 25, 26, 27, 28, 29, 119, 120, 121, 122, 123, 124, 125, 126, 127, 128, 129, 130, 131, 132, 133, 134, 135, 136, 137, 143, 144, 145, 146, 147, 148, 149, 150, 138, 139, 140, 141, 142] rfl (by decide +kernel)
set_option maxRecDepth 20000 in
theorem gX4_travelTo_X4_advance : GoodIn wsX4_travelTo (wsV RX4 97 RX4 yX4_advance wsX4_advance) := goodIn_app (goodIn_of _ (by decide +kernel)) ggX4_travelTo_X4_advance
set_option maxRecDepth 20000 in
theorem ggX4_latestStop_X3_copyFrom : GoodIn wsX4_latestStop wsX3_copyFrom := goodIn_r _ [10, 11, 12, 13, 14, 15, 16, 17, 18, 19, 20, 21, 132, 133, 134, 135, 136, 137, 138] rfl (by decide +kernel)
set_option maxRecDepth 20000 in
theorem gX4_latestStop_X3_copyFrom : GoodIn wsX4_latestStop (wsV RX4 169 RX3 yX3_copyFrom wsX3_copyFrom) := goodIn_app (goodIn_of _ (by decide +kernel)) ggX4_latestStop_X3_copyFrom
set_option maxRecDepth 20000 in
theorem ggX4_latestStop_X4_advance : GoodIn wsX4_latestStop wsX4_advance := goodIn_r _ [26, 4, 1, 27, 5, 28, 29, 2, 30, 31, 32, 33, 34, 35, 36, 37, 38, 39, 40, 41, 42, 43, 44, 45, 46, 47, 48, 49, 50, 51, 52, 53, 54, 55, 56, 57, 58, 59, 60, 61, 62, 63, 64, 65, 66, 67, 68, 69, 70, 71, 25, 72, 73, 74, 75, 76, 77, 78, 79, 80, 81, 82, 83, 84, 85, 86, 87, 88, 89, 90, 91, 92, 93, 94, 95, 96, 97, 98, 99, 100, 101, 102, 103, 104, 105, 106, 107, 108, 109, 110, 111, 112, 113, 114, 7, 8, 9, 10, 11, 12, 13, 14, 15, 16, 17, 18, 19, 20, 21, 115, 116, 117, 118, 119, 120, 121, 122, 123, 124, 125, 126, 132, 133, 134, 135, 136, 137, 138, 139, 140, 141, 142, 143, 144, 145, 146, 127, 128, 129, 130, 131] rfl (by decide +kernel)
set_option maxRecDepth 20000 in
theorem gX4_latestStop_X4_advance : GoodIn wsX4_latestStop (wsV RX4 97 RX4 yX4_advance wsX4_advance) := goodIn_app (goodIn_of _ (by decide +kernel)) ggX4_latestStop_X4_advance
set_option maxRecDepth 20000 in
theorem ggX5_init_X5_anew : GoodIn wsX5_init wsX5_anew := goodIn_r _ [22, 17, 23, 16, 24, 25, 26, 27, 28, 29, 21, 30, 12, 11, 13, 31, 14, 32, 33, 34, 35, 36, 37, 38, 39, 40, 41, 42, 43, 44, 45, 46, 47, 48, 49, 50, 51, 52, 53, 54, 55, 56, 57, 58] rfl (by decide +kernel)
set_option maxRecDepth 20000 in
theorem gX5_init_X5_anew : GoodIn wsX5_init (wsV RX5 48 RX5 yX5_anew wsX5_anew) := goodIn_app (goodIn_of _ (by decide +kernel)) ggX5_init_X5_anew
