set_option maxRecDepth 20000 in
theorem ggL_law_L_cell : GoodIn wsL_law wsL_cell := goodIn_r _ [10] rfl (by decide +kernel)
set_option maxRecDepth 20000 in
theorem gL_law_L_cell : GoodIn wsL_law (va_wsS RL 51 yL_cell wsL_cell) := goodIn_app (goodIn_of _ (by decide +kernel)) ggL_law_L_cell
set_option maxRecDepth 20000 in
theorem ggL_law_X4_init : GoodIn wsL_law wsX4_init := goodIn_r _ [13, 14, 15, 16, 17, 18, 19, 20, 21, 22, 23, 24, 25, 26, 27, 28, 29, 30, 31, 32, 33, 34, 35, 36, 37, 38, 39, 40, 41, 42, 43, 44, 45, 46, 47, 48, 49, 50, 51, 52, 53, 54, 55, 56, 57, 58, 59, 60, 61, 62, 63, 64, 65, 66, 67, 68, 69, 70, 71, 72, 519, 520, 521, 522, 523, 490, 491, 492, 493, 494, 495, 524, 525, 526, 527, 528, 529, 530, 531, 532, 533, 534, 535, 536, 537, 538] rfl (by decide +kernel)
set_option maxRecDepth 20000 in
theorem gL_law_X4_init : GoodIn wsL_law (wsX4_init) := ggL_law_X4_init
set_option maxRecDepth 20000 in
theorem ggL_law_X5_init : GoodIn wsL_law wsX5_init := goodIn_r _ [75, 76, 15, 16, 43, 77, 78, 79, 27, 80, 81, 82, 83, 84, 85, 86, 87, 88, 89, 90, 91, 5, 92, 93, 94, 95, 96, 97, 98, 99, 100, 101, 102, 103, 104, 105, 496, 497, 498, 499, 500, 501, 502, 503, 504, 505, 506, 507, 508, 509, 510, 511, 512, 513, 514, 515, 516, 517, 518] rfl (by decide +kernel)
set_option maxRecDepth 20000 in
theorem gL_law_X5_init : GoodIn wsL_law (wsX5_init) := ggL_law_X5_init
set_option maxRecDepth 20000 in
theorem ggL_law_L_line : GoodIn wsL_law wsL_line := goodIn_ca (goodIn_ca (goodIn_ca (goodIn_r _ [108, 109, 110, 111, 112, 113, 114, 2, 115, 116, 117, 118, 119, 120, 121, 26, 122, 20, 123, 39, 124, 125, 19, 126, 127, 128, 129, 130, 131, 132, 133, 134, 135, 44, 136, 45, 46, 137, 138, 139, 31, 140, 69, 70, 71, 72, 141, 142, 143, 144, 53, 145, 60, 146, 147, 148, 149, 61, 62, 63, 150, 151, 152, 490, 491, 492, 493, 494, 495, 532, 533, 534, 535, 536, 537, 538, 519, 520, 521, 522, 523, 527, 528, 529, 530, 531] rfl (by decide +kernel)) (goodIn_sub (fun _ h => List.mem_append_left _ (List.mem_append_left _ (List.mem_append_left _ (List.mem_append_right _ h)))) (by decide +kernel))) (goodIn_sub (fun _ h => List.mem_append_left _ (List.mem_append_left _ (List.mem_append_right _ h))) (by decide +kernel))) (goodIn_sub (fun _ h => List.mem_append_left _ (List.mem_append_right _ h)) (by decide +kernel))
set_option maxRecDepth 20000 in
theorem gL_law_L_line : GoodIn wsL_law (va_wsS RL 62 yL_line wsL_line) := goodIn_app (goodIn_of _ (by decide +kernel)) ggL_law_L_line
set_option maxRecDepth 20000 in
theorem ggL_law_X5_line : GoodIn wsL_law wsX5_line := goodIn_r _ [156, 102, 157, 158, 77, 78, 79, 80, 159, 160, 5, 161, 162, 163, 164, 89, 90, 91, 92, 88, 93, 87, 94, 95, 96, 97, 98, 99, 100, 83, 82, 84, 101, 85, 103, 104, 105, 496, 497, 498, 499, 500, 501, 502, 503, 504, 505, 506, 507, 508, 509, 510, 511, 512, 513, 514, 515, 516, 517, 518] rfl (by decide +kernel)
set_option maxRecDepth 20000 in
theorem gL_law_X5_line : GoodIn wsL_law (wsV RL 65 RX5 yX5_line wsX5_line) := goodIn_app (goodIn_of _ (by decide +kernel)) ggL_law_X5_line
set_option maxRecDepth 20000 in
theorem ggL_law_L_poke : GoodIn wsL_law wsL_poke := goodIn_ca (goodIn_ca (goodIn_r _ [167, 168, 110, 169, 170, 171, 2, 172, 173, 174, 118, 119, 26, 122, 175, 39, 176, 177, 178, 137, 138, 139, 31, 140, 69, 70, 71, 72, 141, 142, 143, 144, 53, 145, 60, 146, 147, 148, 149, 61, 62, 63, 150, 151, 152, 490, 491, 492, 493, 494, 495, 532, 533, 534, 535, 536, 537, 538, 527, 528, 529, 530, 531] rfl (by decide +kernel)) (goodIn_sub (fun _ h => List.mem_append_right _ h) (by decide +kernel))) (goodIn_sub (fun _ h => List.mem_append_left _ (List.mem_append_left _ (List.mem_append_right _ h))) (by decide +kernel))
set_option maxRecDepth 20000 in
theorem gL_law_L_poke : GoodIn wsL_law (va_wsS RL 66 yL_poke wsL_poke) := goodIn_app (goodIn_of _ (by decide +kernel)) ggL_law_L_poke
set_option maxRecDepth 20000 in
theorem ggL_law_X5_poke : GoodIn wsL_law wsX5_poke := goodIn_r _ [182, 102, 158, 82, 89, 90, 91, 5, 92, 88, 93, 87, 94, 95, 96, 97, 98, 99, 100, 83, 84, 101, 85, 103, 104, 105, 496, 497, 498, 499, 500, 501, 502, 503, 504, 505, 506, 507, 508, 509, 510, 511, 512, 513, 514, 515, 516, 517, 518] rfl (by decide +kernel)
set_option maxRecDepth 20000 in
theorem gL_law_X5_poke : GoodIn wsL_law (wsV RL 69 RX5 yX5_poke wsX5_poke) := goodIn_app (goodIn_of _ (by decide +kernel)) ggL_law_X5_poke
set_option maxRecDepth 20000 in
theorem ggL_law_L_mark : GoodIn wsL_law wsL_mark := goodIn_ca (goodIn_r _ [185, 168, 186, 187, 188, 2, 189, 173, 174, 20, 190, 191, 192, 193, 19, 194, 136, 490, 491, 492, 493, 494, 495, 519, 520, 521, 522, 523] rfl (by decide +kernel)) (goodIn_sub (fun _ h => List.mem_append_right _ h) (by decide +kernel))
set_option maxRecDepth 20000 in
theorem gL_law_L_mark : GoodIn wsL_law (va_wsS RL 70 yL_mark wsL_mark) := goodIn_app (goodIn_of _ (by decide +kernel)) ggL_law_L_mark
set_option maxRecDepth 20000 in
theorem ggL_law_X5_mark : GoodIn wsL_law wsX5_mark := goodIn_r _ [198, 157, 158, 80, 496, 497, 498, 499, 500, 501, 502, 503, 504, 505, 506, 507, 508, 509, 510, 511, 512, 513, 514, 515, 516, 517, 518] rfl (by decide +kernel)
set_option maxRecDepth 20000 in
theorem gL_law_X5_mark : GoodIn wsL_law (wsV RL 73 RX5 yX5_mark wsX5_mark) := goodIn_app (goodIn_of _ (by decide +kernel)) ggL_law_X5_mark
set_option maxRecDepth 20000 in
theorem ggL_law_L_watch : GoodIn wsL_law wsL_watch := goodIn_ca (goodIn_r _ [201, 168, 202, 203, 204, 2, 205, 173, 174, 28, 176, 177, 178, 490, 491, 492, 493, 494, 495] rfl (by decide +kernel)) (goodIn_sub (fun _ h => List.mem_append_right _ h) (by decide +kernel))
set_option maxRecDepth 20000 in
theorem gL_law_L_watch : GoodIn wsL_law (va_wsS RL 74 yL_watch wsL_watch) := goodIn_app (goodIn_of _ (by decide +kernel)) ggL_law_L_watch
set_option maxRecDepth 20000 in
theorem ggL_law_X5_watch : GoodIn wsL_law wsX5_watch := goodIn_r _ [209, 158, 81, 496, 497, 498, 499, 500, 501, 502, 503, 504, 505, 506, 507, 508, 509, 510, 511, 512, 513, 514, 515, 516, 517, 518] rfl (by decide +kernel)
set_option maxRecDepth 20000 in
theorem gL_law_X5_watch : GoodIn wsL_law (wsV RL 76 RX5 yX5_watch wsX5_watch) := goodIn_app (goodIn_of _ (by decide +kernel)) ggL_law_X5_watch
set_option maxRecDepth 20000 in
theorem ggL_law_X5_thrown : GoodIn wsL_law wsX5_thrown := goodIn_r _ [213, 158, 496, 497, 498, 499, 500, 501, 502, 503, 504, 505, 506, 507, 508, 509, 510, 511, 512, 513, 514, 515, 516, 517, 518] rfl (by decide +kernel)
set_option maxRecDepth 20000 in
theorem gL_law_X5_thrown : GoodIn wsL_law (wsV RL 77 RX5 yX5_thrown wsX5_thrown) := goodIn_app (goodIn_of _ (by decide +kernel)) ggL_law_X5_thrown
set_option maxRecDepth 20000 in
theorem ggL_law_X4_step : GoodIn wsL_law wsX4_step := goodIn_r _ [217, 218, 219, 220, 2, 221, 222, 26, 223, 122, 24, 20, 39, 224, 28, 225, 226, 227, 228, 229, 23, 230, 56, 54, 231, 232, 233, 234, 235, 236, 237, 192, 193, 19, 194, 136, 238, 239, 240, 241, 242, 243, 244, 245, 246, 247, 248, 249, 250, 251, 252, 253, 254, 255, 177, 178, 256, 257, 258, 259, 260, 261, 262, 263, 264, 265, 266, 267, 268, 269, 270, 271, 272, 273, 274, 275, 276, 277, 278, 279, 280, 281, 55, 282, 283, 284, 31, 285, 286, 141, 72, 70, 69, 287, 288, 289, 290, 142, 143, 144, 53, 145, 60, 146, 147, 148, 149, 61, 62, 63, 150, 151, 152, 291, 292, 293, 294, 47, 295, 490, 491, 492, 493, 494, 495, 532, 533, 534, 535, 536, 537, 538, 524, 525, 526, 519, 520, 521, 522, 523, 527, 528, 529, 530, 531] rfl (by decide +kernel)
set_option maxRecDepth 20000 in
theorem gL_law_X4_step : GoodIn wsL_law (wsV RL 81 RX4 yX4_step wsX4_step) := goodIn_app (goodIn_of _ (by decide +kernel)) ggL_law_X4_step
set_option maxRecDepth 20000 in
theorem ggL_law_X5_step : GoodIn wsL_law wsX5_step := goodIn_r _ [299, 158, 300, 301, 302, 5, 303, 96, 104, 102, 304, 305, 306, 307, 105, 81, 308, 309, 310, 311, 85, 101, 78, 79, 77, 84, 83, 86, 103, 312, 313, 314, 315, 157, 316, 317, 318, 319, 95, 93, 94, 87, 320, 321, 322, 323, 80, 496, 497, 498, 499, 500, 501, 502, 503, 504, 505, 506, 507, 508, 509, 510, 511, 512, 513, 514, 515, 516, 517, 518] rfl (by decide +kernel)
set_option maxRecDepth 20000 in
theorem gL_law_X5_step : GoodIn wsL_law (wsV RL 84 RX5 yX5_step wsX5_step) := goodIn_app (goodIn_of _ (by decide +kernel)) ggL_law_X5_step
set_option maxRecDepth 20000 in
theorem ggL_law_X4_next : GoodIn wsL_law wsX4_next := goodIn_r _ [327, 26, 226, 328, 329, 330, 2, 331, 218, 219, 220, 221, 222, 223, 122, 24, 20, 39, 224, 28, 225, 227, 228, 229, 23, 230, 56, 54, 231, 232, 233, 234, 235, 236, 237, 192, 193, 19, 194, 136, 238, 239, 240, 241, 242, 243, 244, 245, 246, 247, 248, 249, 250, 251, 252, 253, 254, 255, 177, 178, 256, 257, 258, 259, 260, 261, 262, 263, 264, 265, 266, 267, 268, 269, 270, 271, 272, 273, 274, 275, 276, 277, 278, 279, 280, 281, 55, 282, 283, 284, 31, 285, 286, 141, 72, 70, 69, 287, 288, 289, 290, 142, 143, 144, 53, 145, 60, 146, 147, 148, 149, 61, 62, 63, 150, 151, 152, 291, 292, 293, 294, 47, 295, 490, 491, 492, 493, 494, 495, 532, 533, 534, 535, 536, 537, 538, 524, 525, 526, 519, 520, 521, 522, 523, 527, 528, 529, 530, 531] rfl (by decide +kernel)
set_option maxRecDepth 20000 in
theorem gL_law_X4_next : GoodIn wsL_law (wsV RL 85 RX4 yX4_next wsX4_next) := goodIn_app (goodIn_of _ (by decide +kernel)) ggL_law_X4_next
set_option maxRecDepth 20000 in
theorem ggL_law_X5_next : GoodIn wsL_law wsX5_next := goodIn_r _ [335, 158, 101, 336, 337, 338, 5, 339, 102, 300, 301, 302, 303, 96, 104, 304, 305, 306, 307, 105, 81, 308, 309, 310, 311, 85, 78, 79, 77, 84, 83, 86, 103, 312, 313, 314, 315, 157, 316, 317, 318, 319, 95, 93, 94, 87, 320, 321, 322, 323, 80, 496, 497, 498, 499, 500, 501, 502, 503, 504, 505, 506, 507, 508, 509, 510, 511, 512, 513, 514, 515, 516, 517, 518] rfl (by decide +kernel)
set_option maxRecDepth 20000 in
theorem gL_law_X5_next : GoodIn wsL_law (wsV RL 88 RX5 yX5_next wsX5_next) := goodIn_app (goodIn_of _ (by decide +kernel)) ggL_law_X5_next
set_option maxRecDepth 20000 in
theorem ggL_law_X4_finish : GoodIn wsL_law wsX4_finish := goodIn_r _ [343, 26, 226, 328, 329, 330, 2, 331, 218, 219, 220, 221, 222, 223, 122, 24, 20, 39, 224, 28, 225, 227, 228, 229, 23, 230, 56, 54, 231, 232, 233, 234, 235, 236, 237, 192, 193, 19, 194, 136, 238, 239, 240, 241, 242, 243, 244, 245, 246, 247, 248, 249, 250, 251, 252, 253, 254, 255, 177, 178, 256, 257, 258, 259, 260, 261, 262, 263, 264, 265, 266, 267, 268, 269, 270, 271, 272, 273, 274, 275, 276, 277, 278, 279, 280, 281, 55, 282, 283, 284, 31, 285, 286, 141, 72, 70, 69, 287, 288, 289, 290, 142, 143, 144, 53, 145, 60, 146, 147, 148, 149, 61, 62, 63, 150, 151, 152, 291, 292, 293, 294, 47, 295, 490, 491, 492, 493, 494, 495, 532, 533, 534, 535, 536, 537, 538, 524, 525, 526, 519, 520, 521, 522, 523, 527, 528, 529, 530, 531] rfl (by decide +kernel)
set_option maxRecDepth 20000 in
theorem gL_law_X4_finish : GoodIn wsL_law (wsV RL 89 RX4 yX4_finish wsX4_finish) := goodIn_app (goodIn_of _ (by decide +kernel)) ggL_law_X4_finish
set_option maxRecDepth 20000 in
theorem ggL_law_X5_finish : GoodIn wsL_law wsX5_finish := goodIn_r _ [347, 158, 101, 336, 337, 338, 5, 339, 102, 300, 301, 302, 303, 96, 104, 304, 305, 306, 307, 105, 81, 308, 309, 310, 311, 85, 78, 79, 77, 84, 83, 86, 103, 312, 313, 314, 315, 157, 316, 317, 318, 319, 95, 93, 94, 87, 320, 321, 322, 323, 80, 496, 497, 498, 499, 500, 501, 502, 503, 504, 505, 506, 507, 508, 509, 510, 511, 512, 513, 514, 515, 516, 517, 518] rfl (by decide +kernel)
set_option maxRecDepth 20000 in
theorem gL_law_X5_finish : GoodIn wsL_law (wsV RL 92 RX5 yX5_finish wsX5_finish) := goodIn_app (goodIn_of _ (by decide +kernel)) ggL_law_X5_finish
set_option maxRecDepth 20000 in
theorem ggL_law_X4_go : GoodIn wsL_law wsX4_go := goodIn_r _ [351, 328, 329, 330, 2, 331, 26, 226, 218, 219, 220, 221, 222, 223, 122, 24, 20, 39, 224, 28, 225, 227, 228, 229, 23, 230, 56, 54, 231, 232, 233, 234, 235, 236, 237, 192, 193, 19, 194, 136, 238, 239, 240, 241, 242, 243, 244, 245, 246, 247, 248, 249, 250, 251, 252, 253, 254, 255, 177, 178, 256, 257, 258, 259, 260, 261, 262, 263, 264, 265, 266, 267, 268, 269, 270, 271, 272, 273, 274, 275, 276, 277, 278, 279, 280, 281, 55, 282, 283, 284, 31, 285, 286, 141, 72, 70, 69, 287, 288, 289, 290, 142, 143, 144, 53, 145, 60, 146, 147, 148, 149, 61, 62, 63, 150, 151, 152, 291, 292, 293, 294, 47, 295, 490, 491, 492, 493, 494, 495, 532, 533, 534, 535, 536, 537, 538, 524, 525, 526, 519, 520, 521, 522, 523, 527, 528, 529, 530, 531] rfl (by decide +kernel)
set_option maxRecDepth 20000 in
theorem gL_law_X4_go : GoodIn wsL_law (wsV RL 93 RX4 yX4_go wsX4_go) := goodIn_app (goodIn_of _ (by decide +kernel)) ggL_law_X4_go
set_option maxRecDepth 20000 in
theorem ggL_law_X5_go : GoodIn wsL_law wsX5_go := goodIn_r _ [355, 158, 336, 337, 338, 5, 339, 101, 102, 300, 301, 302, 303, 96, 104, 304, 305, 306, 307, 105, 81, 308, 309, 310, 311, 85, 78, 79, 77, 84, 83, 86, 103, 312, 313, 314, 315, 157, 316, 317, 318, 319, 95, 93, 94, 87, 320, 321, 322, 323, 80, 496, 497, 498, 499, 500, 501, 502, 503, 504, 505, 506, 507, 508, 509, 510, 511, 512, 513, 514, 515, 516, 517, 518] rfl (by decide +kernel)
set_option maxRecDepth 20000 in
theorem gL_law_X5_go : GoodIn wsL_law (wsV RL 96 RX5 yX5_go wsX5_go) := goodIn_app (goodIn_of _ (by decide +kernel)) ggL_law_X5_go
set_option maxRecDepth 20000 in
theorem ggL_law_X4_back : GoodIn wsL_law wsX4_back := goodIn_r _ [359, 26, 122, 222, 360, 361, 362, 2, 363, 39, 364, 365, 366, 367, 31, 368, 70, 69, 286, 369, 143, 144, 53, 145, 60, 146, 147, 148, 149, 61, 62, 63, 150, 151, 152, 218, 219, 220, 221, 223, 24, 20, 224, 28, 225, 226, 227, 228, 229, 23, 230, 56, 54, 231, 232, 233, 234, 235, 236, 237, 192, 193, 19, 194, 136, 238, 239, 240, 241, 242, 243, 244, 245, 246, 247, 248, 249, 250, 251, 252, 253, 254, 255, 177, 178, 256, 257, 258, 259, 260, 261, 262, 263, 264, 265, 266, 267, 268, 269, 270, 271, 272, 273, 274, 275, 276, 277, 278, 279, 280, 281, 55, 282, 283, 284, 285, 141, 72, 287, 288, 289, 290, 142, 291, 292, 293, 294, 47, 295, 490, 491, 492, 493, 494, 495, 532, 533, 534, 535, 536, 537, 538, 527, 528, 529, 530, 531, 524, 525, 526, 519, 520, 521, 522, 523] rfl (by decide +kernel)
set_option maxRecDepth 20000 in
theorem gL_law_X4_back : GoodIn wsL_law (wsV RL 97 RX4 yX4_back wsX4_back) := goodIn_app (goodIn_of _ (by decide +kernel)) ggL_law_X4_back
set_option maxRecDepth 20000 in
theorem ggL_law_X5_back : GoodIn wsL_law wsX5_back := goodIn_r _ [373, 158, 96, 102, 374, 375, 376, 5, 377, 97, 98, 99, 100, 83, 82, 84, 101, 85, 103, 104, 105, 308, 309, 310, 311, 78, 79, 77, 86, 312, 313, 314, 315, 157, 496, 497, 498, 499, 500, 501, 502, 503, 504, 505, 506, 507, 508, 509, 510, 511, 512, 513, 514, 515, 516, 517, 518] rfl (by decide +kernel)
set_option maxRecDepth 20000 in
theorem gL_law_X5_back : GoodIn wsL_law (wsV RL 100 RX5 yX5_back wsX5_back) := goodIn_app (goodIn_of _ (by decide +kernel)) ggL_law_X5_back
set_option maxRecDepth 20000 in
theorem ggL_law_X4_reverse : GoodIn wsL_law wsX4_reverse := goodIn_r _ [381, 26, 122, 39, 364, 365, 366, 367, 31, 368, 70, 69, 286, 382, 383, 384, 2, 385, 222, 369, 143, 144, 53, 145, 60, 146, 147, 148, 149, 61, 62, 63, 150, 151, 152, 218, 219, 220, 221, 223, 24, 20, 224, 28, 225, 226, 227, 228, 229, 23, 230, 56, 54, 231, 232, 233, 234, 235, 236, 237, 192, 193, 19, 194, 136, 238, 239, 240, 241, 242, 243, 244, 245, 246, 247, 248, 249, 250, 251, 252, 253, 254, 255, 177, 178, 256, 257, 258, 259, 260, 261, 262, 263, 264, 265, 266, 267, 268, 269, 270, 271, 272, 273, 274, 275, 276, 277, 278, 279, 280, 281, 55, 282, 283, 284, 285, 141, 72, 287, 288, 289, 290, 142, 291, 292, 293, 294, 47, 295, 360, 361, 362, 363, 490, 491, 492, 493, 494, 495, 532, 533, 534, 535, 536, 537, 538, 527, 528, 529, 530, 531, 524, 525, 526, 519, 520, 521, 522, 523] rfl (by decide +kernel)
set_option maxRecDepth 20000 in
theorem gL_law_X4_reverse : GoodIn wsL_law (wsV RL 101 RX4 yX4_reverse wsX4_reverse) := goodIn_app (goodIn_of _ (by decide +kernel)) ggL_law_X4_reverse
set_option maxRecDepth 20000 in
theorem ggL_law_X5_reverse : GoodIn wsL_law wsX5_reverse := goodIn_r _ [389, 158, 96, 102, 105, 81, 97, 98, 99, 5, 100, 83, 82, 84, 101, 85, 103, 104, 308, 309, 310, 311, 78, 79, 77, 86, 312, 313, 314, 315, 157, 320, 321, 322, 323, 80, 374, 375, 376, 377, 496, 497, 498, 499, 500, 501, 502, 503, 504, 505, 506, 507, 508, 509, 510, 511, 512, 513, 514, 515, 516, 517, 518] rfl (by decide +kernel)
set_option maxRecDepth 20000 in
theorem gL_law_X5_reverse : GoodIn wsL_law (wsV RL 104 RX5 yX5_reverse wsX5_reverse) := goodIn_app (goodIn_of _ (by decide +kernel)) ggL_law_X5_reverse
set_option maxRecDepth 20000 in
theorem ggL_law_L_goTo : GoodIn wsL_law wsL_goTo := goodIn_ca (goodIn_r _ [392, 109, 393, 394, 395, 2, 396, 116, 117, 26, 122, 360, 361, 362, 363, 39, 364, 222, 365, 366, 367, 31, 368, 70, 69, 286, 369, 143, 144, 53, 145, 60, 146, 147, 148, 149, 61, 62, 63, 150, 151, 152, 218, 219, 220, 221, 223, 24, 20, 224, 28, 225, 226, 227, 228, 229, 23, 230, 56, 54, 231, 232, 233, 234, 235, 236, 237, 192, 193, 19, 194, 136, 238, 239, 240, 241, 242, 243, 244, 245, 246, 247, 248, 249, 250, 251, 252, 253, 254, 255, 177, 178, 256, 257, 258, 259, 260, 261, 262, 263, 264, 265, 266, 267, 268, 269, 270, 271, 272, 273, 274, 275, 276, 277, 278, 279, 280, 281, 55, 282, 283, 284, 285, 141, 72, 287, 288, 289, 290, 142, 291, 292, 293, 294, 47, 295, 490, 491, 492, 493, 494, 495, 532, 533, 534, 535, 536, 537, 538, 527, 528, 529, 530, 531, 524, 525, 526, 519, 520, 521, 522, 523] rfl (by decide +kernel)) (goodIn_sub (fun _ h => List.mem_append_left _ (List.mem_append_left _ (List.mem_append_left _ (List.mem_append_right _ h)))) (by decide +kernel))
set_option maxRecDepth 20000 in
theorem gL_law_L_goTo : GoodIn wsL_law (va_wsS RL 105 yL_goTo wsL_goTo) := goodIn_app (goodIn_of _ (by decide +kernel)) ggL_law_L_goTo
set_option maxRecDepth 20000 in
theorem ggL_law_X5_goTo : GoodIn wsL_law wsX5_goTo := goodIn_r _ [400, 158, 96, 102, 104, 374, 375, 376, 5, 377, 97, 98, 99, 100, 83, 82, 84, 101, 85, 103, 105, 308, 309, 310, 311, 78, 79, 77, 86, 312, 313, 314, 315, 157, 316, 317, 318, 319, 95, 93, 94, 87, 496, 497, 498, 499, 500, 501, 502, 503, 504, 505, 506, 507, 508, 509, 510, 511, 512, 513, 514, 515, 516, 517, 518] rfl (by decide +kernel)
set_option maxRecDepth 20000 in
theorem gL_law_X5_goTo : GoodIn wsL_law (wsV RL 108 RX5 yX5_goTo wsX5_goTo) := goodIn_app (goodIn_of _ (by decide +kernel)) ggL_law_X5_goTo
set_option maxRecDepth 20000 in
theorem ggL_law_L_local : GoodIn wsL_law wsL_local := goodIn_ca (goodIn_r _ [403, 168, 404, 405, 406, 2, 407, 173, 174, 26, 408, 226, 409, 410, 411, 53, 412, 63, 413, 130, 131, 490, 491, 492, 493, 494, 495, 532, 533, 534, 535, 536, 537, 538] rfl (by decide +kernel)) (goodIn_sub (fun _ h => List.mem_append_right _ h) (by decide +kernel))
set_option maxRecDepth 20000 in
theorem gL_law_L_local : GoodIn wsL_law (va_wsS RL 109 yL_local wsL_local) := goodIn_app (goodIn_of _ (by decide +kernel)) ggL_law_L_local
set_option maxRecDepth 20000 in
theorem ggL_law_X5_local : GoodIn wsL_law wsX5_local := goodIn_r _ [417, 101, 158, 84, 162, 163, 5, 164, 496, 497, 498, 499, 500, 501, 502, 503, 504, 505, 506, 507, 508, 509, 510, 511, 512, 513, 514, 515, 516, 517, 518] rfl (by decide +kernel)
set_option maxRecDepth 20000 in
theorem gL_law_X5_local : GoodIn wsL_law (wsV RL 111 RX5 yX5_local wsX5_local) := goodIn_app (goodIn_of _ (by decide +kernel)) ggL_law_X5_local
set_option maxRecDepth 20000 in
theorem ggL_law_L_at : GoodIn wsL_law wsL_at := goodIn_ca (goodIn_r _ [420, 168, 421, 422, 423, 2, 424, 173, 174, 26, 225, 226, 409, 410, 411, 53, 412, 63, 490, 491, 492, 493, 494, 495, 532, 533, 534, 535, 536, 537, 538] rfl (by decide +kernel)) (goodIn_sub (fun _ h => List.mem_append_right _ h) (by decide +kernel))
set_option maxRecDepth 20000 in
theorem gL_law_L_at : GoodIn wsL_law (va_wsS RL 112 yL_at wsL_at) := goodIn_app (goodIn_of _ (by decide +kernel)) ggL_law_L_at
set_option maxRecDepth 20000 in
theorem ggL_law_X5_at : GoodIn wsL_law wsX5_at := goodIn_r _ [428, 101, 158, 85, 496, 497, 498, 499, 500, 501, 502, 503, 504, 505, 506, 507, 508, 509, 510, 511, 512, 513, 514, 515, 516, 517, 518] rfl (by decide +kernel)
set_option maxRecDepth 20000 in
theorem gL_law_X5_at : GoodIn wsL_law (wsV RL 114 RX5 yX5_at wsX5_at) := goodIn_app (goodIn_of _ (by decide +kernel)) ggL_law_X5_at
set_option maxRecDepth 20000 in
theorem ggL_law_L_cell_ : GoodIn wsL_law wsL_cell_ := goodIn_ca (goodIn_r _ [431, 168, 432, 433, 434, 2, 435, 173, 174, 26, 175, 176, 177, 178, 490, 491, 492, 493, 494, 495, 532, 533, 534, 535, 536, 537, 538] rfl (by decide +kernel)) (goodIn_sub (fun _ h => List.mem_append_right _ h) (by decide +kernel))
set_option maxRecDepth 20000 in
theorem gL_law_L_cell_ : GoodIn wsL_law (va_wsS RL 115 yL_cell_ wsL_cell_) := goodIn_app (goodIn_of _ (by decide +kernel)) ggL_law_L_cell_
set_option maxRecDepth 20000 in
theorem ggL_law_X5_cell : GoodIn wsL_law wsX5_cell := goodIn_r _ [439, 158, 83, 496, 497, 498, 499, 500, 501, 502, 503, 504, 505, 506, 507, 508, 509, 510, 511, 512, 513, 514, 515, 516, 517, 518] rfl (by decide +kernel)
set_option maxRecDepth 20000 in
theorem gL_law_X5_cell : GoodIn wsL_law (wsV RL 117 RX5 yX5_cell wsX5_cell) := goodIn_app (goodIn_of _ (by decide +kernel)) ggL_law_X5_cell
set_option maxRecDepth 20000 in
theorem ggL_law_L_output : GoodIn wsL_law wsL_output := goodIn_ca (goodIn_r _ [442, 168, 443, 444, 445, 2, 446, 173, 174, 26, 447, 24, 448, 490, 491, 492, 493, 494, 495, 532, 533, 534, 535, 536, 537, 538, 524, 525, 526] rfl (by decide +kernel)) (goodIn_sub (fun _ h => List.mem_append_right _ h) (by decide +kernel))
set_option maxRecDepth 20000 in
theorem gL_law_L_output : GoodIn wsL_law (va_wsS RL 118 yL_output wsL_output) := goodIn_app (goodIn_of _ (by decide +kernel)) ggL_law_L_output
set_option maxRecDepth 20000 in
theorem ggL_law_X5_output : GoodIn wsL_law wsX5_output := goodIn_r _ [452, 103, 158, 86, 496, 497, 498, 499, 500, 501, 502, 503, 504, 505, 506, 507, 508, 509, 510, 511, 512, 513, 514, 515, 516, 517, 518] rfl (by decide +kernel)
set_option maxRecDepth 20000 in
theorem gL_law_X5_output : GoodIn wsL_law (wsV RL 120 RX5 yX5_output wsX5_output) := goodIn_app (goodIn_of _ (by decide +kernel)) ggL_law_X5_output
set_option maxRecDepth 20000 in
theorem ggL_law_L_kept : GoodIn wsL_law wsL_kept := goodIn_ca (goodIn_r _ [455, 168, 456, 457, 458, 2, 459, 173, 174, 39, 460, 364, 122, 490, 491, 492, 493, 494, 495, 527, 528, 529, 530, 531, 532, 533, 534, 535, 536, 537, 538] rfl (by decide +kernel)) (goodIn_sub (fun _ h => List.mem_append_right _ h) (by decide +kernel))
set_option maxRecDepth 20000 in
theorem gL_law_L_kept : GoodIn wsL_law (va_wsS RL 121 yL_kept wsL_kept) := goodIn_app (goodIn_of _ (by decide +kernel)) ggL_law_L_kept
set_option maxRecDepth 20000 in
theorem ggL_law_X5_kept : GoodIn wsL_law wsX5_kept := goodIn_r _ [464, 94, 158, 87, 496, 497, 498, 499, 500, 501, 502, 503, 504, 505, 506, 507, 508, 509, 510, 511, 512, 513, 514, 515, 516, 517, 518] rfl (by decide +kernel)
set_option maxRecDepth 20000 in
theorem gL_law_X5_kept : GoodIn wsL_law (wsV RL 123 RX5 yX5_kept wsX5_kept) := goodIn_app (goodIn_of _ (by decide +kernel)) ggL_law_X5_kept
set_option maxRecDepth 20000 in
theorem ggL_law_X4_told : GoodIn wsL_law wsX4_told := goodIn_r _ [468, 26, 122, 226, 447, 39, 460, 469, 20, 123, 223, 222, 490, 491, 492, 493, 494, 495, 532, 533, 534, 535, 536, 537, 538, 527, 528, 529, 530, 531, 519, 520, 521, 522, 523] rfl (by decide +kernel)
set_option maxRecDepth 20000 in
theorem gL_law_X4_told : GoodIn wsL_law (wsV RL 124 RX4 yX4_told wsX4_told) := goodIn_app (goodIn_of _ (by decide +kernel)) ggL_law_X4_told
set_option maxRecDepth 20000 in
theorem ggL_law_X5_told : GoodIn wsL_law wsX5_told := goodIn_r _ [473, 158, 102, 101, 103, 94, 93, 157, 96, 104, 496, 497, 498, 499, 500, 501, 502, 503, 504, 505, 506, 507, 508, 509, 510, 511, 512, 513, 514, 515, 516, 517, 518] rfl (by decide +kernel)
set_option maxRecDepth 20000 in
theorem gL_law_X5_told : GoodIn wsL_law (wsV RL 127 RX5 yX5_told wsX5_told) := goodIn_app (goodIn_of _ (by decide +kernel)) ggL_law_X5_told
set_option maxRecDepth 20000 in
theorem ggL_law_X4_clear : GoodIn wsL_law wsX4_clear := goodIn_r _ [477, 20, 28, 26, 39, 222, 478, 479, 480, 19, 481, 136, 47, 482, 483, 484, 53, 485, 60, 61, 62, 63, 150, 151, 152, 137, 138, 139, 31, 140, 69, 70, 71, 72, 141, 142, 143, 144, 145, 146, 147, 148, 149, 490, 491, 492, 493, 494, 495, 519, 520, 521, 522, 523, 532, 533, 534, 535, 536, 537, 538, 527, 528, 529, 530, 531] rfl (by decide +kernel)
set_option maxRecDepth 20000 in
theorem gL_law_X4_clear : GoodIn wsL_law (wsV RL 128 RX4 yX4_clear wsX4_clear) := goodIn_app (goodIn_of _ (by decide +kernel)) ggL_law_X4_clear
set_option maxRecDepth 20000 in
theorem ggL_law_X5_clear : GoodIn wsL_law wsX5_clear := goodIn_r _ [489, 158, 157, 82, 81, 89, 90, 91, 5, 92, 88, 93, 87, 94, 95, 96, 97, 98, 99, 100, 83, 84, 101, 85, 102, 103, 104, 105, 496, 497, 498, 499, 500, 501, 502, 503, 504, 505, 506, 507, 508, 509, 510, 511, 512, 513, 514, 515, 516, 517, 518] rfl (by decide +kernel)
set_option maxRecDepth 20000 in
theorem gL_law_X5_clear : GoodIn wsL_law (wsV RL 131 RX5 yX5_clear wsX5_clear) := goodIn_app (goodIn_of _ (by decide +kernel)) ggL_law_X5_clear
