set_option maxRecDepth 20000 in
theorem ggL_law_X6_init : GoodIn wsL_law wsX6_init := goodIn_r _ [6, 7, 8, 9, 10, 11, 12, 13, 14, 15, 16, 17, 18, 19, 20, 21, 22, 23, 24, 25, 26, 27, 28, 29, 30, 31, 32, 33, 34, 35, 36, 3, 37, 38, 39, 40, 41, 42, 43, 44, 45, 46, 47, 48, 49, 50, 51, 52, 53, 54, 55, 56, 57, 58, 59, 60, 61, 62, 63, 64, 65, 66, 67, 68, 69, 70, 71, 72, 73, 74, 75, 76, 398, 399, 400, 401, 402, 403, 404, 405, 406, 407, 408, 392, 393, 394, 395, 396, 397, 409, 410, 411, 412, 413, 414, 415, 416, 417, 418, 419] (by decide +kernel) (by decide +kernel)
set_option maxRecDepth 20000 in
theorem gL_law_X6_init : GoodIn wsL_law (wsX6_init) := ggL_law_X6_init
set_option maxRecDepth 20000 in
theorem ggL_law_X6_keep : GoodIn wsL_law wsX6_keep := goodIn_r _ [80, 18, 13, 19, 81, 82, 83, 12, 84, 32, 36, 37, 38, 39, 40, 41, 42, 43, 44, 45, 85, 86, 87, 26, 88, 50, 51, 52, 89, 90, 91, 35, 92, 60, 61, 62, 392, 393, 394, 395, 396, 397, 398, 399, 400, 401, 402, 403, 404, 405, 406, 407, 408, 417, 418, 419, 414, 415, 416] (by decide +kernel) (by decide +kernel)
set_option maxRecDepth 20000 in
theorem gL_law_X6_keep : GoodIn wsL_law (wsV RL 73 RX6 yX6_keep wsX6_keep) := goodIn_app (goodIn_of _ (by decide +kernel)) ggL_law_X6_keep
set_option maxRecDepth 20000 in
theorem ggL_law_X6_rightShare : GoodIn wsL_law wsX6_rightShare := goodIn_r _ [96, 13, 97, 98, 99, 35, 100, 62, 101, 102, 103, 104, 105, 106, 107, 108, 60, 109, 110, 111, 112, 61, 392, 393, 394, 395, 396, 397, 398, 399, 400, 401, 402, 403, 404, 405, 406, 407, 408, 417, 418, 419] (by decide +kernel) (by decide +kernel)
set_option maxRecDepth 20000 in
theorem gL_law_X6_rightShare : GoodIn wsL_law (wsV RL 76 RX6 yX6_rightShare wsX6_rightShare) := goodIn_app (goodIn_of _ (by decide +kernel)) ggL_law_X6_rightShare
set_option maxRecDepth 20000 in
theorem ggL_law_X6_sortedIn : GoodIn wsL_law wsX6_sortedIn := goodIn_r _ [116, 27, 13, 117, 86, 87, 26, 88, 50, 51, 52, 118, 119, 120, 121, 122, 123, 124, 125, 126, 127, 128, 129, 130, 131, 132, 133, 134, 135, 136, 137, 53, 54, 55, 56, 392, 393, 394, 395, 396, 397, 398, 399, 400, 401, 402, 403, 404, 405, 406, 407, 408, 414, 415, 416] (by decide +kernel) (by decide +kernel)
set_option maxRecDepth 20000 in
theorem gL_law_X6_sortedIn : GoodIn wsL_law (wsV RL 80 RX6 yX6_sortedIn wsX6_sortedIn) := goodIn_app (goodIn_of _ (by decide +kernel)) ggL_law_X6_sortedIn
set_option maxRecDepth 20000 in
theorem ggL_law_X6_stopped : GoodIn wsL_law wsX6_stopped := goodIn_ca (goodIn_r _ [141, 142, 143, 13, 392, 393, 394, 395, 396, 397, 398, 399, 400, 401, 402, 403, 404, 405, 406, 407, 408] (by decide +kernel) (by decide +kernel)) (goodIn_sub (fun _ h => List.mem_append_left _ (List.mem_append_left _ (List.mem_append_right _ h))) (by decide +kernel))
set_option maxRecDepth 20000 in
theorem gL_law_X6_stopped : GoodIn wsL_law (wsV RL 83 RX6 yX6_stopped wsX6_stopped) := goodIn_app (goodIn_of _ (by decide +kernel)) ggL_law_X6_stopped
set_option maxRecDepth 20000 in
theorem ggL_law_L_cell : GoodIn wsL_law wsL_cell := goodIn_r _ [147] (by decide +kernel) (by decide +kernel)
set_option maxRecDepth 20000 in
theorem gL_law_L_cell : GoodIn wsL_law (va_wsS RL 86 yL_cell wsL_cell) := goodIn_app (goodIn_of _ (by decide +kernel)) ggL_law_L_cell
set_option maxRecDepth 20000 in
theorem ggL_law_X6_count : GoodIn wsL_law wsX6_count := goodIn_ca (goodIn_r _ [151, 142, 143, 152, 153, 154, 2, 155, 13, 17, 156, 157, 158, 35, 159, 62, 160, 161, 162, 163, 105, 106, 107, 108, 60, 164, 165, 97, 98, 99, 100, 101, 102, 103, 104, 109, 110, 111, 112, 61, 166, 167, 168, 26, 169, 170, 171, 172, 173, 51, 174, 175, 176, 177, 178, 179, 180, 181, 182, 183, 184, 185, 126, 127, 128, 129, 50, 186, 187, 188, 12, 189, 32, 36, 190, 191, 192, 193, 194, 195, 196, 197, 198, 37, 392, 393, 394, 395, 396, 397, 398, 399, 400, 401, 402, 403, 404, 405, 406, 407, 408, 417, 418, 419, 414, 415, 416, 409, 410, 411] (by decide +kernel) (by decide +kernel)) (goodIn_sub (fun _ h => List.mem_append_left _ (List.mem_append_left _ (List.mem_append_right _ h))) (by decide +kernel))
set_option maxRecDepth 20000 in
theorem gL_law_X6_count : GoodIn wsL_law (wsV RL 12 RX6 yX6_count wsX6_count) := goodIn_app (goodIn_of _ (by decide +kernel)) ggL_law_X6_count
set_option maxRecDepth 20000 in
theorem ggL_law_X6_undo : GoodIn wsL_law wsX6_undo := goodIn_ca (goodIn_r _ [202, 203, 204, 17, 13, 205, 206, 207, 16, 208, 69, 68, 70, 209, 82, 83, 12, 84, 32, 36, 37, 38, 39, 40, 41, 42, 43, 44, 45, 85, 86, 87, 26, 88, 50, 51, 52, 89, 90, 91, 35, 92, 60, 61, 62, 392, 393, 394, 395, 396, 397, 409, 410, 411, 398, 399, 400, 401, 402, 403, 404, 405, 406, 407, 408, 414, 415, 416, 417, 418, 419] (by decide +kernel) (by decide +kernel)) (goodIn_sub (fun _ h => List.mem_append_left _ (List.mem_append_right _ h)) (by decide +kernel))
set_option maxRecDepth 20000 in
theorem gL_law_X6_undo : GoodIn wsL_law (wsV RL 69 RX6 yX6_undo wsX6_undo) := goodIn_app (goodIn_of _ (by decide +kernel)) ggL_law_X6_undo
set_option maxRecDepth 20000 in
theorem ggL_law_L_told : GoodIn wsL_law wsL_told := goodIn_ca (goodIn_ca (goodIn_r _ [212, 213, 214, 148, 149, 150, 2, 151, 142, 143, 152, 153, 154, 155, 13, 17, 156, 157, 158, 35, 159, 62, 160, 161, 162, 163, 105, 106, 107, 108, 60, 164, 165, 97, 98, 99, 100, 101, 102, 103, 104, 109, 110, 111, 112, 61, 166, 167, 168, 26, 169, 170, 171, 172, 173, 51, 174, 175, 176, 177, 178, 179, 180, 181, 182, 183, 184, 185, 126, 127, 128, 129, 50, 186, 187, 188, 12, 189, 32, 36, 190, 191, 192, 193, 194, 195, 196, 197, 198, 37, 215, 216, 217, 218, 219, 220, 221, 222, 223, 224, 225, 226, 227, 228, 229, 230, 231, 232, 233, 234, 235, 236, 237, 238, 239, 240, 241, 242, 243, 244, 245, 246, 247, 248, 249, 250, 251, 252, 253, 254, 255, 256, 257, 258, 259, 260, 261, 262, 263, 264, 265, 266, 267, 268, 269, 270, 271, 131, 132, 133, 392, 393, 394, 395, 396, 397, 398, 399, 400, 401, 402, 403, 404, 405, 406, 407, 408, 417, 418, 419, 414, 415, 416, 409, 410, 411] (by decide +kernel) (by decide +kernel)) (goodIn_sub (fun _ h => List.mem_append_left _ (List.mem_append_left _ (List.mem_append_right _ h))) (by decide +kernel))) (goodIn_sub (fun _ h => List.mem_append_right _ h) (by decide +kernel))
set_option maxRecDepth 20000 in
theorem gL_law_L_told : GoodIn wsL_law (va_wsS RL 65 yL_told wsL_told) := goodIn_app (goodIn_of _ (by decide +kernel)) ggL_law_L_told
set_option maxRecDepth 20000 in
theorem ggL_law_L_low : GoodIn wsL_law wsL_low := goodIn_r _ [277, 278] (by decide +kernel) (by decide +kernel)
set_option maxRecDepth 20000 in
theorem gL_law_L_low : GoodIn wsL_law (va_wsS RL 28 yL_low wsL_low) := goodIn_app (goodIn_of _ (by decide +kernel)) ggL_law_L_low
