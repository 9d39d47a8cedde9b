set_option maxRecDepth 20000 in
theorem ggL_law_L_isHand_1 : GoodIn wsL_law wsL_isHand_r1 := goodIn_r _ [279, 280, 281, 2, 282, 219, 220, 13, 221, 222, 223, 283, 284, 285, 12, 286, 32, 36, 287, 127, 128, 26, 129, 51] (by decide +kernel) (by decide +kernel)
set_option maxRecDepth 20000 in
theorem ggL_law_L_isHand_2 : GoodIn wsL_law wsL_isHand_r2 := goodIn_r _ [50, 288, 161, 162, 35, 163, 62, 105, 106, 107, 108, 60, 164, 165, 269, 196, 197, 198, 37, 215, 216, 217, 218, 142] (by decide +kernel) (by decide +kernel)
set_option maxRecDepth 20000 in
theorem ggL_law_L_isHand_3 : GoodIn wsL_law wsL_isHand_r3 := goodIn_r _ [143, 224, 225, 226, 227, 228, 171, 172, 173, 229, 179, 180, 181, 170, 182, 183, 184, 185, 126, 230, 231, 232, 233, 234] (by decide +kernel) (by decide +kernel)
set_option maxRecDepth 20000 in
theorem ggL_law_L_isHand_4 : GoodIn wsL_law wsL_isHand_r4 := goodIn_r _ [235, 148, 149, 150, 151, 152, 153, 154, 155, 17, 156, 157, 158, 159, 160, 97, 98, 99, 100, 101, 102, 103, 104, 109] (by decide +kernel) (by decide +kernel)
set_option maxRecDepth 20000 in
theorem ggL_law_L_isHand_5 : GoodIn wsL_law wsL_isHand_r5 := goodIn_r _ [110, 111, 112, 61, 166, 167, 168, 169, 174, 175, 176, 177, 178, 186, 187, 188, 189, 190, 191, 192, 193, 194, 195, 210] (by decide +kernel) (by decide +kernel)
set_option maxRecDepth 20000 in
theorem ggL_law_L_isHand_6 : GoodIn wsL_law wsL_isHand_r6 := goodIn_r _ [211, 146, 212, 213, 214, 236, 237, 238, 239, 240, 241, 242, 243, 244, 245, 246, 247, 248, 249, 250, 251, 252, 253, 254] (by decide +kernel) (by decide +kernel)
set_option maxRecDepth 20000 in
theorem ggL_law_L_isHand_7 : GoodIn wsL_law wsL_isHand_r7 := goodIn_r _ [255, 256, 257, 258, 259, 260, 261, 262, 263, 264, 265, 266, 267, 268, 270, 271, 131, 132, 133, 289, 290, 291, 292, 203] (by decide +kernel) (by decide +kernel)
set_option maxRecDepth 20000 in
theorem ggL_law_L_isHand_8 : GoodIn wsL_law wsL_isHand_r8 := goodIn_r _ [204, 293, 294, 295, 16, 296, 69, 68, 70, 209, 82, 83, 84, 38, 39, 40, 41, 42, 43, 44, 45, 85, 86, 87] (by decide +kernel) (by decide +kernel)
set_option maxRecDepth 20000 in
theorem ggL_law_L_isHand_9 : GoodIn wsL_law wsL_isHand_r9 := goodIn_r _ [88, 52, 89, 90, 91, 92, 297, 298, 299, 300, 301, 135, 136, 137, 302, 303, 304, 305, 306, 307, 308, 309, 310, 123] (by decide +kernel) (by decide +kernel)
set_option maxRecDepth 20000 in
theorem ggL_law_L_isHand_10 : GoodIn wsL_law wsL_isHand_r10 := goodIn_r _ [124, 125, 130, 134, 53, 54, 55, 56, 199, 200, 201, 202, 205, 206, 207, 208] (by decide +kernel) (by decide +kernel)
set_option maxRecDepth 20000 in
theorem ggL_law_L_isHand : GoodIn wsL_law wsL_isHand := goodIn_cons (goodIn_r _ [391] (by decide +kernel) (by decide +kernel)) (goodIn_app (goodIn_app (goodIn_app (goodIn_app (goodIn_app (goodIn_app (goodIn_app (goodIn_app (goodIn_app ggL_law_L_isHand_1 (goodIn_app ggL_law_L_isHand_2 (goodIn_app ggL_law_L_isHand_3 (goodIn_app ggL_law_L_isHand_4 (goodIn_app ggL_law_L_isHand_5 (goodIn_app ggL_law_L_isHand_6 (goodIn_app ggL_law_L_isHand_7 (goodIn_app ggL_law_L_isHand_8 (goodIn_app ggL_law_L_isHand_9 ggL_law_L_isHand_10))))))))) (goodIn_sub inlX6 (by decide +kernel))) (goodIn_sub inlX4 (by decide +kernel))) (goodIn_sub inlX0 (by decide +kernel))) (goodIn_sub inlX2 (by decide +kernel))) (goodIn_sub inlX1 (by decide +kernel))) (goodIn_sub (fun _ h => List.mem_append_right _ h) (by decide +kernel))) (goodIn_sub (fun _ h => List.mem_append_left _ (List.mem_append_left _ (List.mem_append_right _ h))) (by decide +kernel))) (goodIn_sub (fun _ h => List.mem_append_left _ (List.mem_append_right _ h)) (by decide +kernel)))
set_option maxRecDepth 20000 in
theorem gL_law_L_isHand : GoodIn wsL_law (va_wsS RL 98 yL_isHand wsL_isHand) := goodIn_app (goodIn_of _ (by decide +kernel)) ggL_law_L_isHand
