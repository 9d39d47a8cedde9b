theorem inlX0 : ∀ w ∈ wsX00, w ∈ wsL_law := fun _ h => List.mem_append_left _ (List.mem_append_left _ (List.mem_append_left _ (List.mem_append_left _ (List.mem_append_left _ (List.mem_append_right _ h)))))
theorem inlX1 : ∀ w ∈ wsX10, w ∈ wsL_law := fun _ h => List.mem_append_left _ (List.mem_append_left _ (List.mem_append_left _ (List.mem_append_left _ (List.mem_append_left _ (List.mem_append_left _ (List.mem_append_left _ (List.mem_append_right _ h)))))))
theorem inlX2 : ∀ w ∈ wsX20, w ∈ wsL_law := fun _ h => List.mem_append_left _ (List.mem_append_left _ (List.mem_append_left _ (List.mem_append_left _ (List.mem_append_right _ h))))
theorem inlX4 : ∀ w ∈ wsX40, w ∈ wsL_law := fun _ h => List.mem_append_left _ (List.mem_append_left _ (List.mem_append_left _ (List.mem_append_left _ (List.mem_append_left _ (List.mem_append_left _ (List.mem_append_left _ (List.mem_append_left _ (List.mem_append_right _ h))))))))
theorem inlX6 : ∀ w ∈ wsX60, w ∈ wsL_law := fun _ h => List.mem_append_left _ (List.mem_append_left _ (List.mem_append_left _ (List.mem_append_left _ (List.mem_append_left _ (List.mem_append_left _ (List.mem_append_left _ (List.mem_append_left _ (List.mem_append_left _ (List.mem_append_right _ h)))))))))
theorem goodIn_cons {big b : List Cond} {c : Cond} (hc : GoodIn big [c]) (hb : GoodIn big b) : GoodIn big (c :: b) := fun w h => (List.mem_cons.mp h).elim (fun e => hc w (List.mem_cons.mpr (Or.inl e))) (hb w)
set_option maxRecDepth 20000 in
theorem ggL_law_L_holds_1 : GoodIn wsL_law wsL_holds_r1 := goodIn_r _ [215, 216, 217, 2, 218, 219, 220, 142, 143, 221, 222, 223, 224, 225, 226, 227, 13, 228, 171, 172, 26, 173, 51, 229] (by decide +kernel) (by decide +kernel)
set_option maxRecDepth 20000 in
theorem ggL_law_L_holds_2 : GoodIn wsL_law wsL_holds_r2 := goodIn_r _ [179, 180, 181, 170, 182, 183, 184, 185, 126, 127, 128, 129, 50, 230, 231, 164, 165, 232, 233, 234, 235, 236, 237, 238] (by decide +kernel) (by decide +kernel)
set_option maxRecDepth 20000 in
theorem ggL_law_L_holds_3 : GoodIn wsL_law wsL_holds_r3 := goodIn_r _ [239, 148, 149, 150, 151, 152, 153, 154, 155, 17, 156, 157, 158, 35, 159, 62, 160, 161, 162, 163, 105, 106, 107, 108] (by decide +kernel) (by decide +kernel)
set_option maxRecDepth 20000 in
theorem ggL_law_L_holds_4 : GoodIn wsL_law wsL_holds_r4 := goodIn_r _ [60, 97, 98, 99, 100, 101, 102, 103, 104, 109, 110, 111, 112, 61, 166, 167, 168, 169, 174, 175, 176, 177, 178, 186] (by decide +kernel) (by decide +kernel)
set_option maxRecDepth 20000 in
theorem ggL_law_L_holds_5 : GoodIn wsL_law wsL_holds_r5 := goodIn_r _ [187, 188, 12, 189, 32, 36, 190, 191, 192, 193, 194, 195, 196, 197, 198, 37, 279, 280, 281, 282, 283, 284, 285, 286] (by decide +kernel) (by decide +kernel)
set_option maxRecDepth 20000 in
theorem ggL_law_L_holds_6 : GoodIn wsL_law wsL_holds_r6 := goodIn_r _ [287, 288, 269, 240, 241, 242, 243, 244, 245, 246, 247, 248, 249, 250, 251, 252, 253, 254, 255, 256, 257, 258, 259, 260] (by decide +kernel) (by decide +kernel)
set_option maxRecDepth 20000 in
theorem ggL_law_L_holds_7 : GoodIn wsL_law wsL_holds_r7 := goodIn_r _ [261, 262, 263, 264, 265, 266, 267, 268, 270, 271, 131, 132, 133, 385, 386, 387, 388, 27, 117, 86, 87, 88, 52, 118] (by decide +kernel) (by decide +kernel)
set_option maxRecDepth 20000 in
theorem ggL_law_L_holds_8 : GoodIn wsL_law wsL_holds_r8 := goodIn_r _ [119, 120, 121, 122, 123, 124, 125, 130, 134, 135, 136, 137, 53, 54, 55, 56] (by decide +kernel) (by decide +kernel)
set_option maxRecDepth 20000 in
theorem ggL_law_L_holds : GoodIn wsL_law wsL_holds := goodIn_cons (goodIn_r _ [384] (by decide +kernel) (by decide +kernel)) (goodIn_app (goodIn_app (goodIn_app (goodIn_app (goodIn_app (goodIn_app (goodIn_app (goodIn_app ggL_law_L_holds_1 (goodIn_app ggL_law_L_holds_2 (goodIn_app ggL_law_L_holds_3 (goodIn_app ggL_law_L_holds_4 (goodIn_app ggL_law_L_holds_5 (goodIn_app ggL_law_L_holds_6 (goodIn_app ggL_law_L_holds_7 ggL_law_L_holds_8))))))) (goodIn_sub inlX6 (by decide +kernel))) (goodIn_sub inlX4 (by decide +kernel))) (goodIn_sub inlX0 (by decide +kernel))) (goodIn_sub inlX2 (by decide +kernel))) (goodIn_sub inlX1 (by decide +kernel))) (goodIn_sub (fun _ h => List.mem_append_right _ h) (by decide +kernel))) (goodIn_sub (fun _ h => List.mem_append_left _ (List.mem_append_left _ (List.mem_append_right _ h))) (by decide +kernel)))
set_option maxRecDepth 20000 in
theorem gL_law_L_holds : GoodIn wsL_law (va_wsS RL 94 yL_holds wsL_holds) := goodIn_app (goodIn_of _ (by decide +kernel)) ggL_law_L_holds
