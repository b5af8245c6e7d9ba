set_option maxRecDepth 20000 in
theorem ggL_law_X5_previews : GoodIn wsL_law wsX5_previews := goodIn_ca (goodIn_r _ [393, 19, 37, 244, 245, 2, 246, 123, 124, 125, 126, 127, 128, 129, 130, 131, 18, 132, 42, 394, 395, 396, 397, 398, 399, 400, 31, 38, 266, 267, 268, 30, 269, 71, 74, 270, 271, 272, 273, 72, 73, 75, 274, 275, 276, 277, 76, 77, 251, 252, 253, 254, 43, 401, 295, 296, 297, 298, 299, 300, 402, 403, 404, 405, 453, 454, 455, 456, 457, 458, 459, 460, 461, 462, 463, 464, 465, 479, 480, 481, 482, 483, 484, 485] (by decide +kernel) (by decide +kernel)) (goodIn_sub (fun _ h => List.mem_append_right _ h) (by decide +kernel))
set_option maxRecDepth 20000 in
theorem gL_law_X5_previews : GoodIn wsL_law (wsV RL 86 RX5 yX5_previews wsX5_previews) := goodIn_app (goodIn_of _ (by decide +kernel)) ggL_law_X5_previews
set_option maxRecDepth 20000 in
theorem ggL_law_L_preview : GoodIn wsL_law wsL_preview := goodIn_ca (goodIn_ca (goodIn_ca (goodIn_r _ [408, 409, 410, 411, 412, 2, 413, 105, 106, 107, 108, 19, 37, 244, 245, 246, 123, 124, 125, 126, 127, 128, 129, 130, 131, 18, 132, 42, 247, 248, 249, 250, 251, 252, 253, 254, 43, 401, 295, 296, 297, 298, 299, 300, 394, 395, 396, 397, 398, 399, 400, 31, 38, 266, 267, 268, 30, 269, 71, 74, 270, 271, 272, 273, 72, 73, 75, 274, 275, 276, 277, 76, 77, 402, 403, 404, 405, 453, 454, 455, 456, 457, 458, 459, 460, 461, 462, 463, 464, 465, 479, 480, 481, 482, 483, 484, 485] (by decide +kernel) (by decide +kernel)) (goodIn_sub (fun _ h => List.mem_append_left _ (List.mem_append_left _ (List.mem_append_right _ h))) (by decide +kernel))) (goodIn_sub (fun _ h => List.mem_append_left _ (List.mem_append_right _ h)) (by decide +kernel))) (goodIn_sub (fun _ h => List.mem_append_right _ h) (by decide +kernel))
set_option maxRecDepth 20000 in
theorem gL_law_L_preview : GoodIn wsL_law (va_wsS RL 89 yL_preview wsL_preview) := goodIn_app (goodIn_of _ (by decide +kernel)) ggL_law_L_preview
set_option maxRecDepth 20000 in
theorem ggL_law_J6_bitCount_0f7a4 : GoodIn wsL_law wsJ6_bitCount_0f7a4 := goodIn_r _ [297, 298, 299, 300] (by decide +kernel) (by decide +kernel)
set_option maxRecDepth 20000 in
theorem gL_law_J6_bitCount_0f7a4 : GoodIn wsL_law (va_wsS RL 93 yJ6_bitCount_0f7a4 wsJ6_bitCount_0f7a4) := goodIn_app (goodIn_of _ (by decide +kernel)) ggL_law_J6_bitCount_0f7a4
