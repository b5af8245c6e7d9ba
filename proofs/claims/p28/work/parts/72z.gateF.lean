theorem goodIn_c1 {big a : List Cond} {c : Cond} (h1 : GoodIn big [c]) (h2 : GoodIn big a) : GoodIn big (c :: a) := fun w h => (List.mem_cons.mp h).elim (fun e => h1 w (List.mem_cons.mpr (Or.inl e))) (h2 w)
set_option maxRecDepth 20000 in
theorem gF_c : GoodIn wsL_law [Cond.code yL_isFair cL_isFair 11 (some .boolean)] := goodIn_r _ [417] (by decide +kernel) (by decide +kernel)
set_option maxRecDepth 20000 in
theorem gF_r1 : GoodIn wsL_law wsL_isFair_r1 := goodIn_r _ [418, 419, 420, 2, 421, 422, 423, 19, 35, 31, 424, 229, 230, 231, 105, 106, 23, 27, 38, 232, 233, 234, 18, 235] (by decide +kernel) (by decide +kernel)
set_option maxRecDepth 20000 in
theorem gF_r2 : GoodIn wsL_law wsL_isFair_r2 := goodIn_r _ [42, 44, 164, 165, 166, 34, 167, 81, 160, 161, 162, 163, 82, 83, 168, 169, 170, 171, 91, 172, 173, 174, 175, 176] (by decide +kernel) (by decide +kernel)
set_option maxRecDepth 20000 in
theorem gF_r3 : GoodIn wsL_law wsL_isFair_r3 := goodIn_r _ [177, 178, 179, 180, 181, 84, 154, 155, 236, 237, 238, 239, 90, 425, 426, 427, 428, 429, 135, 136, 137, 125, 126, 127] (by decide +kernel) (by decide +kernel)
set_option maxRecDepth 20000 in
theorem gF_r4 : GoodIn wsL_law wsL_isFair_r4 := goodIn_r _ [128, 123, 124, 129, 130, 131, 132, 138, 139, 140, 141, 45, 142, 143, 144, 145, 146, 147, 148, 149, 150, 151, 152, 153] (by decide +kernel) (by decide +kernel)
set_option maxRecDepth 20000 in
theorem gF_r5 : GoodIn wsL_law wsL_isFair_r5 := goodIn_r _ [156, 157, 158, 159, 430, 330, 331, 332, 333, 334, 335, 336, 119, 120, 121, 122, 431, 432, 433, 434, 435, 362, 363, 364] (by decide +kernel) (by decide +kernel)
set_option maxRecDepth 20000 in
theorem gF_r6 : GoodIn wsL_law wsL_isFair_r6 := goodIn_r _ [244, 245, 246, 365, 287, 288, 289, 88, 290, 291, 292, 293, 86, 85, 294, 295, 296, 297, 298, 299, 300, 366, 367, 368] (by decide +kernel) (by decide +kernel)
set_option maxRecDepth 20000 in
theorem gF_r7 : GoodIn wsL_law wsL_isFair_r7 := goodIn_r _ [369, 370, 371, 372, 373, 374, 375, 376, 30, 377, 71, 72, 274, 275, 276, 277, 76, 77, 436, 260, 261, 262, 263, 264] (by decide +kernel) (by decide +kernel)
set_option maxRecDepth 20000 in
theorem gF_r8 : GoodIn wsL_law wsL_isFair_r8 := goodIn_r _ [265, 266, 267, 268, 269, 74, 270, 271, 272, 273, 73, 75, 437, 391, 392, 393, 37, 394, 395, 396, 397, 398, 399, 400] (by decide +kernel) (by decide +kernel)
set_option maxRecDepth 20000 in
theorem gF_r9 : GoodIn wsL_law wsL_isFair_r9 := goodIn_r _ [251, 252, 253, 254, 43, 401, 402, 403, 404, 405, 438, 324, 325, 326, 327, 322, 328, 439, 440, 441, 442, 443, 444, 445] (by decide +kernel) (by decide +kernel)
set_option maxRecDepth 20000 in
theorem gF_r10 : GoodIn wsL_law wsL_isFair_r10 := goodIn_r _ [446, 447, 448, 449, 450, 451, 134, 329, 228, 323, 259, 414, 361, 452] (by decide +kernel) (by decide +kernel)
set_option maxRecDepth 20000 in
theorem ggL_law_L_isFair : GoodIn wsL_law wsL_isFair := goodIn_ca (goodIn_ca (goodIn_ca (goodIn_ca (goodIn_ca (goodIn_ca (goodIn_ca (goodIn_ca (goodIn_c1 gF_c (goodIn_app gF_r1 (goodIn_app gF_r2 (goodIn_app gF_r3 (goodIn_app gF_r4 (goodIn_app gF_r5 (goodIn_app gF_r6 (goodIn_app gF_r7 (goodIn_app gF_r8 (goodIn_app gF_r9 (gF_r10))))))))))) (goodIn_sub inlX5 (by decide +kernel))) (goodIn_sub inlX4 (by decide +kernel))) (goodIn_sub inlX3 (by decide +kernel))) (goodIn_sub inlX0 (by decide +kernel))) (goodIn_sub inlX2 (by decide +kernel))) (goodIn_sub inlX1 (by decide +kernel))) (goodIn_sub (fun _ h => List.mem_append_left _ (List.mem_append_left _ (List.mem_append_right _ h))) (by decide +kernel))) (goodIn_sub (fun _ h => List.mem_append_right _ h) (by decide +kernel))
set_option maxRecDepth 20000 in
theorem gL_law_L_isFair : GoodIn wsL_law (va_wsS RL 98 yL_isFair wsL_isFair) := goodIn_app (goodIn_of _ (by decide +kernel)) ggL_law_L_isFair
