set_option maxRecDepth 20000 in
theorem ggL_law_X5_init : GoodIn wsL_law wsX5_init := goodIn_r _ [12, 13, 14, 15, 16, 17, 18, 19, 20, 21, 22, 23, 24, 25, 26, 27, 28, 29, 30, 31, 32, 33, 34, 35, 36, 37, 38, 39, 40, 41, 42, 43, 44, 45, 46, 47, 48, 49, 50, 51, 52, 53, 54, 55, 56, 57, 58, 59, 60, 61, 62, 63, 64, 65, 66, 67, 68, 69, 70, 71, 72, 73, 74, 75, 76, 77, 78, 79, 80, 81, 82, 83, 84, 85, 86, 87, 88, 89, 90, 91, 460, 461, 462, 463, 464, 465, 453, 454, 455, 456, 457, 458, 459, 466, 467, 468, 469, 470, 471, 472, 473, 474, 475, 476, 477, 478, 479, 480, 481, 482, 483, 484, 485, 486, 487, 488, 489, 490, 491, 492, 493, 494, 495, 496] (by decide +kernel) (by decide +kernel)
set_option maxRecDepth 20000 in
theorem gL_law_X5_init : GoodIn wsL_law (wsX5_init) := ggL_law_X5_init
set_option maxRecDepth 20000 in
theorem ggL_law_L_cell : GoodIn wsL_law wsL_cell := goodIn_r _ [95, 96] (by decide +kernel) (by decide +kernel)
set_option maxRecDepth 20000 in
theorem gL_law_L_cell : GoodIn wsL_law (va_wsS RL 12 yL_cell wsL_cell) := goodIn_app (goodIn_of _ (by decide +kernel)) ggL_law_L_cell
set_option maxRecDepth 20000 in
theorem ggL_law_L_below : GoodIn wsL_law wsL_below := goodIn_r _ [99, 100] (by decide +kernel) (by decide +kernel)
set_option maxRecDepth 20000 in
theorem gL_law_L_below : GoodIn wsL_law (va_wsS RL 18 yL_below wsL_below) := goodIn_app (goodIn_of _ (by decide +kernel)) ggL_law_L_below
set_option maxRecDepth 20000 in
theorem ggL_law_X5_set : GoodIn wsL_law wsX5_set := goodIn_ca (goodIn_ca (goodIn_r _ [104, 105, 106, 107, 108, 19, 109, 110, 111, 18, 112, 42, 43, 46, 47, 113, 2, 114, 453, 454, 455, 456, 457, 458, 459, 460, 461, 462, 463, 464, 465] (by decide +kernel) (by decide +kernel)) (goodIn_sub (fun _ h => List.mem_append_left _ (List.mem_append_left _ (List.mem_append_right _ h))) (by decide +kernel))) (goodIn_sub (fun _ h => List.mem_append_left _ (List.mem_append_right _ h)) (by decide +kernel))
set_option maxRecDepth 20000 in
theorem gL_law_X5_set : GoodIn wsL_law (wsV RL 22 RX5 yX5_set wsX5_set) := goodIn_app (goodIn_of _ (by decide +kernel)) ggL_law_X5_set
set_option maxRecDepth 20000 in
theorem ggL_law_X5_terms : GoodIn wsL_law wsX5_terms := goodIn_ca (goodIn_ca (goodIn_r _ [118, 105, 106, 19, 119, 120, 121, 2, 122, 123, 124, 125, 126, 127, 128, 129, 130, 131, 18, 132, 42, 133, 113, 114, 453, 454, 455, 456, 457, 458, 459, 460, 461, 462, 463, 464, 465] (by decide +kernel) (by decide +kernel)) (goodIn_sub (fun _ h => List.mem_append_left _ (List.mem_append_left _ (List.mem_append_right _ h))) (by decide +kernel))) (goodIn_sub (fun _ h => List.mem_append_right _ h) (by decide +kernel))
set_option maxRecDepth 20000 in
theorem gL_law_X5_terms : GoodIn wsL_law (wsV RL 26 RX5 yX5_terms wsX5_terms) := goodIn_app (goodIn_of _ (by decide +kernel)) ggL_law_X5_terms
set_option maxRecDepth 20000 in
theorem ggL_law_X5_ofSet : GoodIn wsL_law wsX5_ofSet := goodIn_ca (goodIn_ca (goodIn_r _ [137, 105, 106, 19, 35, 27, 125, 126, 127, 2, 128, 123, 124, 129, 130, 131, 18, 132, 42, 138, 139, 140, 141, 45, 142, 143, 144, 145, 44, 146, 147, 148, 149, 150, 151, 152, 153, 154, 155, 156, 157, 158, 34, 159, 81, 160, 161, 162, 163, 82, 83, 164, 165, 166, 167, 168, 169, 170, 171, 91, 172, 173, 174, 175, 176, 177, 178, 179, 180, 181, 84, 453, 454, 455, 456, 457, 458, 459, 460, 461, 462, 463, 464, 465, 475, 476, 477, 478, 486, 487, 488, 489, 490, 491, 492, 493, 494, 495, 496] (by decide +kernel) (by decide +kernel)) (goodIn_sub (fun _ h => List.mem_append_left _ (List.mem_append_left _ (List.mem_append_right _ h))) (by decide +kernel))) (goodIn_sub (fun _ h => List.mem_append_right _ h) (by decide +kernel))
set_option maxRecDepth 20000 in
theorem gL_law_X5_ofSet : GoodIn wsL_law (wsV RL 30 RX5 yX5_ofSet wsX5_ofSet) := goodIn_app (goodIn_of _ (by decide +kernel)) ggL_law_X5_ofSet
set_option maxRecDepth 20000 in
theorem ggL_law_X5_source : GoodIn wsL_law wsX5_source := goodIn_ca (goodIn_ca (goodIn_ca (goodIn_r _ [185, 105, 106, 107, 108, 23, 119, 120, 121, 2, 122, 123, 124, 19, 125, 126, 127, 128, 129, 130, 131, 18, 132, 42, 133, 113, 114, 186, 187, 188, 22, 189, 51, 52, 53, 190, 191, 192, 193, 54, 194, 195, 196, 197, 453, 454, 455, 456, 457, 458, 459, 466, 467, 468, 469, 470, 471, 472, 473, 474, 460, 461, 462, 463, 464, 465] (by decide +kernel) (by decide +kernel)) (goodIn_sub (fun _ h => List.mem_append_left _ (List.mem_append_left _ (List.mem_append_right _ h))) (by decide +kernel))) (goodIn_sub (fun _ h => List.mem_append_left _ (List.mem_append_right _ h)) (by decide +kernel))) (goodIn_sub (fun _ h => List.mem_append_right _ h) (by decide +kernel))
set_option maxRecDepth 20000 in
theorem gL_law_X5_source : GoodIn wsL_law (wsV RL 33 RX5 yX5_source wsX5_source) := goodIn_app (goodIn_of _ (by decide +kernel)) ggL_law_X5_source
set_option maxRecDepth 20000 in
theorem ggL_law_X5_version : GoodIn wsL_law wsX5_version := goodIn_ca (goodIn_ca (goodIn_ca (goodIn_r _ [201, 105, 106, 107, 108, 19, 23, 27, 125, 126, 127, 2, 128, 123, 124, 129, 130, 131, 18, 132, 42, 202, 203, 204, 205, 44, 45, 146, 147, 206, 207, 208, 22, 209, 51, 52, 53, 54, 210, 143, 144, 145, 154, 155, 211, 212, 213, 214, 55, 56, 57, 58, 215, 216, 217, 26, 218, 66, 219, 220, 221, 222, 64, 223, 224, 225, 226, 227, 8, 5, 9, 453, 454, 455, 456, 457, 458, 459, 460, 461, 462, 463, 464, 465, 466, 467, 468, 469, 470, 471, 472, 473, 474, 475, 476, 477, 478] (by decide +kernel) (by decide +kernel)) (goodIn_sub (fun _ h => List.mem_append_left _ (List.mem_append_left _ (List.mem_append_right _ h))) (by decide +kernel))) (goodIn_sub (fun _ h => List.mem_append_left _ (List.mem_append_right _ h)) (by decide +kernel))) (goodIn_sub (fun _ h => List.mem_append_right _ h) (by decide +kernel))
set_option maxRecDepth 20000 in
theorem gL_law_X5_version : GoodIn wsL_law (wsV RL 37 RX5 yX5_version wsX5_version) := goodIn_app (goodIn_of _ (by decide +kernel)) ggL_law_X5_version
set_option maxRecDepth 20000 in
theorem ggL_law_X5_many : GoodIn wsL_law wsX5_many := goodIn_ca (goodIn_r _ [231, 105, 106, 19, 23, 31, 35, 27, 38, 232, 233, 234, 18, 235, 42, 44, 164, 165, 166, 34, 167, 81, 160, 161, 162, 163, 82, 83, 168, 169, 170, 171, 91, 172, 2, 173, 174, 175, 176, 177, 178, 179, 180, 181, 84, 154, 155, 236, 237, 238, 239, 90, 453, 454, 455, 456, 457, 458, 459, 460, 461, 462, 463, 464, 465, 466, 467, 468, 469, 470, 471, 472, 473, 474, 479, 480, 481, 482, 483, 484, 485, 486, 487, 488, 489, 490, 491, 492, 493, 494, 495, 496, 475, 476, 477, 478] (by decide +kernel) (by decide +kernel)) (goodIn_sub (fun _ h => List.mem_append_left _ (List.mem_append_left _ (List.mem_append_right _ h))) (by decide +kernel))
set_option maxRecDepth 20000 in
theorem gL_law_X5_many : GoodIn wsL_law (wsV RL 40 RX5 yX5_many wsX5_many) := goodIn_app (goodIn_of _ (by decide +kernel)) ggL_law_X5_many
set_option maxRecDepth 20000 in
theorem ggL_law_X5_contract : GoodIn wsL_law wsX5_contract := goodIn_ca (goodIn_ca (goodIn_ca (goodIn_r _ [243, 105, 106, 107, 108, 38, 31, 244, 245, 2, 246, 123, 124, 125, 126, 127, 128, 19, 129, 130, 131, 18, 132, 42, 247, 248, 249, 250, 251, 252, 253, 254, 43, 255, 256, 257, 30, 258, 71, 72, 73, 74, 75, 76, 77, 453, 454, 455, 456, 457, 458, 459, 479, 480, 481, 482, 483, 484, 485, 460, 461, 462, 463, 464, 465] (by decide +kernel) (by decide +kernel)) (goodIn_sub (fun _ h => List.mem_append_left _ (List.mem_append_left _ (List.mem_append_right _ h))) (by decide +kernel))) (goodIn_sub (fun _ h => List.mem_append_left _ (List.mem_append_right _ h)) (by decide +kernel))) (goodIn_sub (fun _ h => List.mem_append_right _ h) (by decide +kernel))
set_option maxRecDepth 20000 in
theorem gL_law_X5_contract : GoodIn wsL_law (wsV RL 48 RX5 yX5_contract wsX5_contract) := goodIn_app (goodIn_of _ (by decide +kernel)) ggL_law_X5_contract
set_option maxRecDepth 20000 in
theorem ggL_law_X5_covered : GoodIn wsL_law wsX5_covered := goodIn_ca (goodIn_ca (goodIn_r _ [262, 105, 106, 31, 244, 245, 2, 246, 123, 124, 125, 126, 127, 128, 19, 129, 130, 131, 18, 132, 42, 263, 264, 265, 266, 267, 268, 30, 269, 71, 74, 270, 271, 272, 273, 72, 73, 75, 274, 275, 276, 277, 76, 77, 453, 454, 455, 456, 457, 458, 459, 460, 461, 462, 463, 464, 465, 479, 480, 481, 482, 483, 484, 485] (by decide +kernel) (by decide +kernel)) (goodIn_sub (fun _ h => List.mem_append_left _ (List.mem_append_left _ (List.mem_append_right _ h))) (by decide +kernel))) (goodIn_sub (fun _ h => List.mem_append_right _ h) (by decide +kernel))
set_option maxRecDepth 20000 in
theorem gL_law_X5_covered : GoodIn wsL_law (wsV RL 52 RX5 yX5_covered wsX5_covered) := goodIn_app (goodIn_of _ (by decide +kernel)) ggL_law_X5_covered
