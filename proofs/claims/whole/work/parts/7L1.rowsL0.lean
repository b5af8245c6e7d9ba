set_option maxRecDepth 20000 in
theorem ggL_law_X5_init : GoodIn wsL_law wsX5_init := goodIn_r _ [9, 10, 11, 12, 13, 14, 15, 16, 17, 18, 19, 20, 21, 22, 23, 24, 25, 26, 27, 28, 29, 30, 31, 32, 33, 34, 35, 36, 37, 38, 39, 40, 41, 42, 43, 44, 45, 46, 47, 48, 49, 50, 51, 52, 53, 54, 55, 56, 57, 58, 59, 60, 61, 62, 63, 64, 65, 66, 67, 68, 69, 70, 71, 72, 73, 74, 75, 76, 77, 78, 79, 80, 81, 82, 83, 84, 85, 86, 87, 88, 1035, 1036, 1037, 1038, 1039, 1040, 1022, 1023, 1024, 1025, 1026, 1027, 1028, 1041, 1042, 1043, 1044, 1045, 1046, 1047, 1048, 1049, 1050, 1051, 1052, 1053, 1054, 1055, 1056, 1057, 1058, 1059, 1060, 1061, 1062, 1063, 1064, 1065, 1066, 1067, 1068, 1069, 1070, 1071] (by decide +kernel) (by decide +kernel)
set_option maxRecDepth 20000 in
theorem gL_law_X5_init : GoodIn wsL_law (wsX5_init) := ggL_law_X5_init
set_option maxRecDepth 20000 in
theorem ggL_law_X12_init : GoodIn wsL_law wsX12_init := goodIn_r _ [91, 92, 11, 12, 93, 94, 95, 96, 97, 98, 99, 100, 101, 102, 103, 104, 105, 106, 107, 108, 109, 110, 111, 112, 113, 114, 1072, 1073, 1074, 1029, 1030, 1031, 1032, 1033, 1034] (by decide +kernel) (by decide +kernel)
set_option maxRecDepth 20000 in
theorem gL_law_X12_init : GoodIn wsL_law (wsX12_init) := ggL_law_X12_init
set_option maxRecDepth 20000 in
theorem ggL_law_L_set : GoodIn wsL_law wsL_set := goodIn_ca (goodIn_ca (goodIn_r _ [118, 119, 120, 121, 122, 123, 2, 124, 125, 126, 127, 128, 16, 129, 130, 131, 15, 132, 39, 40, 43, 44, 133, 134, 1022, 1023, 1024, 1025, 1026, 1027, 1028, 1035, 1036, 1037, 1038, 1039, 1040] (by decide +kernel) (by decide +kernel)) (goodIn_sub (fun _ h => List.mem_append_left _ (List.mem_append_left _ (List.mem_append_right _ h))) (by decide +kernel))) (goodIn_sub (fun _ h => List.mem_append_left _ (List.mem_append_right _ h)) (by decide +kernel))
set_option maxRecDepth 20000 in
theorem gL_law_L_set : GoodIn wsL_law (va_wsS RL 95 yL_set wsL_set) := goodIn_app (goodIn_of _ (by decide +kernel)) ggL_law_L_set
set_option maxRecDepth 20000 in
theorem ggL_law_X12_set : GoodIn wsL_law wsX12_set := goodIn_r _ [138, 96, 139, 140, 141, 142, 143, 5, 144, 145, 146, 147, 148, 149, 150, 151, 152, 153, 154, 155, 156, 95, 157, 158, 159, 160, 161, 162, 11, 12, 33, 163, 164, 165, 94, 166, 167, 168, 169, 101, 102, 103, 104, 105, 106, 107, 108, 109, 110, 111, 112, 113, 114, 170, 171, 172, 173, 174, 175, 176, 177, 178, 179, 180, 181, 182, 183, 184, 185, 186, 187, 188, 189, 190, 191, 192, 193, 194, 195, 196, 197, 198, 199, 200, 201, 202, 203, 204, 205, 206, 207, 208, 209, 210, 211, 212, 213, 214, 215, 216, 217, 218, 219, 220, 221, 1029, 1030, 1031, 1032, 1033, 1034, 1075, 1076, 1077, 1078, 1079, 1072, 1073, 1074] (by decide +kernel) (by decide +kernel)
set_option maxRecDepth 20000 in
theorem gL_law_X12_set : GoodIn wsL_law (wsV RL 100 RX12 yX12_set wsX12_set) := goodIn_app (goodIn_of _ (by decide +kernel)) ggL_law_X12_set
set_option maxRecDepth 20000 in
theorem ggL_law_X12_thrown : GoodIn wsL_law wsX12_thrown := goodIn_r _ [225, 149, 1029, 1030, 1031, 1032, 1033, 1034] (by decide +kernel) (by decide +kernel)
set_option maxRecDepth 20000 in
theorem gL_law_X12_thrown : GoodIn wsL_law (wsV RL 101 RX12 yX12_thrown wsX12_thrown) := goodIn_app (goodIn_of _ (by decide +kernel)) ggL_law_X12_thrown
set_option maxRecDepth 20000 in
theorem ggL_law_L_terms : GoodIn wsL_law wsL_terms := goodIn_ca (goodIn_ca (goodIn_r _ [228, 229, 119, 230, 231, 232, 2, 233, 125, 126, 16, 234, 235, 236, 237, 238, 239, 240, 241, 242, 243, 244, 245, 246, 15, 247, 39, 248, 133, 134, 1022, 1023, 1024, 1025, 1026, 1027, 1028, 1035, 1036, 1037, 1038, 1039, 1040] (by decide +kernel) (by decide +kernel)) (goodIn_sub (fun _ h => List.mem_append_left _ (List.mem_append_left _ (List.mem_append_right _ h))) (by decide +kernel))) (goodIn_sub (fun _ h => List.mem_append_right _ h) (by decide +kernel))
set_option maxRecDepth 20000 in
theorem gL_law_L_terms : GoodIn wsL_law (va_wsS RL 105 yL_terms wsL_terms) := goodIn_app (goodIn_of _ (by decide +kernel)) ggL_law_L_terms
set_option maxRecDepth 20000 in
theorem ggL_law_X12_terms : GoodIn wsL_law wsX12_terms := goodIn_r _ [252, 96, 253, 254, 255, 256, 257, 258, 5, 259, 260, 261, 262, 263, 264, 154, 155, 156, 95, 157, 158, 142, 143, 144, 265, 266, 267, 268, 269, 270, 271, 272, 273, 274, 275, 276, 277, 278, 279, 280, 104, 145, 146, 147, 148, 149, 150, 151, 152, 153, 1029, 1030, 1031, 1032, 1033, 1034, 1075, 1076, 1077, 1078, 1079, 1072, 1073, 1074] (by decide +kernel) (by decide +kernel)
set_option maxRecDepth 20000 in
theorem gL_law_X12_terms : GoodIn wsL_law (wsV RL 108 RX12 yX12_terms wsX12_terms) := goodIn_app (goodIn_of _ (by decide +kernel)) ggL_law_X12_terms
set_option maxRecDepth 20000 in
theorem ggL_law_L_source : GoodIn wsL_law wsL_source := goodIn_ca (goodIn_ca (goodIn_ca (goodIn_r _ [283, 229, 119, 120, 284, 285, 286, 2, 287, 125, 126, 127, 128, 20, 234, 235, 236, 237, 238, 239, 16, 240, 241, 242, 243, 244, 245, 246, 15, 247, 39, 248, 133, 134, 288, 289, 290, 19, 291, 48, 49, 50, 292, 293, 294, 295, 51, 296, 297, 298, 299, 1022, 1023, 1024, 1025, 1026, 1027, 1028, 1041, 1042, 1043, 1044, 1045, 1046, 1047, 1048, 1049, 1035, 1036, 1037, 1038, 1039, 1040] (by decide +kernel) (by decide +kernel)) (goodIn_sub (fun _ h => List.mem_append_left _ (List.mem_append_left _ (List.mem_append_right _ h))) (by decide +kernel))) (goodIn_sub (fun _ h => List.mem_append_left _ (List.mem_append_right _ h)) (by decide +kernel))) (goodIn_sub (fun _ h => List.mem_append_right _ h) (by decide +kernel))
set_option maxRecDepth 20000 in
theorem gL_law_L_source : GoodIn wsL_law (va_wsS RL 109 yL_source wsL_source) := goodIn_app (goodIn_of _ (by decide +kernel)) ggL_law_L_source
set_option maxRecDepth 20000 in
theorem ggL_law_X12_source : GoodIn wsL_law wsX12_source := goodIn_r _ [303, 97, 304, 305, 306, 307, 308, 309, 310, 256, 257, 258, 5, 259, 96, 253, 260, 261, 262, 263, 264, 154, 155, 156, 95, 157, 158, 142, 143, 144, 265, 266, 267, 268, 269, 270, 271, 272, 273, 274, 275, 276, 277, 278, 279, 280, 104, 145, 146, 147, 148, 149, 150, 151, 152, 153, 311, 312, 313, 314, 315, 316, 317, 318, 319, 320, 11, 12, 321, 322, 323, 324, 170, 171, 172, 173, 174, 175, 176, 177, 178, 179, 180, 181, 182, 183, 184, 185, 186, 187, 103, 188, 189, 190, 191, 192, 193, 194, 195, 196, 197, 198, 199, 200, 201, 202, 203, 204, 205, 206, 207, 208, 209, 210, 211, 212, 213, 214, 215, 216, 217, 218, 219, 220, 221, 1029, 1030, 1031, 1032, 1033, 1034, 1080, 1081, 1082, 1083, 1084, 1075, 1076, 1077, 1078, 1079, 1072, 1073, 1074] (by decide +kernel) (by decide +kernel)
set_option maxRecDepth 20000 in
theorem gL_law_X12_source : GoodIn wsL_law (wsV RL 112 RX12 yX12_source wsX12_source) := goodIn_app (goodIn_of _ (by decide +kernel)) ggL_law_X12_source
set_option maxRecDepth 20000 in
theorem ggL_law_L_version : GoodIn wsL_law wsL_version := goodIn_ca (goodIn_ca (goodIn_ca (goodIn_r _ [327, 229, 119, 120, 328, 329, 330, 2, 331, 125, 126, 127, 128, 16, 20, 24, 240, 241, 242, 243, 238, 239, 244, 245, 246, 15, 247, 39, 332, 333, 334, 335, 41, 42, 336, 337, 338, 339, 340, 19, 341, 48, 49, 50, 51, 342, 343, 344, 345, 346, 347, 348, 349, 350, 351, 52, 53, 54, 55, 352, 353, 354, 23, 355, 63, 356, 357, 358, 359, 61, 360, 361, 362, 363, 364, 189, 190, 191, 1022, 1023, 1024, 1025, 1026, 1027, 1028, 1035, 1036, 1037, 1038, 1039, 1040, 1041, 1042, 1043, 1044, 1045, 1046, 1047, 1048, 1049, 1050, 1051, 1052, 1053] (by decide +kernel) (by decide +kernel)) (goodIn_sub (fun _ h => List.mem_append_left _ (List.mem_append_left _ (List.mem_append_right _ h))) (by decide +kernel))) (goodIn_sub (fun _ h => List.mem_append_left _ (List.mem_append_right _ h)) (by decide +kernel))) (goodIn_sub (fun _ h => List.mem_append_right _ h) (by decide +kernel))
set_option maxRecDepth 20000 in
theorem gL_law_L_version : GoodIn wsL_law (va_wsS RL 113 yL_version wsL_version) := goodIn_app (goodIn_of _ (by decide +kernel)) ggL_law_L_version
set_option maxRecDepth 20000 in
theorem ggL_law_X12_version : GoodIn wsL_law wsX12_version := goodIn_r _ [368, 96, 253, 369, 370, 371, 372, 97, 308, 315, 309, 373, 310, 374, 375, 376, 377, 316, 307, 261, 262, 263, 5, 264, 154, 155, 156, 95, 157, 158, 142, 143, 144, 145, 146, 147, 148, 149, 150, 151, 152, 153, 265, 266, 267, 268, 269, 270, 271, 272, 273, 274, 275, 276, 277, 278, 279, 280, 104, 378, 379, 380, 381, 11, 12, 33, 382, 383, 56, 384, 385, 94, 386, 387, 388, 101, 102, 103, 105, 106, 107, 108, 109, 110, 111, 112, 113, 114, 389, 171, 172, 173, 174, 175, 176, 177, 178, 179, 180, 181, 182, 183, 184, 185, 186, 187, 188, 189, 190, 191, 192, 193, 194, 195, 196, 197, 198, 199, 200, 201, 202, 203, 204, 205, 206, 207, 208, 209, 210, 211, 212, 213, 214, 215, 216, 217, 218, 219, 220, 221, 390, 391, 392, 141, 393, 166, 394, 395, 396, 397, 398, 399, 400, 401, 402, 170, 1029, 1030, 1031, 1032, 1033, 1034, 1075, 1076, 1077, 1078, 1079, 1085, 1086, 1087, 1088, 1089, 1080, 1081, 1082, 1083, 1084, 1090, 1091, 1092, 1093, 1072, 1073, 1074] (by decide +kernel) (by decide +kernel)
set_option maxRecDepth 20000 in
theorem gL_law_X12_version : GoodIn wsL_law (wsV RL 116 RX12 yX12_version wsX12_version) := goodIn_app (goodIn_of _ (by decide +kernel)) ggL_law_X12_version
set_option maxRecDepth 20000 in
theorem ggL_law_L_missing : GoodIn wsL_law wsL_missing := goodIn_ca (goodIn_ca (goodIn_ca (goodIn_r _ [405, 229, 119, 120, 406, 407, 408, 2, 409, 125, 126, 127, 128, 16, 24, 20, 234, 235, 236, 237, 238, 239, 240, 241, 242, 243, 244, 245, 246, 15, 247, 39, 410, 343, 344, 345, 41, 411, 346, 347, 248, 133, 134, 412, 413, 414, 23, 415, 61, 416, 189, 190, 191, 352, 353, 354, 355, 63, 356, 357, 358, 359, 360, 361, 362, 19, 363, 52, 53, 54, 55, 364, 1022, 1023, 1024, 1025, 1026, 1027, 1028, 1050, 1051, 1052, 1053, 1035, 1036, 1037, 1038, 1039, 1040, 1041, 1042, 1043, 1044, 1045, 1046, 1047, 1048, 1049] (by decide +kernel) (by decide +kernel)) (goodIn_sub (fun _ h => List.mem_append_left _ (List.mem_append_left _ (List.mem_append_right _ h))) (by decide +kernel))) (goodIn_sub (fun _ h => List.mem_append_left _ (List.mem_append_right _ h)) (by decide +kernel))) (goodIn_sub (fun _ h => List.mem_append_right _ h) (by decide +kernel))
set_option maxRecDepth 20000 in
theorem gL_law_L_missing : GoodIn wsL_law (va_wsS RL 117 yL_missing wsL_missing) := goodIn_app (goodIn_of _ (by decide +kernel)) ggL_law_L_missing
set_option maxRecDepth 20000 in
theorem ggL_law_X12_missing : GoodIn wsL_law wsX12_missing := goodIn_r _ [420, 96, 253, 369, 421, 422, 423, 255, 424, 189, 190, 191, 256, 257, 258, 5, 259, 260, 261, 262, 263, 264, 154, 155, 156, 95, 157, 158, 142, 143, 144, 265, 266, 267, 268, 269, 270, 271, 272, 273, 274, 275, 276, 277, 278, 279, 280, 104, 145, 146, 147, 148, 149, 150, 151, 152, 153, 425, 426, 427, 428, 390, 391, 392, 141, 393, 166, 394, 429, 430, 431, 432, 433, 373, 374, 434, 435, 436, 437, 438, 1029, 1030, 1031, 1032, 1033, 1034, 1075, 1076, 1077, 1078, 1079, 1085, 1086, 1087, 1088, 1089, 1072, 1073, 1074, 1090, 1091, 1092, 1093] (by decide +kernel) (by decide +kernel)
set_option maxRecDepth 20000 in
theorem gL_law_X12_missing : GoodIn wsL_law (wsV RL 120 RX12 yX12_missing wsX12_missing) := goodIn_app (goodIn_of _ (by decide +kernel)) ggL_law_X12_missing
set_option maxRecDepth 20000 in
theorem ggL_law_L_report : GoodIn wsL_law wsL_report := goodIn_ca (goodIn_ca (goodIn_r _ [441, 229, 119, 442, 443, 444, 2, 445, 24, 20, 446, 447, 448, 449, 238, 239, 16, 234, 235, 236, 237, 240, 241, 242, 243, 244, 245, 246, 15, 247, 39, 450, 451, 452, 125, 126, 411, 346, 347, 453, 454, 455, 456, 32, 457, 458, 459, 23, 460, 64, 416, 189, 190, 191, 356, 357, 358, 359, 61, 360, 361, 362, 19, 363, 52, 53, 54, 55, 364, 461, 462, 463, 31, 464, 78, 465, 466, 467, 468, 79, 80, 469, 470, 471, 472, 81, 88, 473, 474, 412, 413, 414, 415, 352, 353, 354, 355, 63, 1022, 1023, 1024, 1025, 1026, 1027, 1028, 1035, 1036, 1037, 1038, 1039, 1040, 1050, 1051, 1052, 1053, 1041, 1042, 1043, 1044, 1045, 1046, 1047, 1048, 1049, 1061, 1062, 1063, 1064, 1065, 1066, 1067, 1068, 1069, 1070, 1071] (by decide +kernel) (by decide +kernel)) (goodIn_sub (fun _ h => List.mem_append_right _ h) (by decide +kernel))) (goodIn_sub (fun _ h => List.mem_append_left _ (List.mem_append_left _ (List.mem_append_right _ h))) (by decide +kernel))
set_option maxRecDepth 20000 in
theorem gL_law_L_report : GoodIn wsL_law (va_wsS RL 121 yL_report wsL_report) := goodIn_app (goodIn_of _ (by decide +kernel)) ggL_law_L_report
set_option maxRecDepth 20000 in
theorem ggL_law_X12_report : GoodIn wsL_law wsX12_report := goodIn_r _ [478, 479, 480, 481, 5, 482, 483, 484, 485, 486, 256, 257, 258, 259, 96, 253, 260, 261, 262, 263, 264, 154, 155, 156, 95, 157, 158, 142, 143, 144, 265, 266, 267, 268, 269, 270, 271, 272, 273, 274, 275, 276, 277, 278, 279, 280, 104, 487, 488, 489, 490, 390, 391, 392, 141, 393, 166, 394, 145, 146, 147, 148, 149, 150, 151, 152, 153, 491, 492, 493, 494, 369, 421, 433, 424, 189, 190, 191, 495, 496, 497, 498, 99, 499, 429, 430, 431, 432, 423, 373, 374, 434, 435, 436, 437, 438, 500, 501, 502, 503, 504, 505, 506, 507, 1029, 1030, 1031, 1032, 1033, 1034, 1075, 1076, 1077, 1078, 1079, 1072, 1073, 1074, 1085, 1086, 1087, 1088, 1089, 1090, 1091, 1092, 1093, 1094, 1095, 1096, 1097, 1098, 1099, 1100, 1101, 1102, 1103] (by decide +kernel) (by decide +kernel)
set_option maxRecDepth 20000 in
theorem gL_law_X12_report : GoodIn wsL_law (wsV RL 123 RX12 yX12_report wsX12_report) := goodIn_app (goodIn_of _ (by decide +kernel)) ggL_law_X12_report
set_option maxRecDepth 20000 in
theorem ggL_law_L_harm : GoodIn wsL_law wsL_harm := goodIn_ca (goodIn_r _ [510, 229, 511, 512, 513, 2, 514, 24, 446, 447, 448, 449, 238, 239, 16, 234, 235, 236, 237, 240, 241, 242, 243, 244, 245, 246, 15, 247, 39, 411, 346, 347, 1022, 1023, 1024, 1025, 1026, 1027, 1028, 1050, 1051, 1052, 1053, 1035, 1036, 1037, 1038, 1039, 1040] (by decide +kernel) (by decide +kernel)) (goodIn_sub (fun _ h => List.mem_append_right _ h) (by decide +kernel))
set_option maxRecDepth 20000 in
theorem gL_law_L_harm : GoodIn wsL_law (va_wsS RL 124 yL_harm wsL_harm) := goodIn_app (goodIn_of _ (by decide +kernel)) ggL_law_L_harm
set_option maxRecDepth 20000 in
theorem ggL_law_X12_harm : GoodIn wsL_law wsX12_harm := goodIn_r _ [518, 483, 484, 485, 5, 486, 256, 257, 258, 259, 96, 253, 260, 261, 262, 263, 264, 154, 155, 156, 95, 157, 158, 142, 143, 144, 265, 266, 267, 268, 269, 270, 271, 272, 273, 274, 275, 276, 277, 278, 279, 280, 104, 487, 488, 489, 490, 390, 391, 392, 141, 393, 166, 394, 145, 146, 147, 148, 149, 150, 151, 152, 153, 429, 430, 431, 432, 369, 421, 433, 423, 424, 189, 190, 191, 373, 374, 434, 435, 436, 437, 438, 1029, 1030, 1031, 1032, 1033, 1034, 1075, 1076, 1077, 1078, 1079, 1072, 1073, 1074, 1085, 1086, 1087, 1088, 1089, 1090, 1091, 1092, 1093] (by decide +kernel) (by decide +kernel)
set_option maxRecDepth 20000 in
theorem gL_law_X12_harm : GoodIn wsL_law (wsV RL 126 RX12 yX12_harm wsX12_harm) := goodIn_app (goodIn_of _ (by decide +kernel)) ggL_law_X12_harm
set_option maxRecDepth 20000 in
theorem ggL_law_L_ofSet : GoodIn wsL_law wsL_ofSet := goodIn_ca (goodIn_ca (goodIn_r _ [521, 229, 119, 522, 523, 524, 2, 525, 125, 126, 16, 32, 24, 240, 241, 242, 243, 238, 239, 244, 245, 246, 15, 247, 39, 526, 527, 528, 529, 42, 530, 343, 344, 345, 41, 336, 337, 531, 532, 533, 534, 410, 411, 346, 347, 535, 536, 537, 31, 538, 78, 465, 466, 467, 468, 79, 80, 539, 540, 541, 542, 543, 544, 545, 546, 88, 473, 474, 461, 462, 463, 464, 469, 470, 471, 472, 81, 1022, 1023, 1024, 1025, 1026, 1027, 1028, 1035, 1036, 1037, 1038, 1039, 1040, 1050, 1051, 1052, 1053, 1061, 1062, 1063, 1064, 1065, 1066, 1067, 1068, 1069, 1070, 1071] (by decide +kernel) (by decide +kernel)) (goodIn_sub (fun _ h => List.mem_append_left _ (List.mem_append_left _ (List.mem_append_right _ h))) (by decide +kernel))) (goodIn_sub (fun _ h => List.mem_append_right _ h) (by decide +kernel))
set_option maxRecDepth 20000 in
theorem gL_law_L_ofSet : GoodIn wsL_law (va_wsS RL 127 yL_ofSet wsL_ofSet) := goodIn_app (goodIn_of _ (by decide +kernel)) ggL_law_L_ofSet
set_option maxRecDepth 20000 in
theorem ggL_law_X12_ofSet : GoodIn wsL_law wsX12_ofSet := goodIn_r _ [550, 261, 262, 263, 5, 264, 96, 154, 155, 156, 95, 157, 158, 142, 143, 144, 145, 146, 147, 148, 149, 150, 151, 152, 153, 429, 430, 431, 432, 253, 369, 421, 433, 423, 424, 189, 190, 191, 373, 374, 434, 435, 436, 437, 438, 265, 266, 267, 268, 269, 270, 271, 272, 273, 274, 275, 276, 277, 278, 279, 280, 104, 551, 552, 553, 554, 260, 99, 499, 555, 556, 557, 558, 141, 559, 166, 560, 561, 562, 426, 427, 428, 563, 391, 392, 393, 394, 564, 425, 390, 565, 566, 567, 503, 568, 505, 500, 501, 502, 504, 506, 507, 1029, 1030, 1031, 1032, 1033, 1034, 1072, 1073, 1074, 1075, 1076, 1077, 1078, 1079, 1085, 1086, 1087, 1088, 1089, 1090, 1091, 1092, 1093, 1094, 1095, 1096, 1097, 1098, 1099, 1100, 1101, 1102, 1103] (by decide +kernel) (by decide +kernel)
set_option maxRecDepth 20000 in
theorem gL_law_X12_ofSet : GoodIn wsL_law (wsV RL 129 RX12 yX12_ofSet wsX12_ofSet) := goodIn_app (goodIn_of _ (by decide +kernel)) ggL_law_X12_ofSet
set_option maxRecDepth 20000 in
theorem ggL_law_L_isMadeOf : GoodIn wsL_law wsL_isMadeOf := goodIn_ca (goodIn_r _ [571, 229, 572, 573, 574, 2, 575, 20, 446, 447, 448, 449, 238, 239, 16, 234, 235, 236, 237, 240, 241, 242, 243, 244, 245, 246, 15, 247, 39, 411, 346, 347, 576, 577, 578, 19, 579, 57, 52, 53, 54, 1022, 1023, 1024, 1025, 1026, 1027, 1028, 1035, 1036, 1037, 1038, 1039, 1040, 1041, 1042, 1043, 1044, 1045, 1046, 1047, 1048, 1049] (by decide +kernel) (by decide +kernel)) (goodIn_sub (fun _ h => List.mem_append_right _ h) (by decide +kernel))
set_option maxRecDepth 20000 in
theorem gL_law_L_isMadeOf : GoodIn wsL_law (va_wsS RL 130 yL_isMadeOf wsL_isMadeOf) := goodIn_app (goodIn_of _ (by decide +kernel)) ggL_law_L_isMadeOf
set_option maxRecDepth 20000 in
theorem ggL_law_X12_isMadeOf : GoodIn wsL_law wsX12_isMadeOf := goodIn_r _ [583, 483, 484, 485, 5, 486, 256, 257, 258, 259, 96, 253, 260, 261, 262, 263, 264, 154, 155, 156, 95, 157, 158, 142, 143, 144, 265, 266, 267, 268, 269, 270, 271, 272, 273, 274, 275, 276, 277, 278, 279, 280, 104, 487, 488, 489, 490, 390, 391, 392, 141, 393, 166, 394, 145, 146, 147, 148, 149, 150, 151, 152, 153, 584, 585, 586, 587, 369, 421, 373, 374, 434, 435, 436, 437, 1029, 1030, 1031, 1032, 1033, 1034, 1075, 1076, 1077, 1078, 1079, 1072, 1073, 1074, 1085, 1086, 1087, 1088, 1089, 1090, 1091, 1092, 1093] (by decide +kernel) (by decide +kernel)
set_option maxRecDepth 20000 in
theorem gL_law_X12_isMadeOf : GoodIn wsL_law (wsV RL 133 RX12 yX12_isMadeOf wsX12_isMadeOf) := goodIn_app (goodIn_of _ (by decide +kernel)) ggL_law_X12_isMadeOf
set_option maxRecDepth 20000 in
theorem ggL_law_L_contract : GoodIn wsL_law wsL_contract := goodIn_ca (goodIn_ca (goodIn_ca (goodIn_r _ [590, 229, 119, 120, 591, 592, 593, 2, 594, 125, 126, 127, 128, 35, 28, 595, 596, 597, 238, 239, 240, 241, 242, 243, 16, 244, 245, 246, 15, 247, 39, 598, 599, 600, 601, 602, 603, 604, 605, 40, 606, 607, 608, 27, 609, 68, 69, 70, 71, 72, 73, 74, 1022, 1023, 1024, 1025, 1026, 1027, 1028, 1054, 1055, 1056, 1057, 1058, 1059, 1060, 1035, 1036, 1037, 1038, 1039, 1040] (by decide +kernel) (by decide +kernel)) (goodIn_sub (fun _ h => List.mem_append_left _ (List.mem_append_left _ (List.mem_append_right _ h))) (by decide +kernel))) (goodIn_sub (fun _ h => List.mem_append_left _ (List.mem_append_right _ h)) (by decide +kernel))) (goodIn_sub (fun _ h => List.mem_append_right _ h) (by decide +kernel))
set_option maxRecDepth 20000 in
theorem gL_law_L_contract : GoodIn wsL_law (va_wsS RL 134 yL_contract wsL_contract) := goodIn_app (goodIn_of _ (by decide +kernel)) ggL_law_L_contract
set_option maxRecDepth 20000 in
theorem ggL_law_X12_contract : GoodIn wsL_law wsX12_contract := goodIn_r _ [613, 614, 98, 615, 616, 617, 618, 619, 5, 620, 142, 143, 144, 261, 262, 263, 264, 96, 154, 155, 156, 95, 157, 158, 145, 146, 147, 148, 149, 150, 151, 152, 153, 621, 622, 623, 624, 253, 265, 266, 267, 268, 269, 270, 271, 272, 273, 274, 275, 276, 277, 278, 279, 280, 104, 625, 626, 627, 141, 628, 168, 629, 630, 631, 632, 11, 12, 633, 634, 635, 636, 637, 638, 170, 171, 172, 173, 174, 175, 176, 177, 178, 179, 180, 181, 182, 183, 184, 185, 186, 187, 103, 188, 189, 190, 191, 192, 193, 194, 195, 196, 197, 198, 199, 200, 201, 202, 203, 204, 205, 206, 207, 208, 209, 210, 211, 212, 213, 214, 215, 216, 217, 218, 219, 220, 221, 1029, 1030, 1031, 1032, 1033, 1034, 1104, 1105, 1106, 1107, 1108, 1109, 1072, 1073, 1074, 1075, 1076, 1077, 1078, 1079] (by decide +kernel) (by decide +kernel)
set_option maxRecDepth 20000 in
theorem gL_law_X12_contract : GoodIn wsL_law (wsV RL 136 RX12 yX12_contract wsX12_contract) := goodIn_app (goodIn_of _ (by decide +kernel)) ggL_law_X12_contract
set_option maxRecDepth 20000 in
theorem ggL_law_L_end : GoodIn wsL_law wsL_end := goodIn_ca (goodIn_r _ [641, 229, 642, 643, 644, 2, 645, 28, 35, 646, 647, 648, 649, 238, 239, 650, 651, 652, 27, 653, 73, 654, 189, 190, 191, 74, 655, 216, 217, 1022, 1023, 1024, 1025, 1026, 1027, 1028, 1054, 1055, 1056, 1057, 1058, 1059, 1060] (by decide +kernel) (by decide +kernel)) (goodIn_sub (fun _ h => List.mem_append_right _ h) (by decide +kernel))
set_option maxRecDepth 20000 in
theorem gL_law_L_end : GoodIn wsL_law (va_wsS RL 137 yL_end wsL_end) := goodIn_app (goodIn_of _ (by decide +kernel)) ggL_law_L_end
set_option maxRecDepth 20000 in
theorem ggL_law_X12_end : GoodIn wsL_law wsX12_end := goodIn_r _ [659, 98, 660, 661, 662, 614, 424, 189, 190, 191, 663, 216, 217, 664, 665, 666, 5, 667, 154, 155, 156, 95, 157, 158, 142, 143, 144, 145, 146, 147, 148, 149, 150, 151, 152, 153, 265, 266, 267, 268, 269, 270, 271, 272, 273, 274, 275, 276, 277, 278, 279, 280, 104, 1029, 1030, 1031, 1032, 1033, 1034, 1104, 1105, 1106, 1107, 1108, 1109, 1072, 1073, 1074] (by decide +kernel) (by decide +kernel)
set_option maxRecDepth 20000 in
theorem gL_law_X12_end : GoodIn wsL_law (wsV RL 139 RX12 yX12_end wsX12_end) := goodIn_app (goodIn_of _ (by decide +kernel)) ggL_law_X12_end
set_option maxRecDepth 20000 in
theorem ggL_law_L_covered : GoodIn wsL_law wsL_covered := goodIn_ca (goodIn_ca (goodIn_r _ [670, 229, 119, 671, 672, 673, 2, 674, 125, 126, 28, 595, 596, 597, 238, 239, 240, 241, 242, 243, 16, 244, 245, 246, 15, 247, 39, 675, 676, 677, 678, 679, 680, 27, 681, 68, 71, 682, 683, 684, 685, 69, 70, 72, 686, 687, 688, 689, 73, 74, 1022, 1023, 1024, 1025, 1026, 1027, 1028, 1035, 1036, 1037, 1038, 1039, 1040, 1054, 1055, 1056, 1057, 1058, 1059, 1060] (by decide +kernel) (by decide +kernel)) (goodIn_sub (fun _ h => List.mem_append_left _ (List.mem_append_left _ (List.mem_append_right _ h))) (by decide +kernel))) (goodIn_sub (fun _ h => List.mem_append_right _ h) (by decide +kernel))
set_option maxRecDepth 20000 in
theorem gL_law_L_covered : GoodIn wsL_law (va_wsS RL 140 yL_covered wsL_covered) := goodIn_app (goodIn_of _ (by decide +kernel)) ggL_law_L_covered
set_option maxRecDepth 20000 in
theorem ggL_law_X12_covered : GoodIn wsL_law wsX12_covered := goodIn_r _ [693, 618, 619, 5, 620, 142, 143, 144, 261, 262, 263, 264, 96, 154, 155, 156, 95, 157, 158, 145, 146, 147, 148, 149, 150, 151, 152, 153, 694, 695, 696, 697, 98, 660, 265, 266, 267, 268, 269, 270, 271, 272, 273, 274, 275, 276, 277, 278, 279, 280, 104, 698, 699, 700, 617, 701, 633, 634, 636, 635, 702, 703, 704, 705, 637, 638, 1029, 1030, 1031, 1032, 1033, 1034, 1072, 1073, 1074, 1104, 1105, 1106, 1107, 1108, 1109] (by decide +kernel) (by decide +kernel)
set_option maxRecDepth 20000 in
theorem gL_law_X12_covered : GoodIn wsL_law (wsV RL 142 RX12 yX12_covered wsX12_covered) := goodIn_app (goodIn_of _ (by decide +kernel)) ggL_law_X12_covered
set_option maxRecDepth 20000 in
theorem ggL_law_L_read : GoodIn wsL_law wsL_read := goodIn_ca (goodIn_ca (goodIn_ca (goodIn_r _ [708, 229, 119, 120, 709, 710, 711, 2, 712, 125, 126, 127, 128, 32, 16, 28, 35, 595, 596, 597, 238, 239, 240, 241, 242, 243, 244, 245, 246, 15, 247, 39, 675, 676, 677, 598, 599, 600, 601, 602, 603, 604, 605, 40, 526, 527, 528, 529, 42, 530, 343, 344, 345, 41, 336, 337, 678, 679, 680, 27, 681, 68, 71, 682, 683, 684, 685, 69, 70, 72, 686, 687, 688, 689, 73, 74, 713, 714, 715, 716, 410, 717, 718, 719, 31, 720, 78, 86, 79, 80, 81, 82, 83, 84, 85, 721, 722, 723, 724, 725, 726, 727, 728, 729, 730, 731, 732, 733, 734, 735, 736, 737, 738, 739, 740, 741, 742, 743, 473, 474, 744, 745, 746, 747, 43, 133, 134, 748, 544, 545, 546, 88, 1022, 1023, 1024, 1025, 1026, 1027, 1028, 1061, 1062, 1063, 1064, 1065, 1066, 1067, 1068, 1069, 1070, 1071, 1035, 1036, 1037, 1038, 1039, 1040, 1054, 1055, 1056, 1057, 1058, 1059, 1060] (by decide +kernel) (by decide +kernel)) (goodIn_sub (fun _ h => List.mem_append_left _ (List.mem_append_left _ (List.mem_append_right _ h))) (by decide +kernel))) (goodIn_sub (fun _ h => List.mem_append_left _ (List.mem_append_right _ h)) (by decide +kernel))) (goodIn_sub (fun _ h => List.mem_append_right _ h) (by decide +kernel))
set_option maxRecDepth 20000 in
theorem gL_law_L_read : GoodIn wsL_law (va_wsS RL 143 yL_read wsL_read) := goodIn_app (goodIn_of _ (by decide +kernel)) ggL_law_L_read
set_option maxRecDepth 20000 in
theorem ggL_law_X12_read : GoodIn wsL_law wsX12_read := goodIn_r _ [752, 99, 96, 253, 614, 618, 619, 5, 620, 142, 143, 144, 261, 262, 263, 264, 154, 155, 156, 95, 157, 158, 145, 146, 147, 148, 149, 150, 151, 152, 153, 621, 622, 623, 624, 265, 266, 267, 268, 269, 270, 271, 272, 273, 274, 275, 276, 277, 278, 279, 280, 104, 625, 626, 627, 141, 628, 168, 556, 557, 558, 559, 166, 560, 561, 562, 426, 427, 428, 563, 391, 392, 393, 394, 564, 694, 695, 696, 697, 98, 660, 698, 699, 700, 617, 701, 633, 634, 636, 635, 702, 703, 704, 705, 637, 638, 753, 754, 755, 756, 757, 758, 503, 759, 254, 760, 390, 761, 762, 763, 764, 765, 766, 767, 768, 499, 769, 770, 771, 772, 773, 774, 775, 776, 777, 734, 735, 736, 737, 738, 739, 778, 779, 780, 781, 11, 12, 33, 505, 782, 506, 507, 783, 784, 785, 170, 171, 172, 173, 174, 175, 176, 177, 178, 179, 180, 181, 182, 183, 184, 185, 186, 187, 103, 188, 189, 190, 191, 192, 193, 194, 195, 196, 197, 198, 199, 200, 201, 202, 203, 204, 205, 206, 207, 208, 209, 210, 211, 212, 213, 214, 215, 216, 217, 218, 219, 220, 221, 565, 566, 567, 568, 1029, 1030, 1031, 1032, 1033, 1034, 1072, 1073, 1074, 1075, 1076, 1077, 1078, 1079, 1085, 1086, 1087, 1088, 1089, 1104, 1105, 1106, 1107, 1108, 1109, 1094, 1095, 1096, 1097, 1098, 1099, 1100, 1101, 1102, 1103] (by decide +kernel) (by decide +kernel)
set_option maxRecDepth 20000 in
theorem gL_law_X12_read : GoodIn wsL_law (wsV RL 145 RX12 yX12_read wsX12_read) := goodIn_app (goodIn_of _ (by decide +kernel)) ggL_law_X12_read
set_option maxRecDepth 20000 in
theorem ggL_law_L_preview : GoodIn wsL_law wsL_preview := goodIn_ca (goodIn_ca (goodIn_ca (goodIn_r _ [788, 229, 119, 120, 789, 790, 791, 2, 792, 125, 126, 127, 128, 16, 34, 595, 596, 597, 238, 239, 240, 241, 242, 243, 244, 245, 246, 15, 247, 39, 598, 599, 600, 601, 602, 603, 604, 605, 40, 793, 734, 735, 736, 737, 738, 739, 794, 795, 796, 797, 798, 799, 800, 28, 35, 678, 679, 680, 27, 681, 68, 71, 682, 683, 684, 685, 69, 70, 72, 686, 687, 688, 689, 73, 74, 801, 802, 803, 804, 1022, 1023, 1024, 1025, 1026, 1027, 1028, 1035, 1036, 1037, 1038, 1039, 1040, 1054, 1055, 1056, 1057, 1058, 1059, 1060] (by decide +kernel) (by decide +kernel)) (goodIn_sub (fun _ h => List.mem_append_left _ (List.mem_append_left _ (List.mem_append_right _ h))) (by decide +kernel))) (goodIn_sub (fun _ h => List.mem_append_left _ (List.mem_append_right _ h)) (by decide +kernel))) (goodIn_sub (fun _ h => List.mem_append_right _ h) (by decide +kernel))
set_option maxRecDepth 20000 in
theorem gL_law_L_preview : GoodIn wsL_law (va_wsS RL 146 yL_preview wsL_preview) := goodIn_app (goodIn_of _ (by decide +kernel)) ggL_law_L_preview
set_option maxRecDepth 20000 in
theorem ggL_law_X12_preview : GoodIn wsL_law wsX12_preview := goodIn_r _ [808, 96, 253, 809, 618, 619, 5, 620, 142, 143, 144, 261, 262, 263, 264, 154, 155, 156, 95, 157, 158, 145, 146, 147, 148, 149, 150, 151, 152, 153, 621, 622, 623, 624, 265, 266, 267, 268, 269, 270, 271, 272, 273, 274, 275, 276, 277, 278, 279, 280, 104, 625, 626, 627, 141, 628, 168, 810, 734, 735, 736, 737, 738, 739, 811, 812, 813, 814, 614, 369, 260, 694, 695, 696, 697, 98, 660, 698, 699, 700, 617, 701, 633, 634, 636, 635, 702, 703, 704, 705, 637, 638, 425, 426, 427, 428, 1029, 1030, 1031, 1032, 1033, 1034, 1075, 1076, 1077, 1078, 1079, 1072, 1073, 1074, 1104, 1105, 1106, 1107, 1108, 1109] (by decide +kernel) (by decide +kernel)
set_option maxRecDepth 20000 in
theorem gL_law_X12_preview : GoodIn wsL_law (wsV RL 148 RX12 yX12_preview wsX12_preview) := goodIn_app (goodIn_of _ (by decide +kernel)) ggL_law_X12_preview
set_option maxRecDepth 20000 in
theorem ggL_law_L_ofRead : GoodIn wsL_law wsL_ofRead := goodIn_ca (goodIn_ca (goodIn_r _ [817, 229, 119, 818, 819, 820, 2, 821, 238, 239, 125, 126, 32, 24, 822, 730, 731, 31, 732, 83, 82, 733, 734, 735, 736, 737, 738, 739, 748, 544, 545, 546, 88, 473, 474, 823, 470, 471, 472, 80, 81, 346, 347, 1022, 1023, 1024, 1025, 1026, 1027, 1028, 1061, 1062, 1063, 1064, 1065, 1066, 1067, 1068, 1069, 1070, 1071, 1050, 1051, 1052, 1053] (by decide +kernel) (by decide +kernel)) (goodIn_sub (fun _ h => List.mem_append_right _ h) (by decide +kernel))) (goodIn_sub (fun _ h => List.mem_append_left _ (List.mem_append_left _ (List.mem_append_right _ h))) (by decide +kernel))
set_option maxRecDepth 20000 in
theorem gL_law_L_ofRead : GoodIn wsL_law (va_wsS RL 149 yL_ofRead wsL_ofRead) := goodIn_app (goodIn_of _ (by decide +kernel)) ggL_law_L_ofRead
set_option maxRecDepth 20000 in
theorem ggL_law_X12_ofRead : GoodIn wsL_law wsX12_ofRead := goodIn_r _ [827, 99, 499, 154, 155, 156, 95, 157, 158, 142, 143, 5, 144, 145, 146, 147, 148, 149, 150, 151, 152, 153, 429, 430, 431, 432, 96, 253, 369, 421, 433, 423, 424, 189, 190, 191, 373, 374, 434, 435, 436, 437, 438, 265, 266, 267, 268, 269, 270, 271, 272, 273, 274, 275, 276, 277, 278, 279, 280, 104, 828, 829, 830, 33, 769, 555, 831, 832, 833, 770, 760, 834, 835, 771, 772, 773, 503, 774, 775, 776, 777, 734, 735, 736, 737, 738, 739, 565, 566, 567, 568, 505, 500, 501, 502, 504, 506, 507, 1029, 1030, 1031, 1032, 1033, 1034, 1072, 1073, 1074, 1075, 1076, 1077, 1078, 1079, 1085, 1086, 1087, 1088, 1089, 1090, 1091, 1092, 1093, 1094, 1095, 1096, 1097, 1098, 1099, 1100, 1101, 1102, 1103] (by decide +kernel) (by decide +kernel)
set_option maxRecDepth 20000 in
theorem gL_law_X12_ofRead : GoodIn wsL_law (wsV RL 151 RX12 yX12_ofRead wsX12_ofRead) := goodIn_app (goodIn_of _ (by decide +kernel)) ggL_law_X12_ofRead
set_option maxRecDepth 20000 in
theorem ggL_law_L_ofReader : GoodIn wsL_law wsL_ofReader := goodIn_ca (goodIn_ca (goodIn_r _ [838, 229, 119, 839, 840, 841, 2, 842, 125, 126, 32, 35, 24, 28, 595, 596, 597, 238, 239, 843, 726, 727, 31, 728, 78, 79, 85, 729, 730, 731, 732, 83, 82, 733, 734, 735, 736, 737, 738, 739, 535, 536, 537, 538, 465, 466, 467, 468, 80, 539, 540, 541, 542, 543, 544, 545, 546, 88, 473, 474, 461, 462, 463, 464, 469, 470, 471, 472, 81, 346, 347, 844, 845, 846, 847, 87, 848, 849, 850, 851, 852, 853, 854, 855, 856, 857, 858, 27, 859, 68, 69, 686, 687, 688, 689, 73, 74, 1022, 1023, 1024, 1025, 1026, 1027, 1028, 1050, 1051, 1052, 1053, 1061, 1062, 1063, 1064, 1065, 1066, 1067, 1068, 1069, 1070, 1071, 1054, 1055, 1056, 1057, 1058, 1059, 1060] (by decide +kernel) (by decide +kernel)) (goodIn_sub (fun _ h => List.mem_append_left _ (List.mem_append_left _ (List.mem_append_right _ h))) (by decide +kernel))) (goodIn_sub (fun _ h => List.mem_append_right _ h) (by decide +kernel))
set_option maxRecDepth 20000 in
theorem gL_law_L_ofReader : GoodIn wsL_law (va_wsS RL 152 yL_ofReader wsL_ofReader) := goodIn_app (goodIn_of _ (by decide +kernel)) ggL_law_L_ofReader
set_option maxRecDepth 20000 in
theorem ggL_law_X12_ofReader : GoodIn wsL_law wsX12_ofReader := goodIn_r _ [863, 618, 619, 5, 620, 142, 143, 144, 145, 146, 147, 148, 149, 150, 151, 152, 153, 429, 430, 431, 432, 96, 253, 369, 421, 433, 423, 424, 189, 190, 191, 373, 374, 434, 435, 436, 437, 438, 154, 155, 156, 95, 157, 158, 265, 266, 267, 268, 269, 270, 271, 272, 273, 274, 275, 276, 277, 278, 279, 280, 104, 864, 865, 866, 867, 99, 499, 769, 33, 834, 765, 766, 767, 768, 770, 614, 771, 772, 773, 503, 774, 775, 776, 777, 734, 735, 736, 737, 738, 739, 868, 869, 870, 871, 98, 660, 872, 873, 703, 704, 617, 705, 637, 638, 565, 566, 567, 568, 505, 500, 501, 502, 504, 506, 507, 874, 875, 876, 877, 878, 879, 1029, 1030, 1031, 1032, 1033, 1034, 1075, 1076, 1077, 1078, 1079, 1085, 1086, 1087, 1088, 1089, 1090, 1091, 1092, 1093, 1072, 1073, 1074, 1094, 1095, 1096, 1097, 1098, 1099, 1100, 1101, 1102, 1103, 1104, 1105, 1106, 1107, 1108, 1109] (by decide +kernel) (by decide +kernel)
set_option maxRecDepth 20000 in
theorem gL_law_X12_ofReader : GoodIn wsL_law (wsV RL 154 RX12 yX12_ofReader wsX12_ofReader) := goodIn_app (goodIn_of _ (by decide +kernel)) ggL_law_X12_ofReader
set_option maxRecDepth 20000 in
theorem ggL_law_L_bill : GoodIn wsL_law wsL_bill := goodIn_ca (goodIn_r _ [882, 229, 883, 884, 885, 2, 886, 32, 24, 595, 596, 597, 238, 239, 848, 849, 850, 31, 851, 78, 87, 465, 466, 467, 468, 79, 80, 852, 853, 854, 855, 543, 544, 545, 546, 88, 473, 474, 469, 470, 471, 472, 81, 346, 347, 887, 888, 889, 890, 1022, 1023, 1024, 1025, 1026, 1027, 1028, 1050, 1051, 1052, 1053, 1061, 1062, 1063, 1064, 1065, 1066, 1067, 1068, 1069, 1070, 1071] (by decide +kernel) (by decide +kernel)) (goodIn_sub (fun _ h => List.mem_append_right _ h) (by decide +kernel))
set_option maxRecDepth 20000 in
theorem gL_law_L_bill : GoodIn wsL_law (va_wsS RL 155 yL_bill wsL_bill) := goodIn_app (goodIn_of _ (by decide +kernel)) ggL_law_L_bill
set_option maxRecDepth 20000 in
theorem ggL_law_X12_bill : GoodIn wsL_law wsX12_bill := goodIn_r _ [894, 99, 499, 769, 834, 618, 619, 5, 620, 142, 143, 144, 145, 146, 147, 148, 149, 150, 151, 152, 153, 429, 430, 431, 432, 96, 253, 369, 421, 433, 423, 424, 189, 190, 191, 373, 374, 434, 435, 436, 437, 438, 154, 155, 156, 95, 157, 158, 265, 266, 267, 268, 269, 270, 271, 272, 273, 274, 275, 276, 277, 278, 279, 280, 104, 864, 865, 866, 867, 33, 765, 766, 767, 768, 770, 614, 771, 772, 773, 503, 774, 775, 776, 777, 734, 735, 736, 737, 738, 739, 868, 869, 870, 871, 98, 660, 872, 873, 703, 704, 617, 705, 637, 638, 565, 566, 567, 568, 505, 500, 501, 502, 504, 506, 507, 874, 875, 876, 877, 878, 879, 1029, 1030, 1031, 1032, 1033, 1034, 1094, 1095, 1096, 1097, 1098, 1099, 1100, 1101, 1102, 1103, 1075, 1076, 1077, 1078, 1079, 1085, 1086, 1087, 1088, 1089, 1090, 1091, 1092, 1093, 1072, 1073, 1074, 1104, 1105, 1106, 1107, 1108, 1109] (by decide +kernel) (by decide +kernel)
set_option maxRecDepth 20000 in
theorem gL_law_X12_bill : GoodIn wsL_law (wsV RL 157 RX12 yX12_bill wsX12_bill) := goodIn_app (goodIn_of _ (by decide +kernel)) ggL_law_X12_bill
set_option maxRecDepth 20000 in
theorem ggL_law_L_pass : GoodIn wsL_law wsL_pass := goodIn_ca (goodIn_ca (goodIn_r _ [897, 119, 120, 898, 899, 900, 2, 901, 125, 126, 127, 128, 35, 1022, 1023, 1024, 1025, 1026, 1027, 1028] (by decide +kernel) (by decide +kernel)) (goodIn_sub (fun _ h => List.mem_append_left _ (List.mem_append_left _ (List.mem_append_right _ h))) (by decide +kernel))) (goodIn_sub (fun _ h => List.mem_append_left _ (List.mem_append_right _ h)) (by decide +kernel))
set_option maxRecDepth 20000 in
theorem gL_law_L_pass : GoodIn wsL_law (va_wsS RL 158 yL_pass wsL_pass) := goodIn_app (goodIn_of _ (by decide +kernel)) ggL_law_L_pass
set_option maxRecDepth 20000 in
theorem ggL_law_X12_pass : GoodIn wsL_law wsX12_pass := goodIn_r _ [905, 614, 142, 143, 5, 144, 145, 146, 147, 148, 149, 150, 151, 152, 153, 1029, 1030, 1031, 1032, 1033, 1034] (by decide +kernel) (by decide +kernel)
set_option maxRecDepth 20000 in
theorem gL_law_X12_pass : GoodIn wsL_law (wsV RL 160 RX12 yX12_pass wsX12_pass) := goodIn_app (goodIn_of _ (by decide +kernel)) ggL_law_X12_pass
set_option maxRecDepth 20000 in
theorem ggL_law_L_many : GoodIn wsL_law wsL_many := goodIn_ca (goodIn_r _ [908, 119, 909, 910, 911, 2, 912, 125, 126, 16, 20, 28, 32, 24, 35, 913, 914, 915, 15, 916, 39, 41, 539, 540, 541, 31, 542, 78, 465, 466, 467, 468, 79, 80, 543, 544, 545, 546, 88, 473, 474, 461, 462, 463, 464, 469, 470, 471, 472, 81, 346, 347, 844, 845, 846, 847, 87, 1022, 1023, 1024, 1025, 1026, 1027, 1028, 1035, 1036, 1037, 1038, 1039, 1040, 1041, 1042, 1043, 1044, 1045, 1046, 1047, 1048, 1049, 1054, 1055, 1056, 1057, 1058, 1059, 1060, 1061, 1062, 1063, 1064, 1065, 1066, 1067, 1068, 1069, 1070, 1071, 1050, 1051, 1052, 1053] (by decide +kernel) (by decide +kernel)) (goodIn_sub (fun _ h => List.mem_append_left _ (List.mem_append_left _ (List.mem_append_right _ h))) (by decide +kernel))
set_option maxRecDepth 20000 in
theorem gL_law_L_many : GoodIn wsL_law (va_wsS RL 161 yL_many wsL_many) := goodIn_app (goodIn_of _ (by decide +kernel)) ggL_law_L_many
set_option maxRecDepth 20000 in
theorem ggL_law_X12_many : GoodIn wsL_law wsX12_many := goodIn_r _ [920, 142, 143, 5, 144, 145, 146, 147, 148, 149, 150, 151, 152, 153, 921, 922, 923, 924, 96, 253, 369, 99, 499, 834, 33, 97, 98, 614, 154, 155, 156, 95, 157, 158, 265, 266, 267, 268, 269, 270, 271, 272, 273, 274, 275, 276, 277, 278, 279, 280, 104, 565, 566, 567, 503, 568, 505, 495, 496, 497, 498, 429, 430, 431, 432, 421, 433, 423, 424, 189, 190, 191, 373, 374, 434, 435, 436, 437, 438, 500, 501, 502, 504, 506, 507, 1029, 1030, 1031, 1032, 1033, 1034, 1075, 1076, 1077, 1078, 1079, 1094, 1095, 1096, 1097, 1098, 1099, 1100, 1101, 1102, 1103, 1072, 1073, 1074, 1085, 1086, 1087, 1088, 1089, 1090, 1091, 1092, 1093] (by decide +kernel) (by decide +kernel)
set_option maxRecDepth 20000 in
theorem gL_law_X12_many : GoodIn wsL_law (wsV RL 163 RX12 yX12_many wsX12_many) := goodIn_app (goodIn_of _ (by decide +kernel)) ggL_law_X12_many
set_option maxRecDepth 20000 in
theorem ggL_law_X5_meanWorth : GoodIn wsL_law wsX5_meanWorth := goodIn_r _ [928, 32, 24, 539, 540, 541, 31, 542, 78, 465, 466, 467, 468, 79, 80, 543, 544, 545, 546, 88, 473, 2, 474, 461, 462, 463, 464, 469, 470, 471, 472, 81, 346, 347, 1022, 1023, 1024, 1025, 1026, 1027, 1028, 1061, 1062, 1063, 1064, 1065, 1066, 1067, 1068, 1069, 1070, 1071, 1050, 1051, 1052, 1053] (by decide +kernel) (by decide +kernel)
set_option maxRecDepth 20000 in
theorem gL_law_X5_meanWorth : GoodIn wsL_law (wsV RL 164 RX5 yX5_meanWorth wsX5_meanWorth) := goodIn_app (goodIn_of _ (by decide +kernel)) ggL_law_X5_meanWorth
set_option maxRecDepth 20000 in
theorem ggL_law_X12_meanWorth : GoodIn wsL_law wsX12_meanWorth := goodIn_r _ [932, 149, 99, 425, 426, 427, 95, 428, 158, 921, 922, 923, 5, 924, 96, 253, 369, 499, 834, 33, 97, 98, 614, 154, 155, 156, 157, 265, 266, 267, 268, 269, 270, 271, 272, 273, 274, 275, 276, 277, 278, 279, 280, 104, 565, 566, 567, 503, 568, 505, 495, 496, 497, 498, 429, 430, 431, 432, 421, 433, 423, 424, 189, 190, 191, 373, 374, 434, 435, 436, 437, 438, 500, 501, 502, 504, 506, 507, 1029, 1030, 1031, 1032, 1033, 1034, 1072, 1073, 1074, 1075, 1076, 1077, 1078, 1079, 1094, 1095, 1096, 1097, 1098, 1099, 1100, 1101, 1102, 1103, 1085, 1086, 1087, 1088, 1089, 1090, 1091, 1092, 1093] (by decide +kernel) (by decide +kernel)
set_option maxRecDepth 20000 in
theorem gL_law_X12_meanWorth : GoodIn wsL_law (wsV RL 168 RX12 yX12_meanWorth wsX12_meanWorth) := goodIn_app (goodIn_of _ (by decide +kernel)) ggL_law_X12_meanWorth
set_option maxRecDepth 20000 in
theorem ggL_law_L_quote : GoodIn wsL_law wsL_quote := goodIn_ca (goodIn_ca (goodIn_r _ [935, 229, 119, 936, 937, 938, 2, 939, 125, 126, 32, 35, 16, 595, 596, 597, 238, 239, 240, 241, 242, 243, 244, 245, 246, 15, 247, 39, 598, 599, 600, 601, 602, 603, 604, 605, 40, 940, 722, 723, 31, 724, 725, 726, 727, 728, 78, 79, 85, 729, 730, 731, 732, 83, 82, 733, 734, 735, 736, 737, 738, 739, 740, 741, 742, 744, 745, 746, 747, 43, 133, 134, 1022, 1023, 1024, 1025, 1026, 1027, 1028, 1035, 1036, 1037, 1038, 1039, 1040, 1061, 1062, 1063, 1064, 1065, 1066, 1067, 1068, 1069, 1070, 1071] (by decide +kernel) (by decide +kernel)) (goodIn_sub (fun _ h => List.mem_append_left _ (List.mem_append_left _ (List.mem_append_right _ h))) (by decide +kernel))) (goodIn_sub (fun _ h => List.mem_append_right _ h) (by decide +kernel))
set_option maxRecDepth 20000 in
theorem gL_law_L_quote : GoodIn wsL_law (va_wsS RL 169 yL_quote wsL_quote) := goodIn_app (goodIn_of _ (by decide +kernel)) ggL_law_L_quote
set_option maxRecDepth 20000 in
theorem ggL_law_X12_quote : GoodIn wsL_law wsX12_quote := goodIn_r _ [944, 618, 619, 5, 620, 142, 143, 144, 261, 262, 263, 264, 96, 154, 155, 156, 95, 157, 158, 145, 146, 147, 148, 149, 150, 151, 152, 153, 621, 622, 623, 624, 253, 265, 266, 267, 268, 269, 270, 271, 272, 273, 274, 275, 276, 277, 278, 279, 280, 104, 625, 626, 627, 141, 628, 168, 753, 754, 755, 756, 757, 758, 503, 614, 759, 254, 760, 390, 391, 392, 393, 166, 394, 761, 762, 763, 764, 765, 766, 767, 768, 99, 499, 769, 770, 771, 772, 773, 774, 775, 776, 777, 734, 735, 736, 737, 738, 739, 778, 779, 780, 781, 11, 12, 33, 505, 782, 506, 507, 783, 784, 785, 565, 566, 567, 568, 1029, 1030, 1031, 1032, 1033, 1034, 1072, 1073, 1074, 1075, 1076, 1077, 1078, 1079, 1094, 1095, 1096, 1097, 1098, 1099, 1100, 1101, 1102, 1103] (by decide +kernel) (by decide +kernel)
set_option maxRecDepth 20000 in
theorem gL_law_X12_quote : GoodIn wsL_law (wsV RL 171 RX12 yX12_quote wsX12_quote) := goodIn_app (goodIn_of _ (by decide +kernel)) ggL_law_X12_quote
set_option maxRecDepth 20000 in
theorem ggL_law_L_creditBy : GoodIn wsL_law wsL_creditBy := goodIn_ca (goodIn_ca (goodIn_r _ [947, 229, 119, 948, 949, 950, 2, 951, 446, 447, 448, 449, 238, 239, 16, 234, 235, 236, 237, 240, 241, 242, 243, 244, 245, 246, 15, 247, 39, 450, 451, 452, 125, 126, 411, 346, 347, 453, 454, 455, 456, 24, 20, 32, 457, 458, 459, 23, 460, 64, 416, 189, 190, 191, 356, 357, 358, 359, 61, 360, 361, 362, 19, 363, 52, 53, 54, 55, 364, 461, 462, 463, 31, 464, 78, 465, 466, 467, 468, 79, 80, 469, 470, 471, 472, 81, 88, 473, 474, 1022, 1023, 1024, 1025, 1026, 1027, 1028, 1035, 1036, 1037, 1038, 1039, 1040, 1050, 1051, 1052, 1053, 1041, 1042, 1043, 1044, 1045, 1046, 1047, 1048, 1049, 1061, 1062, 1063, 1064, 1065, 1066, 1067, 1068, 1069, 1070, 1071] (by decide +kernel) (by decide +kernel)) (goodIn_sub (fun _ h => List.mem_append_right _ h) (by decide +kernel))) (goodIn_sub (fun _ h => List.mem_append_left _ (List.mem_append_left _ (List.mem_append_right _ h))) (by decide +kernel))
set_option maxRecDepth 20000 in
theorem gL_law_L_creditBy : GoodIn wsL_law (va_wsS RL 172 yL_creditBy wsL_creditBy) := goodIn_app (goodIn_of _ (by decide +kernel)) ggL_law_L_creditBy
set_option maxRecDepth 20000 in
theorem ggL_law_X12_creditBy : GoodIn wsL_law wsX12_creditBy := goodIn_r _ [955, 96, 253, 369, 421, 433, 479, 480, 481, 5, 482, 483, 484, 485, 486, 256, 257, 258, 259, 260, 261, 262, 263, 264, 154, 155, 156, 95, 157, 158, 142, 143, 144, 265, 266, 267, 268, 269, 270, 271, 272, 273, 274, 275, 276, 277, 278, 279, 280, 104, 487, 488, 489, 490, 390, 391, 392, 141, 393, 166, 394, 145, 146, 147, 148, 149, 150, 151, 152, 153, 491, 492, 493, 494, 424, 189, 190, 191, 495, 496, 497, 498, 99, 499, 429, 430, 431, 432, 423, 373, 374, 434, 435, 436, 437, 438, 500, 501, 502, 503, 504, 505, 506, 507, 1029, 1030, 1031, 1032, 1033, 1034, 1075, 1076, 1077, 1078, 1079, 1085, 1086, 1087, 1088, 1089, 1072, 1073, 1074, 1090, 1091, 1092, 1093, 1094, 1095, 1096, 1097, 1098, 1099, 1100, 1101, 1102, 1103] (by decide +kernel) (by decide +kernel)
set_option maxRecDepth 20000 in
theorem gL_law_X12_creditBy : GoodIn wsL_law (wsV RL 174 RX12 yX12_creditBy wsX12_creditBy) := goodIn_app (goodIn_of _ (by decide +kernel)) ggL_law_X12_creditBy
set_option maxRecDepth 20000 in
theorem ggL_law_L_previews : GoodIn wsL_law wsL_previews := goodIn_ca (goodIn_r _ [958, 229, 959, 960, 961, 2, 962, 16, 34, 595, 596, 597, 238, 239, 240, 241, 242, 243, 244, 245, 246, 15, 247, 39, 794, 795, 796, 797, 798, 799, 800, 28, 35, 678, 679, 680, 27, 681, 68, 71, 682, 683, 684, 685, 69, 70, 72, 686, 687, 688, 689, 73, 74, 602, 603, 604, 605, 40, 793, 734, 735, 736, 737, 738, 739, 801, 802, 803, 804, 1022, 1023, 1024, 1025, 1026, 1027, 1028, 1035, 1036, 1037, 1038, 1039, 1040, 1054, 1055, 1056, 1057, 1058, 1059, 1060] (by decide +kernel) (by decide +kernel)) (goodIn_sub (fun _ h => List.mem_append_right _ h) (by decide +kernel))
set_option maxRecDepth 20000 in
theorem gL_law_L_previews : GoodIn wsL_law (va_wsS RL 175 yL_previews wsL_previews) := goodIn_app (goodIn_of _ (by decide +kernel)) ggL_law_L_previews
set_option maxRecDepth 20000 in
theorem ggL_law_X12_previews : GoodIn wsL_law wsX12_previews := goodIn_r _ [966, 618, 619, 5, 620, 142, 143, 144, 261, 262, 263, 264, 96, 154, 155, 156, 95, 157, 158, 145, 146, 147, 148, 149, 150, 151, 152, 153, 967, 968, 969, 970, 253, 265, 266, 267, 268, 269, 270, 271, 272, 273, 274, 275, 276, 277, 278, 279, 280, 104, 625, 626, 627, 141, 628, 168, 810, 734, 735, 736, 737, 738, 739, 811, 812, 813, 814, 809, 614, 369, 260, 694, 695, 696, 697, 98, 660, 698, 699, 700, 617, 701, 633, 634, 636, 635, 702, 703, 704, 705, 637, 638, 425, 426, 427, 428, 1029, 1030, 1031, 1032, 1033, 1034, 1072, 1073, 1074, 1075, 1076, 1077, 1078, 1079, 1104, 1105, 1106, 1107, 1108, 1109] (by decide +kernel) (by decide +kernel)
set_option maxRecDepth 20000 in
theorem gL_law_X12_previews : GoodIn wsL_law (wsV RL 177 RX12 yX12_previews wsX12_previews) := goodIn_app (goodIn_of _ (by decide +kernel)) ggL_law_X12_previews
set_option maxRecDepth 20000 in
theorem ggL_law_L_neededBy : GoodIn wsL_law wsL_neededBy := goodIn_ca (goodIn_r _ [973, 229, 974, 975, 976, 2, 977, 32, 646, 647, 648, 649, 238, 239, 28, 978, 979, 980, 981, 982, 683, 684, 27, 685, 69, 70, 72, 686, 687, 688, 689, 73, 74, 678, 679, 680, 681, 68, 71, 682, 1022, 1023, 1024, 1025, 1026, 1027, 1028, 1061, 1062, 1063, 1064, 1065, 1066, 1067, 1068, 1069, 1070, 1071, 1054, 1055, 1056, 1057, 1058, 1059, 1060] (by decide +kernel) (by decide +kernel)) (goodIn_sub (fun _ h => List.mem_append_right _ h) (by decide +kernel))
set_option maxRecDepth 20000 in
theorem gL_law_L_neededBy : GoodIn wsL_law (va_wsS RL 178 yL_neededBy wsL_neededBy) := goodIn_app (goodIn_of _ (by decide +kernel)) ggL_law_L_neededBy
set_option maxRecDepth 20000 in
theorem ggL_law_X12_neededBy : GoodIn wsL_law wsX12_neededBy := goodIn_r _ [986, 664, 665, 666, 5, 667, 98, 154, 155, 156, 95, 157, 158, 142, 143, 144, 145, 146, 147, 148, 149, 150, 151, 152, 153, 987, 988, 989, 990, 99, 499, 660, 769, 555, 835, 770, 832, 265, 266, 267, 268, 269, 270, 271, 272, 273, 274, 275, 276, 277, 278, 279, 280, 104, 698, 699, 700, 617, 701, 633, 634, 636, 635, 702, 703, 704, 705, 637, 638, 1029, 1030, 1031, 1032, 1033, 1034, 1072, 1073, 1074, 1094, 1095, 1096, 1097, 1098, 1099, 1100, 1101, 1102, 1103, 1104, 1105, 1106, 1107, 1108, 1109] (by decide +kernel) (by decide +kernel)
set_option maxRecDepth 20000 in
theorem gL_law_X12_neededBy : GoodIn wsL_law (wsV RL 180 RX12 yX12_neededBy wsX12_neededBy) := goodIn_app (goodIn_of _ (by decide +kernel)) ggL_law_X12_neededBy
set_option maxRecDepth 20000 in
theorem ggL_law_X5_digest : GoodIn wsL_law wsX5_digest := goodIn_ca (goodIn_ca (goodIn_r _ [994, 995, 996, 16, 32, 28, 997, 910, 911, 2, 912, 125, 126, 20, 24, 35, 913, 914, 915, 15, 916, 39, 41, 539, 540, 541, 31, 542, 78, 465, 466, 467, 468, 79, 80, 543, 544, 545, 546, 88, 473, 474, 461, 462, 463, 464, 469, 470, 471, 472, 81, 346, 347, 844, 845, 846, 847, 87, 998, 999, 1000, 1001, 1002, 523, 524, 525, 240, 241, 242, 243, 238, 239, 244, 245, 246, 247, 526, 527, 528, 529, 42, 530, 343, 344, 345, 336, 337, 531, 532, 533, 534, 410, 411, 535, 536, 537, 538, 1003, 512, 513, 514, 446, 447, 448, 449, 234, 235, 236, 237, 1004, 1005, 1006, 1007, 1008, 840, 841, 842, 595, 596, 597, 843, 726, 727, 728, 85, 729, 730, 731, 732, 83, 82, 733, 734, 735, 736, 737, 738, 739, 848, 849, 850, 851, 852, 853, 854, 855, 856, 857, 858, 27, 859, 68, 69, 686, 687, 688, 689, 73, 74, 1009, 672, 673, 674, 675, 676, 677, 678, 679, 680, 681, 71, 682, 683, 684, 685, 70, 72, 1010, 960, 961, 962, 34, 794, 795, 796, 797, 798, 799, 800, 602, 603, 604, 605, 40, 793, 801, 802, 803, 804, 1011, 819, 820, 821, 822, 748, 823, 1012, 975, 976, 977, 646, 647, 648, 649, 978, 979, 980, 981, 982, 1022, 1023, 1024, 1025, 1026, 1027, 1028, 1035, 1036, 1037, 1038, 1039, 1040, 1061, 1062, 1063, 1064, 1065, 1066, 1067, 1068, 1069, 1070, 1071, 1054, 1055, 1056, 1057, 1058, 1059, 1060, 1041, 1042, 1043, 1044, 1045, 1046, 1047, 1048, 1049, 1050, 1051, 1052, 1053] (by decide +kernel) (by decide +kernel)) (goodIn_sub (fun _ h => List.mem_append_left _ (List.mem_append_left _ (List.mem_append_right _ h))) (by decide +kernel))) (goodIn_sub (fun _ h => List.mem_append_right _ h) (by decide +kernel))
set_option maxRecDepth 20000 in
theorem gL_law_X5_digest : GoodIn wsL_law (wsV RL 181 RX5 yX5_digest wsX5_digest) := goodIn_app (goodIn_of _ (by decide +kernel)) ggL_law_X5_digest
set_option maxRecDepth 20000 in
theorem ggL_law_X12_digest : GoodIn wsL_law wsX12_digest := goodIn_r _ [1016, 149, 1017, 96, 253, 369, 260, 614, 99, 499, 98, 429, 430, 431, 5, 432, 421, 433, 423, 424, 189, 190, 191, 373, 374, 434, 435, 436, 437, 438, 154, 155, 156, 95, 157, 158, 265, 266, 267, 268, 269, 270, 271, 272, 273, 274, 275, 276, 277, 278, 279, 280, 104, 921, 922, 923, 924, 834, 33, 97, 565, 566, 567, 503, 568, 505, 495, 496, 497, 498, 500, 501, 502, 504, 506, 507, 1018, 1019, 1020, 1021, 551, 552, 553, 554, 555, 556, 557, 558, 141, 559, 166, 560, 561, 562, 426, 427, 428, 563, 391, 392, 393, 394, 564, 425, 390, 864, 865, 866, 867, 769, 765, 766, 767, 768, 770, 771, 772, 773, 774, 775, 776, 777, 734, 735, 736, 737, 738, 739, 868, 869, 870, 871, 660, 872, 873, 703, 704, 617, 705, 637, 638, 874, 875, 876, 877, 878, 879, 694, 695, 696, 697, 698, 699, 700, 701, 633, 634, 636, 635, 702, 967, 968, 969, 970, 625, 626, 627, 628, 168, 810, 811, 812, 813, 814, 809, 828, 829, 830, 831, 832, 833, 760, 835, 987, 988, 989, 990, 1029, 1030, 1031, 1032, 1033, 1034, 1075, 1076, 1077, 1078, 1079, 1085, 1086, 1087, 1088, 1089, 1090, 1091, 1092, 1093, 1072, 1073, 1074, 1094, 1095, 1096, 1097, 1098, 1099, 1100, 1101, 1102, 1103, 1104, 1105, 1106, 1107, 1108, 1109] (by decide +kernel) (by decide +kernel)
set_option maxRecDepth 20000 in
theorem gL_law_X12_digest : GoodIn wsL_law (wsV RL 185 RX12 yX12_digest wsX12_digest) := goodIn_app (goodIn_of _ (by decide +kernel)) ggL_law_X12_digest
theorem dL_law_0 : decode cL_law 0 = .ok (.new 8, 3) := by decide +kernel
theorem dL_law_3 : decode cL_law 3 = .ok (.dup, 1) := by decide +kernel
theorem dL_law_4 : decode cL_law 4 = .ok (.invokespecial 91, 3) := by decide +kernel
theorem dL_law_7 : decode cL_law 7 = .ok (.astore_n 1, 1) := by decide +kernel
theorem dL_law_8 : decode cL_law 8 = .ok (.new 92, 3) := by decide +kernel
theorem dL_law_11 : decode cL_law 11 = .ok (.dup, 1) := by decide +kernel
theorem dL_law_12 : decode cL_law 12 = .ok (.invokespecial 94, 3) := by decide +kernel
theorem dL_law_15 : decode cL_law 15 = .ok (.astore_n 2, 1) := by decide +kernel
theorem dL_law_16 : decode cL_law 16 = .ok (.iconst 1, 1) := by decide +kernel
theorem dL_law_17 : decode cL_law 17 = .ok (.newarray .long, 2) := by decide +kernel
theorem dL_law_19 : decode cL_law 19 = .ok (.astore_n 3, 1) := by decide +kernel
theorem dL_law_20 : decode cL_law 20 = .ok (.iconst 0, 1) := by decide +kernel
theorem dL_law_21 : decode cL_law 21 = .ok (.istore 4, 2) := by decide +kernel
theorem dL_law_23 : decode cL_law 23 = .ok (.iload 4, 2) := by decide +kernel
theorem dL_law_25 : decode cL_law 25 = .ok (.aload_n 0, 1) := by decide +kernel
theorem dL_law_26 : decode cL_law 26 = .ok (.arraylength, 1) := by decide +kernel
theorem dL_law_27 : decode cL_law 27 = .ok (.bipush 7, 2) := by decide +kernel
theorem dL_law_29 : decode cL_law 29 = .ok (.isub, 1) := by decide +kernel
theorem dL_law_30 : decode cL_law 30 = .ok (.if_icmp .gt 2014, 3) := by decide +kernel
theorem dL_law_33 : decode cL_law 33 = .ok (.aload_n 0, 1) := by decide +kernel
theorem dL_law_34 : decode cL_law 34 = .ok (.iload 4, 2) := by decide +kernel
theorem dL_law_36 : decode cL_law 36 = .ok (.iaload, 1) := by decide +kernel
theorem dL_law_37 : decode cL_law 37 = .ok (.bipush 31, 2) := by decide +kernel
theorem dL_law_39 : decode cL_law 39 = .ok (.iand, 1) := by decide +kernel
theorem dL_law_40 : decode cL_law 40 = .ok (.tableswitch 1998 0 24 #[116, 172, 264, 368, 436, 516, 608, 688, 756, 881, 999, 1055, 1147, 1251, 1331, 1399, 1467, 1523, 1579, 1635, 1676, 1768, 1860, 1928, 1984], 116) := by decide +kernel
theorem dL_law_156 : decode cL_law 156 = .ok (.aload_n 1, 1) := by decide +kernel
theorem dL_law_157 : decode cL_law 157 = .ok (.aload_n 0, 1) := by decide +kernel
theorem dL_law_158 : decode cL_law 158 = .ok (.iload 4, 2) := by decide +kernel
theorem dL_law_160 : decode cL_law 160 = .ok (.iconst 1, 1) := by decide +kernel
theorem dL_law_161 : decode cL_law 161 = .ok (.iadd, 1) := by decide +kernel
theorem dL_law_162 : decode cL_law 162 = .ok (.iaload, 1) := by decide +kernel
theorem dL_law_163 : decode cL_law 163 = .ok (.aload_n 3, 1) := by decide +kernel
theorem dL_law_164 : decode cL_law 164 = .ok (.invokestatic 95, 3) := by decide +kernel
theorem dL_law_167 : decode cL_law 167 = .ok (.istore 5, 2) := by decide +kernel
theorem dL_law_169 : decode cL_law 169 = .ok (.aload_n 2, 1) := by decide +kernel
theorem dL_law_170 : decode cL_law 170 = .ok (.aload_n 0, 1) := by decide +kernel
theorem dL_law_171 : decode cL_law 171 = .ok (.iload 4, 2) := by decide +kernel
theorem dL_law_173 : decode cL_law 173 = .ok (.iconst 1, 1) := by decide +kernel
theorem dL_law_174 : decode cL_law 174 = .ok (.iadd, 1) := by decide +kernel
theorem dL_law_175 : decode cL_law 175 = .ok (.iaload, 1) := by decide +kernel
theorem dL_law_176 : decode cL_law 176 = .ok (.invokevirtual 100, 3) := by decide +kernel
theorem dL_law_179 : decode cL_law 179 = .ok (.istore 6, 2) := by decide +kernel
theorem dL_law_181 : decode cL_law 181 = .ok (.aload_n 2, 1) := by decide +kernel
theorem dL_law_182 : decode cL_law 182 = .ok (.invokevirtual 101, 3) := by decide +kernel
theorem dL_law_185 : decode cL_law 185 = .ok (.iload 5, 2) := by decide +kernel
theorem dL_law_187 : decode cL_law 187 = .ok (.if_icmp .eq 5, 3) := by decide +kernel
theorem dL_law_190 : decode cL_law 190 = .ok (.iconst 0, 1) := by decide +kernel
theorem dL_law_191 : decode cL_law 191 = .ok (.ireturn, 1) := by decide +kernel
theorem dL_law_192 : decode cL_law 192 = .ok (.iload 5, 2) := by decide +kernel
theorem dL_law_194 : decode cL_law 194 = .ok (.ifCond .ne 15, 3) := by decide +kernel
theorem dL_law_197 : decode cL_law 197 = .ok (.aload_n 3, 1) := by decide +kernel
theorem dL_law_198 : decode cL_law 198 = .ok (.iconst 0, 1) := by decide +kernel
theorem dL_law_199 : decode cL_law 199 = .ok (.laload, 1) := by decide +kernel
theorem dL_law_200 : decode cL_law 200 = .ok (.iload 6, 2) := by decide +kernel
theorem dL_law_202 : decode cL_law 202 = .ok (.i2l, 1) := by decide +kernel
theorem dL_law_203 : decode cL_law 203 = .ok (.lcmp, 1) := by decide +kernel
theorem dL_law_204 : decode cL_law 204 = .ok (.ifCond .eq 5, 3) := by decide +kernel
theorem dL_law_207 : decode cL_law 207 = .ok (.iconst 0, 1) := by decide +kernel
theorem dL_law_208 : decode cL_law 208 = .ok (.ireturn, 1) := by decide +kernel
theorem dL_law_209 : decode cL_law 209 = .ok (.goto 1829, 3) := by decide +kernel
theorem dL_law_212 : decode cL_law 212 = .ok (.aload_n 1, 1) := by decide +kernel
theorem dL_law_213 : decode cL_law 213 = .ok (.aload_n 0, 1) := by decide +kernel
theorem dL_law_214 : decode cL_law 214 = .ok (.iload 4, 2) := by decide +kernel
theorem dL_law_216 : decode cL_law 216 = .ok (.iconst 1, 1) := by decide +kernel
theorem dL_law_217 : decode cL_law 217 = .ok (.iadd, 1) := by decide +kernel
theorem dL_law_218 : decode cL_law 218 = .ok (.iaload, 1) := by decide +kernel
theorem dL_law_219 : decode cL_law 219 = .ok (.aload_n 0, 1) := by decide +kernel
theorem dL_law_220 : decode cL_law 220 = .ok (.iload 4, 2) := by decide +kernel
theorem dL_law_222 : decode cL_law 222 = .ok (.iconst 2, 1) := by decide +kernel
theorem dL_law_223 : decode cL_law 223 = .ok (.iadd, 1) := by decide +kernel
theorem dL_law_224 : decode cL_law 224 = .ok (.iaload, 1) := by decide +kernel
theorem dL_law_225 : decode cL_law 225 = .ok (.aload_n 0, 1) := by decide +kernel
theorem dL_law_226 : decode cL_law 226 = .ok (.iload 4, 2) := by decide +kernel
theorem dL_law_228 : decode cL_law 228 = .ok (.iconst 3, 1) := by decide +kernel
theorem dL_law_229 : decode cL_law 229 = .ok (.iadd, 1) := by decide +kernel
theorem dL_law_230 : decode cL_law 230 = .ok (.iaload, 1) := by decide +kernel
theorem dL_law_231 : decode cL_law 231 = .ok (.aload_n 0, 1) := by decide +kernel
theorem dL_law_232 : decode cL_law 232 = .ok (.iload 4, 2) := by decide +kernel
theorem dL_law_234 : decode cL_law 234 = .ok (.iconst 4, 1) := by decide +kernel
theorem dL_law_235 : decode cL_law 235 = .ok (.iadd, 1) := by decide +kernel
theorem dL_law_236 : decode cL_law 236 = .ok (.iaload, 1) := by decide +kernel
theorem dL_law_237 : decode cL_law 237 = .ok (.aload_n 3, 1) := by decide +kernel
theorem dL_law_238 : decode cL_law 238 = .ok (.invokestatic 105, 3) := by decide +kernel
theorem dL_law_241 : decode cL_law 241 = .ok (.istore 5, 2) := by decide +kernel
theorem dL_law_243 : decode cL_law 243 = .ok (.aload_n 2, 1) := by decide +kernel
theorem dL_law_244 : decode cL_law 244 = .ok (.aload_n 0, 1) := by decide +kernel
theorem dL_law_245 : decode cL_law 245 = .ok (.iload 4, 2) := by decide +kernel
theorem dL_law_247 : decode cL_law 247 = .ok (.iconst 1, 1) := by decide +kernel
theorem dL_law_248 : decode cL_law 248 = .ok (.iadd, 1) := by decide +kernel
theorem dL_law_249 : decode cL_law 249 = .ok (.iaload, 1) := by decide +kernel
theorem dL_law_250 : decode cL_law 250 = .ok (.aload_n 0, 1) := by decide +kernel
theorem dL_law_251 : decode cL_law 251 = .ok (.iload 4, 2) := by decide +kernel
theorem dL_law_253 : decode cL_law 253 = .ok (.iconst 2, 1) := by decide +kernel
theorem dL_law_254 : decode cL_law 254 = .ok (.iadd, 1) := by decide +kernel
theorem dL_law_255 : decode cL_law 255 = .ok (.iaload, 1) := by decide +kernel
theorem dL_law_256 : decode cL_law 256 = .ok (.aload_n 0, 1) := by decide +kernel
theorem dL_law_257 : decode cL_law 257 = .ok (.iload 4, 2) := by decide +kernel
theorem dL_law_259 : decode cL_law 259 = .ok (.iconst 3, 1) := by decide +kernel
theorem dL_law_260 : decode cL_law 260 = .ok (.iadd, 1) := by decide +kernel
theorem dL_law_261 : decode cL_law 261 = .ok (.iaload, 1) := by decide +kernel
theorem dL_law_262 : decode cL_law 262 = .ok (.aload_n 0, 1) := by decide +kernel
theorem dL_law_263 : decode cL_law 263 = .ok (.iload 4, 2) := by decide +kernel
theorem dL_law_265 : decode cL_law 265 = .ok (.iconst 4, 1) := by decide +kernel
theorem dL_law_266 : decode cL_law 266 = .ok (.iadd, 1) := by decide +kernel
theorem dL_law_267 : decode cL_law 267 = .ok (.iaload, 1) := by decide +kernel
theorem dL_law_268 : decode cL_law 268 = .ok (.invokevirtual 108, 3) := by decide +kernel
theorem dL_law_271 : decode cL_law 271 = .ok (.istore 6, 2) := by decide +kernel
theorem dL_law_273 : decode cL_law 273 = .ok (.aload_n 2, 1) := by decide +kernel
theorem dL_law_274 : decode cL_law 274 = .ok (.invokevirtual 101, 3) := by decide +kernel
theorem dL_law_277 : decode cL_law 277 = .ok (.iload 5, 2) := by decide +kernel
theorem dL_law_279 : decode cL_law 279 = .ok (.if_icmp .eq 5, 3) := by decide +kernel
theorem dL_law_282 : decode cL_law 282 = .ok (.iconst 0, 1) := by decide +kernel
theorem dL_law_283 : decode cL_law 283 = .ok (.ireturn, 1) := by decide +kernel
theorem dL_law_284 : decode cL_law 284 = .ok (.iload 5, 2) := by decide +kernel
theorem dL_law_286 : decode cL_law 286 = .ok (.ifCond .ne 15, 3) := by decide +kernel
theorem dL_law_289 : decode cL_law 289 = .ok (.aload_n 3, 1) := by decide +kernel
theorem dL_law_290 : decode cL_law 290 = .ok (.iconst 0, 1) := by decide +kernel
theorem dL_law_291 : decode cL_law 291 = .ok (.laload, 1) := by decide +kernel
theorem dL_law_292 : decode cL_law 292 = .ok (.iload 6, 2) := by decide +kernel
theorem dL_law_294 : decode cL_law 294 = .ok (.i2l, 1) := by decide +kernel
theorem dL_law_295 : decode cL_law 295 = .ok (.lcmp, 1) := by decide +kernel
theorem dL_law_296 : decode cL_law 296 = .ok (.ifCond .eq 5, 3) := by decide +kernel
theorem dL_law_299 : decode cL_law 299 = .ok (.iconst 0, 1) := by decide +kernel
theorem dL_law_300 : decode cL_law 300 = .ok (.ireturn, 1) := by decide +kernel
theorem dL_law_301 : decode cL_law 301 = .ok (.goto 1737, 3) := by decide +kernel
theorem dL_law_304 : decode cL_law 304 = .ok (.aload_n 1, 1) := by decide +kernel
theorem dL_law_305 : decode cL_law 305 = .ok (.aload_n 0, 1) := by decide +kernel
theorem dL_law_306 : decode cL_law 306 = .ok (.iload 4, 2) := by decide +kernel
