set_option maxRecDepth 20000 in
theorem gd_c : GoodIn wsL_law [.code yX12_digest cX12_digest 7 (some .long)] := goodIn_r _ [1016] (by decide +kernel) (by decide +kernel)
set_option maxRecDepth 20000 in
theorem gd_r1 : GoodIn wsL_law wsX12_digest_r1 := goodIn_r _ [149, 1017, 96, 253, 369, 260, 614, 99, 499, 98, 429, 430, 431, 5, 432, 421, 433, 423, 424, 189, 190, 191, 373, 374] (by decide +kernel) (by decide +kernel)
set_option maxRecDepth 20000 in
theorem gd_r2 : GoodIn wsL_law wsX12_digest_r2 := goodIn_r _ [434, 435, 436, 437, 438, 154, 155, 156, 95, 157, 158, 265, 266, 267, 268, 269, 270, 271, 272, 273, 274, 275, 276, 277] (by decide +kernel) (by decide +kernel)
set_option maxRecDepth 20000 in
theorem gd_r3 : GoodIn wsL_law wsX12_digest_r3 := goodIn_r _ [278, 279, 280, 104, 921, 922, 923, 924, 834, 33, 97, 565, 566, 567, 503, 568, 505, 495, 496, 497, 498, 500, 501, 502] (by decide +kernel) (by decide +kernel)
set_option maxRecDepth 20000 in
theorem gd_r4 : GoodIn wsL_law wsX12_digest_r4 := goodIn_r _ [504, 506, 507, 1018, 1019, 1020, 1021, 551, 552, 553, 554, 555, 556, 557, 558, 141, 559, 166, 560, 561, 562, 426, 427, 428] (by decide +kernel) (by decide +kernel)
set_option maxRecDepth 20000 in
theorem gd_r5 : GoodIn wsL_law wsX12_digest_r5 := goodIn_r _ [563, 391, 392, 393, 394, 564, 425, 390, 864, 865, 866, 867, 769, 765, 766, 767, 768, 770, 771, 772, 773, 774, 775, 776] (by decide +kernel) (by decide +kernel)
set_option maxRecDepth 20000 in
theorem gd_r6 : GoodIn wsL_law wsX12_digest_r6 := goodIn_r _ [777, 734, 735, 736, 737, 738, 739, 868, 869, 870, 871, 660, 872, 873, 703, 704, 617, 705, 637, 638, 874, 875, 876, 877] (by decide +kernel) (by decide +kernel)
set_option maxRecDepth 20000 in
theorem gd_r7 : GoodIn wsL_law wsX12_digest_r7 := goodIn_r _ [878, 879, 694, 695, 696, 697, 698, 699, 700, 701, 633, 634, 636, 635, 702, 967, 968, 969, 970, 625, 626, 627, 628, 168] (by decide +kernel) (by decide +kernel)
set_option maxRecDepth 20000 in
theorem gd_r8 : GoodIn wsL_law wsX12_digest_r8 := goodIn_r _ [810, 811, 812, 813, 814, 809, 828, 829, 830, 831, 832, 833, 760, 835, 987, 988, 989, 990] (by decide +kernel) (by decide +kernel)
set_option maxRecDepth 20000 in
theorem gd_wsX120 : GoodIn wsL_law wsX120 := goodIn_r _ [1029, 1030, 1031, 1032, 1033, 1034] (by decide +kernel) (by decide +kernel)
set_option maxRecDepth 20000 in
theorem gd_wsX70 : GoodIn wsL_law wsX70 := goodIn_r _ [1075, 1076, 1077, 1078, 1079] (by decide +kernel) (by decide +kernel)
set_option maxRecDepth 20000 in
theorem gd_wsX110 : GoodIn wsL_law wsX110 := goodIn_r _ [1085, 1086, 1087, 1088, 1089] (by decide +kernel) (by decide +kernel)
set_option maxRecDepth 20000 in
theorem gd_wsX80 : GoodIn wsL_law wsX80 := goodIn_r _ [1090, 1091, 1092, 1093] (by decide +kernel) (by decide +kernel)
set_option maxRecDepth 20000 in
theorem gd_wsJx4a65c0 : GoodIn wsL_law wsJx4a65c0 := goodIn_r _ [1072, 1073, 1074] (by decide +kernel) (by decide +kernel)
set_option maxRecDepth 20000 in
theorem gd_wsX90 : GoodIn wsL_law wsX90 := goodIn_r _ [1094, 1095, 1096, 1097, 1098, 1099, 1100, 1101, 1102, 1103] (by decide +kernel) (by decide +kernel)
set_option maxRecDepth 20000 in
theorem gd_wsX60 : GoodIn wsL_law wsX60 := goodIn_r _ [1104, 1105, 1106, 1107, 1108, 1109] (by decide +kernel) (by decide +kernel)
theorem ggL_law_X12_digest : GoodIn wsL_law wsX12_digest := goodIn_app (a := [.code yX12_digest cX12_digest 7 (some .long)]) gd_c (goodIn_app (goodIn_app (goodIn_app (goodIn_app (goodIn_app (goodIn_app (goodIn_app (goodIn_app gd_r1 (goodIn_app gd_r2 (goodIn_app gd_r3 (goodIn_app gd_r4 (goodIn_app gd_r5 (goodIn_app gd_r6 (goodIn_app gd_r7 (gd_r8)))))))) gd_wsX120) gd_wsX70) gd_wsX110) gd_wsX80) gd_wsJx4a65c0) gd_wsX90) gd_wsX60)
set_option maxRecDepth 20000 in
theorem gL_law_X12_digest : GoodIn wsL_law (wsV RL 185 RX12 yX12_digest wsX12_digest) := goodIn_app (goodIn_of _ (by decide +kernel)) ggL_law_X12_digest
