theorem dL_below_0 : decode cL_below 0 = .ok (.iload_n 0, 1) := by decide +kernel
theorem dL_below_1 : decode cL_below 1 = .ok (.ldc 7, 2) := by decide +kernel
theorem dL_below_3 : decode cL_below 3 = .ok (.iand, 1) := by decide +kernel
theorem dL_below_4 : decode cL_below 4 = .ok (.iload_n 1, 1) := by decide +kernel
theorem dL_below_5 : decode cL_below 5 = .ok (.irem, 1) := by decide +kernel
theorem dL_below_6 : decode cL_below 6 = .ok (.ireturn, 1) := by decide +kernel
theorem dL_cell_0 : decode cL_cell 0 = .ok (.iload_n 1, 1) := by decide +kernel
theorem dL_cell_1 : decode cL_cell 1 = .ok (.aload_n 0, 1) := by decide +kernel
theorem dL_cell_2 : decode cL_cell 2 = .ok (.arraylength, 1) := by decide +kernel
theorem dL_cell_3 : decode cL_cell 3 = .ok (.if_icmp .ge 9, 3) := by decide +kernel
theorem dL_cell_6 : decode cL_cell 6 = .ok (.aload_n 0, 1) := by decide +kernel
theorem dL_cell_7 : decode cL_cell 7 = .ok (.iload_n 1, 1) := by decide +kernel
theorem dL_cell_8 : decode cL_cell 8 = .ok (.iaload, 1) := by decide +kernel
theorem dL_cell_9 : decode cL_cell 9 = .ok (.goto 9, 3) := by decide +kernel
theorem dL_cell_12 : decode cL_cell 12 = .ok (.ldc 8, 2) := by decide +kernel
theorem dL_cell_14 : decode cL_cell 14 = .ok (.iload_n 1, 1) := by decide +kernel
theorem dL_cell_15 : decode cL_cell 15 = .ok (.iconst 3, 1) := by decide +kernel
theorem dL_cell_16 : decode cL_cell 16 = .ok (.iadd, 1) := by decide +kernel
theorem dL_cell_17 : decode cL_cell 17 = .ok (.imul, 1) := by decide +kernel
theorem dL_cell_18 : decode cL_cell 18 = .ok (.ireturn, 1) := by decide +kernel
set_option maxRecDepth 20000 in
theorem ggL_preview_X5_preview : GoodIn wsL_preview wsX5_preview := goodIn_ca (goodIn_ca (goodIn_ca (goodIn_r _ [6, 7, 8, 9, 10, 11, 12, 13, 14, 5, 15, 16, 17, 18, 19, 20, 21, 22, 23, 24, 25, 26, 27, 28, 29, 30, 31, 32, 33, 34, 35, 36, 37, 38, 39, 40, 41, 42, 43, 44, 45, 46, 47, 48, 49, 50, 51, 52, 53, 54, 55, 56, 57, 58, 59, 60, 61, 62, 63, 64, 65, 66, 67, 68, 69, 70, 71, 72, 73, 74, 75, 76, 77, 78, 79, 80, 81, 82, 83, 84, 85, 86, 87, 88, 89, 90, 91, 92, 93, 94, 95, 96] (by decide +kernel) (by decide +kernel)) (goodIn_sub (fun _ h => List.mem_cons_of_mem _ (List.mem_append_left _ (List.mem_append_left _ (List.mem_append_right _ h)))) (by decide +kernel))) (goodIn_sub (fun _ h => List.mem_cons_of_mem _ (List.mem_append_left _ (List.mem_append_right _ h))) (by decide +kernel))) (goodIn_sub (fun _ h => List.mem_cons_of_mem _ (List.mem_append_right _ h)) (by decide +kernel))
set_option maxRecDepth 20000 in
theorem gL_preview_X5_preview : GoodIn wsL_preview (wsV RL 102 RX5 yX5_preview wsX5_preview) := goodIn_app (goodIn_of _ (by decide +kernel)) ggL_preview_X5_preview
theorem dL_preview_0 : decode cL_preview 0 = .ok (.aload_n 0, 1) := by decide +kernel
theorem dL_preview_1 : decode cL_preview 1 = .ok (.iload_n 1, 1) := by decide +kernel
theorem dL_preview_2 : decode cL_preview 2 = .ok (.iload_n 2, 1) := by decide +kernel
theorem dL_preview_3 : decode cL_preview 3 = .ok (.iload_n 3, 1) := by decide +kernel
theorem dL_preview_4 : decode cL_preview 4 = .ok (.invokevirtual 102, 3) := by decide +kernel
theorem dL_preview_7 : decode cL_preview 7 = .ok (.ireturn, 1) := by decide +kernel
theorem dL_preview_8 : decode cL_preview 8 = .ok (.astore 4, 2) := by decide +kernel
theorem dL_preview_10 : decode cL_preview 10 = .ok (.iconst 0, 1) := by decide +kernel
theorem dL_preview_11 : decode cL_preview 11 = .ok (.ireturn, 1) := by decide +kernel
set_option maxRecDepth 20000 in
theorem ggL_isFair_X5_digest : GoodIn wsL_isFair wsX5_digest := goodIn_ca (goodIn_ca (goodIn_r _ [5, 6, 7, 8, 9, 10, 11, 12, 13, 4, 14, 15, 16, 17, 18, 19, 20, 21, 22, 23, 24, 25, 26, 27, 28, 29, 30, 31, 32, 33, 34, 35, 36, 37, 38, 39, 40, 41, 42, 43, 44, 45, 46, 47, 48, 49, 50, 51, 52, 53, 54, 55, 56, 57, 58, 59, 60, 61, 62, 63, 64, 65, 66, 67, 68, 69, 70, 71, 72, 73, 74, 75, 76, 77, 78, 79, 80, 81, 82, 83, 84, 85, 86, 87, 88, 89, 90, 91, 92, 93, 94, 95, 96, 97, 98, 99, 100, 101, 102, 103, 104, 105, 106, 107, 108, 109, 110, 111, 112, 113, 114, 115, 116, 117, 118, 119, 120, 121, 122, 123, 124, 125, 126, 127, 128, 129, 130, 131, 132, 133, 134, 135, 136, 137, 138, 139, 140, 141, 142, 143, 144, 145, 146, 147, 148, 149, 150, 151, 152, 153, 154, 155, 156, 157, 158, 159, 160, 161, 162, 163, 164, 165, 166, 167, 168, 169, 170, 171, 172, 173, 174, 175, 176, 177, 178, 179, 180, 181, 182, 183, 184, 185, 186, 187, 188, 189, 190, 191, 192, 193, 194, 195, 196, 197, 198, 199, 200, 201, 202, 203, 204, 205, 206, 207, 208, 209, 210, 211, 212, 213, 214, 215, 216, 217, 218, 219, 220, 221, 222, 231, 232, 233, 234, 235, 236, 237, 238, 239, 240, 241, 242, 243, 244, 245, 246, 247, 248, 249, 250, 251, 252, 253, 254, 255, 256, 257, 258, 259, 260, 261, 262, 263, 264, 265, 266, 267, 268, 269, 270, 271, 272, 273, 274] (by decide +kernel) (by decide +kernel)) (goodIn_sub (fun _ h => List.mem_cons_of_mem _ (List.mem_append_left _ (List.mem_append_right _ h))) (by decide +kernel))) (goodIn_sub (fun _ h => List.mem_cons_of_mem _ (List.mem_append_right _ h)) (by decide +kernel))
set_option maxRecDepth 20000 in
theorem gL_isFair_X5_digest : GoodIn wsL_isFair (wsV RL 106 RX5 yX5_digest wsX5_digest) := goodIn_app (goodIn_of _ (by decide +kernel)) ggL_isFair_X5_digest
set_option maxRecDepth 20000 in
theorem ggL_isFair_X5_ofSet : GoodIn wsL_isFair wsX5_ofSet := goodIn_ca (goodIn_ca (goodIn_r _ [69, 15, 16, 8, 9, 18, 70, 71, 72, 4, 73, 74, 75, 76, 77, 78, 23, 79, 25, 80, 81, 82, 83, 84, 85, 86, 87, 88, 26, 89, 90, 91, 92, 93, 94, 95, 96, 55, 56, 97, 98, 99, 30, 100, 32, 33, 34, 35, 36, 37, 38, 27, 28, 29, 31, 39, 40, 41, 42, 43, 44, 45, 46, 47, 48, 49, 50, 51, 52, 53, 54, 231, 232, 233, 234, 235, 236, 237, 238, 239, 240, 241, 242, 243, 271, 272, 273, 274, 244, 245, 246, 247, 248, 249, 250, 251, 252, 253, 254] (by decide +kernel) (by decide +kernel)) (goodIn_sub (fun _ h => List.mem_cons_of_mem _ (List.mem_append_left _ (List.mem_append_right _ h))) (by decide +kernel))) (goodIn_sub (fun _ h => List.mem_cons_of_mem _ (List.mem_append_right _ h)) (by decide +kernel))
set_option maxRecDepth 20000 in
theorem gL_isFair_X5_ofSet : GoodIn wsL_isFair (wsV RL 30 RX5 yX5_ofSet wsX5_ofSet) := goodIn_app (goodIn_of _ (by decide +kernel)) ggL_isFair_X5_ofSet
set_option maxRecDepth 20000 in
theorem ggL_isFair_X5_harm : GoodIn wsL_isFair wsX5_harm := goodIn_ca (goodIn_r _ [104, 18, 105, 106, 107, 4, 108, 74, 75, 8, 109, 110, 111, 112, 70, 71, 72, 73, 76, 77, 78, 23, 79, 25, 96, 55, 56, 231, 232, 233, 234, 235, 236, 237, 271, 272, 273, 274, 238, 239, 240, 241, 242, 243] (by decide +kernel) (by decide +kernel)) (goodIn_sub (fun _ h => List.mem_cons_of_mem _ (List.mem_append_right _ h)) (by decide +kernel))
set_option maxRecDepth 20000 in
theorem gL_isFair_X5_harm : GoodIn wsL_isFair (wsV RL 64 RX5 yX5_harm wsX5_harm) := goodIn_app (goodIn_of _ (by decide +kernel)) ggL_isFair_X5_harm
set_option maxRecDepth 20000 in
theorem ggL_isFair_X5_many : GoodIn wsL_isFair wsX5_many := goodIn_ca (goodIn_r _ [14, 15, 16, 8, 17, 10, 9, 18, 19, 20, 21, 22, 23, 24, 25, 26, 27, 28, 29, 30, 31, 32, 33, 34, 35, 36, 37, 38, 39, 40, 41, 42, 43, 44, 4, 45, 46, 47, 48, 49, 50, 51, 52, 53, 54, 55, 56, 57, 58, 59, 60, 61, 231, 232, 233, 234, 235, 236, 237, 238, 239, 240, 241, 242, 243, 262, 263, 264, 265, 266, 267, 268, 269, 270, 255, 256, 257, 258, 259, 260, 261, 244, 245, 246, 247, 248, 249, 250, 251, 252, 253, 254, 271, 272, 273, 274] (by decide +kernel) (by decide +kernel)) (goodIn_sub (fun _ h => List.mem_cons_of_mem _ (List.mem_append_left _ (List.mem_append_right _ h))) (by decide +kernel))
set_option maxRecDepth 20000 in
theorem gL_isFair_X5_many : GoodIn wsL_isFair (wsV RL 40 RX5 yX5_many wsX5_many) := goodIn_app (goodIn_of _ (by decide +kernel)) ggL_isFair_X5_many
set_option maxRecDepth 20000 in
theorem ggL_isFair_X5_ofRead : GoodIn wsL_isFair wsX5_ofRead := goodIn_ca (goodIn_ca (goodIn_r _ [206, 74, 75, 15, 16, 9, 18, 207, 130, 131, 30, 132, 133, 134, 135, 136, 137, 138, 139, 140, 141, 208, 40, 41, 42, 43, 44, 4, 45, 209, 51, 52, 53, 38, 54, 55, 56, 231, 232, 233, 234, 235, 236, 237, 244, 245, 246, 247, 248, 249, 250, 251, 252, 253, 254, 271, 272, 273, 274] (by decide +kernel) (by decide +kernel)) (goodIn_sub (fun _ h => List.mem_cons_of_mem _ (List.mem_append_right _ h)) (by decide +kernel))) (goodIn_sub (fun _ h => List.mem_cons_of_mem _ (List.mem_append_left _ (List.mem_append_right _ h))) (by decide +kernel))
set_option maxRecDepth 20000 in
theorem gL_isFair_X5_ofRead : GoodIn wsL_isFair (wsV RL 61 RX5 yX5_ofRead wsX5_ofRead) := goodIn_app (goodIn_of _ (by decide +kernel)) ggL_isFair_X5_ofRead
set_option maxRecDepth 20000 in
theorem ggL_isFair_X5_covered : GoodIn wsL_isFair wsX5_covered := goodIn_ca (goodIn_ca (goodIn_r _ [166, 15, 16, 10, 121, 122, 4, 123, 74, 75, 70, 71, 72, 73, 8, 76, 77, 78, 23, 79, 25, 167, 168, 169, 170, 171, 172, 153, 173, 155, 174, 175, 176, 177, 178, 156, 179, 180, 157, 158, 159, 160, 161, 162, 231, 232, 233, 234, 235, 236, 237, 238, 239, 240, 241, 242, 243, 255, 256, 257, 258, 259, 260, 261] (by decide +kernel) (by decide +kernel)) (goodIn_sub (fun _ h => List.mem_cons_of_mem _ (List.mem_append_left _ (List.mem_append_right _ h))) (by decide +kernel))) (goodIn_sub (fun _ h => List.mem_cons_of_mem _ (List.mem_append_right _ h)) (by decide +kernel))
set_option maxRecDepth 20000 in
theorem gL_isFair_X5_covered : GoodIn wsL_isFair (wsV RL 52 RX5 yX5_covered wsX5_covered) := goodIn_app (goodIn_of _ (by decide +kernel)) ggL_isFair_X5_covered
set_option maxRecDepth 20000 in
theorem ggL_isFair_J6_bitCount_0f7a4 : GoodIn wsL_isFair wsJ6_bitCount_0f7a4 := goodIn_r _ [138, 139, 140, 141] (by decide +kernel) (by decide +kernel)
set_option maxRecDepth 20000 in
theorem gL_isFair_J6_bitCount_0f7a4 : GoodIn wsL_isFair (va_wsS RL 93 yJ6_bitCount_0f7a4 wsJ6_bitCount_0f7a4) := goodIn_app (goodIn_of _ (by decide +kernel)) ggL_isFair_J6_bitCount_0f7a4
set_option maxRecDepth 20000 in
theorem ggL_isFair_X5_ofReader : GoodIn wsL_isFair wsX5_ofReader := goodIn_ca (goodIn_ca (goodIn_r _ [120, 15, 16, 9, 19, 18, 10, 121, 122, 4, 123, 74, 75, 124, 125, 126, 30, 127, 32, 37, 128, 129, 130, 131, 132, 133, 134, 135, 136, 137, 138, 139, 140, 141, 97, 98, 99, 100, 33, 34, 35, 36, 38, 27, 28, 29, 31, 39, 40, 41, 42, 43, 44, 45, 46, 47, 48, 49, 50, 51, 52, 53, 54, 55, 56, 57, 58, 59, 60, 61, 142, 143, 144, 145, 146, 147, 148, 149, 150, 151, 152, 153, 154, 155, 156, 157, 158, 159, 160, 161, 162, 231, 232, 233, 234, 235, 236, 237, 271, 272, 273, 274, 244, 245, 246, 247, 248, 249, 250, 251, 252, 253, 254, 255, 256, 257, 258, 259, 260, 261] (by decide +kernel) (by decide +kernel)) (goodIn_sub (fun _ h => List.mem_cons_of_mem _ (List.mem_append_left _ (List.mem_append_right _ h))) (by decide +kernel))) (goodIn_sub (fun _ h => List.mem_cons_of_mem _ (List.mem_append_right _ h)) (by decide +kernel))
set_option maxRecDepth 20000 in
theorem gL_isFair_X5_ofReader : GoodIn wsL_isFair (wsV RL 77 RX5 yX5_ofReader wsX5_ofReader) := goodIn_app (goodIn_of _ (by decide +kernel)) ggL_isFair_X5_ofReader
set_option maxRecDepth 20000 in
theorem ggL_isFair_X5_neededBy : GoodIn wsL_isFair wsX5_neededBy := goodIn_ca (goodIn_r _ [213, 9, 214, 215, 216, 4, 217, 74, 75, 10, 218, 219, 220, 221, 222, 176, 177, 153, 178, 156, 179, 180, 157, 158, 159, 160, 161, 162, 170, 171, 172, 173, 155, 174, 175, 231, 232, 233, 234, 235, 236, 237, 244, 245, 246, 247, 248, 249, 250, 251, 252, 253, 254, 255, 256, 257, 258, 259, 260, 261] (by decide +kernel) (by decide +kernel)) (goodIn_sub (fun _ h => List.mem_cons_of_mem _ (List.mem_append_right _ h)) (by decide +kernel))
set_option maxRecDepth 20000 in
theorem gL_isFair_X5_neededBy : GoodIn wsL_isFair (wsV RL 110 RX5 yX5_neededBy wsX5_neededBy) := goodIn_app (goodIn_of _ (by decide +kernel)) ggL_isFair_X5_neededBy
theorem dL_isFair_0 : decode cL_isFair 0 = .ok (.aload_n 0, 1) := by decide +kernel
theorem dL_isFair_1 : decode cL_isFair 1 = .ok (.invokevirtual 106, 3) := by decide +kernel
theorem dL_isFair_4 : decode cL_isFair 4 = .ok (.lstore_n 2, 1) := by decide +kernel
theorem dL_isFair_5 : decode cL_isFair 5 = .ok (.iconst 0, 1) := by decide +kernel
theorem dL_isFair_6 : decode cL_isFair 6 = .ok (.istore 4, 2) := by decide +kernel
theorem dL_isFair_8 : decode cL_isFair 8 = .ok (.iload 4, 2) := by decide +kernel
theorem dL_isFair_10 : decode cL_isFair 10 = .ok (.iload_n 1, 1) := by decide +kernel
theorem dL_isFair_11 : decode cL_isFair 11 = .ok (.if_icmp .ge 81, 3) := by decide +kernel
theorem dL_isFair_14 : decode cL_isFair 14 = .ok (.iconst 0, 1) := by decide +kernel
theorem dL_isFair_15 : decode cL_isFair 15 = .ok (.istore 5, 2) := by decide +kernel
theorem dL_isFair_17 : decode cL_isFair 17 = .ok (.iload 5, 2) := by decide +kernel
theorem dL_isFair_19 : decode cL_isFair 19 = .ok (.aload_n 0, 1) := by decide +kernel
theorem dL_isFair_20 : decode cL_isFair 20 = .ok (.iload 4, 2) := by decide +kernel
theorem dL_isFair_22 : decode cL_isFair 22 = .ok (.iconst 1, 1) := by decide +kernel
theorem dL_isFair_23 : decode cL_isFair 23 = .ok (.invokevirtual 30, 3) := by decide +kernel
theorem dL_isFair_26 : decode cL_isFair 26 = .ok (.if_icmp .ge 60, 3) := by decide +kernel
theorem dL_isFair_29 : decode cL_isFair 29 = .ok (.iconst 0, 1) := by decide +kernel
theorem dL_isFair_30 : decode cL_isFair 30 = .ok (.istore 6, 2) := by decide +kernel
theorem dL_isFair_32 : decode cL_isFair 32 = .ok (.iload 6, 2) := by decide +kernel
theorem dL_isFair_34 : decode cL_isFair 34 = .ok (.aload_n 0, 1) := by decide +kernel
theorem dL_isFair_35 : decode cL_isFair 35 = .ok (.iload 4, 2) := by decide +kernel
theorem dL_isFair_37 : decode cL_isFair 37 = .ok (.iconst 0, 1) := by decide +kernel
theorem dL_isFair_38 : decode cL_isFair 38 = .ok (.invokevirtual 30, 3) := by decide +kernel
theorem dL_isFair_41 : decode cL_isFair 41 = .ok (.if_icmp .ge 39, 3) := by decide +kernel
theorem dL_isFair_44 : decode cL_isFair 44 = .ok (.aload_n 0, 1) := by decide +kernel
theorem dL_isFair_45 : decode cL_isFair 45 = .ok (.iload 4, 2) := by decide +kernel
theorem dL_isFair_47 : decode cL_isFair 47 = .ok (.iload 5, 2) := by decide +kernel
theorem dL_isFair_49 : decode cL_isFair 49 = .ok (.iload 6, 2) := by decide +kernel
theorem dL_isFair_51 : decode cL_isFair 51 = .ok (.invokevirtual 64, 3) := by decide +kernel
theorem dL_isFair_54 : decode cL_isFair 54 = .ok (.ifCond .lt 18, 3) := by decide +kernel
theorem dL_isFair_57 : decode cL_isFair 57 = .ok (.aload_n 0, 1) := by decide +kernel
theorem dL_isFair_58 : decode cL_isFair 58 = .ok (.iload 4, 2) := by decide +kernel
theorem dL_isFair_60 : decode cL_isFair 60 = .ok (.iload 5, 2) := by decide +kernel
theorem dL_isFair_62 : decode cL_isFair 62 = .ok (.iload 6, 2) := by decide +kernel
theorem dL_isFair_64 : decode cL_isFair 64 = .ok (.invokevirtual 64, 3) := by decide +kernel
theorem dL_isFair_67 : decode cL_isFair 67 = .ok (.bipush 100, 2) := by decide +kernel
theorem dL_isFair_69 : decode cL_isFair 69 = .ok (.if_icmp .le 5, 3) := by decide +kernel
theorem dL_isFair_72 : decode cL_isFair 72 = .ok (.iconst 0, 1) := by decide +kernel
theorem dL_isFair_73 : decode cL_isFair 73 = .ok (.ireturn, 1) := by decide +kernel
theorem dL_isFair_74 : decode cL_isFair 74 = .ok (.iinc 6 1, 3) := by decide +kernel
theorem dL_isFair_77 : decode cL_isFair 77 = .ok (.goto (-45), 3) := by decide +kernel
theorem dL_isFair_80 : decode cL_isFair 80 = .ok (.iinc 5 1, 3) := by decide +kernel
theorem dL_isFair_83 : decode cL_isFair 83 = .ok (.goto (-66), 3) := by decide +kernel
theorem dL_isFair_86 : decode cL_isFair 86 = .ok (.iinc 4 1, 3) := by decide +kernel
theorem dL_isFair_89 : decode cL_isFair 89 = .ok (.goto (-81), 3) := by decide +kernel
theorem dL_isFair_92 : decode cL_isFair 92 = .ok (.iconst 0, 1) := by decide +kernel
theorem dL_isFair_93 : decode cL_isFair 93 = .ok (.istore 4, 2) := by decide +kernel
theorem dL_isFair_95 : decode cL_isFair 95 = .ok (.iconst 0, 1) := by decide +kernel
theorem dL_isFair_96 : decode cL_isFair 96 = .ok (.istore 5, 2) := by decide +kernel
theorem dL_isFair_98 : decode cL_isFair 98 = .ok (.iconst 0, 1) := by decide +kernel
theorem dL_isFair_99 : decode cL_isFair 99 = .ok (.istore 6, 2) := by decide +kernel
theorem dL_isFair_101 : decode cL_isFair 101 = .ok (.iload 6, 2) := by decide +kernel
theorem dL_isFair_103 : decode cL_isFair 103 = .ok (.aload_n 0, 1) := by decide +kernel
theorem dL_isFair_104 : decode cL_isFair 104 = .ok (.iconst 4, 1) := by decide +kernel
theorem dL_isFair_105 : decode cL_isFair 105 = .ok (.invokevirtual 40, 3) := by decide +kernel
theorem dL_isFair_108 : decode cL_isFair 108 = .ok (.if_icmp .ge 183, 3) := by decide +kernel
theorem dL_isFair_111 : decode cL_isFair 111 = .ok (.aload_n 0, 1) := by decide +kernel
theorem dL_isFair_112 : decode cL_isFair 112 = .ok (.iload 6, 2) := by decide +kernel
theorem dL_isFair_114 : decode cL_isFair 114 = .ok (.bipush 8, 2) := by decide +kernel
theorem dL_isFair_116 : decode cL_isFair 116 = .ok (.invokevirtual 61, 3) := by decide +kernel
theorem dL_isFair_119 : decode cL_isFair 119 = .ok (.istore 7, 2) := by decide +kernel
theorem dL_isFair_121 : decode cL_isFair 121 = .ok (.aload_n 0, 1) := by decide +kernel
theorem dL_isFair_122 : decode cL_isFair 122 = .ok (.iload 6, 2) := by decide +kernel
theorem dL_isFair_124 : decode cL_isFair 124 = .ok (.bipush 9, 2) := by decide +kernel
theorem dL_isFair_126 : decode cL_isFair 126 = .ok (.invokevirtual 61, 3) := by decide +kernel
theorem dL_isFair_129 : decode cL_isFair 129 = .ok (.istore 8, 2) := by decide +kernel
theorem dL_isFair_131 : decode cL_isFair 131 = .ok (.aload_n 0, 1) := by decide +kernel
theorem dL_isFair_132 : decode cL_isFair 132 = .ok (.iload 6, 2) := by decide +kernel
theorem dL_isFair_134 : decode cL_isFair 134 = .ok (.iconst 5, 1) := by decide +kernel
theorem dL_isFair_135 : decode cL_isFair 135 = .ok (.invokevirtual 61, 3) := by decide +kernel
theorem dL_isFair_138 : decode cL_isFair 138 = .ok (.istore 9, 2) := by decide +kernel
theorem dL_isFair_140 : decode cL_isFair 140 = .ok (.aload_n 0, 1) := by decide +kernel
theorem dL_isFair_141 : decode cL_isFair 141 = .ok (.aload_n 0, 1) := by decide +kernel
theorem dL_isFair_142 : decode cL_isFair 142 = .ok (.iload 6, 2) := by decide +kernel
theorem dL_isFair_144 : decode cL_isFair 144 = .ok (.iconst 0, 1) := by decide +kernel
theorem dL_isFair_145 : decode cL_isFair 145 = .ok (.invokevirtual 61, 3) := by decide +kernel
theorem dL_isFair_148 : decode cL_isFair 148 = .ok (.aload_n 0, 1) := by decide +kernel
theorem dL_isFair_149 : decode cL_isFair 149 = .ok (.iload 6, 2) := by decide +kernel
theorem dL_isFair_151 : decode cL_isFair 151 = .ok (.iconst 1, 1) := by decide +kernel
theorem dL_isFair_152 : decode cL_isFair 152 = .ok (.invokevirtual 61, 3) := by decide +kernel
theorem dL_isFair_155 : decode cL_isFair 155 = .ok (.aload_n 0, 1) := by decide +kernel
theorem dL_isFair_156 : decode cL_isFair 156 = .ok (.iload 6, 2) := by decide +kernel
theorem dL_isFair_158 : decode cL_isFair 158 = .ok (.bipush 11, 2) := by decide +kernel
theorem dL_isFair_160 : decode cL_isFair 160 = .ok (.invokevirtual 61, 3) := by decide +kernel
theorem dL_isFair_163 : decode cL_isFair 163 = .ok (.iload 9, 2) := by decide +kernel
theorem dL_isFair_165 : decode cL_isFair 165 = .ok (.invokevirtual 52, 3) := by decide +kernel
theorem dL_isFair_168 : decode cL_isFair 168 = .ok (.istore 10, 2) := by decide +kernel
theorem dL_isFair_170 : decode cL_isFair 170 = .ok (.iload 8, 2) := by decide +kernel
theorem dL_isFair_172 : decode cL_isFair 172 = .ok (.ifCond .lt 97, 3) := by decide +kernel
theorem dL_isFair_175 : decode cL_isFair 175 = .ok (.iload 8, 2) := by decide +kernel
theorem dL_isFair_177 : decode cL_isFair 177 = .ok (.iload 7, 2) := by decide +kernel
theorem dL_isFair_179 : decode cL_isFair 179 = .ok (.if_icmp .gt 90, 3) := by decide +kernel
theorem dL_isFair_182 : decode cL_isFair 182 = .ok (.aload_n 0, 1) := by decide +kernel
theorem dL_isFair_183 : decode cL_isFair 183 = .ok (.iload 6, 2) := by decide +kernel
theorem dL_isFair_185 : decode cL_isFair 185 = .ok (.iconst 3, 1) := by decide +kernel
theorem dL_isFair_186 : decode cL_isFair 186 = .ok (.invokevirtual 61, 3) := by decide +kernel
theorem dL_isFair_189 : decode cL_isFair 189 = .ok (.iload 10, 2) := by decide +kernel
theorem dL_isFair_191 : decode cL_isFair 191 = .ok (.iconst (-1), 1) := by decide +kernel
theorem dL_isFair_192 : decode cL_isFair 192 = .ok (.ixor, 1) := by decide +kernel
theorem dL_isFair_193 : decode cL_isFair 193 = .ok (.iand, 1) := by decide +kernel
theorem dL_isFair_194 : decode cL_isFair 194 = .ok (.ifCond .ne 75, 3) := by decide +kernel
theorem dL_isFair_197 : decode cL_isFair 197 = .ok (.aload_n 0, 1) := by decide +kernel
theorem dL_isFair_198 : decode cL_isFair 198 = .ok (.iload 6, 2) := by decide +kernel
theorem dL_isFair_200 : decode cL_isFair 200 = .ok (.bipush 6, 2) := by decide +kernel
theorem dL_isFair_202 : decode cL_isFair 202 = .ok (.invokevirtual 61, 3) := by decide +kernel
theorem dL_isFair_205 : decode cL_isFair 205 = .ok (.aload_n 0, 1) := by decide +kernel
theorem dL_isFair_206 : decode cL_isFair 206 = .ok (.iload 6, 2) := by decide +kernel
theorem dL_isFair_208 : decode cL_isFair 208 = .ok (.iconst 4, 1) := by decide +kernel
theorem dL_isFair_209 : decode cL_isFair 209 = .ok (.invokevirtual 61, 3) := by decide +kernel
theorem dL_isFair_212 : decode cL_isFair 212 = .ok (.aload_n 0, 1) := by decide +kernel
theorem dL_isFair_213 : decode cL_isFair 213 = .ok (.iload 6, 2) := by decide +kernel
theorem dL_isFair_215 : decode cL_isFair 215 = .ok (.iconst 3, 1) := by decide +kernel
theorem dL_isFair_216 : decode cL_isFair 216 = .ok (.invokevirtual 61, 3) := by decide +kernel
theorem dL_isFair_219 : decode cL_isFair 219 = .ok (.invokestatic 93, 3) := by decide +kernel
theorem dL_isFair_222 : decode cL_isFair 222 = .ok (.imul, 1) := by decide +kernel
theorem dL_isFair_223 : decode cL_isFair 223 = .ok (.if_icmp .ne 46, 3) := by decide +kernel
theorem dL_isFair_226 : decode cL_isFair 226 = .ok (.aload_n 0, 1) := by decide +kernel
theorem dL_isFair_227 : decode cL_isFair 227 = .ok (.iload 6, 2) := by decide +kernel
theorem dL_isFair_229 : decode cL_isFair 229 = .ok (.bipush 7, 2) := by decide +kernel
theorem dL_isFair_231 : decode cL_isFair 231 = .ok (.invokevirtual 61, 3) := by decide +kernel
theorem dL_isFair_234 : decode cL_isFair 234 = .ok (.iconst 2, 1) := by decide +kernel
theorem dL_isFair_235 : decode cL_isFair 235 = .ok (.if_icmp .lt 34, 3) := by decide +kernel
theorem dL_isFair_238 : decode cL_isFair 238 = .ok (.aload_n 0, 1) := by decide +kernel
theorem dL_isFair_239 : decode cL_isFair 239 = .ok (.iload 6, 2) := by decide +kernel
theorem dL_isFair_241 : decode cL_isFair 241 = .ok (.bipush 7, 2) := by decide +kernel
theorem dL_isFair_243 : decode cL_isFair 243 = .ok (.invokevirtual 61, 3) := by decide +kernel
theorem dL_isFair_246 : decode cL_isFair 246 = .ok (.iconst 4, 1) := by decide +kernel
theorem dL_isFair_247 : decode cL_isFair 247 = .ok (.if_icmp .gt 22, 3) := by decide +kernel
theorem dL_isFair_250 : decode cL_isFair 250 = .ok (.iload 6, 2) := by decide +kernel
theorem dL_isFair_252 : decode cL_isFair 252 = .ok (.ifCond .le 19, 3) := by decide +kernel
theorem dL_isFair_255 : decode cL_isFair 255 = .ok (.iload 9, 2) := by decide +kernel
theorem dL_isFair_257 : decode cL_isFair 257 = .ok (.aload_n 0, 1) := by decide +kernel
theorem dL_isFair_258 : decode cL_isFair 258 = .ok (.iload 6, 2) := by decide +kernel
theorem dL_isFair_260 : decode cL_isFair 260 = .ok (.iconst 1, 1) := by decide +kernel
theorem dL_isFair_261 : decode cL_isFair 261 = .ok (.isub, 1) := by decide +kernel
theorem dL_isFair_262 : decode cL_isFair 262 = .ok (.iconst 5, 1) := by decide +kernel
theorem dL_isFair_263 : decode cL_isFair 263 = .ok (.invokevirtual 61, 3) := by decide +kernel
theorem dL_isFair_266 : decode cL_isFair 266 = .ok (.if_icmp .ge 5, 3) := by decide +kernel
theorem dL_isFair_269 : decode cL_isFair 269 = .ok (.iconst 0, 1) := by decide +kernel
theorem dL_isFair_270 : decode cL_isFair 270 = .ok (.ireturn, 1) := by decide +kernel
theorem dL_isFair_271 : decode cL_isFair 271 = .ok (.iload 4, 2) := by decide +kernel
theorem dL_isFair_273 : decode cL_isFair 273 = .ok (.iload 7, 2) := by decide +kernel
theorem dL_isFair_275 : decode cL_isFair 275 = .ok (.iadd, 1) := by decide +kernel
theorem dL_isFair_276 : decode cL_isFair 276 = .ok (.istore 4, 2) := by decide +kernel
theorem dL_isFair_278 : decode cL_isFair 278 = .ok (.iload 5, 2) := by decide +kernel
theorem dL_isFair_280 : decode cL_isFair 280 = .ok (.iload 8, 2) := by decide +kernel
theorem dL_isFair_282 : decode cL_isFair 282 = .ok (.iadd, 1) := by decide +kernel
theorem dL_isFair_283 : decode cL_isFair 283 = .ok (.istore 5, 2) := by decide +kernel
theorem dL_isFair_285 : decode cL_isFair 285 = .ok (.iinc 6 1, 3) := by decide +kernel
theorem dL_isFair_288 : decode cL_isFair 288 = .ok (.goto (-187), 3) := by decide +kernel
theorem dL_isFair_291 : decode cL_isFair 291 = .ok (.iconst 0, 1) := by decide +kernel
theorem dL_isFair_292 : decode cL_isFair 292 = .ok (.istore 6, 2) := by decide +kernel
theorem dL_isFair_294 : decode cL_isFair 294 = .ok (.iconst 0, 1) := by decide +kernel
theorem dL_isFair_295 : decode cL_isFair 295 = .ok (.istore 7, 2) := by decide +kernel
theorem dL_isFair_297 : decode cL_isFair 297 = .ok (.iload 7, 2) := by decide +kernel
theorem dL_isFair_299 : decode cL_isFair 299 = .ok (.bipush 6, 2) := by decide +kernel
theorem dL_isFair_301 : decode cL_isFair 301 = .ok (.if_icmp .ge 21, 3) := by decide +kernel
theorem dL_isFair_304 : decode cL_isFair 304 = .ok (.iload 6, 2) := by decide +kernel
theorem dL_isFair_306 : decode cL_isFair 306 = .ok (.aload_n 0, 1) := by decide +kernel
theorem dL_isFair_307 : decode cL_isFair 307 = .ok (.iload 7, 2) := by decide +kernel
theorem dL_isFair_309 : decode cL_isFair 309 = .ok (.iconst 4, 1) := by decide +kernel
theorem dL_isFair_310 : decode cL_isFair 310 = .ok (.invokevirtual 77, 3) := by decide +kernel
theorem dL_isFair_313 : decode cL_isFair 313 = .ok (.iadd, 1) := by decide +kernel
theorem dL_isFair_314 : decode cL_isFair 314 = .ok (.istore 6, 2) := by decide +kernel
theorem dL_isFair_316 : decode cL_isFair 316 = .ok (.iinc 7 1, 3) := by decide +kernel
theorem dL_isFair_319 : decode cL_isFair 319 = .ok (.goto (-22), 3) := by decide +kernel
theorem dL_isFair_322 : decode cL_isFair 322 = .ok (.iconst 0, 1) := by decide +kernel
theorem dL_isFair_323 : decode cL_isFair 323 = .ok (.istore 7, 2) := by decide +kernel
theorem dL_isFair_325 : decode cL_isFair 325 = .ok (.iload 7, 2) := by decide +kernel
theorem dL_isFair_327 : decode cL_isFair 327 = .ok (.aload_n 0, 1) := by decide +kernel
theorem dL_isFair_328 : decode cL_isFair 328 = .ok (.iconst 3, 1) := by decide +kernel
theorem dL_isFair_329 : decode cL_isFair 329 = .ok (.invokevirtual 40, 3) := by decide +kernel
theorem dL_isFair_332 : decode cL_isFair 332 = .ok (.if_icmp .ge 25, 3) := by decide +kernel
theorem dL_isFair_335 : decode cL_isFair 335 = .ok (.aload_n 0, 1) := by decide +kernel
theorem dL_isFair_336 : decode cL_isFair 336 = .ok (.iload 7, 2) := by decide +kernel
theorem dL_isFair_338 : decode cL_isFair 338 = .ok (.invokevirtual 110, 3) := by decide +kernel
theorem dL_isFair_341 : decode cL_isFair 341 = .ok (.aload_n 0, 1) := by decide +kernel
theorem dL_isFair_342 : decode cL_isFair 342 = .ok (.iconst 4, 1) := by decide +kernel
theorem dL_isFair_343 : decode cL_isFair 343 = .ok (.invokevirtual 40, 3) := by decide +kernel
theorem dL_isFair_346 : decode cL_isFair 346 = .ok (.if_icmp .le 5, 3) := by decide +kernel
theorem dL_isFair_349 : decode cL_isFair 349 = .ok (.iconst 0, 1) := by decide +kernel
theorem dL_isFair_350 : decode cL_isFair 350 = .ok (.ireturn, 1) := by decide +kernel
theorem dL_isFair_351 : decode cL_isFair 351 = .ok (.iinc 7 1, 3) := by decide +kernel
theorem dL_isFair_354 : decode cL_isFair 354 = .ok (.goto (-29), 3) := by decide +kernel
theorem dL_isFair_357 : decode cL_isFair 357 = .ok (.aload_n 0, 1) := by decide +kernel
theorem dL_isFair_358 : decode cL_isFair 358 = .ok (.iconst 5, 1) := by decide +kernel
theorem dL_isFair_359 : decode cL_isFair 359 = .ok (.invokevirtual 40, 3) := by decide +kernel
theorem dL_isFair_362 : decode cL_isFair 362 = .ok (.iload 4, 2) := by decide +kernel
theorem dL_isFair_364 : decode cL_isFair 364 = .ok (.if_icmp .ne 38, 3) := by decide +kernel
theorem dL_isFair_367 : decode cL_isFair 367 = .ok (.aload_n 0, 1) := by decide +kernel
theorem dL_isFair_368 : decode cL_isFair 368 = .ok (.bipush 6, 2) := by decide +kernel
theorem dL_isFair_370 : decode cL_isFair 370 = .ok (.invokevirtual 40, 3) := by decide +kernel
theorem dL_isFair_373 : decode cL_isFair 373 = .ok (.iload 5, 2) := by decide +kernel
theorem dL_isFair_375 : decode cL_isFair 375 = .ok (.if_icmp .ne 27, 3) := by decide +kernel
theorem dL_isFair_378 : decode cL_isFair 378 = .ok (.aload_n 0, 1) := by decide +kernel
theorem dL_isFair_379 : decode cL_isFair 379 = .ok (.bipush 7, 2) := by decide +kernel
theorem dL_isFair_381 : decode cL_isFair 381 = .ok (.invokevirtual 40, 3) := by decide +kernel
theorem dL_isFair_384 : decode cL_isFair 384 = .ok (.iload 6, 2) := by decide +kernel
theorem dL_isFair_386 : decode cL_isFair 386 = .ok (.if_icmp .ne 16, 3) := by decide +kernel
theorem dL_isFair_389 : decode cL_isFair 389 = .ok (.aload_n 0, 1) := by decide +kernel
theorem dL_isFair_390 : decode cL_isFair 390 = .ok (.invokevirtual 106, 3) := by decide +kernel
theorem dL_isFair_393 : decode cL_isFair 393 = .ok (.lload_n 2, 1) := by decide +kernel
theorem dL_isFair_394 : decode cL_isFair 394 = .ok (.lcmp, 1) := by decide +kernel
theorem dL_isFair_395 : decode cL_isFair 395 = .ok (.ifCond .ne 7, 3) := by decide +kernel
theorem dL_isFair_398 : decode cL_isFair 398 = .ok (.iconst 1, 1) := by decide +kernel
theorem dL_isFair_399 : decode cL_isFair 399 = .ok (.goto 4, 3) := by decide +kernel
theorem dL_isFair_402 : decode cL_isFair 402 = .ok (.iconst 0, 1) := by decide +kernel
theorem dL_isFair_403 : decode cL_isFair 403 = .ok (.ireturn, 1) := by decide +kernel
