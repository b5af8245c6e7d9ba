set_option maxRecDepth 20000 in
theorem ggL_set_X5_set : GoodIn wsL_set wsX5_set := goodIn_ca (goodIn_ca (goodIn_r _ [7, 8, 9, 10, 11, 12, 13, 14, 15, 16, 17, 18, 19, 20, 21, 22, 6, 23, 24, 25, 26, 27, 28, 29, 30, 31, 32, 33, 34, 35, 36] (by decide +kernel) (by decide +kernel)) (goodIn_sub (fun _ h => List.mem_cons_of_mem _ (List.mem_append_left _ (List.mem_append_right _ h))) (by decide +kernel))) (goodIn_sub (fun _ h => List.mem_cons_of_mem _ (List.mem_append_right _ h)) (by decide +kernel))
set_option maxRecDepth 20000 in
theorem gL_set_X5_set : GoodIn wsL_set (wsV RL 7 RX5 yX5_set wsX5_set) := goodIn_app (goodIn_of _ (by decide +kernel)) ggL_set_X5_set
theorem dL_set_0 : decode cL_set 0 = .ok (.aload_n 2, 1) := by decide +kernel
theorem dL_set_1 : decode cL_set 1 = .ok (.iconst 0, 1) := by decide +kernel
theorem dL_set_2 : decode cL_set 2 = .ok (.aload_n 0, 1) := by decide +kernel
theorem dL_set_3 : decode cL_set 3 = .ok (.iload_n 1, 1) := by decide +kernel
theorem dL_set_4 : decode cL_set 4 = .ok (.invokevirtual 7, 3) := by decide +kernel
theorem dL_set_7 : decode cL_set 7 = .ok (.i2l, 1) := by decide +kernel
theorem dL_set_8 : decode cL_set 8 = .ok (.lastore, 1) := by decide +kernel
theorem dL_set_9 : decode cL_set 9 = .ok (.goto 9, 3) := by decide +kernel
theorem dL_set_12 : decode cL_set 12 = .ok (.astore_n 3, 1) := by decide +kernel
theorem dL_set_13 : decode cL_set 13 = .ok (.iconst 1, 1) := by decide +kernel
theorem dL_set_14 : decode cL_set 14 = .ok (.ireturn, 1) := by decide +kernel
theorem dL_set_15 : decode cL_set 15 = .ok (.astore_n 3, 1) := by decide +kernel
theorem dL_set_16 : decode cL_set 16 = .ok (.iconst 2, 1) := by decide +kernel
theorem dL_set_17 : decode cL_set 17 = .ok (.ireturn, 1) := by decide +kernel
theorem dL_set_18 : decode cL_set 18 = .ok (.iconst 0, 1) := by decide +kernel
theorem dL_set_19 : decode cL_set 19 = .ok (.ireturn, 1) := by decide +kernel
set_option maxRecDepth 20000 in
theorem ggL_terms_X5_terms : GoodIn wsL_terms wsX5_terms := goodIn_ca (goodIn_ca (goodIn_r _ [7, 8, 9, 10, 11, 12, 13, 6, 14, 15, 16, 17, 18, 19, 20, 21, 22, 23, 24, 25, 26, 27, 28, 29, 30, 31, 32, 33, 34, 35, 36, 37, 38, 39, 40, 41, 42] (by decide +kernel) (by decide +kernel)) (goodIn_sub (fun _ h => List.mem_cons_of_mem _ (List.mem_append_left _ (List.mem_append_right _ h))) (by decide +kernel))) (goodIn_sub (fun _ h => List.mem_cons_of_mem _ (List.mem_append_right _ h)) (by decide +kernel))
set_option maxRecDepth 20000 in
theorem gL_terms_X5_terms : GoodIn wsL_terms (wsV RL 17 RX5 yX5_terms wsX5_terms) := goodIn_app (goodIn_of _ (by decide +kernel)) ggL_terms_X5_terms
theorem dL_terms_0 : decode cL_terms 0 = .ok (.aload 5, 2) := by decide +kernel
theorem dL_terms_2 : decode cL_terms 2 = .ok (.iconst 0, 1) := by decide +kernel
theorem dL_terms_3 : decode cL_terms 3 = .ok (.aload_n 0, 1) := by decide +kernel
theorem dL_terms_4 : decode cL_terms 4 = .ok (.iload_n 1, 1) := by decide +kernel
theorem dL_terms_5 : decode cL_terms 5 = .ok (.iload_n 2, 1) := by decide +kernel
theorem dL_terms_6 : decode cL_terms 6 = .ok (.iload_n 3, 1) := by decide +kernel
theorem dL_terms_7 : decode cL_terms 7 = .ok (.iload 4, 2) := by decide +kernel
theorem dL_terms_9 : decode cL_terms 9 = .ok (.invokevirtual 17, 3) := by decide +kernel
theorem dL_terms_12 : decode cL_terms 12 = .ok (.i2l, 1) := by decide +kernel
theorem dL_terms_13 : decode cL_terms 13 = .ok (.lastore, 1) := by decide +kernel
theorem dL_terms_14 : decode cL_terms 14 = .ok (.goto 11, 3) := by decide +kernel
theorem dL_terms_17 : decode cL_terms 17 = .ok (.astore 6, 2) := by decide +kernel
theorem dL_terms_19 : decode cL_terms 19 = .ok (.iconst 1, 1) := by decide +kernel
theorem dL_terms_20 : decode cL_terms 20 = .ok (.ireturn, 1) := by decide +kernel
theorem dL_terms_21 : decode cL_terms 21 = .ok (.astore 6, 2) := by decide +kernel
theorem dL_terms_23 : decode cL_terms 23 = .ok (.iconst 2, 1) := by decide +kernel
theorem dL_terms_24 : decode cL_terms 24 = .ok (.ireturn, 1) := by decide +kernel
theorem dL_terms_25 : decode cL_terms 25 = .ok (.iconst 0, 1) := by decide +kernel
theorem dL_terms_26 : decode cL_terms 26 = .ok (.ireturn, 1) := by decide +kernel
set_option maxRecDepth 20000 in
theorem ggL_source_X5_source : GoodIn wsL_source wsX5_source := goodIn_ca (goodIn_ca (goodIn_ca (goodIn_r _ [8, 9, 10, 11, 12, 13, 14, 15, 16, 7, 17, 18, 19, 20, 21, 22, 23, 24, 25, 26, 27, 28, 29, 30, 31, 32, 33, 34, 35, 36, 37, 38, 39, 40, 41, 42, 43, 44, 45, 46, 47, 48, 49, 50, 51, 52, 53, 54, 55, 56, 57, 58, 59, 60, 61, 62, 63, 64, 65, 66, 67, 68, 69, 70, 71, 72] (by decide +kernel) (by decide +kernel)) (goodIn_sub (fun _ h => List.mem_cons_of_mem _ (List.mem_append_left _ (List.mem_append_left _ (List.mem_append_right _ h)))) (by decide +kernel))) (goodIn_sub (fun _ h => List.mem_cons_of_mem _ (List.mem_append_left _ (List.mem_append_right _ h))) (by decide +kernel))) (goodIn_sub (fun _ h => List.mem_cons_of_mem _ (List.mem_append_right _ h)) (by decide +kernel))
set_option maxRecDepth 20000 in
theorem gL_source_X5_source : GoodIn wsL_source (wsV RL 23 RX5 yX5_source wsX5_source) := goodIn_app (goodIn_of _ (by decide +kernel)) ggL_source_X5_source
theorem dL_source_0 : decode cL_source 0 = .ok (.aload 6, 2) := by decide +kernel
theorem dL_source_2 : decode cL_source 2 = .ok (.iconst 0, 1) := by decide +kernel
theorem dL_source_3 : decode cL_source 3 = .ok (.aload_n 0, 1) := by decide +kernel
theorem dL_source_4 : decode cL_source 4 = .ok (.iload_n 1, 1) := by decide +kernel
theorem dL_source_5 : decode cL_source 5 = .ok (.iload_n 2, 1) := by decide +kernel
theorem dL_source_6 : decode cL_source 6 = .ok (.iload_n 3, 1) := by decide +kernel
theorem dL_source_7 : decode cL_source 7 = .ok (.iload 4, 2) := by decide +kernel
theorem dL_source_9 : decode cL_source 9 = .ok (.iload 5, 2) := by decide +kernel
theorem dL_source_11 : decode cL_source 11 = .ok (.invokevirtual 23, 3) := by decide +kernel
theorem dL_source_14 : decode cL_source 14 = .ok (.i2l, 1) := by decide +kernel
theorem dL_source_15 : decode cL_source 15 = .ok (.lastore, 1) := by decide +kernel
theorem dL_source_16 : decode cL_source 16 = .ok (.goto 15, 3) := by decide +kernel
theorem dL_source_19 : decode cL_source 19 = .ok (.astore 7, 2) := by decide +kernel
theorem dL_source_21 : decode cL_source 21 = .ok (.iconst 1, 1) := by decide +kernel
theorem dL_source_22 : decode cL_source 22 = .ok (.ireturn, 1) := by decide +kernel
theorem dL_source_23 : decode cL_source 23 = .ok (.astore 7, 2) := by decide +kernel
theorem dL_source_25 : decode cL_source 25 = .ok (.iconst 2, 1) := by decide +kernel
theorem dL_source_26 : decode cL_source 26 = .ok (.ireturn, 1) := by decide +kernel
theorem dL_source_27 : decode cL_source 27 = .ok (.astore 7, 2) := by decide +kernel
theorem dL_source_29 : decode cL_source 29 = .ok (.iconst 3, 1) := by decide +kernel
theorem dL_source_30 : decode cL_source 30 = .ok (.ireturn, 1) := by decide +kernel
theorem dL_source_31 : decode cL_source 31 = .ok (.iconst 0, 1) := by decide +kernel
theorem dL_source_32 : decode cL_source 32 = .ok (.ireturn, 1) := by decide +kernel
set_option maxRecDepth 20000 in
theorem ggL_version_X5_version : GoodIn wsL_version wsX5_version := goodIn_ca (goodIn_ca (goodIn_ca (goodIn_r _ [8, 9, 10, 11, 12, 13, 14, 15, 16, 17, 18, 7, 19, 20, 21, 22, 23, 24, 25, 26, 27, 28, 29, 30, 31, 32, 33, 34, 35, 36, 37, 38, 39, 40, 41, 42, 43, 44, 45, 46, 47, 48, 49, 50, 51, 52, 53, 54, 55, 56, 57, 58, 59, 60, 61, 62, 63, 64, 65, 66, 67, 68, 69, 70, 71, 72, 73, 74, 75, 76, 77, 78, 79, 80, 81, 82, 83, 84, 85, 86, 87, 88, 89, 90, 91, 92, 93, 94, 95, 96, 97, 98, 99, 100, 101, 102, 103] (by decide +kernel) (by decide +kernel)) (goodIn_sub (fun _ h => List.mem_cons_of_mem _ (List.mem_append_left _ (List.mem_append_left _ (List.mem_append_right _ h)))) (by decide +kernel))) (goodIn_sub (fun _ h => List.mem_cons_of_mem _ (List.mem_append_left _ (List.mem_append_right _ h))) (by decide +kernel))) (goodIn_sub (fun _ h => List.mem_cons_of_mem _ (List.mem_append_right _ h)) (by decide +kernel))
set_option maxRecDepth 20000 in
theorem gL_version_X5_version : GoodIn wsL_version (wsV RL 27 RX5 yX5_version wsX5_version) := goodIn_app (goodIn_of _ (by decide +kernel)) ggL_version_X5_version
theorem dL_version_0 : decode cL_version 0 = .ok (.aload_n 3, 1) := by decide +kernel
theorem dL_version_1 : decode cL_version 1 = .ok (.iconst 0, 1) := by decide +kernel
theorem dL_version_2 : decode cL_version 2 = .ok (.aload_n 0, 1) := by decide +kernel
theorem dL_version_3 : decode cL_version 3 = .ok (.iload_n 1, 1) := by decide +kernel
theorem dL_version_4 : decode cL_version 4 = .ok (.iload_n 2, 1) := by decide +kernel
theorem dL_version_5 : decode cL_version 5 = .ok (.invokevirtual 27, 3) := by decide +kernel
theorem dL_version_8 : decode cL_version 8 = .ok (.i2l, 1) := by decide +kernel
theorem dL_version_9 : decode cL_version 9 = .ok (.lastore, 1) := by decide +kernel
theorem dL_version_10 : decode cL_version 10 = .ok (.goto 15, 3) := by decide +kernel
theorem dL_version_13 : decode cL_version 13 = .ok (.astore 4, 2) := by decide +kernel
theorem dL_version_15 : decode cL_version 15 = .ok (.iconst 1, 1) := by decide +kernel
theorem dL_version_16 : decode cL_version 16 = .ok (.ireturn, 1) := by decide +kernel
theorem dL_version_17 : decode cL_version 17 = .ok (.astore 4, 2) := by decide +kernel
theorem dL_version_19 : decode cL_version 19 = .ok (.iconst 2, 1) := by decide +kernel
theorem dL_version_20 : decode cL_version 20 = .ok (.ireturn, 1) := by decide +kernel
theorem dL_version_21 : decode cL_version 21 = .ok (.astore 4, 2) := by decide +kernel
theorem dL_version_23 : decode cL_version 23 = .ok (.iconst 3, 1) := by decide +kernel
theorem dL_version_24 : decode cL_version 24 = .ok (.ireturn, 1) := by decide +kernel
theorem dL_version_25 : decode cL_version 25 = .ok (.iconst 0, 1) := by decide +kernel
theorem dL_version_26 : decode cL_version 26 = .ok (.ireturn, 1) := by decide +kernel
set_option maxRecDepth 20000 in
theorem ggL_missing_X5_missing : GoodIn wsL_missing wsX5_missing := goodIn_ca (goodIn_ca (goodIn_ca (goodIn_r _ [8, 9, 10, 11, 12, 13, 14, 15, 16, 17, 18, 7, 19, 20, 21, 22, 23, 24, 25, 26, 27, 28, 29, 30, 31, 32, 33, 34, 35, 36, 37, 38, 39, 40, 41, 42, 43, 44, 45, 46, 47, 48, 49, 50, 51, 52, 53, 54, 55, 56, 57, 58, 59, 60, 61, 62, 63, 64, 65, 66, 67, 68, 69, 70, 71, 72, 73, 74, 75, 76, 77, 78, 79, 80, 81, 82, 83, 84, 85, 86, 87, 88, 89, 90, 91, 92, 93, 94, 95, 96, 97] (by decide +kernel) (by decide +kernel)) (goodIn_sub (fun _ h => List.mem_cons_of_mem _ (List.mem_append_left _ (List.mem_append_left _ (List.mem_append_right _ h)))) (by decide +kernel))) (goodIn_sub (fun _ h => List.mem_cons_of_mem _ (List.mem_append_left _ (List.mem_append_right _ h))) (by decide +kernel))) (goodIn_sub (fun _ h => List.mem_cons_of_mem _ (List.mem_append_right _ h)) (by decide +kernel))
set_option maxRecDepth 20000 in
theorem gL_missing_X5_missing : GoodIn wsL_missing (wsV RL 31 RX5 yX5_missing wsX5_missing) := goodIn_app (goodIn_of _ (by decide +kernel)) ggL_missing_X5_missing
theorem dL_missing_0 : decode cL_missing 0 = .ok (.aload 4, 2) := by decide +kernel
theorem dL_missing_2 : decode cL_missing 2 = .ok (.iconst 0, 1) := by decide +kernel
theorem dL_missing_3 : decode cL_missing 3 = .ok (.aload_n 0, 1) := by decide +kernel
theorem dL_missing_4 : decode cL_missing 4 = .ok (.iload_n 1, 1) := by decide +kernel
theorem dL_missing_5 : decode cL_missing 5 = .ok (.iload_n 2, 1) := by decide +kernel
theorem dL_missing_6 : decode cL_missing 6 = .ok (.iload_n 3, 1) := by decide +kernel
theorem dL_missing_7 : decode cL_missing 7 = .ok (.invokevirtual 31, 3) := by decide +kernel
theorem dL_missing_10 : decode cL_missing 10 = .ok (.i2l, 1) := by decide +kernel
theorem dL_missing_11 : decode cL_missing 11 = .ok (.lastore, 1) := by decide +kernel
theorem dL_missing_12 : decode cL_missing 12 = .ok (.goto 15, 3) := by decide +kernel
theorem dL_missing_15 : decode cL_missing 15 = .ok (.astore 5, 2) := by decide +kernel
theorem dL_missing_17 : decode cL_missing 17 = .ok (.iconst 1, 1) := by decide +kernel
theorem dL_missing_18 : decode cL_missing 18 = .ok (.ireturn, 1) := by decide +kernel
theorem dL_missing_19 : decode cL_missing 19 = .ok (.astore 5, 2) := by decide +kernel
theorem dL_missing_21 : decode cL_missing 21 = .ok (.iconst 2, 1) := by decide +kernel
theorem dL_missing_22 : decode cL_missing 22 = .ok (.ireturn, 1) := by decide +kernel
theorem dL_missing_23 : decode cL_missing 23 = .ok (.astore 5, 2) := by decide +kernel
theorem dL_missing_25 : decode cL_missing 25 = .ok (.iconst 3, 1) := by decide +kernel
theorem dL_missing_26 : decode cL_missing 26 = .ok (.ireturn, 1) := by decide +kernel
theorem dL_missing_27 : decode cL_missing 27 = .ok (.iconst 0, 1) := by decide +kernel
theorem dL_missing_28 : decode cL_missing 28 = .ok (.ireturn, 1) := by decide +kernel
set_option maxRecDepth 20000 in
theorem ggL_report_X5_report : GoodIn wsL_report wsX5_report := goodIn_ca (goodIn_ca (goodIn_r _ [7, 8, 9, 10, 11, 12, 6, 13, 14, 15, 16, 17, 18, 19, 20, 21, 22, 23, 24, 25, 26, 27, 28, 29, 30, 31, 32, 33, 34, 35, 36, 37, 38, 39, 40, 41, 42, 43, 44, 45, 46, 47, 48, 49, 50, 51, 52, 53, 54, 55, 56, 57, 58, 59, 60, 61, 62, 63, 64, 65, 66, 67, 68, 69, 70, 71, 72, 73, 74, 75, 76, 77, 78, 79, 80, 81, 82, 83, 84, 85, 86, 87, 88, 89, 90, 91, 92, 93, 94, 95, 96, 97, 98, 99, 100, 101, 102, 103, 104, 105, 106, 107, 108, 109, 110, 111, 112, 113, 114, 115, 116, 117, 118, 119, 120, 121, 122, 123, 124, 125, 126, 127, 128, 129, 130, 131, 132, 133, 134] (by decide +kernel) (by decide +kernel)) (goodIn_sub (fun _ h => List.mem_cons_of_mem _ (List.mem_append_left _ (List.mem_append_right _ h))) (by decide +kernel))) (goodIn_sub (fun _ h => List.mem_cons_of_mem _ (List.mem_append_right _ h)) (by decide +kernel))
set_option maxRecDepth 20000 in
theorem gL_report_X5_report : GoodIn wsL_report (wsV RL 35 RX5 yX5_report wsX5_report) := goodIn_app (goodIn_of _ (by decide +kernel)) ggL_report_X5_report
theorem dL_report_0 : decode cL_report 0 = .ok (.aload 5, 2) := by decide +kernel
theorem dL_report_2 : decode cL_report 2 = .ok (.iconst 0, 1) := by decide +kernel
theorem dL_report_3 : decode cL_report 3 = .ok (.aload_n 0, 1) := by decide +kernel
theorem dL_report_4 : decode cL_report 4 = .ok (.iload_n 1, 1) := by decide +kernel
theorem dL_report_5 : decode cL_report 5 = .ok (.iload_n 2, 1) := by decide +kernel
theorem dL_report_6 : decode cL_report 6 = .ok (.iload_n 3, 1) := by decide +kernel
theorem dL_report_7 : decode cL_report 7 = .ok (.iload 4, 2) := by decide +kernel
theorem dL_report_9 : decode cL_report 9 = .ok (.invokevirtual 35, 3) := by decide +kernel
theorem dL_report_12 : decode cL_report 12 = .ok (.i2l, 1) := by decide +kernel
theorem dL_report_13 : decode cL_report 13 = .ok (.lastore, 1) := by decide +kernel
theorem dL_report_14 : decode cL_report 14 = .ok (.goto 11, 3) := by decide +kernel
theorem dL_report_17 : decode cL_report 17 = .ok (.astore 6, 2) := by decide +kernel
theorem dL_report_19 : decode cL_report 19 = .ok (.iconst 1, 1) := by decide +kernel
theorem dL_report_20 : decode cL_report 20 = .ok (.ireturn, 1) := by decide +kernel
theorem dL_report_21 : decode cL_report 21 = .ok (.astore 6, 2) := by decide +kernel
theorem dL_report_23 : decode cL_report 23 = .ok (.iconst 2, 1) := by decide +kernel
theorem dL_report_24 : decode cL_report 24 = .ok (.ireturn, 1) := by decide +kernel
theorem dL_report_25 : decode cL_report 25 = .ok (.iconst 0, 1) := by decide +kernel
theorem dL_report_26 : decode cL_report 26 = .ok (.ireturn, 1) := by decide +kernel
set_option maxRecDepth 20000 in
theorem ggL_harm_X5_harm : GoodIn wsL_harm wsX5_harm := goodIn_ca (goodIn_r _ [6, 7, 8, 9, 10, 5, 11, 12, 13, 14, 15, 16, 17, 18, 19, 20, 21, 22, 23, 24, 25, 26, 27, 28, 29, 30, 31, 32, 33, 34, 35, 36, 37, 38, 39, 40, 41, 42, 43, 44, 45, 46, 47, 48] (by decide +kernel) (by decide +kernel)) (goodIn_sub (fun _ h => List.mem_cons_of_mem _ (List.mem_append_right _ h)) (by decide +kernel))
set_option maxRecDepth 20000 in
theorem gL_harm_X5_harm : GoodIn wsL_harm (wsV RL 38 RX5 yX5_harm wsX5_harm) := goodIn_app (goodIn_of _ (by decide +kernel)) ggL_harm_X5_harm
theorem dL_harm_0 : decode cL_harm 0 = .ok (.aload 4, 2) := by decide +kernel
theorem dL_harm_2 : decode cL_harm 2 = .ok (.iconst 0, 1) := by decide +kernel
theorem dL_harm_3 : decode cL_harm 3 = .ok (.aload_n 0, 1) := by decide +kernel
theorem dL_harm_4 : decode cL_harm 4 = .ok (.iload_n 1, 1) := by decide +kernel
theorem dL_harm_5 : decode cL_harm 5 = .ok (.iload_n 2, 1) := by decide +kernel
theorem dL_harm_6 : decode cL_harm 6 = .ok (.iload_n 3, 1) := by decide +kernel
theorem dL_harm_7 : decode cL_harm 7 = .ok (.invokevirtual 38, 3) := by decide +kernel
theorem dL_harm_10 : decode cL_harm 10 = .ok (.i2l, 1) := by decide +kernel
theorem dL_harm_11 : decode cL_harm 11 = .ok (.lastore, 1) := by decide +kernel
theorem dL_harm_12 : decode cL_harm 12 = .ok (.goto 7, 3) := by decide +kernel
theorem dL_harm_15 : decode cL_harm 15 = .ok (.astore 5, 2) := by decide +kernel
theorem dL_harm_17 : decode cL_harm 17 = .ok (.iconst 1, 1) := by decide +kernel
theorem dL_harm_18 : decode cL_harm 18 = .ok (.ireturn, 1) := by decide +kernel
theorem dL_harm_19 : decode cL_harm 19 = .ok (.iconst 0, 1) := by decide +kernel
theorem dL_harm_20 : decode cL_harm 20 = .ok (.ireturn, 1) := by decide +kernel
set_option maxRecDepth 20000 in
theorem ggL_ofSet_X5_ofSet : GoodIn wsL_ofSet wsX5_ofSet := goodIn_ca (goodIn_ca (goodIn_r _ [7, 8, 9, 10, 11, 12, 13, 14, 15, 6, 16, 17, 18, 19, 20, 21, 22, 23, 24, 25, 26, 27, 28, 29, 30, 31, 32, 33, 34, 35, 36, 37, 38, 39, 40, 41, 42, 43, 44, 45, 46, 47, 48, 49, 50, 51, 52, 53, 54, 55, 56, 57, 58, 59, 60, 61, 62, 63, 64, 65, 66, 67, 68, 69, 70, 71, 72, 73, 74, 75, 76, 77, 78, 79, 80, 81, 82, 83, 84, 85, 86, 87, 88, 89, 90, 91, 92, 93, 94, 95, 96, 97, 98, 99, 100, 101, 102, 103, 104] (by decide +kernel) (by decide +kernel)) (goodIn_sub (fun _ h => List.mem_cons_of_mem _ (List.mem_append_left _ (List.mem_append_right _ h))) (by decide +kernel))) (goodIn_sub (fun _ h => List.mem_cons_of_mem _ (List.mem_append_right _ h)) (by decide +kernel))
set_option maxRecDepth 20000 in
theorem gL_ofSet_X5_ofSet : GoodIn wsL_ofSet (wsV RL 41 RX5 yX5_ofSet wsX5_ofSet) := goodIn_app (goodIn_of _ (by decide +kernel)) ggL_ofSet_X5_ofSet
theorem dL_ofSet_0 : decode cL_ofSet 0 = .ok (.aload_n 3, 1) := by decide +kernel
theorem dL_ofSet_1 : decode cL_ofSet 1 = .ok (.iconst 0, 1) := by decide +kernel
theorem dL_ofSet_2 : decode cL_ofSet 2 = .ok (.aload_n 0, 1) := by decide +kernel
theorem dL_ofSet_3 : decode cL_ofSet 3 = .ok (.iload_n 1, 1) := by decide +kernel
theorem dL_ofSet_4 : decode cL_ofSet 4 = .ok (.iload_n 2, 1) := by decide +kernel
theorem dL_ofSet_5 : decode cL_ofSet 5 = .ok (.invokevirtual 41, 3) := by decide +kernel
theorem dL_ofSet_8 : decode cL_ofSet 8 = .ok (.i2l, 1) := by decide +kernel
theorem dL_ofSet_9 : decode cL_ofSet 9 = .ok (.lastore, 1) := by decide +kernel
theorem dL_ofSet_10 : decode cL_ofSet 10 = .ok (.goto 11, 3) := by decide +kernel
theorem dL_ofSet_13 : decode cL_ofSet 13 = .ok (.astore 4, 2) := by decide +kernel
theorem dL_ofSet_15 : decode cL_ofSet 15 = .ok (.iconst 1, 1) := by decide +kernel
theorem dL_ofSet_16 : decode cL_ofSet 16 = .ok (.ireturn, 1) := by decide +kernel
theorem dL_ofSet_17 : decode cL_ofSet 17 = .ok (.astore 4, 2) := by decide +kernel
theorem dL_ofSet_19 : decode cL_ofSet 19 = .ok (.iconst 2, 1) := by decide +kernel
theorem dL_ofSet_20 : decode cL_ofSet 20 = .ok (.ireturn, 1) := by decide +kernel
theorem dL_ofSet_21 : decode cL_ofSet 21 = .ok (.iconst 0, 1) := by decide +kernel
theorem dL_ofSet_22 : decode cL_ofSet 22 = .ok (.ireturn, 1) := by decide +kernel
set_option maxRecDepth 20000 in
theorem ggL_isMadeOf_X5_isMadeOf : GoodIn wsL_isMadeOf wsX5_isMadeOf := goodIn_ca (goodIn_r _ [6, 7, 8, 9, 10, 5, 11, 12, 13, 14, 15, 16, 17, 18, 19, 20, 21, 22, 23, 24, 25, 26, 27, 28, 29, 30, 31, 32, 33, 34, 35, 36, 37, 38, 39, 40, 41, 42, 43, 44, 45, 46, 47, 48, 49, 50, 51, 52, 53, 54, 55, 56, 57, 58, 59, 60, 61, 62] (by decide +kernel) (by decide +kernel)) (goodIn_sub (fun _ h => List.mem_cons_of_mem _ (List.mem_append_right _ h)) (by decide +kernel))
set_option maxRecDepth 20000 in
theorem gL_isMadeOf_X5_isMadeOf : GoodIn wsL_isMadeOf (wsV RL 44 RX5 yX5_isMadeOf wsX5_isMadeOf) := goodIn_app (goodIn_of _ (by decide +kernel)) ggL_isMadeOf_X5_isMadeOf
theorem dL_isMadeOf_0 : decode cL_isMadeOf 0 = .ok (.aload 7, 2) := by decide +kernel
theorem dL_isMadeOf_2 : decode cL_isMadeOf 2 = .ok (.iconst 0, 1) := by decide +kernel
theorem dL_isMadeOf_3 : decode cL_isMadeOf 3 = .ok (.aload_n 0, 1) := by decide +kernel
theorem dL_isMadeOf_4 : decode cL_isMadeOf 4 = .ok (.iload_n 1, 1) := by decide +kernel
theorem dL_isMadeOf_5 : decode cL_isMadeOf 5 = .ok (.iload_n 2, 1) := by decide +kernel
theorem dL_isMadeOf_6 : decode cL_isMadeOf 6 = .ok (.iload_n 3, 1) := by decide +kernel
theorem dL_isMadeOf_7 : decode cL_isMadeOf 7 = .ok (.iload 4, 2) := by decide +kernel
theorem dL_isMadeOf_9 : decode cL_isMadeOf 9 = .ok (.iload 5, 2) := by decide +kernel
theorem dL_isMadeOf_11 : decode cL_isMadeOf 11 = .ok (.iload 6, 2) := by decide +kernel
theorem dL_isMadeOf_13 : decode cL_isMadeOf 13 = .ok (.invokevirtual 44, 3) := by decide +kernel
theorem dL_isMadeOf_16 : decode cL_isMadeOf 16 = .ok (.ifCond .eq 7, 3) := by decide +kernel
theorem dL_isMadeOf_19 : decode cL_isMadeOf 19 = .ok (.lconst 1, 1) := by decide +kernel
theorem dL_isMadeOf_20 : decode cL_isMadeOf 20 = .ok (.goto 4, 3) := by decide +kernel
theorem dL_isMadeOf_23 : decode cL_isMadeOf 23 = .ok (.lconst 0, 1) := by decide +kernel
theorem dL_isMadeOf_24 : decode cL_isMadeOf 24 = .ok (.lastore, 1) := by decide +kernel
theorem dL_isMadeOf_25 : decode cL_isMadeOf 25 = .ok (.goto 7, 3) := by decide +kernel
theorem dL_isMadeOf_28 : decode cL_isMadeOf 28 = .ok (.astore 8, 2) := by decide +kernel
theorem dL_isMadeOf_30 : decode cL_isMadeOf 30 = .ok (.iconst 1, 1) := by decide +kernel
theorem dL_isMadeOf_31 : decode cL_isMadeOf 31 = .ok (.ireturn, 1) := by decide +kernel
theorem dL_isMadeOf_32 : decode cL_isMadeOf 32 = .ok (.iconst 0, 1) := by decide +kernel
theorem dL_isMadeOf_33 : decode cL_isMadeOf 33 = .ok (.ireturn, 1) := by decide +kernel
set_option maxRecDepth 20000 in
theorem ggL_contract_X5_contract : GoodIn wsL_contract wsX5_contract := goodIn_ca (goodIn_ca (goodIn_ca (goodIn_r _ [8, 9, 10, 11, 12, 13, 14, 15, 16, 7, 17, 18, 19, 20, 21, 22, 23, 24, 25, 26, 27, 28, 29, 30, 31, 32, 33, 34, 35, 36, 37, 38, 39, 40, 41, 42, 43, 44, 45, 46, 47, 48, 49, 50, 51, 52, 53, 54, 55, 56, 57, 58, 59, 60, 61, 62, 63, 64, 65, 66, 67, 68, 69, 70, 71] (by decide +kernel) (by decide +kernel)) (goodIn_sub (fun _ h => List.mem_cons_of_mem _ (List.mem_append_left _ (List.mem_append_left _ (List.mem_append_right _ h)))) (by decide +kernel))) (goodIn_sub (fun _ h => List.mem_cons_of_mem _ (List.mem_append_left _ (List.mem_append_right _ h))) (by decide +kernel))) (goodIn_sub (fun _ h => List.mem_cons_of_mem _ (List.mem_append_right _ h)) (by decide +kernel))
set_option maxRecDepth 20000 in
theorem gL_contract_X5_contract : GoodIn wsL_contract (wsV RL 48 RX5 yX5_contract wsX5_contract) := goodIn_app (goodIn_of _ (by decide +kernel)) ggL_contract_X5_contract
theorem dL_contract_0 : decode cL_contract 0 = .ok (.aload 7, 2) := by decide +kernel
theorem dL_contract_2 : decode cL_contract 2 = .ok (.iconst 0, 1) := by decide +kernel
theorem dL_contract_3 : decode cL_contract 3 = .ok (.aload_n 0, 1) := by decide +kernel
theorem dL_contract_4 : decode cL_contract 4 = .ok (.iload_n 1, 1) := by decide +kernel
theorem dL_contract_5 : decode cL_contract 5 = .ok (.iload_n 2, 1) := by decide +kernel
theorem dL_contract_6 : decode cL_contract 6 = .ok (.iload_n 3, 1) := by decide +kernel
theorem dL_contract_7 : decode cL_contract 7 = .ok (.iload 4, 2) := by decide +kernel
theorem dL_contract_9 : decode cL_contract 9 = .ok (.iload 5, 2) := by decide +kernel
theorem dL_contract_11 : decode cL_contract 11 = .ok (.iload 6, 2) := by decide +kernel
theorem dL_contract_13 : decode cL_contract 13 = .ok (.invokevirtual 48, 3) := by decide +kernel
theorem dL_contract_16 : decode cL_contract 16 = .ok (.i2l, 1) := by decide +kernel
theorem dL_contract_17 : decode cL_contract 17 = .ok (.lastore, 1) := by decide +kernel
theorem dL_contract_18 : decode cL_contract 18 = .ok (.goto 15, 3) := by decide +kernel
theorem dL_contract_21 : decode cL_contract 21 = .ok (.astore 8, 2) := by decide +kernel
theorem dL_contract_23 : decode cL_contract 23 = .ok (.iconst 1, 1) := by decide +kernel
theorem dL_contract_24 : decode cL_contract 24 = .ok (.ireturn, 1) := by decide +kernel
theorem dL_contract_25 : decode cL_contract 25 = .ok (.astore 8, 2) := by decide +kernel
theorem dL_contract_27 : decode cL_contract 27 = .ok (.iconst 2, 1) := by decide +kernel
theorem dL_contract_28 : decode cL_contract 28 = .ok (.ireturn, 1) := by decide +kernel
theorem dL_contract_29 : decode cL_contract 29 = .ok (.astore 8, 2) := by decide +kernel
theorem dL_contract_31 : decode cL_contract 31 = .ok (.iconst 3, 1) := by decide +kernel
theorem dL_contract_32 : decode cL_contract 32 = .ok (.ireturn, 1) := by decide +kernel
theorem dL_contract_33 : decode cL_contract 33 = .ok (.iconst 0, 1) := by decide +kernel
theorem dL_contract_34 : decode cL_contract 34 = .ok (.ireturn, 1) := by decide +kernel
set_option maxRecDepth 20000 in
theorem ggL_end_X5_end : GoodIn wsL_end wsX5_end := goodIn_ca (goodIn_r _ [6, 7, 8, 9, 10, 11, 5, 12, 13, 14, 15, 16, 17, 18, 19, 20, 21, 22, 23, 24, 25, 26, 27, 28, 29, 30, 31, 32, 33, 34, 35, 36, 37, 38, 39, 40, 41, 42] (by decide +kernel) (by decide +kernel)) (goodIn_sub (fun _ h => List.mem_cons_of_mem _ (List.mem_append_right _ h)) (by decide +kernel))
set_option maxRecDepth 20000 in
theorem gL_end_X5_end : GoodIn wsL_end (wsV RL 52 RX5 yX5_end wsX5_end) := goodIn_app (goodIn_of _ (by decide +kernel)) ggL_end_X5_end
theorem dL_end_0 : decode cL_end 0 = .ok (.aload_n 2, 1) := by decide +kernel
theorem dL_end_1 : decode cL_end 1 = .ok (.iconst 0, 1) := by decide +kernel
theorem dL_end_2 : decode cL_end 2 = .ok (.aload_n 0, 1) := by decide +kernel
theorem dL_end_3 : decode cL_end 3 = .ok (.iload_n 1, 1) := by decide +kernel
theorem dL_end_4 : decode cL_end 4 = .ok (.invokevirtual 52, 3) := by decide +kernel
theorem dL_end_7 : decode cL_end 7 = .ok (.i2l, 1) := by decide +kernel
theorem dL_end_8 : decode cL_end 8 = .ok (.lastore, 1) := by decide +kernel
theorem dL_end_9 : decode cL_end 9 = .ok (.goto 6, 3) := by decide +kernel
theorem dL_end_12 : decode cL_end 12 = .ok (.astore_n 3, 1) := by decide +kernel
theorem dL_end_13 : decode cL_end 13 = .ok (.iconst 1, 1) := by decide +kernel
theorem dL_end_14 : decode cL_end 14 = .ok (.ireturn, 1) := by decide +kernel
theorem dL_end_15 : decode cL_end 15 = .ok (.iconst 0, 1) := by decide +kernel
theorem dL_end_16 : decode cL_end 16 = .ok (.ireturn, 1) := by decide +kernel
set_option maxRecDepth 20000 in
theorem ggL_covered_X5_covered : GoodIn wsL_covered wsX5_covered := goodIn_ca (goodIn_ca (goodIn_r _ [7, 8, 9, 10, 11, 12, 6, 13, 14, 15, 16, 17, 18, 19, 20, 21, 22, 23, 24, 25, 26, 27, 28, 29, 30, 31, 32, 33, 34, 35, 36, 37, 38, 39, 40, 41, 42, 43, 44, 45, 46, 47, 48, 49, 50, 51, 52, 53, 54, 55, 56, 57, 58, 59, 60, 61, 62, 63, 64, 65, 66, 67, 68, 69] (by decide +kernel) (by decide +kernel)) (goodIn_sub (fun _ h => List.mem_cons_of_mem _ (List.mem_append_left _ (List.mem_append_right _ h))) (by decide +kernel))) (goodIn_sub (fun _ h => List.mem_cons_of_mem _ (List.mem_append_right _ h)) (by decide +kernel))
set_option maxRecDepth 20000 in
theorem gL_covered_X5_covered : GoodIn wsL_covered (wsV RL 55 RX5 yX5_covered wsX5_covered) := goodIn_app (goodIn_of _ (by decide +kernel)) ggL_covered_X5_covered
theorem dL_covered_0 : decode cL_covered 0 = .ok (.aload 5, 2) := by decide +kernel
theorem dL_covered_2 : decode cL_covered 2 = .ok (.iconst 0, 1) := by decide +kernel
theorem dL_covered_3 : decode cL_covered 3 = .ok (.aload_n 0, 1) := by decide +kernel
theorem dL_covered_4 : decode cL_covered 4 = .ok (.iload_n 1, 1) := by decide +kernel
theorem dL_covered_5 : decode cL_covered 5 = .ok (.iload_n 2, 1) := by decide +kernel
theorem dL_covered_6 : decode cL_covered 6 = .ok (.iload_n 3, 1) := by decide +kernel
theorem dL_covered_7 : decode cL_covered 7 = .ok (.iload 4, 2) := by decide +kernel
theorem dL_covered_9 : decode cL_covered 9 = .ok (.invokevirtual 55, 3) := by decide +kernel
theorem dL_covered_12 : decode cL_covered 12 = .ok (.i2l, 1) := by decide +kernel
theorem dL_covered_13 : decode cL_covered 13 = .ok (.lastore, 1) := by decide +kernel
theorem dL_covered_14 : decode cL_covered 14 = .ok (.goto 11, 3) := by decide +kernel
theorem dL_covered_17 : decode cL_covered 17 = .ok (.astore 6, 2) := by decide +kernel
theorem dL_covered_19 : decode cL_covered 19 = .ok (.iconst 1, 1) := by decide +kernel
theorem dL_covered_20 : decode cL_covered 20 = .ok (.ireturn, 1) := by decide +kernel
theorem dL_covered_21 : decode cL_covered 21 = .ok (.astore 6, 2) := by decide +kernel
theorem dL_covered_23 : decode cL_covered 23 = .ok (.iconst 2, 1) := by decide +kernel
theorem dL_covered_24 : decode cL_covered 24 = .ok (.ireturn, 1) := by decide +kernel
theorem dL_covered_25 : decode cL_covered 25 = .ok (.iconst 0, 1) := by decide +kernel
theorem dL_covered_26 : decode cL_covered 26 = .ok (.ireturn, 1) := by decide +kernel
set_option maxRecDepth 20000 in
theorem ggL_read_X5_read : GoodIn wsL_read wsX5_read := goodIn_ca (goodIn_ca (goodIn_ca (goodIn_r _ [8, 9, 10, 11, 12, 13, 14, 15, 16, 17, 18, 7, 19, 20, 21, 22, 23, 24, 25, 26, 27, 28, 29, 30, 31, 32, 33, 34, 35, 36, 37, 38, 39, 40, 41, 42, 43, 44, 45, 46, 47, 48, 49, 50, 51, 52, 53, 54, 55, 56, 57, 58, 59, 60, 61, 62, 63, 64, 65, 66, 67, 68, 69, 70, 71, 72, 73, 74, 75, 76, 77, 78, 79, 80, 81, 82, 83, 84, 85, 86, 87, 88, 89, 90, 91, 92, 93, 94, 95, 96, 97, 98, 99, 100, 101, 102, 103, 104, 105, 106, 107, 108, 109, 110, 111, 112, 113, 114, 115, 116, 117, 118, 119, 120, 121, 122, 123, 124, 125, 126, 127, 128, 129, 130, 131, 132, 133, 134, 135, 136, 137, 138, 139, 140, 141, 142, 143, 144, 145, 146, 147, 148, 149, 150, 151, 152, 153, 154, 155, 156, 157, 158, 159, 160, 161, 162] (by decide +kernel) (by decide +kernel)) (goodIn_sub (fun _ h => List.mem_cons_of_mem _ (List.mem_append_left _ (List.mem_append_left _ (List.mem_append_right _ h)))) (by decide +kernel))) (goodIn_sub (fun _ h => List.mem_cons_of_mem _ (List.mem_append_left _ (List.mem_append_right _ h))) (by decide +kernel))) (goodIn_sub (fun _ h => List.mem_cons_of_mem _ (List.mem_append_right _ h)) (by decide +kernel))
set_option maxRecDepth 20000 in
theorem gL_read_X5_read : GoodIn wsL_read (wsV RL 58 RX5 yX5_read wsX5_read) := goodIn_app (goodIn_of _ (by decide +kernel)) ggL_read_X5_read
theorem dL_read_0 : decode cL_read 0 = .ok (.aload 6, 2) := by decide +kernel
theorem dL_read_2 : decode cL_read 2 = .ok (.iconst 0, 1) := by decide +kernel
theorem dL_read_3 : decode cL_read 3 = .ok (.aload_n 0, 1) := by decide +kernel
theorem dL_read_4 : decode cL_read 4 = .ok (.iload_n 1, 1) := by decide +kernel
theorem dL_read_5 : decode cL_read 5 = .ok (.iload_n 2, 1) := by decide +kernel
theorem dL_read_6 : decode cL_read 6 = .ok (.iload_n 3, 1) := by decide +kernel
theorem dL_read_7 : decode cL_read 7 = .ok (.iload 4, 2) := by decide +kernel
theorem dL_read_9 : decode cL_read 9 = .ok (.iload 5, 2) := by decide +kernel
theorem dL_read_11 : decode cL_read 11 = .ok (.invokevirtual 58, 3) := by decide +kernel
theorem dL_read_14 : decode cL_read 14 = .ok (.i2l, 1) := by decide +kernel
theorem dL_read_15 : decode cL_read 15 = .ok (.lastore, 1) := by decide +kernel
theorem dL_read_16 : decode cL_read 16 = .ok (.goto 15, 3) := by decide +kernel
theorem dL_read_19 : decode cL_read 19 = .ok (.astore 7, 2) := by decide +kernel
theorem dL_read_21 : decode cL_read 21 = .ok (.iconst 1, 1) := by decide +kernel
theorem dL_read_22 : decode cL_read 22 = .ok (.ireturn, 1) := by decide +kernel
theorem dL_read_23 : decode cL_read 23 = .ok (.astore 7, 2) := by decide +kernel
theorem dL_read_25 : decode cL_read 25 = .ok (.iconst 2, 1) := by decide +kernel
theorem dL_read_26 : decode cL_read 26 = .ok (.ireturn, 1) := by decide +kernel
theorem dL_read_27 : decode cL_read 27 = .ok (.astore 7, 2) := by decide +kernel
theorem dL_read_29 : decode cL_read 29 = .ok (.iconst 3, 1) := by decide +kernel
theorem dL_read_30 : decode cL_read 30 = .ok (.ireturn, 1) := by decide +kernel
theorem dL_read_31 : decode cL_read 31 = .ok (.iconst 0, 1) := by decide +kernel
theorem dL_read_32 : decode cL_read 32 = .ok (.ireturn, 1) := by decide +kernel
set_option maxRecDepth 20000 in
theorem ggL_preview_X5_preview : GoodIn wsL_preview wsX5_preview := goodIn_ca (goodIn_ca (goodIn_ca (goodIn_r _ [8, 9, 10, 11, 12, 13, 14, 15, 16, 7, 17, 18, 19, 20, 21, 22, 23, 24, 25, 26, 27, 28, 29, 30, 31, 32, 33, 34, 35, 36, 37, 38, 39, 40, 41, 42, 43, 44, 45, 46, 47, 48, 49, 50, 51, 52, 53, 54, 55, 56, 57, 58, 59, 60, 61, 62, 63, 64, 65, 66, 67, 68, 69, 70, 71, 72, 73, 74, 75, 76, 77, 78, 79, 80, 81, 82, 83, 84, 85, 86, 87, 88, 89, 90, 91, 92, 93, 94, 95, 96, 97, 98] (by decide +kernel) (by decide +kernel)) (goodIn_sub (fun _ h => List.mem_cons_of_mem _ (List.mem_append_left _ (List.mem_append_left _ (List.mem_append_right _ h)))) (by decide +kernel))) (goodIn_sub (fun _ h => List.mem_cons_of_mem _ (List.mem_append_left _ (List.mem_append_right _ h))) (by decide +kernel))) (goodIn_sub (fun _ h => List.mem_cons_of_mem _ (List.mem_append_right _ h)) (by decide +kernel))
set_option maxRecDepth 20000 in
theorem gL_preview_X5_preview : GoodIn wsL_preview (wsV RL 61 RX5 yX5_preview wsX5_preview) := goodIn_app (goodIn_of _ (by decide +kernel)) ggL_preview_X5_preview
theorem dL_preview_0 : decode cL_preview 0 = .ok (.aload 4, 2) := by decide +kernel
theorem dL_preview_2 : decode cL_preview 2 = .ok (.iconst 0, 1) := by decide +kernel
theorem dL_preview_3 : decode cL_preview 3 = .ok (.aload_n 0, 1) := by decide +kernel
theorem dL_preview_4 : decode cL_preview 4 = .ok (.iload_n 1, 1) := by decide +kernel
theorem dL_preview_5 : decode cL_preview 5 = .ok (.iload_n 2, 1) := by decide +kernel
theorem dL_preview_6 : decode cL_preview 6 = .ok (.iload_n 3, 1) := by decide +kernel
theorem dL_preview_7 : decode cL_preview 7 = .ok (.invokevirtual 61, 3) := by decide +kernel
theorem dL_preview_10 : decode cL_preview 10 = .ok (.i2l, 1) := by decide +kernel
theorem dL_preview_11 : decode cL_preview 11 = .ok (.lastore, 1) := by decide +kernel
theorem dL_preview_12 : decode cL_preview 12 = .ok (.goto 15, 3) := by decide +kernel
theorem dL_preview_15 : decode cL_preview 15 = .ok (.astore 5, 2) := by decide +kernel
theorem dL_preview_17 : decode cL_preview 17 = .ok (.iconst 1, 1) := by decide +kernel
theorem dL_preview_18 : decode cL_preview 18 = .ok (.ireturn, 1) := by decide +kernel
theorem dL_preview_19 : decode cL_preview 19 = .ok (.astore 5, 2) := by decide +kernel
theorem dL_preview_21 : decode cL_preview 21 = .ok (.iconst 2, 1) := by decide +kernel
theorem dL_preview_22 : decode cL_preview 22 = .ok (.ireturn, 1) := by decide +kernel
theorem dL_preview_23 : decode cL_preview 23 = .ok (.astore 5, 2) := by decide +kernel
theorem dL_preview_25 : decode cL_preview 25 = .ok (.iconst 3, 1) := by decide +kernel
theorem dL_preview_26 : decode cL_preview 26 = .ok (.ireturn, 1) := by decide +kernel
theorem dL_preview_27 : decode cL_preview 27 = .ok (.iconst 0, 1) := by decide +kernel
theorem dL_preview_28 : decode cL_preview 28 = .ok (.ireturn, 1) := by decide +kernel
set_option maxRecDepth 20000 in
theorem ggL_ofRead_X5_ofRead : GoodIn wsL_ofRead wsX5_ofRead := goodIn_ca (goodIn_ca (goodIn_r _ [7, 8, 9, 10, 11, 12, 13, 14, 15, 16, 17, 18, 19, 20, 21, 22, 23, 24, 25, 26, 27, 28, 29, 30, 31, 32, 33, 6, 34, 35, 36, 37, 38, 39, 40, 41, 42, 43, 44, 45, 46, 47, 48, 49, 50, 51, 52, 53, 54, 55, 56, 57, 58, 59, 60, 61, 62, 63, 64] (by decide +kernel) (by decide +kernel)) (goodIn_sub (fun _ h => List.mem_cons_of_mem _ (List.mem_append_left _ (List.mem_append_right _ h))) (by decide +kernel))) (goodIn_sub (fun _ h => List.mem_cons_of_mem _ (List.mem_append_right _ h)) (by decide +kernel))
set_option maxRecDepth 20000 in
theorem gL_ofRead_X5_ofRead : GoodIn wsL_ofRead (wsV RL 64 RX5 yX5_ofRead wsX5_ofRead) := goodIn_app (goodIn_of _ (by decide +kernel)) ggL_ofRead_X5_ofRead
theorem dL_ofRead_0 : decode cL_ofRead 0 = .ok (.aload_n 3, 1) := by decide +kernel
theorem dL_ofRead_1 : decode cL_ofRead 1 = .ok (.iconst 0, 1) := by decide +kernel
theorem dL_ofRead_2 : decode cL_ofRead 2 = .ok (.aload_n 0, 1) := by decide +kernel
theorem dL_ofRead_3 : decode cL_ofRead 3 = .ok (.iload_n 1, 1) := by decide +kernel
theorem dL_ofRead_4 : decode cL_ofRead 4 = .ok (.iload_n 2, 1) := by decide +kernel
theorem dL_ofRead_5 : decode cL_ofRead 5 = .ok (.invokevirtual 64, 3) := by decide +kernel
theorem dL_ofRead_8 : decode cL_ofRead 8 = .ok (.i2l, 1) := by decide +kernel
theorem dL_ofRead_9 : decode cL_ofRead 9 = .ok (.lastore, 1) := by decide +kernel
theorem dL_ofRead_10 : decode cL_ofRead 10 = .ok (.goto 11, 3) := by decide +kernel
theorem dL_ofRead_13 : decode cL_ofRead 13 = .ok (.astore 4, 2) := by decide +kernel
theorem dL_ofRead_15 : decode cL_ofRead 15 = .ok (.iconst 1, 1) := by decide +kernel
theorem dL_ofRead_16 : decode cL_ofRead 16 = .ok (.ireturn, 1) := by decide +kernel
theorem dL_ofRead_17 : decode cL_ofRead 17 = .ok (.astore 4, 2) := by decide +kernel
theorem dL_ofRead_19 : decode cL_ofRead 19 = .ok (.iconst 2, 1) := by decide +kernel
theorem dL_ofRead_20 : decode cL_ofRead 20 = .ok (.ireturn, 1) := by decide +kernel
theorem dL_ofRead_21 : decode cL_ofRead 21 = .ok (.iconst 0, 1) := by decide +kernel
theorem dL_ofRead_22 : decode cL_ofRead 22 = .ok (.ireturn, 1) := by decide +kernel
set_option maxRecDepth 20000 in
theorem ggL_ofReader_X5_ofReader : GoodIn wsL_ofReader wsX5_ofReader := goodIn_ca (goodIn_ca (goodIn_r _ [7, 8, 9, 10, 11, 12, 13, 14, 15, 6, 16, 17, 18, 19, 20, 21, 22, 23, 24, 25, 26, 27, 28, 29, 30, 31, 32, 33, 34, 35, 36, 37, 38, 39, 40, 41, 42, 43, 44, 45, 46, 47, 48, 49, 50, 51, 52, 53, 54, 55, 56, 57, 58, 59, 60, 61, 62, 63, 64, 65, 66, 67, 68, 69, 70, 71, 72, 73, 74, 75, 76, 77, 78, 79, 80, 81, 82, 83, 84, 85, 86, 87, 88, 89, 90, 91, 92, 93, 94, 95, 96, 97, 98, 99, 100, 101, 102, 103, 104, 105, 106, 107, 108, 109, 110, 111, 112, 113, 114, 115, 116, 117, 118, 119, 120, 121, 122, 123, 124, 125] (by decide +kernel) (by decide +kernel)) (goodIn_sub (fun _ h => List.mem_cons_of_mem _ (List.mem_append_left _ (List.mem_append_right _ h))) (by decide +kernel))) (goodIn_sub (fun _ h => List.mem_cons_of_mem _ (List.mem_append_right _ h)) (by decide +kernel))
set_option maxRecDepth 20000 in
theorem gL_ofReader_X5_ofReader : GoodIn wsL_ofReader (wsV RL 67 RX5 yX5_ofReader wsX5_ofReader) := goodIn_app (goodIn_of _ (by decide +kernel)) ggL_ofReader_X5_ofReader
theorem dL_ofReader_0 : decode cL_ofReader 0 = .ok (.aload_n 3, 1) := by decide +kernel
theorem dL_ofReader_1 : decode cL_ofReader 1 = .ok (.iconst 0, 1) := by decide +kernel
theorem dL_ofReader_2 : decode cL_ofReader 2 = .ok (.aload_n 0, 1) := by decide +kernel
theorem dL_ofReader_3 : decode cL_ofReader 3 = .ok (.iload_n 1, 1) := by decide +kernel
theorem dL_ofReader_4 : decode cL_ofReader 4 = .ok (.iload_n 2, 1) := by decide +kernel
theorem dL_ofReader_5 : decode cL_ofReader 5 = .ok (.invokevirtual 67, 3) := by decide +kernel
theorem dL_ofReader_8 : decode cL_ofReader 8 = .ok (.i2l, 1) := by decide +kernel
theorem dL_ofReader_9 : decode cL_ofReader 9 = .ok (.lastore, 1) := by decide +kernel
theorem dL_ofReader_10 : decode cL_ofReader 10 = .ok (.goto 11, 3) := by decide +kernel
theorem dL_ofReader_13 : decode cL_ofReader 13 = .ok (.astore 4, 2) := by decide +kernel
theorem dL_ofReader_15 : decode cL_ofReader 15 = .ok (.iconst 1, 1) := by decide +kernel
theorem dL_ofReader_16 : decode cL_ofReader 16 = .ok (.ireturn, 1) := by decide +kernel
theorem dL_ofReader_17 : decode cL_ofReader 17 = .ok (.astore 4, 2) := by decide +kernel
theorem dL_ofReader_19 : decode cL_ofReader 19 = .ok (.iconst 2, 1) := by decide +kernel
theorem dL_ofReader_20 : decode cL_ofReader 20 = .ok (.ireturn, 1) := by decide +kernel
theorem dL_ofReader_21 : decode cL_ofReader 21 = .ok (.iconst 0, 1) := by decide +kernel
theorem dL_ofReader_22 : decode cL_ofReader 22 = .ok (.ireturn, 1) := by decide +kernel
set_option maxRecDepth 20000 in
theorem ggL_bill_X5_bill : GoodIn wsL_bill wsX5_bill := goodIn_ca (goodIn_r _ [6, 7, 8, 9, 10, 5, 11, 12, 13, 14, 15, 16, 17, 18, 19, 20, 21, 22, 23, 24, 25, 26, 27, 28, 29, 30, 31, 32, 33, 34, 35, 36, 37, 38, 39, 40, 41, 42, 43, 44, 45, 46, 47, 48, 49, 50, 51, 52, 53, 54, 55, 56, 57, 58, 59, 60, 61, 62, 63, 64, 65, 66, 67, 68, 69, 70] (by decide +kernel) (by decide +kernel)) (goodIn_sub (fun _ h => List.mem_cons_of_mem _ (List.mem_append_right _ h)) (by decide +kernel))
set_option maxRecDepth 20000 in
theorem gL_bill_X5_bill : GoodIn wsL_bill (wsV RL 70 RX5 yX5_bill wsX5_bill) := goodIn_app (goodIn_of _ (by decide +kernel)) ggL_bill_X5_bill
theorem dL_bill_0 : decode cL_bill 0 = .ok (.aload_n 2, 1) := by decide +kernel
theorem dL_bill_1 : decode cL_bill 1 = .ok (.iconst 0, 1) := by decide +kernel
theorem dL_bill_2 : decode cL_bill 2 = .ok (.aload_n 0, 1) := by decide +kernel
theorem dL_bill_3 : decode cL_bill 3 = .ok (.iload_n 1, 1) := by decide +kernel
theorem dL_bill_4 : decode cL_bill 4 = .ok (.invokevirtual 70, 3) := by decide +kernel
theorem dL_bill_7 : decode cL_bill 7 = .ok (.i2l, 1) := by decide +kernel
theorem dL_bill_8 : decode cL_bill 8 = .ok (.lastore, 1) := by decide +kernel
theorem dL_bill_9 : decode cL_bill 9 = .ok (.goto 6, 3) := by decide +kernel
theorem dL_bill_12 : decode cL_bill 12 = .ok (.astore_n 3, 1) := by decide +kernel
theorem dL_bill_13 : decode cL_bill 13 = .ok (.iconst 1, 1) := by decide +kernel
theorem dL_bill_14 : decode cL_bill 14 = .ok (.ireturn, 1) := by decide +kernel
theorem dL_bill_15 : decode cL_bill 15 = .ok (.iconst 0, 1) := by decide +kernel
theorem dL_bill_16 : decode cL_bill 16 = .ok (.ireturn, 1) := by decide +kernel
set_option maxRecDepth 20000 in
theorem ggL_pass_X5_pass : GoodIn wsL_pass wsX5_pass := goodIn_ca (goodIn_ca (goodIn_r _ [7, 8, 9, 10, 11, 12, 13, 14, 15, 16, 17, 18, 19] (by decide +kernel) (by decide +kernel)) (goodIn_sub (fun _ h => List.mem_cons_of_mem _ (List.mem_append_left _ (List.mem_append_right _ h))) (by decide +kernel))) (goodIn_sub (fun _ h => List.mem_cons_of_mem _ (List.mem_append_right _ h)) (by decide +kernel))
set_option maxRecDepth 20000 in
theorem gL_pass_X5_pass : GoodIn wsL_pass (wsV RL 73 RX5 yX5_pass wsX5_pass) := goodIn_app (goodIn_of _ (by decide +kernel)) ggL_pass_X5_pass
theorem dL_pass_0 : decode cL_pass 0 = .ok (.aload_n 2, 1) := by decide +kernel
theorem dL_pass_1 : decode cL_pass 1 = .ok (.iconst 0, 1) := by decide +kernel
theorem dL_pass_2 : decode cL_pass 2 = .ok (.aload_n 0, 1) := by decide +kernel
theorem dL_pass_3 : decode cL_pass 3 = .ok (.iload_n 1, 1) := by decide +kernel
theorem dL_pass_4 : decode cL_pass 4 = .ok (.invokevirtual 73, 3) := by decide +kernel
theorem dL_pass_7 : decode cL_pass 7 = .ok (.i2l, 1) := by decide +kernel
theorem dL_pass_8 : decode cL_pass 8 = .ok (.lastore, 1) := by decide +kernel
theorem dL_pass_9 : decode cL_pass 9 = .ok (.goto 9, 3) := by decide +kernel
theorem dL_pass_12 : decode cL_pass 12 = .ok (.astore_n 3, 1) := by decide +kernel
theorem dL_pass_13 : decode cL_pass 13 = .ok (.iconst 1, 1) := by decide +kernel
theorem dL_pass_14 : decode cL_pass 14 = .ok (.ireturn, 1) := by decide +kernel
theorem dL_pass_15 : decode cL_pass 15 = .ok (.astore_n 3, 1) := by decide +kernel
theorem dL_pass_16 : decode cL_pass 16 = .ok (.iconst 2, 1) := by decide +kernel
theorem dL_pass_17 : decode cL_pass 17 = .ok (.ireturn, 1) := by decide +kernel
theorem dL_pass_18 : decode cL_pass 18 = .ok (.iconst 0, 1) := by decide +kernel
theorem dL_pass_19 : decode cL_pass 19 = .ok (.ireturn, 1) := by decide +kernel
set_option maxRecDepth 20000 in
theorem ggL_many_X5_many : GoodIn wsL_many wsX5_many := goodIn_ca (goodIn_r _ [6, 7, 8, 9, 10, 11, 12, 13, 14, 15, 16, 17, 18, 19, 20, 21, 22, 23, 24, 25, 26, 27, 28, 29, 30, 31, 32, 33, 34, 35, 36, 37, 38, 39, 5, 40, 41, 42, 43, 44, 45, 46, 47, 48, 49, 50, 51, 52, 53, 54, 55, 56, 57, 58, 59, 60, 61, 62, 63, 64, 65, 66, 67, 68, 69, 70, 71, 72, 73, 74, 75, 76, 77, 78, 79, 80, 81, 82, 83, 84, 85, 86, 87, 88, 89, 90, 91, 92, 93, 94, 95, 96, 97, 98, 99, 100] (by decide +kernel) (by decide +kernel)) (goodIn_sub (fun _ h => List.mem_cons_of_mem _ (List.mem_append_right _ h)) (by decide +kernel))
set_option maxRecDepth 20000 in
theorem gL_many_X5_many : GoodIn wsL_many (wsV RL 76 RX5 yX5_many wsX5_many) := goodIn_app (goodIn_of _ (by decide +kernel)) ggL_many_X5_many
theorem dL_many_0 : decode cL_many 0 = .ok (.aload_n 2, 1) := by decide +kernel
theorem dL_many_1 : decode cL_many 1 = .ok (.iconst 0, 1) := by decide +kernel
theorem dL_many_2 : decode cL_many 2 = .ok (.aload_n 0, 1) := by decide +kernel
theorem dL_many_3 : decode cL_many 3 = .ok (.iload_n 1, 1) := by decide +kernel
theorem dL_many_4 : decode cL_many 4 = .ok (.invokevirtual 76, 3) := by decide +kernel
theorem dL_many_7 : decode cL_many 7 = .ok (.i2l, 1) := by decide +kernel
theorem dL_many_8 : decode cL_many 8 = .ok (.lastore, 1) := by decide +kernel
theorem dL_many_9 : decode cL_many 9 = .ok (.goto 6, 3) := by decide +kernel
theorem dL_many_12 : decode cL_many 12 = .ok (.astore_n 3, 1) := by decide +kernel
theorem dL_many_13 : decode cL_many 13 = .ok (.iconst 1, 1) := by decide +kernel
theorem dL_many_14 : decode cL_many 14 = .ok (.ireturn, 1) := by decide +kernel
theorem dL_many_15 : decode cL_many 15 = .ok (.iconst 0, 1) := by decide +kernel
theorem dL_many_16 : decode cL_many 16 = .ok (.ireturn, 1) := by decide +kernel
set_option maxRecDepth 20000 in
theorem ggL_quote_X5_quote : GoodIn wsL_quote wsX5_quote := goodIn_ca (goodIn_ca (goodIn_r _ [7, 8, 9, 10, 11, 12, 13, 14, 6, 15, 16, 17, 18, 19, 20, 21, 22, 23, 24, 25, 26, 27, 28, 29, 30, 31, 32, 33, 34, 35, 36, 37, 38, 39, 40, 41, 42, 43, 44, 45, 46, 47, 48, 49, 50, 51, 52, 53, 54, 55, 56, 57, 58, 59, 60, 61, 62, 63, 64, 65, 66, 67, 68, 69, 70, 71, 72, 73, 74, 75, 76, 77, 78, 79, 80, 81, 82, 83, 84, 85, 86, 87, 88, 89, 90, 91, 92, 93, 94, 95] (by decide +kernel) (by decide +kernel)) (goodIn_sub (fun _ h => List.mem_cons_of_mem _ (List.mem_append_left _ (List.mem_append_right _ h))) (by decide +kernel))) (goodIn_sub (fun _ h => List.mem_cons_of_mem _ (List.mem_append_right _ h)) (by decide +kernel))
set_option maxRecDepth 20000 in
theorem gL_quote_X5_quote : GoodIn wsL_quote (wsV RL 79 RX5 yX5_quote wsX5_quote) := goodIn_app (goodIn_of _ (by decide +kernel)) ggL_quote_X5_quote
theorem dL_quote_0 : decode cL_quote 0 = .ok (.aload 5, 2) := by decide +kernel
theorem dL_quote_2 : decode cL_quote 2 = .ok (.iconst 0, 1) := by decide +kernel
theorem dL_quote_3 : decode cL_quote 3 = .ok (.aload_n 0, 1) := by decide +kernel
theorem dL_quote_4 : decode cL_quote 4 = .ok (.iload_n 1, 1) := by decide +kernel
theorem dL_quote_5 : decode cL_quote 5 = .ok (.iload_n 2, 1) := by decide +kernel
theorem dL_quote_6 : decode cL_quote 6 = .ok (.iload_n 3, 1) := by decide +kernel
theorem dL_quote_7 : decode cL_quote 7 = .ok (.iload 4, 2) := by decide +kernel
theorem dL_quote_9 : decode cL_quote 9 = .ok (.invokevirtual 79, 3) := by decide +kernel
theorem dL_quote_12 : decode cL_quote 12 = .ok (.i2l, 1) := by decide +kernel
theorem dL_quote_13 : decode cL_quote 13 = .ok (.lastore, 1) := by decide +kernel
theorem dL_quote_14 : decode cL_quote 14 = .ok (.goto 11, 3) := by decide +kernel
theorem dL_quote_17 : decode cL_quote 17 = .ok (.astore 6, 2) := by decide +kernel
theorem dL_quote_19 : decode cL_quote 19 = .ok (.iconst 1, 1) := by decide +kernel
theorem dL_quote_20 : decode cL_quote 20 = .ok (.ireturn, 1) := by decide +kernel
theorem dL_quote_21 : decode cL_quote 21 = .ok (.astore 6, 2) := by decide +kernel
theorem dL_quote_23 : decode cL_quote 23 = .ok (.iconst 2, 1) := by decide +kernel
theorem dL_quote_24 : decode cL_quote 24 = .ok (.ireturn, 1) := by decide +kernel
theorem dL_quote_25 : decode cL_quote 25 = .ok (.iconst 0, 1) := by decide +kernel
theorem dL_quote_26 : decode cL_quote 26 = .ok (.ireturn, 1) := by decide +kernel
set_option maxRecDepth 20000 in
theorem ggL_creditBy_X5_creditBy : GoodIn wsL_creditBy wsX5_creditBy := goodIn_ca (goodIn_ca (goodIn_r _ [7, 8, 9, 10, 6, 11, 12, 13, 14, 15, 16, 17, 18, 19, 20, 21, 22, 23, 24, 25, 26, 27, 28, 29, 30, 31, 32, 33, 34, 35, 36, 37, 38, 39, 40, 41, 42, 43, 44, 45, 46, 47, 48, 49, 50, 51, 52, 53, 54, 55, 56, 57, 58, 59, 60, 61, 62, 63, 64, 65, 66, 67, 68, 69, 70, 71, 72, 73, 74, 75, 76, 77, 78, 79, 80, 81, 82, 83, 84, 85, 86, 87, 88, 89, 90, 91, 92, 93, 94, 95, 96, 97, 98, 99, 100, 101, 102, 103, 104, 105, 106, 107, 108, 109, 110, 111, 112, 113, 114, 115, 116, 117, 118, 119, 120, 121, 122, 123, 124, 125] (by decide +kernel) (by decide +kernel)) (goodIn_sub (fun _ h => List.mem_cons_of_mem _ (List.mem_append_left _ (List.mem_append_right _ h))) (by decide +kernel))) (goodIn_sub (fun _ h => List.mem_cons_of_mem _ (List.mem_append_right _ h)) (by decide +kernel))
set_option maxRecDepth 20000 in
theorem gL_creditBy_X5_creditBy : GoodIn wsL_creditBy (wsV RL 82 RX5 yX5_creditBy wsX5_creditBy) := goodIn_app (goodIn_of _ (by decide +kernel)) ggL_creditBy_X5_creditBy
theorem dL_creditBy_0 : decode cL_creditBy 0 = .ok (.aload 5, 2) := by decide +kernel
theorem dL_creditBy_2 : decode cL_creditBy 2 = .ok (.iconst 0, 1) := by decide +kernel
theorem dL_creditBy_3 : decode cL_creditBy 3 = .ok (.aload_n 0, 1) := by decide +kernel
theorem dL_creditBy_4 : decode cL_creditBy 4 = .ok (.iload_n 1, 1) := by decide +kernel
theorem dL_creditBy_5 : decode cL_creditBy 5 = .ok (.iload_n 2, 1) := by decide +kernel
theorem dL_creditBy_6 : decode cL_creditBy 6 = .ok (.iload_n 3, 1) := by decide +kernel
theorem dL_creditBy_7 : decode cL_creditBy 7 = .ok (.iload 4, 2) := by decide +kernel
theorem dL_creditBy_9 : decode cL_creditBy 9 = .ok (.invokevirtual 82, 3) := by decide +kernel
theorem dL_creditBy_12 : decode cL_creditBy 12 = .ok (.i2l, 1) := by decide +kernel
theorem dL_creditBy_13 : decode cL_creditBy 13 = .ok (.lastore, 1) := by decide +kernel
theorem dL_creditBy_14 : decode cL_creditBy 14 = .ok (.goto 11, 3) := by decide +kernel
theorem dL_creditBy_17 : decode cL_creditBy 17 = .ok (.astore 6, 2) := by decide +kernel
theorem dL_creditBy_19 : decode cL_creditBy 19 = .ok (.iconst 1, 1) := by decide +kernel
theorem dL_creditBy_20 : decode cL_creditBy 20 = .ok (.ireturn, 1) := by decide +kernel
theorem dL_creditBy_21 : decode cL_creditBy 21 = .ok (.astore 6, 2) := by decide +kernel
theorem dL_creditBy_23 : decode cL_creditBy 23 = .ok (.iconst 2, 1) := by decide +kernel
theorem dL_creditBy_24 : decode cL_creditBy 24 = .ok (.ireturn, 1) := by decide +kernel
theorem dL_creditBy_25 : decode cL_creditBy 25 = .ok (.iconst 0, 1) := by decide +kernel
theorem dL_creditBy_26 : decode cL_creditBy 26 = .ok (.ireturn, 1) := by decide +kernel
set_option maxRecDepth 20000 in
theorem ggL_previews_X5_previews : GoodIn wsL_previews wsX5_previews := goodIn_ca (goodIn_r _ [6, 7, 8, 9, 10, 5, 11, 12, 13, 14, 15, 16, 17, 18, 19, 20, 21, 22, 23, 24, 25, 26, 27, 28, 29, 30, 31, 32, 33, 34, 35, 36, 37, 38, 39, 40, 41, 42, 43, 44, 45, 46, 47, 48, 49, 50, 51, 52, 53, 54, 55, 56, 57, 58, 59, 60, 61, 62, 63, 64, 65, 66, 67, 68, 69, 70, 71, 72, 73, 74, 75, 76, 77, 78, 79, 80, 81, 82, 83, 84, 85, 86, 87, 88] (by decide +kernel) (by decide +kernel)) (goodIn_sub (fun _ h => List.mem_cons_of_mem _ (List.mem_append_right _ h)) (by decide +kernel))
set_option maxRecDepth 20000 in
theorem gL_previews_X5_previews : GoodIn wsL_previews (wsV RL 85 RX5 yX5_previews wsX5_previews) := goodIn_app (goodIn_of _ (by decide +kernel)) ggL_previews_X5_previews
theorem dL_previews_0 : decode cL_previews 0 = .ok (.aload_n 3, 1) := by decide +kernel
theorem dL_previews_1 : decode cL_previews 1 = .ok (.iconst 0, 1) := by decide +kernel
theorem dL_previews_2 : decode cL_previews 2 = .ok (.aload_n 0, 1) := by decide +kernel
theorem dL_previews_3 : decode cL_previews 3 = .ok (.iload_n 1, 1) := by decide +kernel
theorem dL_previews_4 : decode cL_previews 4 = .ok (.iload_n 2, 1) := by decide +kernel
theorem dL_previews_5 : decode cL_previews 5 = .ok (.invokevirtual 85, 3) := by decide +kernel
theorem dL_previews_8 : decode cL_previews 8 = .ok (.i2l, 1) := by decide +kernel
theorem dL_previews_9 : decode cL_previews 9 = .ok (.lastore, 1) := by decide +kernel
theorem dL_previews_10 : decode cL_previews 10 = .ok (.goto 7, 3) := by decide +kernel
theorem dL_previews_13 : decode cL_previews 13 = .ok (.astore 4, 2) := by decide +kernel
theorem dL_previews_15 : decode cL_previews 15 = .ok (.iconst 1, 1) := by decide +kernel
theorem dL_previews_16 : decode cL_previews 16 = .ok (.ireturn, 1) := by decide +kernel
theorem dL_previews_17 : decode cL_previews 17 = .ok (.iconst 0, 1) := by decide +kernel
theorem dL_previews_18 : decode cL_previews 18 = .ok (.ireturn, 1) := by decide +kernel
set_option maxRecDepth 20000 in
theorem ggL_neededBy_X5_neededBy : GoodIn wsL_neededBy wsX5_neededBy := goodIn_ca (goodIn_r _ [6, 7, 8, 9, 10, 5, 11, 12, 13, 14, 15, 16, 17, 18, 19, 20, 21, 22, 23, 24, 25, 26, 27, 28, 29, 30, 31, 32, 33, 34, 35, 36, 37, 38, 39, 40, 41, 42, 43, 44, 45, 46, 47, 48, 49, 50, 51, 52, 53, 54, 55, 56, 57, 58, 59, 60, 61, 62, 63, 64] (by decide +kernel) (by decide +kernel)) (goodIn_sub (fun _ h => List.mem_cons_of_mem _ (List.mem_append_right _ h)) (by decide +kernel))
set_option maxRecDepth 20000 in
theorem gL_neededBy_X5_neededBy : GoodIn wsL_neededBy (wsV RL 88 RX5 yX5_neededBy wsX5_neededBy) := goodIn_app (goodIn_of _ (by decide +kernel)) ggL_neededBy_X5_neededBy
theorem dL_neededBy_0 : decode cL_neededBy 0 = .ok (.aload_n 2, 1) := by decide +kernel
theorem dL_neededBy_1 : decode cL_neededBy 1 = .ok (.iconst 0, 1) := by decide +kernel
theorem dL_neededBy_2 : decode cL_neededBy 2 = .ok (.aload_n 0, 1) := by decide +kernel
theorem dL_neededBy_3 : decode cL_neededBy 3 = .ok (.iload_n 1, 1) := by decide +kernel
theorem dL_neededBy_4 : decode cL_neededBy 4 = .ok (.invokevirtual 88, 3) := by decide +kernel
theorem dL_neededBy_7 : decode cL_neededBy 7 = .ok (.i2l, 1) := by decide +kernel
theorem dL_neededBy_8 : decode cL_neededBy 8 = .ok (.lastore, 1) := by decide +kernel
theorem dL_neededBy_9 : decode cL_neededBy 9 = .ok (.goto 6, 3) := by decide +kernel
theorem dL_neededBy_12 : decode cL_neededBy 12 = .ok (.astore_n 3, 1) := by decide +kernel
theorem dL_neededBy_13 : decode cL_neededBy 13 = .ok (.iconst 1, 1) := by decide +kernel
theorem dL_neededBy_14 : decode cL_neededBy 14 = .ok (.ireturn, 1) := by decide +kernel
theorem dL_neededBy_15 : decode cL_neededBy 15 = .ok (.iconst 0, 1) := by decide +kernel
theorem dL_neededBy_16 : decode cL_neededBy 16 = .ok (.ireturn, 1) := by decide +kernel
