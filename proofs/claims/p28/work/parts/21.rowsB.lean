set_option maxRecDepth 20000 in
theorem ggX5_init_X4_init : GoodIn wsX5_init wsX4_init := goodIn_r _ [28, 29, 2, 3, 30, 24, 31, 32, 33, 34, 35, 80, 81, 82, 83, 84, 85] (by decide +kernel) (by decide +kernel)
set_option maxRecDepth 20000 in
theorem gX5_init_X4_init_n11 : GoodIn wsX5_init (wsX4_init) := ggX5_init_X4_init
set_option maxRecDepth 20000 in
theorem ggX5_init_X2_init : GoodIn wsX5_init wsX2_init := goodIn_r _ [37, 38, 2, 3, 39, 24, 40, 41, 42, 43, 44, 45, 46, 47, 48, 93, 94, 95, 96, 97, 98, 99, 100, 101] (by decide +kernel) (by decide +kernel)
set_option maxRecDepth 20000 in
theorem gX5_init_X2_init_n18 : GoodIn wsX5_init (wsX2_init) := ggX5_init_X2_init
set_option maxRecDepth 20000 in
theorem ggX5_init_X1_init : GoodIn wsX5_init wsX1_init := goodIn_r _ [50, 51, 2, 3, 24, 52, 47, 53, 54, 55, 102, 103, 104, 105] (by decide +kernel) (by decide +kernel)
set_option maxRecDepth 20000 in
theorem gX5_init_X1_init_n25 : GoodIn wsX5_init (wsX1_init) := ggX5_init_X1_init
set_option maxRecDepth 20000 in
theorem ggX5_init_X0_init : GoodIn wsX5_init wsX0_init := goodIn_r _ [57, 58, 2, 3, 59, 24, 60, 61, 62, 63, 64, 65, 106, 107, 108, 109, 110, 111, 112] (by decide +kernel) (by decide +kernel)
set_option maxRecDepth 20000 in
theorem gX5_init_X0_init_n32 : GoodIn wsX5_init (wsX0_init) := ggX5_init_X0_init
set_option maxRecDepth 20000 in
theorem ggX5_init_X3_init : GoodIn wsX5_init wsX3_init := goodIn_r _ [67, 68, 2, 3, 69, 24, 70, 71, 72, 73, 74, 75, 76, 77, 78, 79, 113, 114, 115, 116, 117, 118, 119, 120, 121, 122, 123] (by decide +kernel) (by decide +kernel)
set_option maxRecDepth 20000 in
theorem gX5_init_X3_init_n39 : GoodIn wsX5_init (wsX3_init) := ggX5_init_X3_init
theorem dX5_init_0 : decode cX5_init 0 = .ok (.aload_n 0, 1) := by decide +kernel
theorem dX5_init_1 : decode cX5_init 1 = .ok (.invokespecial 3, 3) := by decide +kernel
theorem dX5_init_4 : decode cX5_init 4 = .ok (.aload_n 0, 1) := by decide +kernel
theorem dX5_init_5 : decode cX5_init 5 = .ok (.new 9, 3) := by decide +kernel
theorem dX5_init_8 : decode cX5_init 8 = .ok (.dup, 1) := by decide +kernel
theorem dX5_init_9 : decode cX5_init 9 = .ok (.invokespecial 11, 3) := by decide +kernel
theorem dX5_init_12 : decode cX5_init 12 = .ok (.putfield 12, 3) := by decide +kernel
theorem dX5_init_15 : decode cX5_init 15 = .ok (.aload_n 0, 1) := by decide +kernel
theorem dX5_init_16 : decode cX5_init 16 = .ok (.new 16, 3) := by decide +kernel
theorem dX5_init_19 : decode cX5_init 19 = .ok (.dup, 1) := by decide +kernel
theorem dX5_init_20 : decode cX5_init 20 = .ok (.invokespecial 18, 3) := by decide +kernel
theorem dX5_init_23 : decode cX5_init 23 = .ok (.putfield 19, 3) := by decide +kernel
theorem dX5_init_26 : decode cX5_init 26 = .ok (.aload_n 0, 1) := by decide +kernel
theorem dX5_init_27 : decode cX5_init 27 = .ok (.new 23, 3) := by decide +kernel
theorem dX5_init_30 : decode cX5_init 30 = .ok (.dup, 1) := by decide +kernel
theorem dX5_init_31 : decode cX5_init 31 = .ok (.invokespecial 25, 3) := by decide +kernel
theorem dX5_init_34 : decode cX5_init 34 = .ok (.putfield 26, 3) := by decide +kernel
theorem dX5_init_37 : decode cX5_init 37 = .ok (.aload_n 0, 1) := by decide +kernel
theorem dX5_init_38 : decode cX5_init 38 = .ok (.new 30, 3) := by decide +kernel
theorem dX5_init_41 : decode cX5_init 41 = .ok (.dup, 1) := by decide +kernel
theorem dX5_init_42 : decode cX5_init 42 = .ok (.invokespecial 32, 3) := by decide +kernel
theorem dX5_init_45 : decode cX5_init 45 = .ok (.putfield 33, 3) := by decide +kernel
theorem dX5_init_48 : decode cX5_init 48 = .ok (.aload_n 0, 1) := by decide +kernel
theorem dX5_init_49 : decode cX5_init 49 = .ok (.new 37, 3) := by decide +kernel
theorem dX5_init_52 : decode cX5_init 52 = .ok (.dup, 1) := by decide +kernel
theorem dX5_init_53 : decode cX5_init 53 = .ok (.invokespecial 39, 3) := by decide +kernel
theorem dX5_init_56 : decode cX5_init 56 = .ok (.putfield 40, 3) := by decide +kernel
theorem dX5_init_59 : decode cX5_init 59 = .ok (.aload_n 0, 1) := by decide +kernel
theorem dX5_init_60 : decode cX5_init 60 = .ok (.bipush 48, 2) := by decide +kernel
theorem dX5_init_62 : decode cX5_init 62 = .ok (.newarray .int, 2) := by decide +kernel
theorem dX5_init_64 : decode cX5_init 64 = .ok (.putfield 44, 3) := by decide +kernel
theorem dX5_init_67 : decode cX5_init 67 = .ok (.aload_n 0, 1) := by decide +kernel
theorem dX5_init_68 : decode cX5_init 68 = .ok (.iconst 0, 1) := by decide +kernel
theorem dX5_init_69 : decode cX5_init 69 = .ok (.putfield 48, 3) := by decide +kernel
theorem dX5_init_72 : decode cX5_init 72 = .ok (.return_, 1) := by decide +kernel
set_option maxRecDepth 20000 in
theorem ggX5_set_X4_addSet : GoodIn wsX5_set wsX4_addSet := goodIn_r _ [10, 11, 12, 13, 14, 15, 16, 17, 25, 26, 27, 28, 29, 30] (by decide +kernel) (by decide +kernel)
set_option maxRecDepth 20000 in
theorem gX5_set_X4_addSet : GoodIn wsX5_set (wsV RX5 67 RX4 yX4_addSet wsX4_addSet) := goodIn_app (goodIn_of _ (by decide +kernel)) ggX5_set_X4_addSet
theorem dX5_set_0 : decode cX5_set 0 = .ok (.iload_n 1, 1) := by decide +kernel
theorem dX5_set_1 : decode cX5_set 1 = .ok (.iconst 1, 1) := by decide +kernel
theorem dX5_set_2 : decode cX5_set 2 = .ok (.if_icmp .lt 9, 3) := by decide +kernel
theorem dX5_set_5 : decode cX5_set 5 = .ok (.iload_n 1, 1) := by decide +kernel
theorem dX5_set_6 : decode cX5_set 6 = .ok (.bipush 6, 2) := by decide +kernel
theorem dX5_set_8 : decode cX5_set 8 = .ok (.if_icmp .le 13, 3) := by decide +kernel
theorem dX5_set_11 : decode cX5_set 11 = .ok (.new 52, 3) := by decide +kernel
theorem dX5_set_14 : decode cX5_set 14 = .ok (.dup, 1) := by decide +kernel
theorem dX5_set_15 : decode cX5_set 15 = .ok (.ldc 54, 2) := by decide +kernel
theorem dX5_set_17 : decode cX5_set 17 = .ok (.invokespecial 56, 3) := by decide +kernel
theorem dX5_set_20 : decode cX5_set 20 = .ok (.athrow, 1) := by decide +kernel
theorem dX5_set_21 : decode cX5_set 21 = .ok (.aload_n 0, 1) := by decide +kernel
theorem dX5_set_22 : decode cX5_set 22 = .ok (.getfield 12, 3) := by decide +kernel
theorem dX5_set_25 : decode cX5_set 25 = .ok (.getfield 59, 3) := by decide +kernel
theorem dX5_set_28 : decode cX5_set 28 = .ok (.bipush 8, 2) := by decide +kernel
theorem dX5_set_30 : decode cX5_set 30 = .ok (.if_icmp .lt 13, 3) := by decide +kernel
theorem dX5_set_33 : decode cX5_set 33 = .ok (.new 62, 3) := by decide +kernel
theorem dX5_set_36 : decode cX5_set 36 = .ok (.dup, 1) := by decide +kernel
theorem dX5_set_37 : decode cX5_set 37 = .ok (.ldc 64, 2) := by decide +kernel
theorem dX5_set_39 : decode cX5_set 39 = .ok (.invokespecial 66, 3) := by decide +kernel
theorem dX5_set_42 : decode cX5_set 42 = .ok (.athrow, 1) := by decide +kernel
theorem dX5_set_43 : decode cX5_set 43 = .ok (.aload_n 0, 1) := by decide +kernel
theorem dX5_set_44 : decode cX5_set 44 = .ok (.getfield 12, 3) := by decide +kernel
theorem dX5_set_47 : decode cX5_set 47 = .ok (.iload_n 1, 1) := by decide +kernel
theorem dX5_set_48 : decode cX5_set 48 = .ok (.invokevirtual 67, 3) := by decide +kernel
theorem dX5_set_51 : decode cX5_set 51 = .ok (.ireturn, 1) := by decide +kernel
set_option maxRecDepth 20000 in
theorem ggX5_terms_X5_needField : GoodIn wsX5_terms wsX5_needField := goodIn_ca (goodIn_r _ [8, 9, 10, 3, 11, 12, 13, 7, 14, 15, 16, 17, 18, 19, 20, 24, 25, 26, 27, 28, 29, 30, 31, 32, 33, 34, 35, 36] (by decide +kernel) (by decide +kernel)) (goodIn_sub (fun _ h => List.mem_cons_of_mem _ (List.mem_append_right _ h)) (by decide +kernel))
set_option maxRecDepth 20000 in
theorem gX5_terms_X5_needField : GoodIn wsX5_terms (wsV RX5 71 RX5 yX5_needField wsX5_needField) := goodIn_app (goodIn_of _ (by decide +kernel)) ggX5_terms_X5_needField
set_option maxRecDepth 20000 in
theorem ggX5_terms_X5_fieldAt : GoodIn wsX5_terms wsX5_fieldAt := goodIn_r _ [23] (by decide +kernel) (by decide +kernel)
set_option maxRecDepth 20000 in
theorem gX5_terms_X5_fieldAt : GoodIn wsX5_terms (va_wsS RX5 79 yX5_fieldAt wsX5_fieldAt) := goodIn_app (goodIn_of _ (by decide +kernel)) ggX5_terms_X5_fieldAt
theorem dX5_terms_0 : decode cX5_terms 0 = .ok (.aload_n 0, 1) := by decide +kernel
theorem dX5_terms_1 : decode cX5_terms 1 = .ok (.iload_n 1, 1) := by decide +kernel
theorem dX5_terms_2 : decode cX5_terms 2 = .ok (.iload_n 2, 1) := by decide +kernel
theorem dX5_terms_3 : decode cX5_terms 3 = .ok (.invokevirtual 71, 3) := by decide +kernel
theorem dX5_terms_6 : decode cX5_terms 6 = .ok (.iload_n 3, 1) := by decide +kernel
theorem dX5_terms_7 : decode cX5_terms 7 = .ok (.iconst 1, 1) := by decide +kernel
theorem dX5_terms_8 : decode cX5_terms 8 = .ok (.if_icmp .lt 9, 3) := by decide +kernel
theorem dX5_terms_11 : decode cX5_terms 11 = .ok (.iload_n 3, 1) := by decide +kernel
theorem dX5_terms_12 : decode cX5_terms 12 = .ok (.bipush 99, 2) := by decide +kernel
theorem dX5_terms_14 : decode cX5_terms 14 = .ok (.if_icmp .le 13, 3) := by decide +kernel
theorem dX5_terms_17 : decode cX5_terms 17 = .ok (.new 52, 3) := by decide +kernel
theorem dX5_terms_20 : decode cX5_terms 20 = .ok (.dup, 1) := by decide +kernel
theorem dX5_terms_21 : decode cX5_terms 21 = .ok (.ldc 75, 2) := by decide +kernel
theorem dX5_terms_23 : decode cX5_terms 23 = .ok (.invokespecial 56, 3) := by decide +kernel
theorem dX5_terms_26 : decode cX5_terms 26 = .ok (.athrow, 1) := by decide +kernel
theorem dX5_terms_27 : decode cX5_terms 27 = .ok (.iload 4, 2) := by decide +kernel
theorem dX5_terms_29 : decode cX5_terms 29 = .ok (.ifCond .lt 11, 3) := by decide +kernel
theorem dX5_terms_32 : decode cX5_terms 32 = .ok (.iload 4, 2) := by decide +kernel
theorem dX5_terms_34 : decode cX5_terms 34 = .ok (.sipush 1000, 3) := by decide +kernel
theorem dX5_terms_37 : decode cX5_terms 37 = .ok (.if_icmp .le 13, 3) := by decide +kernel
theorem dX5_terms_40 : decode cX5_terms 40 = .ok (.new 52, 3) := by decide +kernel
theorem dX5_terms_43 : decode cX5_terms 43 = .ok (.dup, 1) := by decide +kernel
theorem dX5_terms_44 : decode cX5_terms 44 = .ok (.ldc 77, 2) := by decide +kernel
theorem dX5_terms_46 : decode cX5_terms 46 = .ok (.invokespecial 56, 3) := by decide +kernel
theorem dX5_terms_49 : decode cX5_terms 49 = .ok (.athrow, 1) := by decide +kernel
theorem dX5_terms_50 : decode cX5_terms 50 = .ok (.iload_n 1, 1) := by decide +kernel
theorem dX5_terms_51 : decode cX5_terms 51 = .ok (.iload_n 2, 1) := by decide +kernel
theorem dX5_terms_52 : decode cX5_terms 52 = .ok (.invokestatic 79, 3) := by decide +kernel
theorem dX5_terms_55 : decode cX5_terms 55 = .ok (.istore 5, 2) := by decide +kernel
theorem dX5_terms_57 : decode cX5_terms 57 = .ok (.aload_n 0, 1) := by decide +kernel
theorem dX5_terms_58 : decode cX5_terms 58 = .ok (.getfield 12, 3) := by decide +kernel
theorem dX5_terms_61 : decode cX5_terms 61 = .ok (.getfield 83, 3) := by decide +kernel
theorem dX5_terms_64 : decode cX5_terms 64 = .ok (.iload 5, 2) := by decide +kernel
theorem dX5_terms_66 : decode cX5_terms 66 = .ok (.iaload, 1) := by decide +kernel
theorem dX5_terms_67 : decode cX5_terms 67 = .ok (.istore 6, 2) := by decide +kernel
theorem dX5_terms_69 : decode cX5_terms 69 = .ok (.aload_n 0, 1) := by decide +kernel
theorem dX5_terms_70 : decode cX5_terms 70 = .ok (.getfield 12, 3) := by decide +kernel
theorem dX5_terms_73 : decode cX5_terms 73 = .ok (.getfield 83, 3) := by decide +kernel
theorem dX5_terms_76 : decode cX5_terms 76 = .ok (.iload 5, 2) := by decide +kernel
theorem dX5_terms_78 : decode cX5_terms 78 = .ok (.iload_n 3, 1) := by decide +kernel
theorem dX5_terms_79 : decode cX5_terms 79 = .ok (.iastore, 1) := by decide +kernel
theorem dX5_terms_80 : decode cX5_terms 80 = .ok (.aload_n 0, 1) := by decide +kernel
theorem dX5_terms_81 : decode cX5_terms 81 = .ok (.getfield 12, 3) := by decide +kernel
theorem dX5_terms_84 : decode cX5_terms 84 = .ok (.getfield 86, 3) := by decide +kernel
theorem dX5_terms_87 : decode cX5_terms 87 = .ok (.iload 5, 2) := by decide +kernel
theorem dX5_terms_89 : decode cX5_terms 89 = .ok (.iload 4, 2) := by decide +kernel
theorem dX5_terms_91 : decode cX5_terms 91 = .ok (.iastore, 1) := by decide +kernel
theorem dX5_terms_92 : decode cX5_terms 92 = .ok (.iload 6, 2) := by decide +kernel
theorem dX5_terms_94 : decode cX5_terms 94 = .ok (.ireturn, 1) := by decide +kernel
set_option maxRecDepth 20000 in
theorem ggX5_source_X5_needField : GoodIn wsX5_source wsX5_needField := goodIn_ca (goodIn_r _ [10, 11, 12, 13, 14, 15, 16, 9, 17, 18, 19, 20, 21, 22, 23, 44, 45, 46, 47, 48, 49, 50, 60, 61, 62, 63, 64, 65] (by decide +kernel) (by decide +kernel)) (goodIn_sub (fun _ h => List.mem_cons_of_mem _ (List.mem_append_right _ h)) (by decide +kernel))
set_option maxRecDepth 20000 in
theorem gX5_source_X5_needField : GoodIn wsX5_source (wsV RX5 71 RX5 yX5_needField wsX5_needField) := goodIn_app (goodIn_of _ (by decide +kernel)) ggX5_source_X5_needField
set_option maxRecDepth 20000 in
theorem ggX5_source_X5_fieldAt : GoodIn wsX5_source wsX5_fieldAt := goodIn_r _ [26] (by decide +kernel) (by decide +kernel)
set_option maxRecDepth 20000 in
theorem gX5_source_X5_fieldAt : GoodIn wsX5_source (va_wsS RX5 79 yX5_fieldAt wsX5_fieldAt) := goodIn_app (goodIn_of _ (by decide +kernel)) ggX5_source_X5_fieldAt
set_option maxRecDepth 20000 in
theorem ggX5_source_X2_findSource : GoodIn wsX5_source wsX2_findSource := goodIn_r _ [31, 32, 33, 34, 51, 52, 53, 54, 55, 56, 57, 58, 59] (by decide +kernel) (by decide +kernel)
set_option maxRecDepth 20000 in
theorem gX5_source_X2_findSource : GoodIn wsX5_source (wsV RX5 93 RX2 yX2_findSource wsX2_findSource) := goodIn_app (goodIn_of _ (by decide +kernel)) ggX5_source_X2_findSource
set_option maxRecDepth 20000 in
theorem ggX5_source_X2_addSource : GoodIn wsX5_source wsX2_addSource := goodIn_r _ [38, 33, 32, 34, 39, 51, 52, 53, 54, 55, 56, 57, 58, 59] (by decide +kernel) (by decide +kernel)
set_option maxRecDepth 20000 in
theorem gX5_source_X2_addSource : GoodIn wsX5_source (wsV RX5 101 RX2 yX2_addSource wsX2_addSource) := goodIn_app (goodIn_of _ (by decide +kernel)) ggX5_source_X2_addSource
set_option maxRecDepth 20000 in
theorem ggX5_source_X2_countSources : GoodIn wsX5_source wsX2_countSources := goodIn_r _ [43, 32, 33, 51, 52, 53, 54, 55, 56, 57, 58, 59] (by decide +kernel) (by decide +kernel)
set_option maxRecDepth 20000 in
theorem gX5_source_X2_countSources : GoodIn wsX5_source (wsV RX5 108 RX2 yX2_countSources wsX2_countSources) := goodIn_app (goodIn_of _ (by decide +kernel)) ggX5_source_X2_countSources
theorem dX5_source_0 : decode cX5_source 0 = .ok (.aload_n 0, 1) := by decide +kernel
theorem dX5_source_1 : decode cX5_source 1 = .ok (.iload_n 1, 1) := by decide +kernel
theorem dX5_source_2 : decode cX5_source 2 = .ok (.iload_n 2, 1) := by decide +kernel
theorem dX5_source_3 : decode cX5_source 3 = .ok (.invokevirtual 71, 3) := by decide +kernel
theorem dX5_source_6 : decode cX5_source 6 = .ok (.aload_n 0, 1) := by decide +kernel
theorem dX5_source_7 : decode cX5_source 7 = .ok (.iload_n 3, 1) := by decide +kernel
theorem dX5_source_8 : decode cX5_source 8 = .ok (.iload 4, 2) := by decide +kernel
theorem dX5_source_10 : decode cX5_source 10 = .ok (.invokevirtual 71, 3) := by decide +kernel
theorem dX5_source_13 : decode cX5_source 13 = .ok (.iload_n 3, 1) := by decide +kernel
theorem dX5_source_14 : decode cX5_source 14 = .ok (.iload_n 1, 1) := by decide +kernel
theorem dX5_source_15 : decode cX5_source 15 = .ok (.if_icmp .lt 13, 3) := by decide +kernel
theorem dX5_source_18 : decode cX5_source 18 = .ok (.new 52, 3) := by decide +kernel
theorem dX5_source_21 : decode cX5_source 21 = .ok (.dup, 1) := by decide +kernel
theorem dX5_source_22 : decode cX5_source 22 = .ok (.ldc 89, 2) := by decide +kernel
theorem dX5_source_24 : decode cX5_source 24 = .ok (.invokespecial 56, 3) := by decide +kernel
theorem dX5_source_27 : decode cX5_source 27 = .ok (.athrow, 1) := by decide +kernel
theorem dX5_source_28 : decode cX5_source 28 = .ok (.iload 5, 2) := by decide +kernel
theorem dX5_source_30 : decode cX5_source 30 = .ok (.iconst 1, 1) := by decide +kernel
theorem dX5_source_31 : decode cX5_source 31 = .ok (.if_icmp .lt 10, 3) := by decide +kernel
theorem dX5_source_34 : decode cX5_source 34 = .ok (.iload 5, 2) := by decide +kernel
theorem dX5_source_36 : decode cX5_source 36 = .ok (.bipush 100, 2) := by decide +kernel
theorem dX5_source_38 : decode cX5_source 38 = .ok (.if_icmp .le 13, 3) := by decide +kernel
theorem dX5_source_41 : decode cX5_source 41 = .ok (.new 52, 3) := by decide +kernel
theorem dX5_source_44 : decode cX5_source 44 = .ok (.dup, 1) := by decide +kernel
theorem dX5_source_45 : decode cX5_source 45 = .ok (.ldc 91, 2) := by decide +kernel
theorem dX5_source_47 : decode cX5_source 47 = .ok (.invokespecial 56, 3) := by decide +kernel
theorem dX5_source_50 : decode cX5_source 50 = .ok (.athrow, 1) := by decide +kernel
theorem dX5_source_51 : decode cX5_source 51 = .ok (.iload_n 1, 1) := by decide +kernel
theorem dX5_source_52 : decode cX5_source 52 = .ok (.iload_n 2, 1) := by decide +kernel
theorem dX5_source_53 : decode cX5_source 53 = .ok (.invokestatic 79, 3) := by decide +kernel
theorem dX5_source_56 : decode cX5_source 56 = .ok (.istore 6, 2) := by decide +kernel
theorem dX5_source_58 : decode cX5_source 58 = .ok (.iload_n 3, 1) := by decide +kernel
theorem dX5_source_59 : decode cX5_source 59 = .ok (.iload 4, 2) := by decide +kernel
theorem dX5_source_61 : decode cX5_source 61 = .ok (.invokestatic 79, 3) := by decide +kernel
theorem dX5_source_64 : decode cX5_source 64 = .ok (.istore 7, 2) := by decide +kernel
theorem dX5_source_66 : decode cX5_source 66 = .ok (.aload_n 0, 1) := by decide +kernel
theorem dX5_source_67 : decode cX5_source 67 = .ok (.getfield 19, 3) := by decide +kernel
theorem dX5_source_70 : decode cX5_source 70 = .ok (.iload 6, 2) := by decide +kernel
theorem dX5_source_72 : decode cX5_source 72 = .ok (.iload 7, 2) := by decide +kernel
theorem dX5_source_74 : decode cX5_source 74 = .ok (.invokevirtual 93, 3) := by decide +kernel
theorem dX5_source_77 : decode cX5_source 77 = .ok (.istore 8, 2) := by decide +kernel
theorem dX5_source_79 : decode cX5_source 79 = .ok (.iload 8, 2) := by decide +kernel
theorem dX5_source_81 : decode cX5_source 81 = .ok (.iconst (-1), 1) := by decide +kernel
theorem dX5_source_82 : decode cX5_source 82 = .ok (.if_icmp .ne 25, 3) := by decide +kernel
theorem dX5_source_85 : decode cX5_source 85 = .ok (.aload_n 0, 1) := by decide +kernel
theorem dX5_source_86 : decode cX5_source 86 = .ok (.getfield 19, 3) := by decide +kernel
theorem dX5_source_89 : decode cX5_source 89 = .ok (.getfield 96, 3) := by decide +kernel
theorem dX5_source_92 : decode cX5_source 92 = .ok (.bipush 20, 2) := by decide +kernel
theorem dX5_source_94 : decode cX5_source 94 = .ok (.if_icmp .lt 13, 3) := by decide +kernel
theorem dX5_source_97 : decode cX5_source 97 = .ok (.new 62, 3) := by decide +kernel
theorem dX5_source_100 : decode cX5_source 100 = .ok (.dup, 1) := by decide +kernel
theorem dX5_source_101 : decode cX5_source 101 = .ok (.ldc 99, 2) := by decide +kernel
theorem dX5_source_103 : decode cX5_source 103 = .ok (.invokespecial 66, 3) := by decide +kernel
theorem dX5_source_106 : decode cX5_source 106 = .ok (.athrow, 1) := by decide +kernel
theorem dX5_source_107 : decode cX5_source 107 = .ok (.iload 8, 2) := by decide +kernel
theorem dX5_source_109 : decode cX5_source 109 = .ok (.iconst (-1), 1) := by decide +kernel
theorem dX5_source_110 : decode cX5_source 110 = .ok (.if_icmp .ne 19, 3) := by decide +kernel
theorem dX5_source_113 : decode cX5_source 113 = .ok (.aload_n 0, 1) := by decide +kernel
theorem dX5_source_114 : decode cX5_source 114 = .ok (.getfield 19, 3) := by decide +kernel
theorem dX5_source_117 : decode cX5_source 117 = .ok (.iload 6, 2) := by decide +kernel
theorem dX5_source_119 : decode cX5_source 119 = .ok (.iload 7, 2) := by decide +kernel
theorem dX5_source_121 : decode cX5_source 121 = .ok (.iload 5, 2) := by decide +kernel
theorem dX5_source_123 : decode cX5_source 123 = .ok (.invokevirtual 101, 3) := by decide +kernel
theorem dX5_source_126 : decode cX5_source 126 = .ok (.goto 15, 3) := by decide +kernel
theorem dX5_source_129 : decode cX5_source 129 = .ok (.aload_n 0, 1) := by decide +kernel
theorem dX5_source_130 : decode cX5_source 130 = .ok (.getfield 19, 3) := by decide +kernel
theorem dX5_source_133 : decode cX5_source 133 = .ok (.getfield 105, 3) := by decide +kernel
theorem dX5_source_136 : decode cX5_source 136 = .ok (.iload 8, 2) := by decide +kernel
theorem dX5_source_138 : decode cX5_source 138 = .ok (.iload 5, 2) := by decide +kernel
theorem dX5_source_140 : decode cX5_source 140 = .ok (.iastore, 1) := by decide +kernel
theorem dX5_source_141 : decode cX5_source 141 = .ok (.aload_n 0, 1) := by decide +kernel
theorem dX5_source_142 : decode cX5_source 142 = .ok (.getfield 19, 3) := by decide +kernel
theorem dX5_source_145 : decode cX5_source 145 = .ok (.iload 6, 2) := by decide +kernel
theorem dX5_source_147 : decode cX5_source 147 = .ok (.invokevirtual 108, 3) := by decide +kernel
theorem dX5_source_150 : decode cX5_source 150 = .ok (.ireturn, 1) := by decide +kernel
set_option maxRecDepth 20000 in
theorem ggX5_version_X5_needSet : GoodIn wsX5_version wsX5_needSet := goodIn_ca (goodIn_r _ [12, 13, 14, 5, 15, 16, 17, 18, 19, 20, 71, 72, 73, 74, 75, 76, 77, 78, 79, 80, 81, 82, 83] (by decide +kernel) (by decide +kernel)) (goodIn_sub (fun _ h => List.mem_cons_of_mem _ (List.mem_append_right _ h)) (by decide +kernel))
set_option maxRecDepth 20000 in
theorem gX5_version_X5_needSet : GoodIn wsX5_version (wsV RX5 111 RX5 yX5_needSet wsX5_needSet) := goodIn_app (goodIn_of _ (by decide +kernel)) ggX5_version_X5_needSet
set_option maxRecDepth 20000 in
theorem ggX5_version_X4_addVersion : GoodIn wsX5_version wsX4_addVersion := goodIn_r _ [24, 25, 26, 27, 11, 28, 78, 79, 80, 81, 82, 83] (by decide +kernel) (by decide +kernel)
set_option maxRecDepth 20000 in
theorem gX5_version_X4_addVersion : GoodIn wsX5_version (wsV RX5 122 RX4 yX4_addVersion wsX4_addVersion) := goodIn_app (goodIn_of _ (by decide +kernel)) ggX5_version_X4_addVersion
set_option maxRecDepth 20000 in
theorem ggX5_version_X2_linkVersion : GoodIn wsX5_version wsX2_linkVersion := goodIn_r _ [33, 34, 35, 36, 37, 38, 39, 40, 18, 41, 25, 42, 11, 43, 44, 45, 46, 32, 47, 48, 49, 50, 51, 84, 85, 86, 87, 88, 89, 90, 91, 92, 78, 79, 80, 81, 82, 83] (by decide +kernel) (by decide +kernel)
set_option maxRecDepth 20000 in
theorem gX5_version_X2_linkVersion : GoodIn wsX5_version (wsV RX5 125 RX2 yX2_linkVersion wsX2_linkVersion) := goodIn_app (goodIn_of _ (by decide +kernel)) ggX5_version_X2_linkVersion
set_option maxRecDepth 20000 in
theorem ggX5_version_X1_settle : GoodIn wsX5_version wsX1_settle := goodIn_r _ [56, 57, 58, 59, 60, 55, 61, 62, 63, 64, 65, 32, 66, 48, 49, 50, 51, 67, 68, 69, 70, 93, 94, 95, 96, 84, 85, 86, 87, 88, 89, 90, 91, 92] (by decide +kernel) (by decide +kernel)
set_option maxRecDepth 20000 in
theorem gX5_version_X1_settle : GoodIn wsX5_version (wsV RX5 129 RX1 yX1_settle wsX1_settle) := goodIn_app (goodIn_of _ (by decide +kernel)) ggX5_version_X1_settle
theorem dX5_version_0 : decode cX5_version 0 = .ok (.aload_n 0, 1) := by decide +kernel
theorem dX5_version_1 : decode cX5_version 1 = .ok (.iload_n 1, 1) := by decide +kernel
theorem dX5_version_2 : decode cX5_version 2 = .ok (.invokevirtual 111, 3) := by decide +kernel
theorem dX5_version_5 : decode cX5_version 5 = .ok (.iload_n 2, 1) := by decide +kernel
theorem dX5_version_6 : decode cX5_version 6 = .ok (.iconst 1, 1) := by decide +kernel
theorem dX5_version_7 : decode cX5_version 7 = .ok (.if_icmp .lt 10, 3) := by decide +kernel
theorem dX5_version_10 : decode cX5_version 10 = .ok (.iload_n 2, 1) := by decide +kernel
theorem dX5_version_11 : decode cX5_version 11 = .ok (.sipush 9999, 3) := by decide +kernel
theorem dX5_version_14 : decode cX5_version 14 = .ok (.if_icmp .le 13, 3) := by decide +kernel
theorem dX5_version_17 : decode cX5_version 17 = .ok (.new 52, 3) := by decide +kernel
theorem dX5_version_20 : decode cX5_version 20 = .ok (.dup, 1) := by decide +kernel
theorem dX5_version_21 : decode cX5_version 21 = .ok (.ldc 115, 2) := by decide +kernel
theorem dX5_version_23 : decode cX5_version 23 = .ok (.invokespecial 56, 3) := by decide +kernel
theorem dX5_version_26 : decode cX5_version 26 = .ok (.athrow, 1) := by decide +kernel
theorem dX5_version_27 : decode cX5_version 27 = .ok (.aload_n 0, 1) := by decide +kernel
theorem dX5_version_28 : decode cX5_version 28 = .ok (.getfield 12, 3) := by decide +kernel
theorem dX5_version_31 : decode cX5_version 31 = .ok (.getfield 117, 3) := by decide +kernel
theorem dX5_version_34 : decode cX5_version 34 = .ok (.iload_n 1, 1) := by decide +kernel
theorem dX5_version_35 : decode cX5_version 35 = .ok (.iaload, 1) := by decide +kernel
theorem dX5_version_36 : decode cX5_version 36 = .ok (.bipush 6, 2) := by decide +kernel
theorem dX5_version_38 : decode cX5_version 38 = .ok (.if_icmp .lt 13, 3) := by decide +kernel
theorem dX5_version_41 : decode cX5_version 41 = .ok (.new 62, 3) := by decide +kernel
theorem dX5_version_44 : decode cX5_version 44 = .ok (.dup, 1) := by decide +kernel
theorem dX5_version_45 : decode cX5_version 45 = .ok (.ldc 120, 2) := by decide +kernel
theorem dX5_version_47 : decode cX5_version 47 = .ok (.invokespecial 66, 3) := by decide +kernel
theorem dX5_version_50 : decode cX5_version 50 = .ok (.athrow, 1) := by decide +kernel
theorem dX5_version_51 : decode cX5_version 51 = .ok (.aload_n 0, 1) := by decide +kernel
theorem dX5_version_52 : decode cX5_version 52 = .ok (.getfield 12, 3) := by decide +kernel
theorem dX5_version_55 : decode cX5_version 55 = .ok (.iload_n 1, 1) := by decide +kernel
theorem dX5_version_56 : decode cX5_version 56 = .ok (.iload_n 2, 1) := by decide +kernel
theorem dX5_version_57 : decode cX5_version 57 = .ok (.invokevirtual 122, 3) := by decide +kernel
theorem dX5_version_60 : decode cX5_version 60 = .ok (.istore_n 3, 1) := by decide +kernel
theorem dX5_version_61 : decode cX5_version 61 = .ok (.aload_n 0, 1) := by decide +kernel
theorem dX5_version_62 : decode cX5_version 62 = .ok (.getfield 19, 3) := by decide +kernel
theorem dX5_version_65 : decode cX5_version 65 = .ok (.aload_n 0, 1) := by decide +kernel
theorem dX5_version_66 : decode cX5_version 66 = .ok (.getfield 12, 3) := by decide +kernel
theorem dX5_version_69 : decode cX5_version 69 = .ok (.iload_n 1, 1) := by decide +kernel
theorem dX5_version_70 : decode cX5_version 70 = .ok (.iload_n 3, 1) := by decide +kernel
theorem dX5_version_71 : decode cX5_version 71 = .ok (.invokevirtual 125, 3) := by decide +kernel
theorem dX5_version_74 : decode cX5_version 74 = .ok (.aload_n 0, 1) := by decide +kernel
theorem dX5_version_75 : decode cX5_version 75 = .ok (.getfield 26, 3) := by decide +kernel
theorem dX5_version_78 : decode cX5_version 78 = .ok (.aload_n 0, 1) := by decide +kernel
theorem dX5_version_79 : decode cX5_version 79 = .ok (.getfield 19, 3) := by decide +kernel
theorem dX5_version_82 : decode cX5_version 82 = .ok (.invokevirtual 129, 3) := by decide +kernel
theorem dX5_version_85 : decode cX5_version 85 = .ok (.iload_n 3, 1) := by decide +kernel
theorem dX5_version_86 : decode cX5_version 86 = .ok (.ireturn, 1) := by decide +kernel
set_option maxRecDepth 20000 in
theorem ggX5_report_X5_needPlace : GoodIn wsX5_report wsX5_needPlace := goodIn_ca (goodIn_r _ [7, 8, 9, 10, 11, 12, 13, 6, 14, 15, 16, 17, 18, 19, 20, 21, 22, 23, 24, 92, 93, 94, 95, 96, 97, 98, 99, 100, 101, 102, 103, 104] (by decide +kernel) (by decide +kernel)) (goodIn_sub (fun _ h => List.mem_cons_of_mem _ (List.mem_append_left _ (List.mem_append_right _ h))) (by decide +kernel))
set_option maxRecDepth 20000 in
theorem gX5_report_X5_needPlace : GoodIn wsX5_report (wsV RX5 156 RX5 yX5_needPlace wsX5_needPlace) := goodIn_app (goodIn_of _ (by decide +kernel)) ggX5_report_X5_needPlace
set_option maxRecDepth 20000 in
theorem ggX5_report_X5_needHarm : GoodIn wsX5_report wsX5_needHarm := goodIn_ca (goodIn_r _ [27, 28, 29] (by decide +kernel) (by decide +kernel)) (goodIn_sub (fun _ h => List.mem_cons_of_mem _ (List.mem_append_right _ h)) (by decide +kernel))
set_option maxRecDepth 20000 in
theorem gX5_report_X5_needHarm : GoodIn wsX5_report (va_wsS RX5 159 yX5_needHarm wsX5_needHarm) := goodIn_app (goodIn_of _ (by decide +kernel)) ggX5_report_X5_needHarm
set_option maxRecDepth 20000 in
theorem ggX5_report_X5_placeAt : GoodIn wsX5_report wsX5_placeAt := goodIn_r _ [32] (by decide +kernel) (by decide +kernel)
set_option maxRecDepth 20000 in
theorem gX5_report_X5_placeAt : GoodIn wsX5_report (va_wsS RX5 140 yX5_placeAt wsX5_placeAt) := goodIn_app (goodIn_of _ (by decide +kernel)) ggX5_report_X5_placeAt
set_option maxRecDepth 20000 in
theorem ggX5_report_X5_creditGain : GoodIn wsX5_report wsX5_creditGain := goodIn_r _ [36, 1, 2, 37, 38, 39, 40, 41, 42, 43, 44, 45, 46, 47, 48, 49, 50, 51, 52, 53, 54, 55, 56, 57, 58, 59, 60, 61, 62, 63, 64, 65, 66, 67, 68, 69, 70, 71, 72, 73, 74, 75, 76, 77, 78, 79, 80, 31, 6, 32, 81, 82, 92, 93, 94, 95, 96, 97, 98, 105, 106, 107, 108, 109, 110, 111, 112, 113, 114, 115, 116, 117, 118, 119, 120, 121, 122, 123, 124, 125, 126, 127, 128] (by decide +kernel) (by decide +kernel)
set_option maxRecDepth 20000 in
theorem gX5_report_X5_creditGain : GoodIn wsX5_report (wsV RX5 162 RX5 yX5_creditGain wsX5_creditGain) := goodIn_app (goodIn_of _ (by decide +kernel)) ggX5_report_X5_creditGain
set_option maxRecDepth 20000 in
theorem ggX5_report_X1_raise : GoodIn wsX5_report wsX1_raise := goodIn_r _ [86, 52, 44, 45, 46, 47, 105, 106, 107, 108] (by decide +kernel) (by decide +kernel)
set_option maxRecDepth 20000 in
theorem gX5_report_X1_raise : GoodIn wsX5_report (wsV RX5 150 RX1 yX1_raise wsX1_raise) := goodIn_app (goodIn_of _ (by decide +kernel)) ggX5_report_X1_raise
set_option maxRecDepth 20000 in
theorem ggX5_report_X1_settle : GoodIn wsX5_report wsX1_settle := goodIn_r _ [90, 91, 48, 49, 50, 41, 51, 52, 53, 54, 55, 56, 57, 58, 59, 60, 61, 62, 45, 46, 47, 105, 106, 107, 108, 109, 110, 111, 112, 113, 114, 115, 116, 117] (by decide +kernel) (by decide +kernel)
set_option maxRecDepth 20000 in
theorem gX5_report_X1_settle : GoodIn wsX5_report (wsV RX5 129 RX1 yX1_settle wsX1_settle) := goodIn_app (goodIn_of _ (by decide +kernel)) ggX5_report_X1_settle
theorem dX5_report_0 : decode cX5_report 0 = .ok (.aload_n 0, 1) := by decide +kernel
theorem dX5_report_1 : decode cX5_report 1 = .ok (.iload_n 1, 1) := by decide +kernel
theorem dX5_report_2 : decode cX5_report 2 = .ok (.iload_n 2, 1) := by decide +kernel
theorem dX5_report_3 : decode cX5_report 3 = .ok (.iload_n 3, 1) := by decide +kernel
theorem dX5_report_4 : decode cX5_report 4 = .ok (.invokevirtual 156, 3) := by decide +kernel
theorem dX5_report_7 : decode cX5_report 7 = .ok (.iload 4, 2) := by decide +kernel
theorem dX5_report_9 : decode cX5_report 9 = .ok (.invokestatic 159, 3) := by decide +kernel
theorem dX5_report_12 : decode cX5_report 12 = .ok (.iload_n 1, 1) := by decide +kernel
theorem dX5_report_13 : decode cX5_report 13 = .ok (.iload_n 2, 1) := by decide +kernel
theorem dX5_report_14 : decode cX5_report 14 = .ok (.iload_n 3, 1) := by decide +kernel
theorem dX5_report_15 : decode cX5_report 15 = .ok (.invokestatic 140, 3) := by decide +kernel
theorem dX5_report_18 : decode cX5_report 18 = .ok (.istore 5, 2) := by decide +kernel
theorem dX5_report_20 : decode cX5_report 20 = .ok (.aload_n 0, 1) := by decide +kernel
theorem dX5_report_21 : decode cX5_report 21 = .ok (.iload 5, 2) := by decide +kernel
theorem dX5_report_23 : decode cX5_report 23 = .ok (.iload 4, 2) := by decide +kernel
theorem dX5_report_25 : decode cX5_report 25 = .ok (.invokevirtual 162, 3) := by decide +kernel
theorem dX5_report_28 : decode cX5_report 28 = .ok (.istore 6, 2) := by decide +kernel
theorem dX5_report_30 : decode cX5_report 30 = .ok (.aload_n 0, 1) := by decide +kernel
theorem dX5_report_31 : decode cX5_report 31 = .ok (.getfield 26, 3) := by decide +kernel
theorem dX5_report_34 : decode cX5_report 34 = .ok (.iload 5, 2) := by decide +kernel
theorem dX5_report_36 : decode cX5_report 36 = .ok (.iload 4, 2) := by decide +kernel
theorem dX5_report_38 : decode cX5_report 38 = .ok (.invokevirtual 150, 3) := by decide +kernel
theorem dX5_report_41 : decode cX5_report 41 = .ok (.aload_n 0, 1) := by decide +kernel
theorem dX5_report_42 : decode cX5_report 42 = .ok (.getfield 26, 3) := by decide +kernel
theorem dX5_report_45 : decode cX5_report 45 = .ok (.aload_n 0, 1) := by decide +kernel
theorem dX5_report_46 : decode cX5_report 46 = .ok (.getfield 19, 3) := by decide +kernel
theorem dX5_report_49 : decode cX5_report 49 = .ok (.invokevirtual 129, 3) := by decide +kernel
theorem dX5_report_52 : decode cX5_report 52 = .ok (.iload 6, 2) := by decide +kernel
theorem dX5_report_54 : decode cX5_report 54 = .ok (.ireturn, 1) := by decide +kernel
set_option maxRecDepth 20000 in
theorem ggX5_harm_X5_needPlace : GoodIn wsX5_harm wsX5_needPlace := goodIn_ca (goodIn_r _ [6, 7, 8, 9, 10, 11, 12, 5, 13, 14, 15, 16, 17, 18, 19, 20, 21, 22, 23, 27, 28, 29, 30, 31, 32, 33, 38, 39, 40, 41, 42, 43] (by decide +kernel) (by decide +kernel)) (goodIn_sub (fun _ h => List.mem_cons_of_mem _ (List.mem_append_right _ h)) (by decide +kernel))
set_option maxRecDepth 20000 in
theorem gX5_harm_X5_needPlace : GoodIn wsX5_harm (wsV RX5 156 RX5 yX5_needPlace wsX5_needPlace) := goodIn_app (goodIn_of _ (by decide +kernel)) ggX5_harm_X5_needPlace
set_option maxRecDepth 20000 in
theorem ggX5_harm_X5_placeAt : GoodIn wsX5_harm wsX5_placeAt := goodIn_r _ [26] (by decide +kernel) (by decide +kernel)
set_option maxRecDepth 20000 in
theorem gX5_harm_X5_placeAt : GoodIn wsX5_harm (va_wsS RX5 140 yX5_placeAt wsX5_placeAt) := goodIn_app (goodIn_of _ (by decide +kernel)) ggX5_harm_X5_placeAt
theorem dX5_harm_0 : decode cX5_harm 0 = .ok (.aload_n 0, 1) := by decide +kernel
theorem dX5_harm_1 : decode cX5_harm 1 = .ok (.iload_n 1, 1) := by decide +kernel
theorem dX5_harm_2 : decode cX5_harm 2 = .ok (.iload_n 2, 1) := by decide +kernel
theorem dX5_harm_3 : decode cX5_harm 3 = .ok (.iload_n 3, 1) := by decide +kernel
theorem dX5_harm_4 : decode cX5_harm 4 = .ok (.invokevirtual 156, 3) := by decide +kernel
theorem dX5_harm_7 : decode cX5_harm 7 = .ok (.aload_n 0, 1) := by decide +kernel
theorem dX5_harm_8 : decode cX5_harm 8 = .ok (.getfield 26, 3) := by decide +kernel
theorem dX5_harm_11 : decode cX5_harm 11 = .ok (.getfield 153, 3) := by decide +kernel
theorem dX5_harm_14 : decode cX5_harm 14 = .ok (.iload_n 1, 1) := by decide +kernel
theorem dX5_harm_15 : decode cX5_harm 15 = .ok (.iload_n 2, 1) := by decide +kernel
theorem dX5_harm_16 : decode cX5_harm 16 = .ok (.iload_n 3, 1) := by decide +kernel
theorem dX5_harm_17 : decode cX5_harm 17 = .ok (.invokestatic 140, 3) := by decide +kernel
theorem dX5_harm_20 : decode cX5_harm 20 = .ok (.iaload, 1) := by decide +kernel
theorem dX5_harm_21 : decode cX5_harm 21 = .ok (.ireturn, 1) := by decide +kernel
set_option maxRecDepth 20000 in
theorem ggX5_ofSet_X5_needSet : GoodIn wsX5_ofSet wsX5_needSet := goodIn_ca (goodIn_r _ [10, 11, 12, 3, 13, 14, 15, 16, 17, 18, 71, 72, 73, 74, 75, 76, 77, 78, 79, 80, 81, 82, 83] (by decide +kernel) (by decide +kernel)) (goodIn_sub (fun _ h => List.mem_cons_of_mem _ (List.mem_append_right _ h)) (by decide +kernel))
set_option maxRecDepth 20000 in
theorem gX5_ofSet_X5_needSet : GoodIn wsX5_ofSet (wsV RX5 111 RX5 yX5_needSet wsX5_needSet) := goodIn_app (goodIn_of _ (by decide +kernel)) ggX5_ofSet_X5_needSet
set_option maxRecDepth 20000 in
theorem ggX5_ofSet_X4_latestRows : GoodIn wsX5_ofSet wsX4_latestRows := goodIn_r _ [22, 23, 24, 25, 26, 16, 27, 28, 29, 9, 30, 78, 79, 80, 81, 82, 83] (by decide +kernel) (by decide +kernel)
set_option maxRecDepth 20000 in
theorem gX5_ofSet_X4_latestRows : GoodIn wsX5_ofSet (wsV RX5 168 RX4 yX4_latestRows wsX4_latestRows) := goodIn_app (goodIn_of _ (by decide +kernel)) ggX5_ofSet_X4_latestRows
set_option maxRecDepth 20000 in
theorem ggX5_ofSet_X5_harmedFields : GoodIn wsX5_ofSet wsX5_harmedFields := goodIn_r _ [34, 3, 5, 35, 25, 26, 16, 27, 28, 36, 37, 9, 38, 71, 72, 73, 74, 75, 76, 77, 78, 79, 80, 81, 82, 83, 84, 85, 86, 87] (by decide +kernel) (by decide +kernel)
set_option maxRecDepth 20000 in
theorem gX5_ofSet_X5_harmedFields : GoodIn wsX5_ofSet (wsV RX5 171 RX5 yX5_harmedFields wsX5_harmedFields) := goodIn_app (goodIn_of _ (by decide +kernel)) ggX5_ofSet_X5_harmedFields
set_option maxRecDepth 20000 in
theorem ggX5_ofSet_X3_count : GoodIn wsX5_ofSet wsX3_count := goodIn_r _ [43, 44, 45, 46, 47, 42, 48, 49, 50, 88, 89, 90, 91, 92, 93, 94, 95, 96, 97, 98] (by decide +kernel) (by decide +kernel)
set_option maxRecDepth 20000 in
theorem gX5_ofSet_X3_count : GoodIn wsX5_ofSet (wsV RX5 174 RX3 yX3_count wsX3_count) := goodIn_app (goodIn_of _ (by decide +kernel)) ggX5_ofSet_X3_count
set_option maxRecDepth 20000 in
theorem ggX5_ofSet_X3_charge : GoodIn wsX5_ofSet wsX3_charge := goodIn_r _ [54, 44, 45, 46, 47, 42, 48, 49, 50, 55, 56, 57, 58, 59, 60, 9, 61, 88, 89, 90, 91, 92, 93, 94, 95, 96, 97, 98] (by decide +kernel) (by decide +kernel)
set_option maxRecDepth 20000 in
theorem gX5_ofSet_X3_charge : GoodIn wsX5_ofSet (wsV RX5 177 RX3 yX3_charge wsX3_charge) := goodIn_app (goodIn_of _ (by decide +kernel)) ggX5_ofSet_X3_charge
set_option maxRecDepth 20000 in
theorem ggX5_ofSet_X3_credit : GoodIn wsX5_ofSet wsX3_credit := goodIn_r _ [65, 44, 45, 46, 47, 42, 48, 49, 50, 66, 67, 68, 69, 70, 59, 37, 9, 38, 60, 61, 88, 89, 90, 91, 92, 93, 94, 95, 96, 97, 98] (by decide +kernel) (by decide +kernel)
set_option maxRecDepth 20000 in
theorem gX5_ofSet_X3_credit : GoodIn wsX5_ofSet (wsV RX5 180 RX3 yX3_credit wsX3_credit) := goodIn_app (goodIn_of _ (by decide +kernel)) ggX5_ofSet_X3_credit
theorem dX5_ofSet_0 : decode cX5_ofSet 0 = .ok (.aload_n 0, 1) := by decide +kernel
theorem dX5_ofSet_1 : decode cX5_ofSet 1 = .ok (.iload_n 1, 1) := by decide +kernel
theorem dX5_ofSet_2 : decode cX5_ofSet 2 = .ok (.invokevirtual 111, 3) := by decide +kernel
theorem dX5_ofSet_5 : decode cX5_ofSet 5 = .ok (.iload_n 2, 1) := by decide +kernel
theorem dX5_ofSet_6 : decode cX5_ofSet 6 = .ok (.tableswitch 114 0 6 #[42, 52, 62, 71, 77, 87, 97], 42) := by decide +kernel
theorem dX5_ofSet_48 : decode cX5_ofSet 48 = .ok (.aload_n 0, 1) := by decide +kernel
theorem dX5_ofSet_49 : decode cX5_ofSet 49 = .ok (.getfield 12, 3) := by decide +kernel
theorem dX5_ofSet_52 : decode cX5_ofSet 52 = .ok (.getfield 165, 3) := by decide +kernel
theorem dX5_ofSet_55 : decode cX5_ofSet 55 = .ok (.iload_n 1, 1) := by decide +kernel
theorem dX5_ofSet_56 : decode cX5_ofSet 56 = .ok (.iaload, 1) := by decide +kernel
theorem dX5_ofSet_57 : decode cX5_ofSet 57 = .ok (.ireturn, 1) := by decide +kernel
theorem dX5_ofSet_58 : decode cX5_ofSet 58 = .ok (.aload_n 0, 1) := by decide +kernel
theorem dX5_ofSet_59 : decode cX5_ofSet 59 = .ok (.getfield 12, 3) := by decide +kernel
theorem dX5_ofSet_62 : decode cX5_ofSet 62 = .ok (.getfield 117, 3) := by decide +kernel
theorem dX5_ofSet_65 : decode cX5_ofSet 65 = .ok (.iload_n 1, 1) := by decide +kernel
theorem dX5_ofSet_66 : decode cX5_ofSet 66 = .ok (.iaload, 1) := by decide +kernel
theorem dX5_ofSet_67 : decode cX5_ofSet 67 = .ok (.ireturn, 1) := by decide +kernel
theorem dX5_ofSet_68 : decode cX5_ofSet 68 = .ok (.aload_n 0, 1) := by decide +kernel
theorem dX5_ofSet_69 : decode cX5_ofSet 69 = .ok (.getfield 12, 3) := by decide +kernel
theorem dX5_ofSet_72 : decode cX5_ofSet 72 = .ok (.iload_n 1, 1) := by decide +kernel
theorem dX5_ofSet_73 : decode cX5_ofSet 73 = .ok (.invokevirtual 168, 3) := by decide +kernel
theorem dX5_ofSet_76 : decode cX5_ofSet 76 = .ok (.ireturn, 1) := by decide +kernel
theorem dX5_ofSet_77 : decode cX5_ofSet 77 = .ok (.aload_n 0, 1) := by decide +kernel
theorem dX5_ofSet_78 : decode cX5_ofSet 78 = .ok (.iload_n 1, 1) := by decide +kernel
theorem dX5_ofSet_79 : decode cX5_ofSet 79 = .ok (.invokevirtual 171, 3) := by decide +kernel
theorem dX5_ofSet_82 : decode cX5_ofSet 82 = .ok (.ireturn, 1) := by decide +kernel
theorem dX5_ofSet_83 : decode cX5_ofSet 83 = .ok (.aload_n 0, 1) := by decide +kernel
theorem dX5_ofSet_84 : decode cX5_ofSet 84 = .ok (.getfield 40, 3) := by decide +kernel
theorem dX5_ofSet_87 : decode cX5_ofSet 87 = .ok (.iconst (-1), 1) := by decide +kernel
theorem dX5_ofSet_88 : decode cX5_ofSet 88 = .ok (.iload_n 1, 1) := by decide +kernel
theorem dX5_ofSet_89 : decode cX5_ofSet 89 = .ok (.invokevirtual 174, 3) := by decide +kernel
theorem dX5_ofSet_92 : decode cX5_ofSet 92 = .ok (.ireturn, 1) := by decide +kernel
theorem dX5_ofSet_93 : decode cX5_ofSet 93 = .ok (.aload_n 0, 1) := by decide +kernel
theorem dX5_ofSet_94 : decode cX5_ofSet 94 = .ok (.getfield 40, 3) := by decide +kernel
theorem dX5_ofSet_97 : decode cX5_ofSet 97 = .ok (.iconst (-1), 1) := by decide +kernel
theorem dX5_ofSet_98 : decode cX5_ofSet 98 = .ok (.iload_n 1, 1) := by decide +kernel
theorem dX5_ofSet_99 : decode cX5_ofSet 99 = .ok (.invokevirtual 177, 3) := by decide +kernel
theorem dX5_ofSet_102 : decode cX5_ofSet 102 = .ok (.ireturn, 1) := by decide +kernel
theorem dX5_ofSet_103 : decode cX5_ofSet 103 = .ok (.aload_n 0, 1) := by decide +kernel
theorem dX5_ofSet_104 : decode cX5_ofSet 104 = .ok (.getfield 40, 3) := by decide +kernel
theorem dX5_ofSet_107 : decode cX5_ofSet 107 = .ok (.iconst (-1), 1) := by decide +kernel
theorem dX5_ofSet_108 : decode cX5_ofSet 108 = .ok (.iload_n 1, 1) := by decide +kernel
theorem dX5_ofSet_109 : decode cX5_ofSet 109 = .ok (.aload_n 0, 1) := by decide +kernel
theorem dX5_ofSet_110 : decode cX5_ofSet 110 = .ok (.getfield 26, 3) := by decide +kernel
theorem dX5_ofSet_113 : decode cX5_ofSet 113 = .ok (.getfield 153, 3) := by decide +kernel
theorem dX5_ofSet_116 : decode cX5_ofSet 116 = .ok (.invokevirtual 180, 3) := by decide +kernel
theorem dX5_ofSet_119 : decode cX5_ofSet 119 = .ok (.ireturn, 1) := by decide +kernel
theorem dX5_ofSet_120 : decode cX5_ofSet 120 = .ok (.new 52, 3) := by decide +kernel
theorem dX5_ofSet_123 : decode cX5_ofSet 123 = .ok (.dup, 1) := by decide +kernel
theorem dX5_ofSet_124 : decode cX5_ofSet 124 = .ok (.ldc 184, 2) := by decide +kernel
theorem dX5_ofSet_126 : decode cX5_ofSet 126 = .ok (.invokespecial 56, 3) := by decide +kernel
theorem dX5_ofSet_129 : decode cX5_ofSet 129 = .ok (.athrow, 1) := by decide +kernel
set_option maxRecDepth 20000 in
theorem ggX5_contract_X5_needReader : GoodIn wsX5_contract wsX5_needReader := goodIn_ca (goodIn_r _ [10, 11, 12] (by decide +kernel) (by decide +kernel)) (goodIn_sub (fun _ h => List.mem_cons_of_mem _ (List.mem_append_right _ h)) (by decide +kernel))
set_option maxRecDepth 20000 in
theorem gX5_contract_X5_needReader : GoodIn wsX5_contract (va_wsS RX5 190 yX5_needReader wsX5_needReader) := goodIn_app (goodIn_of _ (by decide +kernel)) ggX5_contract_X5_needReader
set_option maxRecDepth 20000 in
theorem ggX5_contract_X5_needSet : GoodIn wsX5_contract wsX5_needSet := goodIn_ca (goodIn_r _ [16, 11, 12, 17, 18, 19, 20, 21, 22, 23, 45, 46, 47, 48, 49, 50, 51, 59, 60, 61, 62, 63, 64] (by decide +kernel) (by decide +kernel)) (goodIn_sub (fun _ h => List.mem_cons_of_mem _ (List.mem_append_right _ h)) (by decide +kernel))
set_option maxRecDepth 20000 in
theorem gX5_contract_X5_needSet : GoodIn wsX5_contract (wsV RX5 111 RX5 yX5_needSet wsX5_needSet) := goodIn_app (goodIn_of _ (by decide +kernel)) ggX5_contract_X5_needSet
set_option maxRecDepth 20000 in
theorem ggX5_contract_X5_needFields : GoodIn wsX5_contract wsX5_needFields := goodIn_ca (goodIn_r _ [27, 1, 2, 17, 28, 29, 30, 21, 31, 32, 45, 46, 47, 48, 49, 50, 51, 59, 60, 61, 62, 63, 64] (by decide +kernel) (by decide +kernel)) (goodIn_sub (fun _ h => List.mem_cons_of_mem _ (List.mem_append_left _ (List.mem_append_left _ (List.mem_append_right _ h)))) (by decide +kernel))
set_option maxRecDepth 20000 in
theorem gX5_contract_X5_needFields : GoodIn wsX5_contract (wsV RX5 193 RX5 yX5_needFields wsX5_needFields) := goodIn_app (goodIn_of _ (by decide +kernel)) ggX5_contract_X5_needFields
set_option maxRecDepth 20000 in
theorem ggX5_contract_X0_add : GoodIn wsX5_contract wsX0_add := goodIn_r _ [37, 38, 39, 40, 41, 42, 43, 44, 52, 53, 54, 55, 56, 57, 58] (by decide +kernel) (by decide +kernel)
set_option maxRecDepth 20000 in
theorem gX5_contract_X0_add : GoodIn wsX5_contract (wsV RX5 204 RX0 yX0_add wsX0_add) := goodIn_app (goodIn_of _ (by decide +kernel)) ggX5_contract_X0_add
theorem dX5_contract_0 : decode cX5_contract 0 = .ok (.iload_n 1, 1) := by decide +kernel
theorem dX5_contract_1 : decode cX5_contract 1 = .ok (.invokestatic 190, 3) := by decide +kernel
theorem dX5_contract_4 : decode cX5_contract 4 = .ok (.aload_n 0, 1) := by decide +kernel
theorem dX5_contract_5 : decode cX5_contract 5 = .ok (.iload_n 2, 1) := by decide +kernel
theorem dX5_contract_6 : decode cX5_contract 6 = .ok (.invokevirtual 111, 3) := by decide +kernel
theorem dX5_contract_9 : decode cX5_contract 9 = .ok (.aload_n 0, 1) := by decide +kernel
theorem dX5_contract_10 : decode cX5_contract 10 = .ok (.iload_n 2, 1) := by decide +kernel
theorem dX5_contract_11 : decode cX5_contract 11 = .ok (.iload_n 3, 1) := by decide +kernel
theorem dX5_contract_12 : decode cX5_contract 12 = .ok (.invokevirtual 193, 3) := by decide +kernel
theorem dX5_contract_15 : decode cX5_contract 15 = .ok (.iload 4, 2) := by decide +kernel
theorem dX5_contract_17 : decode cX5_contract 17 = .ok (.iconst 1, 1) := by decide +kernel
theorem dX5_contract_18 : decode cX5_contract 18 = .ok (.if_icmp .lt 10, 3) := by decide +kernel
theorem dX5_contract_21 : decode cX5_contract 21 = .ok (.iload 4, 2) := by decide +kernel
theorem dX5_contract_23 : decode cX5_contract 23 = .ok (.bipush 15, 2) := by decide +kernel
theorem dX5_contract_25 : decode cX5_contract 25 = .ok (.if_icmp .le 13, 3) := by decide +kernel
theorem dX5_contract_28 : decode cX5_contract 28 = .ok (.new 52, 3) := by decide +kernel
theorem dX5_contract_31 : decode cX5_contract 31 = .ok (.dup, 1) := by decide +kernel
theorem dX5_contract_32 : decode cX5_contract 32 = .ok (.ldc 196, 2) := by decide +kernel
theorem dX5_contract_34 : decode cX5_contract 34 = .ok (.invokespecial 56, 3) := by decide +kernel
theorem dX5_contract_37 : decode cX5_contract 37 = .ok (.athrow, 1) := by decide +kernel
theorem dX5_contract_38 : decode cX5_contract 38 = .ok (.iload 5, 2) := by decide +kernel
theorem dX5_contract_40 : decode cX5_contract 40 = .ok (.aload_n 0, 1) := by decide +kernel
theorem dX5_contract_41 : decode cX5_contract 41 = .ok (.getfield 48, 3) := by decide +kernel
theorem dX5_contract_44 : decode cX5_contract 44 = .ok (.if_icmp .lt 18, 3) := by decide +kernel
theorem dX5_contract_47 : decode cX5_contract 47 = .ok (.iload 6, 2) := by decide +kernel
theorem dX5_contract_49 : decode cX5_contract 49 = .ok (.iload 5, 2) := by decide +kernel
theorem dX5_contract_51 : decode cX5_contract 51 = .ok (.if_icmp .lt 11, 3) := by decide +kernel
theorem dX5_contract_54 : decode cX5_contract 54 = .ok (.iload 6, 2) := by decide +kernel
theorem dX5_contract_56 : decode cX5_contract 56 = .ok (.sipush 359, 3) := by decide +kernel
theorem dX5_contract_59 : decode cX5_contract 59 = .ok (.if_icmp .le 13, 3) := by decide +kernel
theorem dX5_contract_62 : decode cX5_contract 62 = .ok (.new 52, 3) := by decide +kernel
theorem dX5_contract_65 : decode cX5_contract 65 = .ok (.dup, 1) := by decide +kernel
theorem dX5_contract_66 : decode cX5_contract 66 = .ok (.ldc 198, 2) := by decide +kernel
theorem dX5_contract_68 : decode cX5_contract 68 = .ok (.invokespecial 56, 3) := by decide +kernel
theorem dX5_contract_71 : decode cX5_contract 71 = .ok (.athrow, 1) := by decide +kernel
theorem dX5_contract_72 : decode cX5_contract 72 = .ok (.aload_n 0, 1) := by decide +kernel
theorem dX5_contract_73 : decode cX5_contract 73 = .ok (.getfield 33, 3) := by decide +kernel
theorem dX5_contract_76 : decode cX5_contract 76 = .ok (.getfield 200, 3) := by decide +kernel
theorem dX5_contract_79 : decode cX5_contract 79 = .ok (.bipush 16, 2) := by decide +kernel
theorem dX5_contract_81 : decode cX5_contract 81 = .ok (.if_icmp .lt 13, 3) := by decide +kernel
theorem dX5_contract_84 : decode cX5_contract 84 = .ok (.new 62, 3) := by decide +kernel
theorem dX5_contract_87 : decode cX5_contract 87 = .ok (.dup, 1) := by decide +kernel
theorem dX5_contract_88 : decode cX5_contract 88 = .ok (.ldc 202, 2) := by decide +kernel
theorem dX5_contract_90 : decode cX5_contract 90 = .ok (.invokespecial 66, 3) := by decide +kernel
theorem dX5_contract_93 : decode cX5_contract 93 = .ok (.athrow, 1) := by decide +kernel
theorem dX5_contract_94 : decode cX5_contract 94 = .ok (.aload_n 0, 1) := by decide +kernel
theorem dX5_contract_95 : decode cX5_contract 95 = .ok (.getfield 33, 3) := by decide +kernel
theorem dX5_contract_98 : decode cX5_contract 98 = .ok (.iload_n 1, 1) := by decide +kernel
theorem dX5_contract_99 : decode cX5_contract 99 = .ok (.iload_n 2, 1) := by decide +kernel
theorem dX5_contract_100 : decode cX5_contract 100 = .ok (.iload_n 3, 1) := by decide +kernel
theorem dX5_contract_101 : decode cX5_contract 101 = .ok (.iload 4, 2) := by decide +kernel
theorem dX5_contract_103 : decode cX5_contract 103 = .ok (.iload 5, 2) := by decide +kernel
theorem dX5_contract_105 : decode cX5_contract 105 = .ok (.iload 6, 2) := by decide +kernel
theorem dX5_contract_107 : decode cX5_contract 107 = .ok (.invokevirtual 204, 3) := by decide +kernel
theorem dX5_contract_110 : decode cX5_contract 110 = .ok (.ireturn, 1) := by decide +kernel
set_option maxRecDepth 20000 in
theorem ggX5_covered_X5_needReader : GoodIn wsX5_covered wsX5_needReader := goodIn_ca (goodIn_r _ [7, 8, 9] (by decide +kernel) (by decide +kernel)) (goodIn_sub (fun _ h => List.mem_cons_of_mem _ (List.mem_append_right _ h)) (by decide +kernel))
set_option maxRecDepth 20000 in
theorem gX5_covered_X5_needReader : GoodIn wsX5_covered (va_wsS RX5 190 yX5_needReader wsX5_needReader) := goodIn_app (goodIn_of _ (by decide +kernel)) ggX5_covered_X5_needReader
set_option maxRecDepth 20000 in
theorem ggX5_covered_X5_needSet : GoodIn wsX5_covered wsX5_needSet := goodIn_ca (goodIn_r _ [13, 8, 9, 14, 15, 16, 17, 18, 19, 20, 44, 45, 46, 47, 48, 49, 50, 51, 52, 53, 54, 55, 56] (by decide +kernel) (by decide +kernel)) (goodIn_sub (fun _ h => List.mem_cons_of_mem _ (List.mem_append_right _ h)) (by decide +kernel))
set_option maxRecDepth 20000 in
theorem gX5_covered_X5_needSet : GoodIn wsX5_covered (wsV RX5 111 RX5 yX5_needSet wsX5_needSet) := goodIn_app (goodIn_of _ (by decide +kernel)) ggX5_covered_X5_needSet
set_option maxRecDepth 20000 in
theorem ggX5_covered_X5_needPurpose : GoodIn wsX5_covered wsX5_needPurpose := goodIn_ca (goodIn_r _ [23, 8, 9] (by decide +kernel) (by decide +kernel)) (goodIn_sub (fun _ h => List.mem_cons_of_mem _ (List.mem_append_right _ h)) (by decide +kernel))
set_option maxRecDepth 20000 in
theorem gX5_covered_X5_needPurpose : GoodIn wsX5_covered (va_wsS RX5 214 yX5_needPurpose wsX5_needPurpose) := goodIn_app (goodIn_of _ (by decide +kernel)) ggX5_covered_X5_needPurpose
set_option maxRecDepth 20000 in
theorem ggX5_covered_X0_open : GoodIn wsX5_covered wsX0_open := goodIn_r _ [28, 29, 30, 31, 32, 33, 27, 34, 35, 36, 37, 38, 39, 40, 41, 42, 43, 57, 58, 59, 60, 61, 62, 63] (by decide +kernel) (by decide +kernel)
set_option maxRecDepth 20000 in
theorem gX5_covered_X0_open : GoodIn wsX5_covered (wsV RX5 219 RX0 yX0_open wsX0_open) := goodIn_app (goodIn_of _ (by decide +kernel)) ggX5_covered_X0_open
theorem dX5_covered_0 : decode cX5_covered 0 = .ok (.iload_n 1, 1) := by decide +kernel
theorem dX5_covered_1 : decode cX5_covered 1 = .ok (.invokestatic 190, 3) := by decide +kernel
theorem dX5_covered_4 : decode cX5_covered 4 = .ok (.aload_n 0, 1) := by decide +kernel
theorem dX5_covered_5 : decode cX5_covered 5 = .ok (.iload_n 2, 1) := by decide +kernel
theorem dX5_covered_6 : decode cX5_covered 6 = .ok (.invokevirtual 111, 3) := by decide +kernel
theorem dX5_covered_9 : decode cX5_covered 9 = .ok (.iload_n 3, 1) := by decide +kernel
theorem dX5_covered_10 : decode cX5_covered 10 = .ok (.invokestatic 214, 3) := by decide +kernel
theorem dX5_covered_13 : decode cX5_covered 13 = .ok (.iload 4, 2) := by decide +kernel
theorem dX5_covered_15 : decode cX5_covered 15 = .ok (.ifCond .lt 11, 3) := by decide +kernel
theorem dX5_covered_18 : decode cX5_covered 18 = .ok (.iload 4, 2) := by decide +kernel
theorem dX5_covered_20 : decode cX5_covered 20 = .ok (.sipush 359, 3) := by decide +kernel
theorem dX5_covered_23 : decode cX5_covered 23 = .ok (.if_icmp .le 13, 3) := by decide +kernel
theorem dX5_covered_26 : decode cX5_covered 26 = .ok (.new 52, 3) := by decide +kernel
theorem dX5_covered_29 : decode cX5_covered 29 = .ok (.dup, 1) := by decide +kernel
theorem dX5_covered_30 : decode cX5_covered 30 = .ok (.ldc 217, 2) := by decide +kernel
theorem dX5_covered_32 : decode cX5_covered 32 = .ok (.invokespecial 56, 3) := by decide +kernel
theorem dX5_covered_35 : decode cX5_covered 35 = .ok (.athrow, 1) := by decide +kernel
theorem dX5_covered_36 : decode cX5_covered 36 = .ok (.aload_n 0, 1) := by decide +kernel
theorem dX5_covered_37 : decode cX5_covered 37 = .ok (.getfield 33, 3) := by decide +kernel
theorem dX5_covered_40 : decode cX5_covered 40 = .ok (.iload_n 1, 1) := by decide +kernel
theorem dX5_covered_41 : decode cX5_covered 41 = .ok (.iload_n 2, 1) := by decide +kernel
theorem dX5_covered_42 : decode cX5_covered 42 = .ok (.iconst 1, 1) := by decide +kernel
theorem dX5_covered_43 : decode cX5_covered 43 = .ok (.iload_n 3, 1) := by decide +kernel
theorem dX5_covered_44 : decode cX5_covered 44 = .ok (.ishl, 1) := by decide +kernel
theorem dX5_covered_45 : decode cX5_covered 45 = .ok (.iload 4, 2) := by decide +kernel
theorem dX5_covered_47 : decode cX5_covered 47 = .ok (.iconst (-1), 1) := by decide +kernel
theorem dX5_covered_48 : decode cX5_covered 48 = .ok (.invokevirtual 219, 3) := by decide +kernel
theorem dX5_covered_51 : decode cX5_covered 51 = .ok (.ireturn, 1) := by decide +kernel
set_option maxRecDepth 20000 in
theorem ggX5_read_X5_needReader : GoodIn wsX5_read wsX5_needReader := goodIn_ca (goodIn_r _ [12, 13, 14] (by decide +kernel) (by decide +kernel)) (goodIn_sub (fun _ h => List.mem_cons_of_mem _ (List.mem_append_right _ h)) (by decide +kernel))
set_option maxRecDepth 20000 in
theorem gX5_read_X5_needReader : GoodIn wsX5_read (va_wsS RX5 190 yX5_needReader wsX5_needReader) := goodIn_app (goodIn_of _ (by decide +kernel)) ggX5_read_X5_needReader
set_option maxRecDepth 20000 in
theorem ggX5_read_X5_needSet : GoodIn wsX5_read wsX5_needSet := goodIn_ca (goodIn_r _ [18, 13, 14, 6, 19, 20, 21, 22, 23, 24, 125, 126, 127, 128, 129, 130, 131, 143, 144, 145, 146, 147, 148] (by decide +kernel) (by decide +kernel)) (goodIn_sub (fun _ h => List.mem_cons_of_mem _ (List.mem_append_right _ h)) (by decide +kernel))
set_option maxRecDepth 20000 in
theorem gX5_read_X5_needSet : GoodIn wsX5_read (wsV RX5 111 RX5 yX5_needSet wsX5_needSet) := goodIn_app (goodIn_of _ (by decide +kernel)) ggX5_read_X5_needSet
set_option maxRecDepth 20000 in
theorem ggX5_read_X5_needPurpose : GoodIn wsX5_read wsX5_needPurpose := goodIn_ca (goodIn_r _ [27, 13, 14] (by decide +kernel) (by decide +kernel)) (goodIn_sub (fun _ h => List.mem_cons_of_mem _ (List.mem_append_right _ h)) (by decide +kernel))
set_option maxRecDepth 20000 in
theorem gX5_read_X5_needPurpose : GoodIn wsX5_read (va_wsS RX5 214 yX5_needPurpose wsX5_needPurpose) := goodIn_app (goodIn_of _ (by decide +kernel)) ggX5_read_X5_needPurpose
set_option maxRecDepth 20000 in
theorem ggX5_read_X5_needFields : GoodIn wsX5_read wsX5_needFields := goodIn_ca (goodIn_r _ [31, 1, 2, 6, 32, 33, 34, 22, 35, 36, 125, 126, 127, 128, 129, 130, 131, 143, 144, 145, 146, 147, 148] (by decide +kernel) (by decide +kernel)) (goodIn_sub (fun _ h => List.mem_cons_of_mem _ (List.mem_append_left _ (List.mem_append_left _ (List.mem_append_right _ h)))) (by decide +kernel))
set_option maxRecDepth 20000 in
theorem gX5_read_X5_needFields : GoodIn wsX5_read (wsV RX5 193 RX5 yX5_needFields wsX5_needFields) := goodIn_app (goodIn_of _ (by decide +kernel)) ggX5_read_X5_needFields
set_option maxRecDepth 20000 in
theorem ggX5_read_X4_latestRows : GoodIn wsX5_read wsX4_latestRows := goodIn_r _ [40, 41, 42, 43, 44, 22, 45, 46, 47, 11, 48, 143, 144, 145, 146, 147, 148] (by decide +kernel) (by decide +kernel)
set_option maxRecDepth 20000 in
theorem gX5_read_X4_latestRows : GoodIn wsX5_read (wsV RX5 168 RX4 yX4_latestRows wsX4_latestRows) := goodIn_app (goodIn_of _ (by decide +kernel)) ggX5_read_X4_latestRows
set_option maxRecDepth 20000 in
theorem ggX5_read_X0_open : GoodIn wsX5_read wsX0_open := goodIn_r _ [53, 54, 55, 56, 57, 58, 52, 59, 60, 61, 62, 63, 64, 65, 66, 67, 68, 149, 150, 151, 152, 153, 154, 155] (by decide +kernel) (by decide +kernel)
set_option maxRecDepth 20000 in
theorem gX5_read_X0_open : GoodIn wsX5_read (wsV RX5 219 RX0 yX0_open wsX0_open) := goodIn_app (goodIn_of _ (by decide +kernel)) ggX5_read_X0_open
set_option maxRecDepth 20000 in
theorem ggX5_read_X5_enterRead : GoodIn wsX5_read wsX5_enterRead := goodIn_r _ [72, 5, 6, 8, 73, 43, 44, 22, 45, 46, 74, 75, 76, 77, 78, 79, 80, 81, 82, 83, 84, 85, 86, 87, 88, 89, 90, 91, 92, 93, 94, 95, 96, 97, 98, 99, 100, 101, 102, 103, 104, 105, 106, 107, 108, 11, 109, 110, 111, 112, 113, 114, 115, 116, 117, 118, 119, 120, 121, 122, 123, 124, 125, 126, 127, 128, 129, 130, 131, 143, 144, 145, 146, 147, 148, 132, 133, 134, 135, 136, 137, 138, 139, 140, 141, 142] (by decide +kernel) (by decide +kernel)
set_option maxRecDepth 20000 in
theorem gX5_read_X5_enterRead : GoodIn wsX5_read (wsV RX5 232 RX5 yX5_enterRead wsX5_enterRead) := goodIn_app (goodIn_of _ (by decide +kernel)) ggX5_read_X5_enterRead
theorem dX5_read_0 : decode cX5_read 0 = .ok (.iload_n 1, 1) := by decide +kernel
theorem dX5_read_1 : decode cX5_read 1 = .ok (.invokestatic 190, 3) := by decide +kernel
theorem dX5_read_4 : decode cX5_read 4 = .ok (.aload_n 0, 1) := by decide +kernel
theorem dX5_read_5 : decode cX5_read 5 = .ok (.iload_n 2, 1) := by decide +kernel
theorem dX5_read_6 : decode cX5_read 6 = .ok (.invokevirtual 111, 3) := by decide +kernel
theorem dX5_read_9 : decode cX5_read 9 = .ok (.iload 5, 2) := by decide +kernel
theorem dX5_read_11 : decode cX5_read 11 = .ok (.invokestatic 214, 3) := by decide +kernel
theorem dX5_read_14 : decode cX5_read 14 = .ok (.aload_n 0, 1) := by decide +kernel
theorem dX5_read_15 : decode cX5_read 15 = .ok (.iload_n 2, 1) := by decide +kernel
theorem dX5_read_16 : decode cX5_read 16 = .ok (.iload_n 3, 1) := by decide +kernel
theorem dX5_read_17 : decode cX5_read 17 = .ok (.invokevirtual 193, 3) := by decide +kernel
theorem dX5_read_20 : decode cX5_read 20 = .ok (.iload 4, 2) := by decide +kernel
theorem dX5_read_22 : decode cX5_read 22 = .ok (.iconst 1, 1) := by decide +kernel
theorem dX5_read_23 : decode cX5_read 23 = .ok (.if_icmp .ge 13, 3) := by decide +kernel
theorem dX5_read_26 : decode cX5_read 26 = .ok (.new 52, 3) := by decide +kernel
theorem dX5_read_29 : decode cX5_read 29 = .ok (.dup, 1) := by decide +kernel
theorem dX5_read_30 : decode cX5_read 30 = .ok (.ldc 223, 2) := by decide +kernel
theorem dX5_read_32 : decode cX5_read 32 = .ok (.invokespecial 56, 3) := by decide +kernel
theorem dX5_read_35 : decode cX5_read 35 = .ok (.athrow, 1) := by decide +kernel
theorem dX5_read_36 : decode cX5_read 36 = .ok (.aload_n 0, 1) := by decide +kernel
theorem dX5_read_37 : decode cX5_read 37 = .ok (.getfield 40, 3) := by decide +kernel
theorem dX5_read_40 : decode cX5_read 40 = .ok (.getfield 225, 3) := by decide +kernel
theorem dX5_read_43 : decode cX5_read 43 = .ok (.bipush 40, 2) := by decide +kernel
theorem dX5_read_45 : decode cX5_read 45 = .ok (.if_icmp .lt 13, 3) := by decide +kernel
theorem dX5_read_48 : decode cX5_read 48 = .ok (.new 62, 3) := by decide +kernel
theorem dX5_read_51 : decode cX5_read 51 = .ok (.dup, 1) := by decide +kernel
theorem dX5_read_52 : decode cX5_read 52 = .ok (.ldc 226, 2) := by decide +kernel
theorem dX5_read_54 : decode cX5_read 54 = .ok (.invokespecial 66, 3) := by decide +kernel
theorem dX5_read_57 : decode cX5_read 57 = .ok (.athrow, 1) := by decide +kernel
theorem dX5_read_58 : decode cX5_read 58 = .ok (.iload 4, 2) := by decide +kernel
theorem dX5_read_60 : decode cX5_read 60 = .ok (.aload_n 0, 1) := by decide +kernel
theorem dX5_read_61 : decode cX5_read 61 = .ok (.getfield 12, 3) := by decide +kernel
theorem dX5_read_64 : decode cX5_read 64 = .ok (.iload_n 2, 1) := by decide +kernel
theorem dX5_read_65 : decode cX5_read 65 = .ok (.invokevirtual 168, 3) := by decide +kernel
theorem dX5_read_68 : decode cX5_read 68 = .ok (.if_icmp .le 13, 3) := by decide +kernel
theorem dX5_read_71 : decode cX5_read 71 = .ok (.new 62, 3) := by decide +kernel
theorem dX5_read_74 : decode cX5_read 74 = .ok (.dup, 1) := by decide +kernel
theorem dX5_read_75 : decode cX5_read 75 = .ok (.ldc 228, 2) := by decide +kernel
theorem dX5_read_77 : decode cX5_read 77 = .ok (.invokespecial 66, 3) := by decide +kernel
theorem dX5_read_80 : decode cX5_read 80 = .ok (.athrow, 1) := by decide +kernel
theorem dX5_read_81 : decode cX5_read 81 = .ok (.iload_n 3, 1) := by decide +kernel
theorem dX5_read_82 : decode cX5_read 82 = .ok (.aload_n 0, 1) := by decide +kernel
theorem dX5_read_83 : decode cX5_read 83 = .ok (.getfield 33, 3) := by decide +kernel
theorem dX5_read_86 : decode cX5_read 86 = .ok (.iload_n 1, 1) := by decide +kernel
theorem dX5_read_87 : decode cX5_read 87 = .ok (.iload_n 2, 1) := by decide +kernel
theorem dX5_read_88 : decode cX5_read 88 = .ok (.iconst 1, 1) := by decide +kernel
theorem dX5_read_89 : decode cX5_read 89 = .ok (.iload 5, 2) := by decide +kernel
theorem dX5_read_91 : decode cX5_read 91 = .ok (.ishl, 1) := by decide +kernel
theorem dX5_read_92 : decode cX5_read 92 = .ok (.aload_n 0, 1) := by decide +kernel
theorem dX5_read_93 : decode cX5_read 93 = .ok (.getfield 48, 3) := by decide +kernel
theorem dX5_read_96 : decode cX5_read 96 = .ok (.iconst (-1), 1) := by decide +kernel
theorem dX5_read_97 : decode cX5_read 97 = .ok (.invokevirtual 219, 3) := by decide +kernel
theorem dX5_read_100 : decode cX5_read 100 = .ok (.iconst (-1), 1) := by decide +kernel
theorem dX5_read_101 : decode cX5_read 101 = .ok (.ixor, 1) := by decide +kernel
theorem dX5_read_102 : decode cX5_read 102 = .ok (.iand, 1) := by decide +kernel
theorem dX5_read_103 : decode cX5_read 103 = .ok (.ifCond .eq 13, 3) := by decide +kernel
theorem dX5_read_106 : decode cX5_read 106 = .ok (.new 62, 3) := by decide +kernel
theorem dX5_read_109 : decode cX5_read 109 = .ok (.dup, 1) := by decide +kernel
theorem dX5_read_110 : decode cX5_read 110 = .ok (.ldc 230, 2) := by decide +kernel
theorem dX5_read_112 : decode cX5_read 112 = .ok (.invokespecial 66, 3) := by decide +kernel
theorem dX5_read_115 : decode cX5_read 115 = .ok (.athrow, 1) := by decide +kernel
theorem dX5_read_116 : decode cX5_read 116 = .ok (.aload_n 0, 1) := by decide +kernel
theorem dX5_read_117 : decode cX5_read 117 = .ok (.iload_n 1, 1) := by decide +kernel
theorem dX5_read_118 : decode cX5_read 118 = .ok (.iload_n 2, 1) := by decide +kernel
theorem dX5_read_119 : decode cX5_read 119 = .ok (.iload_n 3, 1) := by decide +kernel
theorem dX5_read_120 : decode cX5_read 120 = .ok (.iload 4, 2) := by decide +kernel
theorem dX5_read_122 : decode cX5_read 122 = .ok (.iload 5, 2) := by decide +kernel
theorem dX5_read_124 : decode cX5_read 124 = .ok (.invokevirtual 232, 3) := by decide +kernel
theorem dX5_read_127 : decode cX5_read 127 = .ok (.ireturn, 1) := by decide +kernel
set_option maxRecDepth 20000 in
theorem ggX5_preview_X5_needReader : GoodIn wsX5_preview wsX5_needReader := goodIn_ca (goodIn_r _ [10, 11, 12] (by decide +kernel) (by decide +kernel)) (goodIn_sub (fun _ h => List.mem_cons_of_mem _ (List.mem_append_right _ h)) (by decide +kernel))
set_option maxRecDepth 20000 in
theorem gX5_preview_X5_needReader : GoodIn wsX5_preview (va_wsS RX5 190 yX5_needReader wsX5_needReader) := goodIn_app (goodIn_of _ (by decide +kernel)) ggX5_preview_X5_needReader
set_option maxRecDepth 20000 in
theorem ggX5_preview_X5_needSet : GoodIn wsX5_preview wsX5_needSet := goodIn_ca (goodIn_r _ [16, 11, 12, 5, 17, 18, 19, 20, 21, 22, 72, 73, 74, 75, 76, 77, 78, 79, 80, 81, 82, 83, 84] (by decide +kernel) (by decide +kernel)) (goodIn_sub (fun _ h => List.mem_cons_of_mem _ (List.mem_append_right _ h)) (by decide +kernel))
set_option maxRecDepth 20000 in
theorem gX5_preview_X5_needSet : GoodIn wsX5_preview (wsV RX5 111 RX5 yX5_needSet wsX5_needSet) := goodIn_app (goodIn_of _ (by decide +kernel)) ggX5_preview_X5_needSet
set_option maxRecDepth 20000 in
theorem ggX5_preview_X5_needFields : GoodIn wsX5_preview wsX5_needFields := goodIn_ca (goodIn_r _ [26, 1, 2, 5, 27, 28, 29, 20, 30, 31, 72, 73, 74, 75, 76, 77, 78, 79, 80, 81, 82, 83, 84] (by decide +kernel) (by decide +kernel)) (goodIn_sub (fun _ h => List.mem_cons_of_mem _ (List.mem_append_left _ (List.mem_append_left _ (List.mem_append_right _ h)))) (by decide +kernel))
set_option maxRecDepth 20000 in
theorem gX5_preview_X5_needFields : GoodIn wsX5_preview (wsV RX5 193 RX5 yX5_needFields wsX5_needFields) := goodIn_app (goodIn_of _ (by decide +kernel)) ggX5_preview_X5_needFields
set_option maxRecDepth 20000 in
theorem ggX5_preview_J6_bitCount_0f7a4 : GoodIn wsX5_preview wsJ6_bitCount_0f7a4 := goodIn_r _ [35, 36, 37, 38] (by decide +kernel) (by decide +kernel)
set_option maxRecDepth 20000 in
theorem gX5_preview_J6_bitCount_0f7a4 : GoodIn wsX5_preview (va_wsS RX5 235 yJ6_bitCount_0f7a4 wsJ6_bitCount_0f7a4) := goodIn_app (goodIn_of _ (by decide +kernel)) ggX5_preview_J6_bitCount_0f7a4
set_option maxRecDepth 20000 in
theorem ggX5_preview_X5_previewAt : GoodIn wsX5_preview wsX5_previewAt := goodIn_r _ [41] (by decide +kernel) (by decide +kernel)
set_option maxRecDepth 20000 in
theorem gX5_preview_X5_previewAt : GoodIn wsX5_preview (va_wsS RX5 244 yX5_previewAt wsX5_previewAt) := goodIn_app (goodIn_of _ (by decide +kernel)) ggX5_preview_X5_previewAt
set_option maxRecDepth 20000 in
theorem ggX5_preview_X5_openToday : GoodIn wsX5_preview wsX5_openToday := goodIn_r _ [45, 46, 47, 48, 49, 50, 51, 52, 53, 54, 55, 56, 57, 58, 59, 60, 61, 62, 63, 64, 65, 66, 67, 72, 73, 74, 75, 76, 77, 78, 85, 86, 87, 88, 89, 90, 91] (by decide +kernel) (by decide +kernel)
set_option maxRecDepth 20000 in
theorem gX5_preview_X5_openToday : GoodIn wsX5_preview (wsV RX5 247 RX5 yX5_openToday wsX5_openToday) := goodIn_app (goodIn_of _ (by decide +kernel)) ggX5_preview_X5_openToday
set_option maxRecDepth 20000 in
theorem ggX5_preview_X5_mayBeSeen : GoodIn wsX5_preview wsX5_mayBeSeen := goodIn_r _ [71, 5, 27, 28, 29, 20, 30, 31, 32, 33, 34, 35, 36, 37, 38, 72, 73, 74, 75, 76, 77, 78, 79, 80, 81, 82, 83, 84] (by decide +kernel) (by decide +kernel)
set_option maxRecDepth 20000 in
theorem gX5_preview_X5_mayBeSeen : GoodIn wsX5_preview (wsV RX5 250 RX5 yX5_mayBeSeen wsX5_mayBeSeen) := goodIn_app (goodIn_of _ (by decide +kernel)) ggX5_preview_X5_mayBeSeen
theorem dX5_preview_0 : decode cX5_preview 0 = .ok (.iload_n 1, 1) := by decide +kernel
theorem dX5_preview_1 : decode cX5_preview 1 = .ok (.invokestatic 190, 3) := by decide +kernel
theorem dX5_preview_4 : decode cX5_preview 4 = .ok (.aload_n 0, 1) := by decide +kernel
theorem dX5_preview_5 : decode cX5_preview 5 = .ok (.iload_n 2, 1) := by decide +kernel
theorem dX5_preview_6 : decode cX5_preview 6 = .ok (.invokevirtual 111, 3) := by decide +kernel
theorem dX5_preview_9 : decode cX5_preview 9 = .ok (.aload_n 0, 1) := by decide +kernel
theorem dX5_preview_10 : decode cX5_preview 10 = .ok (.iload_n 2, 1) := by decide +kernel
theorem dX5_preview_11 : decode cX5_preview 11 = .ok (.iload_n 3, 1) := by decide +kernel
theorem dX5_preview_12 : decode cX5_preview 12 = .ok (.invokevirtual 193, 3) := by decide +kernel
theorem dX5_preview_15 : decode cX5_preview 15 = .ok (.iload_n 3, 1) := by decide +kernel
theorem dX5_preview_16 : decode cX5_preview 16 = .ok (.invokestatic 235, 3) := by decide +kernel
theorem dX5_preview_19 : decode cX5_preview 19 = .ok (.iconst 2, 1) := by decide +kernel
theorem dX5_preview_20 : decode cX5_preview 20 = .ok (.if_icmp .le 13, 3) := by decide +kernel
theorem dX5_preview_23 : decode cX5_preview 23 = .ok (.new 52, 3) := by decide +kernel
theorem dX5_preview_26 : decode cX5_preview 26 = .ok (.dup, 1) := by decide +kernel
theorem dX5_preview_27 : decode cX5_preview 27 = .ok (.ldc 240, 2) := by decide +kernel
theorem dX5_preview_29 : decode cX5_preview 29 = .ok (.invokespecial 56, 3) := by decide +kernel
theorem dX5_preview_32 : decode cX5_preview 32 = .ok (.athrow, 1) := by decide +kernel
theorem dX5_preview_33 : decode cX5_preview 33 = .ok (.aload_n 0, 1) := by decide +kernel
theorem dX5_preview_34 : decode cX5_preview 34 = .ok (.getfield 12, 3) := by decide +kernel
theorem dX5_preview_37 : decode cX5_preview 37 = .ok (.getfield 117, 3) := by decide +kernel
theorem dX5_preview_40 : decode cX5_preview 40 = .ok (.iload_n 2, 1) := by decide +kernel
theorem dX5_preview_41 : decode cX5_preview 41 = .ok (.iaload, 1) := by decide +kernel
theorem dX5_preview_42 : decode cX5_preview 42 = .ok (.ifCond .ne 13, 3) := by decide +kernel
theorem dX5_preview_45 : decode cX5_preview 45 = .ok (.new 62, 3) := by decide +kernel
theorem dX5_preview_48 : decode cX5_preview 48 = .ok (.dup, 1) := by decide +kernel
theorem dX5_preview_49 : decode cX5_preview 49 = .ok (.ldc 242, 2) := by decide +kernel
theorem dX5_preview_51 : decode cX5_preview 51 = .ok (.invokespecial 66, 3) := by decide +kernel
theorem dX5_preview_54 : decode cX5_preview 54 = .ok (.athrow, 1) := by decide +kernel
theorem dX5_preview_55 : decode cX5_preview 55 = .ok (.iload_n 1, 1) := by decide +kernel
theorem dX5_preview_56 : decode cX5_preview 56 = .ok (.iload_n 2, 1) := by decide +kernel
theorem dX5_preview_57 : decode cX5_preview 57 = .ok (.invokestatic 244, 3) := by decide +kernel
theorem dX5_preview_60 : decode cX5_preview 60 = .ok (.istore 4, 2) := by decide +kernel
theorem dX5_preview_62 : decode cX5_preview 62 = .ok (.aload_n 0, 1) := by decide +kernel
theorem dX5_preview_63 : decode cX5_preview 63 = .ok (.getfield 44, 3) := by decide +kernel
theorem dX5_preview_66 : decode cX5_preview 66 = .ok (.iload 4, 2) := by decide +kernel
theorem dX5_preview_68 : decode cX5_preview 68 = .ok (.iaload, 1) := by decide +kernel
theorem dX5_preview_69 : decode cX5_preview 69 = .ok (.iload_n 3, 1) := by decide +kernel
theorem dX5_preview_70 : decode cX5_preview 70 = .ok (.ior, 1) := by decide +kernel
theorem dX5_preview_71 : decode cX5_preview 71 = .ok (.istore 5, 2) := by decide +kernel
theorem dX5_preview_73 : decode cX5_preview 73 = .ok (.aload_n 0, 1) := by decide +kernel
theorem dX5_preview_74 : decode cX5_preview 74 = .ok (.iload_n 2, 1) := by decide +kernel
theorem dX5_preview_75 : decode cX5_preview 75 = .ok (.iload 5, 2) := by decide +kernel
theorem dX5_preview_77 : decode cX5_preview 77 = .ok (.aload_n 0, 1) := by decide +kernel
theorem dX5_preview_78 : decode cX5_preview 78 = .ok (.iload_n 1, 1) := by decide +kernel
theorem dX5_preview_79 : decode cX5_preview 79 = .ok (.iload_n 2, 1) := by decide +kernel
theorem dX5_preview_80 : decode cX5_preview 80 = .ok (.invokevirtual 247, 3) := by decide +kernel
theorem dX5_preview_83 : decode cX5_preview 83 = .ok (.invokevirtual 250, 3) := by decide +kernel
theorem dX5_preview_86 : decode cX5_preview 86 = .ok (.ifCond .ne 13, 3) := by decide +kernel
theorem dX5_preview_89 : decode cX5_preview 89 = .ok (.new 62, 3) := by decide +kernel
theorem dX5_preview_92 : decode cX5_preview 92 = .ok (.dup, 1) := by decide +kernel
theorem dX5_preview_93 : decode cX5_preview 93 = .ok (.ldc 254, 2) := by decide +kernel
theorem dX5_preview_95 : decode cX5_preview 95 = .ok (.invokespecial 66, 3) := by decide +kernel
theorem dX5_preview_98 : decode cX5_preview 98 = .ok (.athrow, 1) := by decide +kernel
theorem dX5_preview_99 : decode cX5_preview 99 = .ok (.aload_n 0, 1) := by decide +kernel
theorem dX5_preview_100 : decode cX5_preview 100 = .ok (.getfield 44, 3) := by decide +kernel
theorem dX5_preview_103 : decode cX5_preview 103 = .ok (.iload 4, 2) := by decide +kernel
theorem dX5_preview_105 : decode cX5_preview 105 = .ok (.iload 5, 2) := by decide +kernel
theorem dX5_preview_107 : decode cX5_preview 107 = .ok (.iastore, 1) := by decide +kernel
theorem dX5_preview_108 : decode cX5_preview 108 = .ok (.iload 5, 2) := by decide +kernel
theorem dX5_preview_110 : decode cX5_preview 110 = .ok (.ireturn, 1) := by decide +kernel
set_option maxRecDepth 20000 in
theorem ggX5_ofRead_X3_unitsOf : GoodIn wsX5_ofRead wsX3_unitsOf := goodIn_r _ [11, 12, 13, 14, 15, 16, 17, 18, 19, 20, 44, 45, 46, 47, 48, 49, 50, 51, 52, 53, 54] (by decide +kernel) (by decide +kernel)
set_option maxRecDepth 20000 in
theorem gX5_ofRead_X3_unitsOf : GoodIn wsX5_ofRead (wsV RX5 275 RX3 yX3_unitsOf wsX3_unitsOf) := goodIn_app (goodIn_of _ (by decide +kernel)) ggX5_ofRead_X3_unitsOf
set_option maxRecDepth 20000 in
theorem ggX5_ofRead_X3_chargeOf : GoodIn wsX5_ofRead wsX3_chargeOf := goodIn_r _ [24, 25, 26, 27, 28, 44, 45, 46, 47, 48, 49, 50, 51, 52, 53, 54] (by decide +kernel) (by decide +kernel)
set_option maxRecDepth 20000 in
theorem gX5_ofRead_X3_chargeOf : GoodIn wsX5_ofRead (wsV RX5 281 RX3 yX3_chargeOf wsX3_chargeOf) := goodIn_app (goodIn_of _ (by decide +kernel)) ggX5_ofRead_X3_chargeOf
set_option maxRecDepth 20000 in
theorem ggX5_ofRead_X3_creditOf : GoodIn wsX5_ofRead wsX3_creditOf := goodIn_r _ [32, 33, 34, 25, 35, 27, 36, 26, 28, 44, 45, 46, 47, 48, 49, 50, 51, 52, 53, 54] (by decide +kernel) (by decide +kernel)
set_option maxRecDepth 20000 in
theorem gX5_ofRead_X3_creditOf : GoodIn wsX5_ofRead (wsV RX5 284 RX3 yX3_creditOf wsX3_creditOf) := goodIn_app (goodIn_of _ (by decide +kernel)) ggX5_ofRead_X3_creditOf
theorem dX5_ofRead_0 : decode cX5_ofRead 0 = .ok (.iload_n 1, 1) := by decide +kernel
theorem dX5_ofRead_1 : decode cX5_ofRead 1 = .ok (.ifCond .lt 14, 3) := by decide +kernel
theorem dX5_ofRead_4 : decode cX5_ofRead 4 = .ok (.iload_n 1, 1) := by decide +kernel
theorem dX5_ofRead_5 : decode cX5_ofRead 5 = .ok (.aload_n 0, 1) := by decide +kernel
theorem dX5_ofRead_6 : decode cX5_ofRead 6 = .ok (.getfield 40, 3) := by decide +kernel
theorem dX5_ofRead_9 : decode cX5_ofRead 9 = .ok (.getfield 225, 3) := by decide +kernel
theorem dX5_ofRead_12 : decode cX5_ofRead 12 = .ok (.if_icmp .lt 14, 3) := by decide +kernel
theorem dX5_ofRead_15 : decode cX5_ofRead 15 = .ok (.new 256, 3) := by decide +kernel
theorem dX5_ofRead_18 : decode cX5_ofRead 18 = .ok (.dup, 1) := by decide +kernel
theorem dX5_ofRead_19 : decode cX5_ofRead 19 = .ok (.ldc_w 258, 3) := by decide +kernel
theorem dX5_ofRead_22 : decode cX5_ofRead 22 = .ok (.invokespecial 260, 3) := by decide +kernel
theorem dX5_ofRead_25 : decode cX5_ofRead 25 = .ok (.athrow, 1) := by decide +kernel
theorem dX5_ofRead_26 : decode cX5_ofRead 26 = .ok (.iload_n 2, 1) := by decide +kernel
theorem dX5_ofRead_27 : decode cX5_ofRead 27 = .ok (.tableswitch 185 0 11 #[61, 71, 81, 91, 101, 111, 121, 130, 140, 149, 165, 175], 61) := by decide +kernel
theorem dX5_ofRead_88 : decode cX5_ofRead 88 = .ok (.aload_n 0, 1) := by decide +kernel
theorem dX5_ofRead_89 : decode cX5_ofRead 89 = .ok (.getfield 40, 3) := by decide +kernel
theorem dX5_ofRead_92 : decode cX5_ofRead 92 = .ok (.getfield 261, 3) := by decide +kernel
theorem dX5_ofRead_95 : decode cX5_ofRead 95 = .ok (.iload_n 1, 1) := by decide +kernel
theorem dX5_ofRead_96 : decode cX5_ofRead 96 = .ok (.iaload, 1) := by decide +kernel
theorem dX5_ofRead_97 : decode cX5_ofRead 97 = .ok (.ireturn, 1) := by decide +kernel
theorem dX5_ofRead_98 : decode cX5_ofRead 98 = .ok (.aload_n 0, 1) := by decide +kernel
theorem dX5_ofRead_99 : decode cX5_ofRead 99 = .ok (.getfield 40, 3) := by decide +kernel
theorem dX5_ofRead_102 : decode cX5_ofRead 102 = .ok (.getfield 264, 3) := by decide +kernel
theorem dX5_ofRead_105 : decode cX5_ofRead 105 = .ok (.iload_n 1, 1) := by decide +kernel
theorem dX5_ofRead_106 : decode cX5_ofRead 106 = .ok (.iaload, 1) := by decide +kernel
theorem dX5_ofRead_107 : decode cX5_ofRead 107 = .ok (.ireturn, 1) := by decide +kernel
theorem dX5_ofRead_108 : decode cX5_ofRead 108 = .ok (.aload_n 0, 1) := by decide +kernel
theorem dX5_ofRead_109 : decode cX5_ofRead 109 = .ok (.getfield 40, 3) := by decide +kernel
theorem dX5_ofRead_112 : decode cX5_ofRead 112 = .ok (.getfield 267, 3) := by decide +kernel
theorem dX5_ofRead_115 : decode cX5_ofRead 115 = .ok (.iload_n 1, 1) := by decide +kernel
theorem dX5_ofRead_116 : decode cX5_ofRead 116 = .ok (.iaload, 1) := by decide +kernel
theorem dX5_ofRead_117 : decode cX5_ofRead 117 = .ok (.ireturn, 1) := by decide +kernel
theorem dX5_ofRead_118 : decode cX5_ofRead 118 = .ok (.aload_n 0, 1) := by decide +kernel
theorem dX5_ofRead_119 : decode cX5_ofRead 119 = .ok (.getfield 40, 3) := by decide +kernel
theorem dX5_ofRead_122 : decode cX5_ofRead 122 = .ok (.getfield 268, 3) := by decide +kernel
theorem dX5_ofRead_125 : decode cX5_ofRead 125 = .ok (.iload_n 1, 1) := by decide +kernel
theorem dX5_ofRead_126 : decode cX5_ofRead 126 = .ok (.iaload, 1) := by decide +kernel
theorem dX5_ofRead_127 : decode cX5_ofRead 127 = .ok (.ireturn, 1) := by decide +kernel
theorem dX5_ofRead_128 : decode cX5_ofRead 128 = .ok (.aload_n 0, 1) := by decide +kernel
theorem dX5_ofRead_129 : decode cX5_ofRead 129 = .ok (.getfield 40, 3) := by decide +kernel
theorem dX5_ofRead_132 : decode cX5_ofRead 132 = .ok (.getfield 269, 3) := by decide +kernel
theorem dX5_ofRead_135 : decode cX5_ofRead 135 = .ok (.iload_n 1, 1) := by decide +kernel
theorem dX5_ofRead_136 : decode cX5_ofRead 136 = .ok (.iaload, 1) := by decide +kernel
theorem dX5_ofRead_137 : decode cX5_ofRead 137 = .ok (.ireturn, 1) := by decide +kernel
theorem dX5_ofRead_138 : decode cX5_ofRead 138 = .ok (.aload_n 0, 1) := by decide +kernel
theorem dX5_ofRead_139 : decode cX5_ofRead 139 = .ok (.getfield 40, 3) := by decide +kernel
theorem dX5_ofRead_142 : decode cX5_ofRead 142 = .ok (.getfield 272, 3) := by decide +kernel
theorem dX5_ofRead_145 : decode cX5_ofRead 145 = .ok (.iload_n 1, 1) := by decide +kernel
theorem dX5_ofRead_146 : decode cX5_ofRead 146 = .ok (.iaload, 1) := by decide +kernel
theorem dX5_ofRead_147 : decode cX5_ofRead 147 = .ok (.ireturn, 1) := by decide +kernel
theorem dX5_ofRead_148 : decode cX5_ofRead 148 = .ok (.aload_n 0, 1) := by decide +kernel
theorem dX5_ofRead_149 : decode cX5_ofRead 149 = .ok (.getfield 40, 3) := by decide +kernel
theorem dX5_ofRead_152 : decode cX5_ofRead 152 = .ok (.iload_n 1, 1) := by decide +kernel
theorem dX5_ofRead_153 : decode cX5_ofRead 153 = .ok (.invokevirtual 275, 3) := by decide +kernel
theorem dX5_ofRead_156 : decode cX5_ofRead 156 = .ok (.ireturn, 1) := by decide +kernel
theorem dX5_ofRead_157 : decode cX5_ofRead 157 = .ok (.aload_n 0, 1) := by decide +kernel
theorem dX5_ofRead_158 : decode cX5_ofRead 158 = .ok (.getfield 40, 3) := by decide +kernel
theorem dX5_ofRead_161 : decode cX5_ofRead 161 = .ok (.getfield 278, 3) := by decide +kernel
theorem dX5_ofRead_164 : decode cX5_ofRead 164 = .ok (.iload_n 1, 1) := by decide +kernel
theorem dX5_ofRead_165 : decode cX5_ofRead 165 = .ok (.iaload, 1) := by decide +kernel
theorem dX5_ofRead_166 : decode cX5_ofRead 166 = .ok (.ireturn, 1) := by decide +kernel
theorem dX5_ofRead_167 : decode cX5_ofRead 167 = .ok (.aload_n 0, 1) := by decide +kernel
theorem dX5_ofRead_168 : decode cX5_ofRead 168 = .ok (.getfield 40, 3) := by decide +kernel
theorem dX5_ofRead_171 : decode cX5_ofRead 171 = .ok (.iload_n 1, 1) := by decide +kernel
theorem dX5_ofRead_172 : decode cX5_ofRead 172 = .ok (.invokevirtual 281, 3) := by decide +kernel
theorem dX5_ofRead_175 : decode cX5_ofRead 175 = .ok (.ireturn, 1) := by decide +kernel
theorem dX5_ofRead_176 : decode cX5_ofRead 176 = .ok (.aload_n 0, 1) := by decide +kernel
theorem dX5_ofRead_177 : decode cX5_ofRead 177 = .ok (.getfield 40, 3) := by decide +kernel
theorem dX5_ofRead_180 : decode cX5_ofRead 180 = .ok (.iload_n 1, 1) := by decide +kernel
theorem dX5_ofRead_181 : decode cX5_ofRead 181 = .ok (.aload_n 0, 1) := by decide +kernel
theorem dX5_ofRead_182 : decode cX5_ofRead 182 = .ok (.getfield 26, 3) := by decide +kernel
theorem dX5_ofRead_185 : decode cX5_ofRead 185 = .ok (.getfield 153, 3) := by decide +kernel
theorem dX5_ofRead_188 : decode cX5_ofRead 188 = .ok (.invokevirtual 284, 3) := by decide +kernel
theorem dX5_ofRead_191 : decode cX5_ofRead 191 = .ok (.ireturn, 1) := by decide +kernel
theorem dX5_ofRead_192 : decode cX5_ofRead 192 = .ok (.aload_n 0, 1) := by decide +kernel
theorem dX5_ofRead_193 : decode cX5_ofRead 193 = .ok (.getfield 40, 3) := by decide +kernel
theorem dX5_ofRead_196 : decode cX5_ofRead 196 = .ok (.getfield 288, 3) := by decide +kernel
theorem dX5_ofRead_199 : decode cX5_ofRead 199 = .ok (.iload_n 1, 1) := by decide +kernel
theorem dX5_ofRead_200 : decode cX5_ofRead 200 = .ok (.iaload, 1) := by decide +kernel
theorem dX5_ofRead_201 : decode cX5_ofRead 201 = .ok (.ireturn, 1) := by decide +kernel
theorem dX5_ofRead_202 : decode cX5_ofRead 202 = .ok (.aload_n 0, 1) := by decide +kernel
theorem dX5_ofRead_203 : decode cX5_ofRead 203 = .ok (.getfield 40, 3) := by decide +kernel
theorem dX5_ofRead_206 : decode cX5_ofRead 206 = .ok (.getfield 291, 3) := by decide +kernel
theorem dX5_ofRead_209 : decode cX5_ofRead 209 = .ok (.iload_n 1, 1) := by decide +kernel
theorem dX5_ofRead_210 : decode cX5_ofRead 210 = .ok (.iaload, 1) := by decide +kernel
theorem dX5_ofRead_211 : decode cX5_ofRead 211 = .ok (.ireturn, 1) := by decide +kernel
theorem dX5_ofRead_212 : decode cX5_ofRead 212 = .ok (.new 52, 3) := by decide +kernel
theorem dX5_ofRead_215 : decode cX5_ofRead 215 = .ok (.dup, 1) := by decide +kernel
theorem dX5_ofRead_216 : decode cX5_ofRead 216 = .ok (.ldc_w 294, 3) := by decide +kernel
theorem dX5_ofRead_219 : decode cX5_ofRead 219 = .ok (.invokespecial 56, 3) := by decide +kernel
theorem dX5_ofRead_222 : decode cX5_ofRead 222 = .ok (.athrow, 1) := by decide +kernel
set_option maxRecDepth 20000 in
theorem ggX5_ofReader_X5_needReader : GoodIn wsX5_ofReader wsX5_needReader := goodIn_ca (goodIn_r _ [10, 11, 12] (by decide +kernel) (by decide +kernel)) (goodIn_sub (fun _ h => List.mem_cons_of_mem _ (List.mem_append_right _ h)) (by decide +kernel))
set_option maxRecDepth 20000 in
theorem gX5_ofReader_X5_needReader : GoodIn wsX5_ofReader (va_wsS RX5 190 yX5_needReader wsX5_needReader) := goodIn_app (goodIn_of _ (by decide +kernel)) ggX5_ofReader_X5_needReader
set_option maxRecDepth 20000 in
theorem ggX5_ofReader_X3_unitsInPeriod : GoodIn wsX5_ofReader wsX3_unitsInPeriod := goodIn_r _ [17, 18, 19, 20, 21, 22, 23, 16, 24, 25, 26, 27, 28, 29, 30, 31, 32, 33, 102, 103, 104, 105, 106, 107, 108, 109, 110, 111, 112] (by decide +kernel) (by decide +kernel)
set_option maxRecDepth 20000 in
theorem gX5_ofReader_X3_unitsInPeriod : GoodIn wsX5_ofReader (wsV RX5 296 RX3 yX3_unitsInPeriod wsX3_unitsInPeriod) := goodIn_app (goodIn_of _ (by decide +kernel)) ggX5_ofReader_X3_unitsInPeriod
set_option maxRecDepth 20000 in
theorem ggX5_ofReader_X3_count : GoodIn wsX5_ofReader wsX3_count := goodIn_r _ [37, 18, 38, 39, 40, 16, 41, 19, 42, 102, 103, 104, 105, 106, 107, 108, 109, 110, 111, 112] (by decide +kernel) (by decide +kernel)
set_option maxRecDepth 20000 in
theorem gX5_ofReader_X3_count : GoodIn wsX5_ofReader (wsV RX5 174 RX3 yX3_count wsX3_count) := goodIn_app (goodIn_of _ (by decide +kernel)) ggX5_ofReader_X3_count
set_option maxRecDepth 20000 in
theorem ggX5_ofReader_X3_charge : GoodIn wsX5_ofReader wsX3_charge := goodIn_r _ [46, 18, 38, 39, 40, 16, 41, 19, 42, 47, 48, 49, 50, 51, 52, 9, 53, 102, 103, 104, 105, 106, 107, 108, 109, 110, 111, 112] (by decide +kernel) (by decide +kernel)
set_option maxRecDepth 20000 in
theorem gX5_ofReader_X3_charge : GoodIn wsX5_ofReader (wsV RX5 177 RX3 yX3_charge wsX3_charge) := goodIn_app (goodIn_of _ (by decide +kernel)) ggX5_ofReader_X3_charge
set_option maxRecDepth 20000 in
theorem ggX5_ofReader_X3_credit : GoodIn wsX5_ofReader wsX3_credit := goodIn_r _ [57, 18, 38, 39, 40, 16, 41, 19, 42, 58, 59, 60, 61, 62, 51, 63, 9, 64, 52, 53, 102, 103, 104, 105, 106, 107, 108, 109, 110, 111, 112] (by decide +kernel) (by decide +kernel)
set_option maxRecDepth 20000 in
theorem gX5_ofReader_X3_credit : GoodIn wsX5_ofReader (wsV RX5 180 RX3 yX3_credit wsX3_credit) := goodIn_app (goodIn_of _ (by decide +kernel)) ggX5_ofReader_X3_credit
set_option maxRecDepth 20000 in
theorem ggX5_ofReader_X3_billedTo : GoodIn wsX5_ofReader wsX3_billedTo := goodIn_r _ [68, 18, 69, 38, 39, 40, 16, 41, 19, 42, 102, 103, 104, 105, 106, 107, 108, 109, 110, 111, 112] (by decide +kernel) (by decide +kernel)
set_option maxRecDepth 20000 in
theorem gX5_ofReader_X3_billedTo : GoodIn wsX5_ofReader (wsV RX5 299 RX3 yX3_billedTo wsX3_billedTo) := goodIn_app (goodIn_of _ (by decide +kernel)) ggX5_ofReader_X3_billedTo
set_option maxRecDepth 20000 in
theorem ggX5_ofReader_X3_due : GoodIn wsX5_ofReader wsX3_due := goodIn_r _ [73, 18, 69, 38, 39, 40, 16, 41, 19, 42, 74, 75, 76, 77, 47, 48, 49, 50, 51, 52, 9, 53, 58, 59, 60, 61, 62, 63, 64, 102, 103, 104, 105, 106, 107, 108, 109, 110, 111, 112] (by decide +kernel) (by decide +kernel)
set_option maxRecDepth 20000 in
theorem gX5_ofReader_X3_due : GoodIn wsX5_ofReader (wsV RX5 302 RX3 yX3_due wsX3_due) := goodIn_app (goodIn_of _ (by decide +kernel)) ggX5_ofReader_X3_due
set_option maxRecDepth 20000 in
theorem ggX5_ofReader_X0_countOpen : GoodIn wsX5_ofReader wsX0_countOpen := goodIn_r _ [82, 83, 84, 85, 86, 87, 81, 88, 89, 90, 113, 114, 115, 116, 117, 118, 119] (by decide +kernel) (by decide +kernel)
set_option maxRecDepth 20000 in
theorem gX5_ofReader_X0_countOpen : GoodIn wsX5_ofReader (wsV RX5 305 RX0 yX0_countOpen wsX0_countOpen) := goodIn_app (goodIn_of _ (by decide +kernel)) ggX5_ofReader_X0_countOpen
theorem dX5_ofReader_0 : decode cX5_ofReader 0 = .ok (.iload_n 1, 1) := by decide +kernel
theorem dX5_ofReader_1 : decode cX5_ofReader 1 = .ok (.invokestatic 190, 3) := by decide +kernel
theorem dX5_ofReader_4 : decode cX5_ofReader 4 = .ok (.iload_n 2, 1) := by decide +kernel
theorem dX5_ofReader_5 : decode cX5_ofReader 5 = .ok (.tableswitch 131 0 6 #[43, 56, 66, 76, 93, 102, 118], 43) := by decide +kernel
theorem dX5_ofReader_48 : decode cX5_ofReader 48 = .ok (.aload_n 0, 1) := by decide +kernel
theorem dX5_ofReader_49 : decode cX5_ofReader 49 = .ok (.getfield 40, 3) := by decide +kernel
theorem dX5_ofReader_52 : decode cX5_ofReader 52 = .ok (.iload_n 1, 1) := by decide +kernel
theorem dX5_ofReader_53 : decode cX5_ofReader 53 = .ok (.aload_n 0, 1) := by decide +kernel
theorem dX5_ofReader_54 : decode cX5_ofReader 54 = .ok (.getfield 48, 3) := by decide +kernel
theorem dX5_ofReader_57 : decode cX5_ofReader 57 = .ok (.invokevirtual 296, 3) := by decide +kernel
theorem dX5_ofReader_60 : decode cX5_ofReader 60 = .ok (.ireturn, 1) := by decide +kernel
theorem dX5_ofReader_61 : decode cX5_ofReader 61 = .ok (.aload_n 0, 1) := by decide +kernel
theorem dX5_ofReader_62 : decode cX5_ofReader 62 = .ok (.getfield 40, 3) := by decide +kernel
theorem dX5_ofReader_65 : decode cX5_ofReader 65 = .ok (.iload_n 1, 1) := by decide +kernel
theorem dX5_ofReader_66 : decode cX5_ofReader 66 = .ok (.iconst (-1), 1) := by decide +kernel
theorem dX5_ofReader_67 : decode cX5_ofReader 67 = .ok (.invokevirtual 174, 3) := by decide +kernel
theorem dX5_ofReader_70 : decode cX5_ofReader 70 = .ok (.ireturn, 1) := by decide +kernel
theorem dX5_ofReader_71 : decode cX5_ofReader 71 = .ok (.aload_n 0, 1) := by decide +kernel
theorem dX5_ofReader_72 : decode cX5_ofReader 72 = .ok (.getfield 40, 3) := by decide +kernel
theorem dX5_ofReader_75 : decode cX5_ofReader 75 = .ok (.iload_n 1, 1) := by decide +kernel
theorem dX5_ofReader_76 : decode cX5_ofReader 76 = .ok (.iconst (-1), 1) := by decide +kernel
theorem dX5_ofReader_77 : decode cX5_ofReader 77 = .ok (.invokevirtual 177, 3) := by decide +kernel
theorem dX5_ofReader_80 : decode cX5_ofReader 80 = .ok (.ireturn, 1) := by decide +kernel
theorem dX5_ofReader_81 : decode cX5_ofReader 81 = .ok (.aload_n 0, 1) := by decide +kernel
theorem dX5_ofReader_82 : decode cX5_ofReader 82 = .ok (.getfield 40, 3) := by decide +kernel
theorem dX5_ofReader_85 : decode cX5_ofReader 85 = .ok (.iload_n 1, 1) := by decide +kernel
theorem dX5_ofReader_86 : decode cX5_ofReader 86 = .ok (.iconst (-1), 1) := by decide +kernel
theorem dX5_ofReader_87 : decode cX5_ofReader 87 = .ok (.aload_n 0, 1) := by decide +kernel
theorem dX5_ofReader_88 : decode cX5_ofReader 88 = .ok (.getfield 26, 3) := by decide +kernel
theorem dX5_ofReader_91 : decode cX5_ofReader 91 = .ok (.getfield 153, 3) := by decide +kernel
theorem dX5_ofReader_94 : decode cX5_ofReader 94 = .ok (.invokevirtual 180, 3) := by decide +kernel
theorem dX5_ofReader_97 : decode cX5_ofReader 97 = .ok (.ireturn, 1) := by decide +kernel
theorem dX5_ofReader_98 : decode cX5_ofReader 98 = .ok (.aload_n 0, 1) := by decide +kernel
theorem dX5_ofReader_99 : decode cX5_ofReader 99 = .ok (.getfield 40, 3) := by decide +kernel
theorem dX5_ofReader_102 : decode cX5_ofReader 102 = .ok (.iload_n 1, 1) := by decide +kernel
theorem dX5_ofReader_103 : decode cX5_ofReader 103 = .ok (.invokevirtual 299, 3) := by decide +kernel
theorem dX5_ofReader_106 : decode cX5_ofReader 106 = .ok (.ireturn, 1) := by decide +kernel
theorem dX5_ofReader_107 : decode cX5_ofReader 107 = .ok (.aload_n 0, 1) := by decide +kernel
theorem dX5_ofReader_108 : decode cX5_ofReader 108 = .ok (.getfield 40, 3) := by decide +kernel
theorem dX5_ofReader_111 : decode cX5_ofReader 111 = .ok (.iload_n 1, 1) := by decide +kernel
theorem dX5_ofReader_112 : decode cX5_ofReader 112 = .ok (.aload_n 0, 1) := by decide +kernel
theorem dX5_ofReader_113 : decode cX5_ofReader 113 = .ok (.getfield 26, 3) := by decide +kernel
theorem dX5_ofReader_116 : decode cX5_ofReader 116 = .ok (.getfield 153, 3) := by decide +kernel
theorem dX5_ofReader_119 : decode cX5_ofReader 119 = .ok (.invokevirtual 302, 3) := by decide +kernel
theorem dX5_ofReader_122 : decode cX5_ofReader 122 = .ok (.ireturn, 1) := by decide +kernel
theorem dX5_ofReader_123 : decode cX5_ofReader 123 = .ok (.aload_n 0, 1) := by decide +kernel
theorem dX5_ofReader_124 : decode cX5_ofReader 124 = .ok (.getfield 33, 3) := by decide +kernel
theorem dX5_ofReader_127 : decode cX5_ofReader 127 = .ok (.iload_n 1, 1) := by decide +kernel
theorem dX5_ofReader_128 : decode cX5_ofReader 128 = .ok (.aload_n 0, 1) := by decide +kernel
theorem dX5_ofReader_129 : decode cX5_ofReader 129 = .ok (.getfield 48, 3) := by decide +kernel
theorem dX5_ofReader_132 : decode cX5_ofReader 132 = .ok (.invokevirtual 305, 3) := by decide +kernel
theorem dX5_ofReader_135 : decode cX5_ofReader 135 = .ok (.ireturn, 1) := by decide +kernel
theorem dX5_ofReader_136 : decode cX5_ofReader 136 = .ok (.new 52, 3) := by decide +kernel
theorem dX5_ofReader_139 : decode cX5_ofReader 139 = .ok (.dup, 1) := by decide +kernel
theorem dX5_ofReader_140 : decode cX5_ofReader 140 = .ok (.ldc 184, 2) := by decide +kernel
theorem dX5_ofReader_142 : decode cX5_ofReader 142 = .ok (.invokespecial 56, 3) := by decide +kernel
theorem dX5_ofReader_145 : decode cX5_ofReader 145 = .ok (.athrow, 1) := by decide +kernel
set_option maxRecDepth 20000 in
theorem ggX5_bill_X5_needReader : GoodIn wsX5_bill wsX5_needReader := goodIn_ca (goodIn_r _ [6, 7, 8] (by decide +kernel) (by decide +kernel)) (goodIn_sub (fun _ h => List.mem_cons_of_mem _ (List.mem_append_right _ h)) (by decide +kernel))
set_option maxRecDepth 20000 in
theorem gX5_bill_X5_needReader : GoodIn wsX5_bill (va_wsS RX5 190 yX5_needReader wsX5_needReader) := goodIn_app (goodIn_of _ (by decide +kernel)) ggX5_bill_X5_needReader
set_option maxRecDepth 20000 in
theorem ggX5_bill_X3_due : GoodIn wsX5_bill wsX3_due := goodIn_r _ [13, 14, 15, 16, 17, 18, 12, 19, 20, 21, 22, 23, 24, 25, 26, 27, 28, 29, 30, 31, 5, 32, 33, 34, 35, 36, 37, 38, 39, 55, 56, 57, 58, 59, 60, 61, 62, 63, 64, 65] (by decide +kernel) (by decide +kernel)
set_option maxRecDepth 20000 in
theorem gX5_bill_X3_due : GoodIn wsX5_bill (wsV RX5 302 RX3 yX3_due wsX3_due) := goodIn_app (goodIn_of _ (by decide +kernel)) ggX5_bill_X3_due
set_option maxRecDepth 20000 in
theorem ggX5_bill_X3_settle : GoodIn wsX5_bill wsX3_settle := goodIn_r _ [43, 14, 15, 16, 17, 18, 12, 19, 20, 21, 22, 23, 24, 25, 26, 27, 28, 29, 30, 31, 5, 32, 33, 34, 35, 36, 37, 38, 39, 55, 56, 57, 58, 59, 60, 61, 62, 63, 64, 65] (by decide +kernel) (by decide +kernel)
set_option maxRecDepth 20000 in
theorem gX5_bill_X3_settle : GoodIn wsX5_bill (wsV RX5 308 RX3 yX3_settle wsX3_settle) := goodIn_app (goodIn_of _ (by decide +kernel)) ggX5_bill_X3_settle
theorem dX5_bill_0 : decode cX5_bill 0 = .ok (.iload_n 1, 1) := by decide +kernel
theorem dX5_bill_1 : decode cX5_bill 1 = .ok (.invokestatic 190, 3) := by decide +kernel
theorem dX5_bill_4 : decode cX5_bill 4 = .ok (.aload_n 0, 1) := by decide +kernel
theorem dX5_bill_5 : decode cX5_bill 5 = .ok (.getfield 40, 3) := by decide +kernel
theorem dX5_bill_8 : decode cX5_bill 8 = .ok (.iload_n 1, 1) := by decide +kernel
theorem dX5_bill_9 : decode cX5_bill 9 = .ok (.aload_n 0, 1) := by decide +kernel
theorem dX5_bill_10 : decode cX5_bill 10 = .ok (.getfield 26, 3) := by decide +kernel
theorem dX5_bill_13 : decode cX5_bill 13 = .ok (.getfield 153, 3) := by decide +kernel
theorem dX5_bill_16 : decode cX5_bill 16 = .ok (.invokevirtual 302, 3) := by decide +kernel
theorem dX5_bill_19 : decode cX5_bill 19 = .ok (.istore_n 2, 1) := by decide +kernel
theorem dX5_bill_20 : decode cX5_bill 20 = .ok (.aload_n 0, 1) := by decide +kernel
theorem dX5_bill_21 : decode cX5_bill 21 = .ok (.getfield 40, 3) := by decide +kernel
theorem dX5_bill_24 : decode cX5_bill 24 = .ok (.iload_n 1, 1) := by decide +kernel
theorem dX5_bill_25 : decode cX5_bill 25 = .ok (.aload_n 0, 1) := by decide +kernel
theorem dX5_bill_26 : decode cX5_bill 26 = .ok (.getfield 26, 3) := by decide +kernel
theorem dX5_bill_29 : decode cX5_bill 29 = .ok (.getfield 153, 3) := by decide +kernel
theorem dX5_bill_32 : decode cX5_bill 32 = .ok (.invokevirtual 308, 3) := by decide +kernel
theorem dX5_bill_35 : decode cX5_bill 35 = .ok (.iload_n 2, 1) := by decide +kernel
theorem dX5_bill_36 : decode cX5_bill 36 = .ok (.ireturn, 1) := by decide +kernel
theorem dX5_pass_0 : decode cX5_pass 0 = .ok (.iload_n 1, 1) := by decide +kernel
theorem dX5_pass_1 : decode cX5_pass 1 = .ok (.iconst 1, 1) := by decide +kernel
theorem dX5_pass_2 : decode cX5_pass 2 = .ok (.if_icmp .lt 9, 3) := by decide +kernel
theorem dX5_pass_5 : decode cX5_pass 5 = .ok (.iload_n 1, 1) := by decide +kernel
theorem dX5_pass_6 : decode cX5_pass 6 = .ok (.bipush 30, 2) := by decide +kernel
theorem dX5_pass_8 : decode cX5_pass 8 = .ok (.if_icmp .le 14, 3) := by decide +kernel
theorem dX5_pass_11 : decode cX5_pass 11 = .ok (.new 52, 3) := by decide +kernel
theorem dX5_pass_14 : decode cX5_pass 14 = .ok (.dup, 1) := by decide +kernel
theorem dX5_pass_15 : decode cX5_pass 15 = .ok (.ldc_w 311, 3) := by decide +kernel
theorem dX5_pass_18 : decode cX5_pass 18 = .ok (.invokespecial 56, 3) := by decide +kernel
theorem dX5_pass_21 : decode cX5_pass 21 = .ok (.athrow, 1) := by decide +kernel
theorem dX5_pass_22 : decode cX5_pass 22 = .ok (.aload_n 0, 1) := by decide +kernel
theorem dX5_pass_23 : decode cX5_pass 23 = .ok (.getfield 48, 3) := by decide +kernel
theorem dX5_pass_26 : decode cX5_pass 26 = .ok (.iload_n 1, 1) := by decide +kernel
theorem dX5_pass_27 : decode cX5_pass 27 = .ok (.iadd, 1) := by decide +kernel
theorem dX5_pass_28 : decode cX5_pass 28 = .ok (.sipush 359, 3) := by decide +kernel
theorem dX5_pass_31 : decode cX5_pass 31 = .ok (.if_icmp .le 14, 3) := by decide +kernel
theorem dX5_pass_34 : decode cX5_pass 34 = .ok (.new 62, 3) := by decide +kernel
theorem dX5_pass_37 : decode cX5_pass 37 = .ok (.dup, 1) := by decide +kernel
theorem dX5_pass_38 : decode cX5_pass 38 = .ok (.ldc_w 313, 3) := by decide +kernel
theorem dX5_pass_41 : decode cX5_pass 41 = .ok (.invokespecial 66, 3) := by decide +kernel
theorem dX5_pass_44 : decode cX5_pass 44 = .ok (.athrow, 1) := by decide +kernel
theorem dX5_pass_45 : decode cX5_pass 45 = .ok (.aload_n 0, 1) := by decide +kernel
theorem dX5_pass_46 : decode cX5_pass 46 = .ok (.dup, 1) := by decide +kernel
theorem dX5_pass_47 : decode cX5_pass 47 = .ok (.getfield 48, 3) := by decide +kernel
theorem dX5_pass_50 : decode cX5_pass 50 = .ok (.iload_n 1, 1) := by decide +kernel
theorem dX5_pass_51 : decode cX5_pass 51 = .ok (.iadd, 1) := by decide +kernel
theorem dX5_pass_52 : decode cX5_pass 52 = .ok (.putfield 48, 3) := by decide +kernel
theorem dX5_pass_55 : decode cX5_pass 55 = .ok (.aload_n 0, 1) := by decide +kernel
theorem dX5_pass_56 : decode cX5_pass 56 = .ok (.getfield 48, 3) := by decide +kernel
theorem dX5_pass_59 : decode cX5_pass 59 = .ok (.ireturn, 1) := by decide +kernel
set_option maxRecDepth 20000 in
theorem ggX5_many_X4_allVersions : GoodIn wsX5_many wsX4_allVersions := goodIn_r _ [13, 14, 15, 59, 60, 61, 62, 63, 64] (by decide +kernel) (by decide +kernel)
set_option maxRecDepth 20000 in
theorem gX5_many_X4_allVersions : GoodIn wsX5_many (wsV RX5 315 RX4 yX4_allVersions wsX4_allVersions) := goodIn_app (goodIn_of _ (by decide +kernel)) ggX5_many_X4_allVersions
set_option maxRecDepth 20000 in
theorem ggX5_many_X3_charge : GoodIn wsX5_many wsX3_charge := goodIn_r _ [20, 21, 22, 23, 24, 19, 25, 26, 27, 28, 29, 30, 31, 32, 33, 34, 35, 81, 82, 83, 84, 85, 86, 87, 88, 89, 90, 91] (by decide +kernel) (by decide +kernel)
set_option maxRecDepth 20000 in
theorem gX5_many_X3_charge : GoodIn wsX5_many (wsV RX5 177 RX3 yX3_charge wsX3_charge) := goodIn_app (goodIn_of _ (by decide +kernel)) ggX5_many_X3_charge
set_option maxRecDepth 20000 in
theorem ggX5_many_X3_credit : GoodIn wsX5_many wsX3_credit := goodIn_r _ [39, 21, 22, 23, 24, 19, 25, 26, 27, 40, 41, 42, 43, 44, 32, 45, 34, 46, 33, 35, 81, 82, 83, 84, 85, 86, 87, 88, 89, 90, 91] (by decide +kernel) (by decide +kernel)
set_option maxRecDepth 20000 in
theorem gX5_many_X3_credit : GoodIn wsX5_many (wsV RX5 180 RX3 yX3_credit wsX3_credit) := goodIn_app (goodIn_of _ (by decide +kernel)) ggX5_many_X3_credit
set_option maxRecDepth 20000 in
theorem ggX5_many_X3_billedTo : GoodIn wsX5_many wsX3_billedTo := goodIn_r _ [50, 21, 51, 22, 23, 24, 19, 25, 26, 27, 81, 82, 83, 84, 85, 86, 87, 88, 89, 90, 91] (by decide +kernel) (by decide +kernel)
set_option maxRecDepth 20000 in
theorem gX5_many_X3_billedTo : GoodIn wsX5_many (wsV RX5 299 RX3 yX3_billedTo wsX3_billedTo) := goodIn_app (goodIn_of _ (by decide +kernel)) ggX5_many_X3_billedTo
theorem dX5_many_0 : decode cX5_many 0 = .ok (.iload_n 1, 1) := by decide +kernel
theorem dX5_many_1 : decode cX5_many 1 = .ok (.tableswitch 132 0 8 #[51, 59, 67, 75, 83, 91, 101, 118, 127], 51) := by decide +kernel
theorem dX5_many_52 : decode cX5_many 52 = .ok (.aload_n 0, 1) := by decide +kernel
theorem dX5_many_53 : decode cX5_many 53 = .ok (.getfield 12, 3) := by decide +kernel
theorem dX5_many_56 : decode cX5_many 56 = .ok (.getfield 59, 3) := by decide +kernel
theorem dX5_many_59 : decode cX5_many 59 = .ok (.ireturn, 1) := by decide +kernel
theorem dX5_many_60 : decode cX5_many 60 = .ok (.aload_n 0, 1) := by decide +kernel
theorem dX5_many_61 : decode cX5_many 61 = .ok (.getfield 12, 3) := by decide +kernel
theorem dX5_many_64 : decode cX5_many 64 = .ok (.invokevirtual 315, 3) := by decide +kernel
theorem dX5_many_67 : decode cX5_many 67 = .ok (.ireturn, 1) := by decide +kernel
theorem dX5_many_68 : decode cX5_many 68 = .ok (.aload_n 0, 1) := by decide +kernel
theorem dX5_many_69 : decode cX5_many 69 = .ok (.getfield 19, 3) := by decide +kernel
theorem dX5_many_72 : decode cX5_many 72 = .ok (.getfield 96, 3) := by decide +kernel
theorem dX5_many_75 : decode cX5_many 75 = .ok (.ireturn, 1) := by decide +kernel
theorem dX5_many_76 : decode cX5_many 76 = .ok (.aload_n 0, 1) := by decide +kernel
theorem dX5_many_77 : decode cX5_many 77 = .ok (.getfield 33, 3) := by decide +kernel
theorem dX5_many_80 : decode cX5_many 80 = .ok (.getfield 200, 3) := by decide +kernel
theorem dX5_many_83 : decode cX5_many 83 = .ok (.ireturn, 1) := by decide +kernel
theorem dX5_many_84 : decode cX5_many 84 = .ok (.aload_n 0, 1) := by decide +kernel
theorem dX5_many_85 : decode cX5_many 85 = .ok (.getfield 40, 3) := by decide +kernel
theorem dX5_many_88 : decode cX5_many 88 = .ok (.getfield 225, 3) := by decide +kernel
theorem dX5_many_91 : decode cX5_many 91 = .ok (.ireturn, 1) := by decide +kernel
theorem dX5_many_92 : decode cX5_many 92 = .ok (.aload_n 0, 1) := by decide +kernel
theorem dX5_many_93 : decode cX5_many 93 = .ok (.getfield 40, 3) := by decide +kernel
theorem dX5_many_96 : decode cX5_many 96 = .ok (.iconst (-1), 1) := by decide +kernel
theorem dX5_many_97 : decode cX5_many 97 = .ok (.iconst (-1), 1) := by decide +kernel
theorem dX5_many_98 : decode cX5_many 98 = .ok (.invokevirtual 177, 3) := by decide +kernel
theorem dX5_many_101 : decode cX5_many 101 = .ok (.ireturn, 1) := by decide +kernel
theorem dX5_many_102 : decode cX5_many 102 = .ok (.aload_n 0, 1) := by decide +kernel
theorem dX5_many_103 : decode cX5_many 103 = .ok (.getfield 40, 3) := by decide +kernel
theorem dX5_many_106 : decode cX5_many 106 = .ok (.iconst (-1), 1) := by decide +kernel
theorem dX5_many_107 : decode cX5_many 107 = .ok (.iconst (-1), 1) := by decide +kernel
theorem dX5_many_108 : decode cX5_many 108 = .ok (.aload_n 0, 1) := by decide +kernel
theorem dX5_many_109 : decode cX5_many 109 = .ok (.getfield 26, 3) := by decide +kernel
theorem dX5_many_112 : decode cX5_many 112 = .ok (.getfield 153, 3) := by decide +kernel
theorem dX5_many_115 : decode cX5_many 115 = .ok (.invokevirtual 180, 3) := by decide +kernel
theorem dX5_many_118 : decode cX5_many 118 = .ok (.ireturn, 1) := by decide +kernel
theorem dX5_many_119 : decode cX5_many 119 = .ok (.aload_n 0, 1) := by decide +kernel
theorem dX5_many_120 : decode cX5_many 120 = .ok (.getfield 40, 3) := by decide +kernel
theorem dX5_many_123 : decode cX5_many 123 = .ok (.iconst (-1), 1) := by decide +kernel
theorem dX5_many_124 : decode cX5_many 124 = .ok (.invokevirtual 299, 3) := by decide +kernel
theorem dX5_many_127 : decode cX5_many 127 = .ok (.ireturn, 1) := by decide +kernel
theorem dX5_many_128 : decode cX5_many 128 = .ok (.aload_n 0, 1) := by decide +kernel
theorem dX5_many_129 : decode cX5_many 129 = .ok (.getfield 48, 3) := by decide +kernel
theorem dX5_many_132 : decode cX5_many 132 = .ok (.ireturn, 1) := by decide +kernel
theorem dX5_many_133 : decode cX5_many 133 = .ok (.new 52, 3) := by decide +kernel
theorem dX5_many_136 : decode cX5_many 136 = .ok (.dup, 1) := by decide +kernel
theorem dX5_many_137 : decode cX5_many 137 = .ok (.ldc_w 319, 3) := by decide +kernel
theorem dX5_many_140 : decode cX5_many 140 = .ok (.invokespecial 56, 3) := by decide +kernel
theorem dX5_many_143 : decode cX5_many 143 = .ok (.athrow, 1) := by decide +kernel
set_option maxRecDepth 20000 in
theorem ggX5_quote_X5_needReader : GoodIn wsX5_quote wsX5_needReader := goodIn_ca (goodIn_r _ [9, 10, 11] (by decide +kernel) (by decide +kernel)) (goodIn_sub (fun _ h => List.mem_cons_of_mem _ (List.mem_append_right _ h)) (by decide +kernel))
set_option maxRecDepth 20000 in
theorem gX5_quote_X5_needReader : GoodIn wsX5_quote (va_wsS RX5 190 yX5_needReader wsX5_needReader) := goodIn_app (goodIn_of _ (by decide +kernel)) ggX5_quote_X5_needReader
set_option maxRecDepth 20000 in
theorem ggX5_quote_X5_needSet : GoodIn wsX5_quote wsX5_needSet := goodIn_ca (goodIn_r _ [15, 10, 11, 5, 16, 17, 18, 19, 20, 21, 66, 67, 68, 69, 70, 71, 72, 73, 74, 75, 76, 77, 78] (by decide +kernel) (by decide +kernel)) (goodIn_sub (fun _ h => List.mem_cons_of_mem _ (List.mem_append_right _ h)) (by decide +kernel))
set_option maxRecDepth 20000 in
theorem gX5_quote_X5_needSet : GoodIn wsX5_quote (wsV RX5 111 RX5 yX5_needSet wsX5_needSet) := goodIn_app (goodIn_of _ (by decide +kernel)) ggX5_quote_X5_needSet
set_option maxRecDepth 20000 in
theorem ggX5_quote_X5_needFields : GoodIn wsX5_quote wsX5_needFields := goodIn_ca (goodIn_r _ [25, 1, 2, 5, 26, 27, 28, 19, 29, 30, 66, 67, 68, 69, 70, 71, 72, 73, 74, 75, 76, 77, 78] (by decide +kernel) (by decide +kernel)) (goodIn_sub (fun _ h => List.mem_cons_of_mem _ (List.mem_append_left _ (List.mem_append_right _ h))) (by decide +kernel))
set_option maxRecDepth 20000 in
theorem gX5_quote_X5_needFields : GoodIn wsX5_quote (wsV RX5 193 RX5 yX5_needFields wsX5_needFields) := goodIn_app (goodIn_of _ (by decide +kernel)) ggX5_quote_X5_needFields
set_option maxRecDepth 20000 in
theorem ggX5_quote_X3_tier : GoodIn wsX5_quote wsX3_tier := goodIn_r _ [35, 36, 37, 38, 34, 39, 40, 41, 42, 43, 44, 45, 46, 47, 48, 49, 50, 51, 52, 53, 54, 55, 79, 80, 81, 82, 83, 84, 85, 86, 87, 88, 89] (by decide +kernel) (by decide +kernel)
set_option maxRecDepth 20000 in
theorem gX5_quote_X3_tier : GoodIn wsX5_quote (wsV RX5 321 RX3 yX3_tier wsX3_tier) := goodIn_app (goodIn_of _ (by decide +kernel)) ggX5_quote_X3_tier
set_option maxRecDepth 20000 in
theorem ggX5_quote_X5_has : GoodIn wsX5_quote wsX5_has := goodIn_r _ [58] (by decide +kernel) (by decide +kernel)
set_option maxRecDepth 20000 in
theorem gX5_quote_X5_has : GoodIn wsX5_quote (va_wsS RX5 324 yX5_has wsX5_has) := goodIn_app (goodIn_of _ (by decide +kernel)) ggX5_quote_X5_has
set_option maxRecDepth 20000 in
theorem ggX5_quote_X4_fieldCharge : GoodIn wsX5_quote wsX4_fieldCharge := goodIn_r _ [62, 63, 64, 8, 65, 73, 74, 75, 76, 77, 78] (by decide +kernel) (by decide +kernel)
set_option maxRecDepth 20000 in
theorem gX5_quote_X4_fieldCharge : GoodIn wsX5_quote (wsV RX5 327 RX4 yX4_fieldCharge wsX4_fieldCharge) := goodIn_app (goodIn_of _ (by decide +kernel)) ggX5_quote_X4_fieldCharge
theorem dX5_quote_0 : decode cX5_quote 0 = .ok (.iload_n 1, 1) := by decide +kernel
theorem dX5_quote_1 : decode cX5_quote 1 = .ok (.invokestatic 190, 3) := by decide +kernel
theorem dX5_quote_4 : decode cX5_quote 4 = .ok (.aload_n 0, 1) := by decide +kernel
theorem dX5_quote_5 : decode cX5_quote 5 = .ok (.iload_n 2, 1) := by decide +kernel
theorem dX5_quote_6 : decode cX5_quote 6 = .ok (.invokevirtual 111, 3) := by decide +kernel
theorem dX5_quote_9 : decode cX5_quote 9 = .ok (.aload_n 0, 1) := by decide +kernel
theorem dX5_quote_10 : decode cX5_quote 10 = .ok (.iload_n 2, 1) := by decide +kernel
theorem dX5_quote_11 : decode cX5_quote 11 = .ok (.iload_n 3, 1) := by decide +kernel
theorem dX5_quote_12 : decode cX5_quote 12 = .ok (.invokevirtual 193, 3) := by decide +kernel
theorem dX5_quote_15 : decode cX5_quote 15 = .ok (.iload 4, 2) := by decide +kernel
theorem dX5_quote_17 : decode cX5_quote 17 = .ok (.iconst 1, 1) := by decide +kernel
theorem dX5_quote_18 : decode cX5_quote 18 = .ok (.if_icmp .lt 11, 3) := by decide +kernel
theorem dX5_quote_21 : decode cX5_quote 21 = .ok (.iload 4, 2) := by decide +kernel
theorem dX5_quote_23 : decode cX5_quote 23 = .ok (.sipush 9999, 3) := by decide +kernel
theorem dX5_quote_26 : decode cX5_quote 26 = .ok (.if_icmp .le 13, 3) := by decide +kernel
theorem dX5_quote_29 : decode cX5_quote 29 = .ok (.new 52, 3) := by decide +kernel
theorem dX5_quote_32 : decode cX5_quote 32 = .ok (.dup, 1) := by decide +kernel
theorem dX5_quote_33 : decode cX5_quote 33 = .ok (.ldc 115, 2) := by decide +kernel
theorem dX5_quote_35 : decode cX5_quote 35 = .ok (.invokespecial 56, 3) := by decide +kernel
theorem dX5_quote_38 : decode cX5_quote 38 = .ok (.athrow, 1) := by decide +kernel
theorem dX5_quote_39 : decode cX5_quote 39 = .ok (.aload_n 0, 1) := by decide +kernel
theorem dX5_quote_40 : decode cX5_quote 40 = .ok (.getfield 40, 3) := by decide +kernel
theorem dX5_quote_43 : decode cX5_quote 43 = .ok (.iload_n 1, 1) := by decide +kernel
theorem dX5_quote_44 : decode cX5_quote 44 = .ok (.aload_n 0, 1) := by decide +kernel
theorem dX5_quote_45 : decode cX5_quote 45 = .ok (.getfield 48, 3) := by decide +kernel
theorem dX5_quote_48 : decode cX5_quote 48 = .ok (.invokevirtual 321, 3) := by decide +kernel
theorem dX5_quote_51 : decode cX5_quote 51 = .ok (.istore 5, 2) := by decide +kernel
theorem dX5_quote_53 : decode cX5_quote 53 = .ok (.iconst 0, 1) := by decide +kernel
theorem dX5_quote_54 : decode cX5_quote 54 = .ok (.istore 6, 2) := by decide +kernel
theorem dX5_quote_56 : decode cX5_quote 56 = .ok (.iconst 0, 1) := by decide +kernel
theorem dX5_quote_57 : decode cX5_quote 57 = .ok (.istore 7, 2) := by decide +kernel
theorem dX5_quote_59 : decode cX5_quote 59 = .ok (.iload 7, 2) := by decide +kernel
theorem dX5_quote_61 : decode cX5_quote 61 = .ok (.aload_n 0, 1) := by decide +kernel
theorem dX5_quote_62 : decode cX5_quote 62 = .ok (.getfield 12, 3) := by decide +kernel
theorem dX5_quote_65 : decode cX5_quote 65 = .ok (.getfield 165, 3) := by decide +kernel
theorem dX5_quote_68 : decode cX5_quote 68 = .ok (.iload_n 2, 1) := by decide +kernel
theorem dX5_quote_69 : decode cX5_quote 69 = .ok (.iaload, 1) := by decide +kernel
theorem dX5_quote_70 : decode cX5_quote 70 = .ok (.if_icmp .ge 37, 3) := by decide +kernel
theorem dX5_quote_73 : decode cX5_quote 73 = .ok (.iload_n 3, 1) := by decide +kernel
theorem dX5_quote_74 : decode cX5_quote 74 = .ok (.iload 7, 2) := by decide +kernel
theorem dX5_quote_76 : decode cX5_quote 76 = .ok (.invokestatic 324, 3) := by decide +kernel
theorem dX5_quote_79 : decode cX5_quote 79 = .ok (.ifCond .eq 22, 3) := by decide +kernel
theorem dX5_quote_82 : decode cX5_quote 82 = .ok (.iload 6, 2) := by decide +kernel
theorem dX5_quote_84 : decode cX5_quote 84 = .ok (.aload_n 0, 1) := by decide +kernel
theorem dX5_quote_85 : decode cX5_quote 85 = .ok (.getfield 12, 3) := by decide +kernel
theorem dX5_quote_88 : decode cX5_quote 88 = .ok (.iload_n 2, 1) := by decide +kernel
theorem dX5_quote_89 : decode cX5_quote 89 = .ok (.iload 7, 2) := by decide +kernel
theorem dX5_quote_91 : decode cX5_quote 91 = .ok (.iload 4, 2) := by decide +kernel
theorem dX5_quote_93 : decode cX5_quote 93 = .ok (.iload 5, 2) := by decide +kernel
theorem dX5_quote_95 : decode cX5_quote 95 = .ok (.invokevirtual 327, 3) := by decide +kernel
theorem dX5_quote_98 : decode cX5_quote 98 = .ok (.iadd, 1) := by decide +kernel
theorem dX5_quote_99 : decode cX5_quote 99 = .ok (.istore 6, 2) := by decide +kernel
theorem dX5_quote_101 : decode cX5_quote 101 = .ok (.iinc 7 1, 3) := by decide +kernel
theorem dX5_quote_104 : decode cX5_quote 104 = .ok (.goto (-45), 3) := by decide +kernel
theorem dX5_quote_107 : decode cX5_quote 107 = .ok (.iload 6, 2) := by decide +kernel
theorem dX5_quote_109 : decode cX5_quote 109 = .ok (.ireturn, 1) := by decide +kernel
set_option maxRecDepth 20000 in
theorem ggX5_creditBy_X5_needPlace : GoodIn wsX5_creditBy wsX5_needPlace := goodIn_ca (goodIn_r _ [5, 6, 7, 8, 9, 10, 11, 4, 12, 13, 14, 15, 16, 17, 18, 19, 20, 21, 22, 83, 84, 85, 86, 87, 88, 89, 90, 91, 92, 93, 94, 95] (by decide +kernel) (by decide +kernel)) (goodIn_sub (fun _ h => List.mem_cons_of_mem _ (List.mem_append_left _ (List.mem_append_right _ h))) (by decide +kernel))
set_option maxRecDepth 20000 in
theorem gX5_creditBy_X5_needPlace : GoodIn wsX5_creditBy (wsV RX5 156 RX5 yX5_needPlace wsX5_needPlace) := goodIn_app (goodIn_of _ (by decide +kernel)) ggX5_creditBy_X5_needPlace
set_option maxRecDepth 20000 in
theorem ggX5_creditBy_X5_needHarm : GoodIn wsX5_creditBy wsX5_needHarm := goodIn_ca (goodIn_r _ [25, 26, 27] (by decide +kernel) (by decide +kernel)) (goodIn_sub (fun _ h => List.mem_cons_of_mem _ (List.mem_append_right _ h)) (by decide +kernel))
set_option maxRecDepth 20000 in
theorem gX5_creditBy_X5_needHarm : GoodIn wsX5_creditBy (va_wsS RX5 159 yX5_needHarm wsX5_needHarm) := goodIn_app (goodIn_of _ (by decide +kernel)) ggX5_creditBy_X5_needHarm
set_option maxRecDepth 20000 in
theorem ggX5_creditBy_X5_placeAt : GoodIn wsX5_creditBy wsX5_placeAt := goodIn_r _ [30] (by decide +kernel) (by decide +kernel)
set_option maxRecDepth 20000 in
theorem gX5_creditBy_X5_placeAt : GoodIn wsX5_creditBy (va_wsS RX5 140 yX5_placeAt wsX5_placeAt) := goodIn_app (goodIn_of _ (by decide +kernel)) ggX5_creditBy_X5_placeAt
set_option maxRecDepth 20000 in
theorem ggX5_creditBy_X5_creditGain : GoodIn wsX5_creditBy wsX5_creditGain := goodIn_r _ [34, 35, 36, 37, 38, 39, 40, 41, 42, 43, 44, 45, 46, 47, 48, 49, 50, 51, 52, 53, 54, 55, 56, 57, 58, 59, 60, 61, 62, 63, 64, 65, 66, 67, 68, 69, 70, 71, 72, 73, 74, 75, 76, 77, 78, 79, 80, 29, 4, 30, 81, 82, 83, 84, 85, 86, 87, 88, 89, 96, 97, 98, 99, 100, 101, 102, 103, 104, 105, 106, 107, 108, 109, 110, 111, 112, 113, 114, 115, 116, 117, 118, 119] (by decide +kernel) (by decide +kernel)
set_option maxRecDepth 20000 in
theorem gX5_creditBy_X5_creditGain : GoodIn wsX5_creditBy (wsV RX5 162 RX5 yX5_creditGain wsX5_creditGain) := goodIn_app (goodIn_of _ (by decide +kernel)) ggX5_creditBy_X5_creditGain
theorem dX5_creditBy_0 : decode cX5_creditBy 0 = .ok (.aload_n 0, 1) := by decide +kernel
theorem dX5_creditBy_1 : decode cX5_creditBy 1 = .ok (.iload_n 1, 1) := by decide +kernel
theorem dX5_creditBy_2 : decode cX5_creditBy 2 = .ok (.iload_n 2, 1) := by decide +kernel
theorem dX5_creditBy_3 : decode cX5_creditBy 3 = .ok (.iload_n 3, 1) := by decide +kernel
theorem dX5_creditBy_4 : decode cX5_creditBy 4 = .ok (.invokevirtual 156, 3) := by decide +kernel
theorem dX5_creditBy_7 : decode cX5_creditBy 7 = .ok (.iload 4, 2) := by decide +kernel
theorem dX5_creditBy_9 : decode cX5_creditBy 9 = .ok (.invokestatic 159, 3) := by decide +kernel
theorem dX5_creditBy_12 : decode cX5_creditBy 12 = .ok (.aload_n 0, 1) := by decide +kernel
theorem dX5_creditBy_13 : decode cX5_creditBy 13 = .ok (.iload_n 1, 1) := by decide +kernel
theorem dX5_creditBy_14 : decode cX5_creditBy 14 = .ok (.iload_n 2, 1) := by decide +kernel
theorem dX5_creditBy_15 : decode cX5_creditBy 15 = .ok (.iload_n 3, 1) := by decide +kernel
theorem dX5_creditBy_16 : decode cX5_creditBy 16 = .ok (.invokestatic 140, 3) := by decide +kernel
theorem dX5_creditBy_19 : decode cX5_creditBy 19 = .ok (.iload 4, 2) := by decide +kernel
theorem dX5_creditBy_21 : decode cX5_creditBy 21 = .ok (.invokevirtual 162, 3) := by decide +kernel
theorem dX5_creditBy_24 : decode cX5_creditBy 24 = .ok (.ireturn, 1) := by decide +kernel
set_option maxRecDepth 20000 in
theorem ggX5_previews_X5_needReader : GoodIn wsX5_previews wsX5_needReader := goodIn_ca (goodIn_r _ [6, 7, 8] (by decide +kernel) (by decide +kernel)) (goodIn_sub (fun _ h => List.mem_cons_of_mem _ (List.mem_append_right _ h)) (by decide +kernel))
set_option maxRecDepth 20000 in
theorem gX5_previews_X5_needReader : GoodIn wsX5_previews (va_wsS RX5 190 yX5_needReader wsX5_needReader) := goodIn_app (goodIn_of _ (by decide +kernel)) ggX5_previews_X5_needReader
set_option maxRecDepth 20000 in
theorem ggX5_previews_X5_needSet : GoodIn wsX5_previews wsX5_needSet := goodIn_ca (goodIn_r _ [12, 7, 8, 1, 13, 14, 15, 16, 17, 18, 64, 65, 66, 67, 68, 69, 70, 71, 72, 73, 74, 75, 76] (by decide +kernel) (by decide +kernel)) (goodIn_sub (fun _ h => List.mem_cons_of_mem _ (List.mem_append_right _ h)) (by decide +kernel))
set_option maxRecDepth 20000 in
theorem gX5_previews_X5_needSet : GoodIn wsX5_previews (wsV RX5 111 RX5 yX5_needSet wsX5_needSet) := goodIn_app (goodIn_of _ (by decide +kernel)) ggX5_previews_X5_needSet
set_option maxRecDepth 20000 in
theorem ggX5_previews_X5_previewAt : GoodIn wsX5_previews wsX5_previewAt := goodIn_r _ [21] (by decide +kernel) (by decide +kernel)
set_option maxRecDepth 20000 in
theorem gX5_previews_X5_previewAt : GoodIn wsX5_previews (va_wsS RX5 244 yX5_previewAt wsX5_previewAt) := goodIn_app (goodIn_of _ (by decide +kernel)) ggX5_previews_X5_previewAt
set_option maxRecDepth 20000 in
theorem ggX5_previews_X5_openToday : GoodIn wsX5_previews wsX5_openToday := goodIn_r _ [25, 26, 27, 28, 29, 30, 31, 32, 33, 34, 35, 36, 37, 38, 39, 40, 41, 42, 43, 44, 45, 46, 47, 64, 65, 66, 67, 68, 69, 70, 77, 78, 79, 80, 81, 82, 83] (by decide +kernel) (by decide +kernel)
set_option maxRecDepth 20000 in
theorem gX5_previews_X5_openToday : GoodIn wsX5_previews (wsV RX5 247 RX5 yX5_openToday wsX5_openToday) := goodIn_app (goodIn_of _ (by decide +kernel)) ggX5_previews_X5_openToday
set_option maxRecDepth 20000 in
theorem ggX5_previews_X4_allFields : GoodIn wsX5_previews wsX4_allFields := goodIn_r _ [51, 52, 71, 72, 73, 74, 75, 76] (by decide +kernel) (by decide +kernel)
set_option maxRecDepth 20000 in
theorem gX5_previews_X4_allFields : GoodIn wsX5_previews (wsV RX5 331 RX4 yX4_allFields wsX4_allFields) := goodIn_app (goodIn_of _ (by decide +kernel)) ggX5_previews_X4_allFields
set_option maxRecDepth 20000 in
theorem ggX5_previews_J6_bitCount_0f7a4 : GoodIn wsX5_previews wsJ6_bitCount_0f7a4 := goodIn_r _ [56, 57, 58, 59] (by decide +kernel) (by decide +kernel)
set_option maxRecDepth 20000 in
theorem gX5_previews_J6_bitCount_0f7a4 : GoodIn wsX5_previews (va_wsS RX5 235 yJ6_bitCount_0f7a4 wsJ6_bitCount_0f7a4) := goodIn_app (goodIn_of _ (by decide +kernel)) ggX5_previews_J6_bitCount_0f7a4
set_option maxRecDepth 20000 in
theorem ggX5_previews_X5_mayBeSeen : GoodIn wsX5_previews wsX5_mayBeSeen := goodIn_r _ [63, 1, 48, 49, 50, 16, 51, 52, 53, 54, 55, 56, 57, 58, 59, 64, 65, 66, 67, 68, 69, 70, 71, 72, 73, 74, 75, 76] (by decide +kernel) (by decide +kernel)
set_option maxRecDepth 20000 in
theorem gX5_previews_X5_mayBeSeen : GoodIn wsX5_previews (wsV RX5 250 RX5 yX5_mayBeSeen wsX5_mayBeSeen) := goodIn_app (goodIn_of _ (by decide +kernel)) ggX5_previews_X5_mayBeSeen
theorem dX5_previews_0 : decode cX5_previews 0 = .ok (.iload_n 1, 1) := by decide +kernel
theorem dX5_previews_1 : decode cX5_previews 1 = .ok (.invokestatic 190, 3) := by decide +kernel
theorem dX5_previews_4 : decode cX5_previews 4 = .ok (.aload_n 0, 1) := by decide +kernel
theorem dX5_previews_5 : decode cX5_previews 5 = .ok (.iload_n 2, 1) := by decide +kernel
theorem dX5_previews_6 : decode cX5_previews 6 = .ok (.invokevirtual 111, 3) := by decide +kernel
theorem dX5_previews_9 : decode cX5_previews 9 = .ok (.aload_n 0, 1) := by decide +kernel
theorem dX5_previews_10 : decode cX5_previews 10 = .ok (.getfield 12, 3) := by decide +kernel
theorem dX5_previews_13 : decode cX5_previews 13 = .ok (.getfield 117, 3) := by decide +kernel
theorem dX5_previews_16 : decode cX5_previews 16 = .ok (.iload_n 2, 1) := by decide +kernel
theorem dX5_previews_17 : decode cX5_previews 17 = .ok (.iaload, 1) := by decide +kernel
theorem dX5_previews_18 : decode cX5_previews 18 = .ok (.ifCond .ne 5, 3) := by decide +kernel
theorem dX5_previews_21 : decode cX5_previews 21 = .ok (.iconst 0, 1) := by decide +kernel
theorem dX5_previews_22 : decode cX5_previews 22 = .ok (.ireturn, 1) := by decide +kernel
theorem dX5_previews_23 : decode cX5_previews 23 = .ok (.aload_n 0, 1) := by decide +kernel
theorem dX5_previews_24 : decode cX5_previews 24 = .ok (.getfield 44, 3) := by decide +kernel
theorem dX5_previews_27 : decode cX5_previews 27 = .ok (.iload_n 1, 1) := by decide +kernel
theorem dX5_previews_28 : decode cX5_previews 28 = .ok (.iload_n 2, 1) := by decide +kernel
theorem dX5_previews_29 : decode cX5_previews 29 = .ok (.invokestatic 244, 3) := by decide +kernel
theorem dX5_previews_32 : decode cX5_previews 32 = .ok (.iaload, 1) := by decide +kernel
theorem dX5_previews_33 : decode cX5_previews 33 = .ok (.istore_n 3, 1) := by decide +kernel
theorem dX5_previews_34 : decode cX5_previews 34 = .ok (.aload_n 0, 1) := by decide +kernel
theorem dX5_previews_35 : decode cX5_previews 35 = .ok (.iload_n 1, 1) := by decide +kernel
theorem dX5_previews_36 : decode cX5_previews 36 = .ok (.iload_n 2, 1) := by decide +kernel
theorem dX5_previews_37 : decode cX5_previews 37 = .ok (.invokevirtual 247, 3) := by decide +kernel
theorem dX5_previews_40 : decode cX5_previews 40 = .ok (.istore 4, 2) := by decide +kernel
theorem dX5_previews_42 : decode cX5_previews 42 = .ok (.aload_n 0, 1) := by decide +kernel
theorem dX5_previews_43 : decode cX5_previews 43 = .ok (.getfield 12, 3) := by decide +kernel
theorem dX5_previews_46 : decode cX5_previews 46 = .ok (.iload_n 2, 1) := by decide +kernel
theorem dX5_previews_47 : decode cX5_previews 47 = .ok (.invokevirtual 331, 3) := by decide +kernel
theorem dX5_previews_50 : decode cX5_previews 50 = .ok (.istore 5, 2) := by decide +kernel
theorem dX5_previews_52 : decode cX5_previews 52 = .ok (.iconst 0, 1) := by decide +kernel
theorem dX5_previews_53 : decode cX5_previews 53 = .ok (.istore 6, 2) := by decide +kernel
theorem dX5_previews_55 : decode cX5_previews 55 = .ok (.iconst 1, 1) := by decide +kernel
theorem dX5_previews_56 : decode cX5_previews 56 = .ok (.istore 7, 2) := by decide +kernel
theorem dX5_previews_58 : decode cX5_previews 58 = .ok (.iload 7, 2) := by decide +kernel
theorem dX5_previews_60 : decode cX5_previews 60 = .ok (.iload 5, 2) := by decide +kernel
theorem dX5_previews_62 : decode cX5_previews 62 = .ok (.if_icmp .gt 35, 3) := by decide +kernel
theorem dX5_previews_65 : decode cX5_previews 65 = .ok (.iload 7, 2) := by decide +kernel
theorem dX5_previews_67 : decode cX5_previews 67 = .ok (.invokestatic 235, 3) := by decide +kernel
theorem dX5_previews_70 : decode cX5_previews 70 = .ok (.iconst 2, 1) := by decide +kernel
theorem dX5_previews_71 : decode cX5_previews 71 = .ok (.if_icmp .gt 20, 3) := by decide +kernel
theorem dX5_previews_74 : decode cX5_previews 74 = .ok (.aload_n 0, 1) := by decide +kernel
theorem dX5_previews_75 : decode cX5_previews 75 = .ok (.iload_n 2, 1) := by decide +kernel
theorem dX5_previews_76 : decode cX5_previews 76 = .ok (.iload_n 3, 1) := by decide +kernel
theorem dX5_previews_77 : decode cX5_previews 77 = .ok (.iload 7, 2) := by decide +kernel
theorem dX5_previews_79 : decode cX5_previews 79 = .ok (.ior, 1) := by decide +kernel
theorem dX5_previews_80 : decode cX5_previews 80 = .ok (.iload 4, 2) := by decide +kernel
theorem dX5_previews_82 : decode cX5_previews 82 = .ok (.invokevirtual 250, 3) := by decide +kernel
theorem dX5_previews_85 : decode cX5_previews 85 = .ok (.ifCond .eq 6, 3) := by decide +kernel
theorem dX5_previews_88 : decode cX5_previews 88 = .ok (.iinc 6 1, 3) := by decide +kernel
theorem dX5_previews_91 : decode cX5_previews 91 = .ok (.iinc 7 1, 3) := by decide +kernel
theorem dX5_previews_94 : decode cX5_previews 94 = .ok (.goto (-36), 3) := by decide +kernel
theorem dX5_previews_97 : decode cX5_previews 97 = .ok (.iload 6, 2) := by decide +kernel
theorem dX5_previews_99 : decode cX5_previews 99 = .ok (.ireturn, 1) := by decide +kernel
set_option maxRecDepth 20000 in
theorem ggX5_neededBy_X5_needContract : GoodIn wsX5_neededBy wsX5_needContract := goodIn_ca (goodIn_r _ [6, 7, 8, 9, 35, 36, 37, 38, 39, 40, 41, 53, 54, 55, 56, 57, 58, 59] (by decide +kernel) (by decide +kernel)) (goodIn_sub (fun _ h => List.mem_cons_of_mem _ (List.mem_append_right _ h)) (by decide +kernel))
set_option maxRecDepth 20000 in
theorem gX5_neededBy_X5_needContract : GoodIn wsX5_neededBy (wsV RX5 208 RX5 yX5_needContract wsX5_needContract) := goodIn_app (goodIn_of _ (by decide +kernel)) ggX5_neededBy_X5_needContract
set_option maxRecDepth 20000 in
theorem ggX5_neededBy_X5_needsContract : GoodIn wsX5_neededBy wsX5_needsContract := goodIn_r _ [13, 1, 9, 14, 15, 16, 17, 18, 19, 20, 21, 22, 23, 24, 25, 26, 27, 28, 29, 30, 31, 32, 33, 34, 35, 36, 37, 38, 39, 40, 41, 42, 43, 44, 45, 46, 47, 48, 49, 50, 51, 52, 53, 54, 55, 56, 57, 58, 59] (by decide +kernel) (by decide +kernel)
set_option maxRecDepth 20000 in
theorem gX5_neededBy_X5_needsContract : GoodIn wsX5_neededBy (wsV RX5 334 RX5 yX5_needsContract wsX5_needsContract) := goodIn_app (goodIn_of _ (by decide +kernel)) ggX5_neededBy_X5_needsContract
theorem dX5_neededBy_0 : decode cX5_neededBy 0 = .ok (.aload_n 0, 1) := by decide +kernel
theorem dX5_neededBy_1 : decode cX5_neededBy 1 = .ok (.iload_n 1, 1) := by decide +kernel
theorem dX5_neededBy_2 : decode cX5_neededBy 2 = .ok (.invokevirtual 208, 3) := by decide +kernel
theorem dX5_neededBy_5 : decode cX5_neededBy 5 = .ok (.iconst 0, 1) := by decide +kernel
theorem dX5_neededBy_6 : decode cX5_neededBy 6 = .ok (.istore_n 2, 1) := by decide +kernel
theorem dX5_neededBy_7 : decode cX5_neededBy 7 = .ok (.iconst 0, 1) := by decide +kernel
theorem dX5_neededBy_8 : decode cX5_neededBy 8 = .ok (.istore_n 3, 1) := by decide +kernel
theorem dX5_neededBy_9 : decode cX5_neededBy 9 = .ok (.iload_n 3, 1) := by decide +kernel
theorem dX5_neededBy_10 : decode cX5_neededBy 10 = .ok (.aload_n 0, 1) := by decide +kernel
theorem dX5_neededBy_11 : decode cX5_neededBy 11 = .ok (.getfield 40, 3) := by decide +kernel
theorem dX5_neededBy_14 : decode cX5_neededBy 14 = .ok (.getfield 225, 3) := by decide +kernel
theorem dX5_neededBy_17 : decode cX5_neededBy 17 = .ok (.if_icmp .ge 21, 3) := by decide +kernel
theorem dX5_neededBy_20 : decode cX5_neededBy 20 = .ok (.aload_n 0, 1) := by decide +kernel
theorem dX5_neededBy_21 : decode cX5_neededBy 21 = .ok (.iload_n 3, 1) := by decide +kernel
theorem dX5_neededBy_22 : decode cX5_neededBy 22 = .ok (.iload_n 1, 1) := by decide +kernel
theorem dX5_neededBy_23 : decode cX5_neededBy 23 = .ok (.invokevirtual 334, 3) := by decide +kernel
theorem dX5_neededBy_26 : decode cX5_neededBy 26 = .ok (.ifCond .eq 6, 3) := by decide +kernel
theorem dX5_neededBy_29 : decode cX5_neededBy 29 = .ok (.iinc 2 1, 3) := by decide +kernel
theorem dX5_neededBy_32 : decode cX5_neededBy 32 = .ok (.iinc 3 1, 3) := by decide +kernel
theorem dX5_neededBy_35 : decode cX5_neededBy 35 = .ok (.goto (-26), 3) := by decide +kernel
theorem dX5_neededBy_38 : decode cX5_neededBy 38 = .ok (.iload_n 2, 1) := by decide +kernel
theorem dX5_neededBy_39 : decode cX5_neededBy 39 = .ok (.ireturn, 1) := by decide +kernel
set_option maxRecDepth 20000 in
theorem ggX5_digest_X5_many : GoodIn wsX5_digest wsX5_many := goodIn_ca (goodIn_r _ [10, 11, 12, 3, 13, 5, 4, 14, 15, 16, 17, 18, 19, 20, 21, 22, 23, 24, 25, 26, 27, 28, 29, 30, 31, 32, 33, 34, 35, 36, 37, 38, 39, 40, 9, 41, 42, 43, 44, 45, 46, 47, 48, 49, 50, 51, 52, 53, 54, 55, 56, 57, 219, 220, 221, 222, 223, 224, 225, 226, 227, 228, 229, 230, 231, 250, 251, 252, 253, 254, 255, 256, 257, 258, 243, 244, 245, 246, 247, 248, 249, 232, 233, 234, 235, 236, 237, 238, 239, 240, 241, 242, 259, 260, 261, 262] (by decide +kernel) (by decide +kernel)) (goodIn_sub (fun _ h => List.mem_cons_of_mem _ (List.mem_append_left _ (List.mem_append_right _ h))) (by decide +kernel))
set_option maxRecDepth 20000 in
theorem gX5_digest_X5_many : GoodIn wsX5_digest (wsV RX5 341 RX5 yX5_many wsX5_many) := goodIn_app (goodIn_of _ (by decide +kernel)) ggX5_digest_X5_many
set_option maxRecDepth 20000 in
theorem ggX5_digest_X5_digestSet : GoodIn wsX5_digest wsX5_digestSet := goodIn_ca (goodIn_ca (goodIn_r _ [61, 2, 3, 62, 63, 64, 9, 65, 11, 12, 4, 14, 66, 67, 68, 69, 70, 71, 72, 73, 74, 19, 75, 21, 76, 77, 78, 79, 80, 81, 82, 83, 84, 22, 85, 86, 87, 88, 89, 90, 91, 92, 51, 52, 93, 94, 95, 26, 96, 28, 29, 30, 31, 32, 33, 34, 23, 24, 25, 27, 35, 36, 37, 38, 39, 40, 41, 42, 43, 44, 45, 46, 47, 48, 49, 50, 97, 98, 99, 100, 101, 102, 103, 104, 105, 106, 107, 108, 219, 220, 221, 222, 223, 224, 225, 226, 227, 228, 229, 230, 231, 259, 260, 261, 262, 232, 233, 234, 235, 236, 237, 238, 239, 240, 241, 242] (by decide +kernel) (by decide +kernel)) (goodIn_sub (fun _ h => List.mem_cons_of_mem _ (List.mem_append_left _ (List.mem_append_right _ h))) (by decide +kernel))) (goodIn_sub (fun _ h => List.mem_cons_of_mem _ (List.mem_append_right _ h)) (by decide +kernel))
set_option maxRecDepth 20000 in
theorem gX5_digest_X5_digestSet : GoodIn wsX5_digest (wsV RX5 344 RX5 yX5_digestSet wsX5_digestSet) := goodIn_app (goodIn_of _ (by decide +kernel)) ggX5_digest_X5_digestSet
set_option maxRecDepth 20000 in
theorem ggX5_digest_X5_digestReader : GoodIn wsX5_digest wsX5_digestReader := goodIn_ca (goodIn_ca (goodIn_r _ [112, 2, 3, 15, 113, 114, 115, 9, 116, 11, 12, 4, 14, 5, 117, 118, 119, 70, 71, 120, 121, 122, 26, 123, 28, 33, 124, 125, 126, 127, 128, 129, 130, 131, 132, 133, 134, 135, 136, 137, 93, 94, 95, 96, 29, 30, 31, 32, 34, 23, 24, 25, 27, 35, 36, 37, 38, 39, 40, 41, 42, 43, 44, 45, 46, 47, 48, 49, 50, 51, 52, 53, 54, 55, 56, 57, 138, 139, 140, 141, 142, 143, 144, 145, 146, 147, 148, 149, 150, 151, 152, 153, 154, 155, 156, 157, 158, 159, 160, 161, 162, 66, 67, 68, 69, 72, 73, 74, 19, 75, 21, 163, 164, 165, 166, 167, 168, 169, 170, 171, 172, 173, 174, 175, 176, 177, 178, 179, 180, 181, 182, 183, 184, 185, 186, 187, 188, 189, 190, 191, 192, 193, 194, 195, 196, 197, 198, 219, 220, 221, 222, 223, 224, 225, 226, 227, 228, 229, 230, 231, 259, 260, 261, 262, 232, 233, 234, 235, 236, 237, 238, 239, 240, 241, 242, 243, 244, 245, 246, 247, 248, 249] (by decide +kernel) (by decide +kernel)) (goodIn_sub (fun _ h => List.mem_cons_of_mem _ (List.mem_append_left _ (List.mem_append_right _ h))) (by decide +kernel))) (goodIn_sub (fun _ h => List.mem_cons_of_mem _ (List.mem_append_right _ h)) (by decide +kernel))
set_option maxRecDepth 20000 in
theorem gX5_digest_X5_digestReader : GoodIn wsX5_digest (wsV RX5 348 RX5 yX5_digestReader wsX5_digestReader) := goodIn_app (goodIn_of _ (by decide +kernel)) ggX5_digest_X5_digestReader
set_option maxRecDepth 20000 in
theorem ggX5_digest_X5_ofRead : GoodIn wsX5_digest wsX5_ofRead := goodIn_ca (goodIn_ca (goodIn_r _ [202, 70, 71, 11, 12, 4, 14, 203, 126, 127, 26, 128, 129, 130, 131, 132, 133, 134, 135, 136, 137, 204, 36, 37, 38, 39, 40, 9, 41, 205, 47, 48, 49, 34, 50, 51, 52, 219, 220, 221, 222, 223, 224, 225, 232, 233, 234, 235, 236, 237, 238, 239, 240, 241, 242, 259, 260, 261, 262] (by decide +kernel) (by decide +kernel)) (goodIn_sub (fun _ h => List.mem_cons_of_mem _ (List.mem_append_right _ h)) (by decide +kernel))) (goodIn_sub (fun _ h => List.mem_cons_of_mem _ (List.mem_append_left _ (List.mem_append_right _ h))) (by decide +kernel))
set_option maxRecDepth 20000 in
theorem gX5_digest_X5_ofRead : GoodIn wsX5_digest (wsV RX5 351 RX5 yX5_ofRead wsX5_ofRead) := goodIn_app (goodIn_of _ (by decide +kernel)) ggX5_digest_X5_ofRead
set_option maxRecDepth 20000 in
theorem ggX5_digest_X5_neededBy : GoodIn wsX5_digest wsX5_neededBy := goodIn_ca (goodIn_r _ [209, 4, 210, 211, 212, 9, 213, 70, 71, 5, 214, 215, 216, 217, 218, 172, 173, 149, 174, 152, 175, 176, 153, 154, 155, 156, 157, 158, 166, 167, 168, 169, 151, 170, 171, 219, 220, 221, 222, 223, 224, 225, 232, 233, 234, 235, 236, 237, 238, 239, 240, 241, 242, 243, 244, 245, 246, 247, 248, 249] (by decide +kernel) (by decide +kernel)) (goodIn_sub (fun _ h => List.mem_cons_of_mem _ (List.mem_append_right _ h)) (by decide +kernel))
set_option maxRecDepth 20000 in
theorem gX5_digest_X5_neededBy : GoodIn wsX5_digest (wsV RX5 354 RX5 yX5_neededBy wsX5_neededBy) := goodIn_app (goodIn_of _ (by decide +kernel)) ggX5_digest_X5_neededBy
theorem dX5_digest_0 : decode cX5_digest 0 = .ok (.ldc2_w 337, 3) := by decide +kernel
theorem dX5_digest_3 : decode cX5_digest 3 = .ok (.lstore_n 1, 1) := by decide +kernel
theorem dX5_digest_4 : decode cX5_digest 4 = .ok (.iconst 0, 1) := by decide +kernel
theorem dX5_digest_5 : decode cX5_digest 5 = .ok (.istore_n 3, 1) := by decide +kernel
theorem dX5_digest_6 : decode cX5_digest 6 = .ok (.iload_n 3, 1) := by decide +kernel
theorem dX5_digest_7 : decode cX5_digest 7 = .ok (.bipush 8, 2) := by decide +kernel
theorem dX5_digest_9 : decode cX5_digest 9 = .ok (.if_icmp .gt 22, 3) := by decide +kernel
theorem dX5_digest_12 : decode cX5_digest 12 = .ok (.lload_n 1, 1) := by decide +kernel
theorem dX5_digest_13 : decode cX5_digest 13 = .ok (.ldc2_w 339, 3) := by decide +kernel
theorem dX5_digest_16 : decode cX5_digest 16 = .ok (.lmul, 1) := by decide +kernel
theorem dX5_digest_17 : decode cX5_digest 17 = .ok (.aload_n 0, 1) := by decide +kernel
theorem dX5_digest_18 : decode cX5_digest 18 = .ok (.iload_n 3, 1) := by decide +kernel
theorem dX5_digest_19 : decode cX5_digest 19 = .ok (.invokevirtual 341, 3) := by decide +kernel
theorem dX5_digest_22 : decode cX5_digest 22 = .ok (.i2l, 1) := by decide +kernel
theorem dX5_digest_23 : decode cX5_digest 23 = .ok (.ladd, 1) := by decide +kernel
theorem dX5_digest_24 : decode cX5_digest 24 = .ok (.lstore_n 1, 1) := by decide +kernel
theorem dX5_digest_25 : decode cX5_digest 25 = .ok (.iinc 3 1, 3) := by decide +kernel
theorem dX5_digest_28 : decode cX5_digest 28 = .ok (.goto (-22), 3) := by decide +kernel
theorem dX5_digest_31 : decode cX5_digest 31 = .ok (.iconst 0, 1) := by decide +kernel
theorem dX5_digest_32 : decode cX5_digest 32 = .ok (.istore_n 3, 1) := by decide +kernel
theorem dX5_digest_33 : decode cX5_digest 33 = .ok (.iload_n 3, 1) := by decide +kernel
theorem dX5_digest_34 : decode cX5_digest 34 = .ok (.aload_n 0, 1) := by decide +kernel
theorem dX5_digest_35 : decode cX5_digest 35 = .ok (.getfield 12, 3) := by decide +kernel
theorem dX5_digest_38 : decode cX5_digest 38 = .ok (.getfield 59, 3) := by decide +kernel
theorem dX5_digest_41 : decode cX5_digest 41 = .ok (.if_icmp .ge 16, 3) := by decide +kernel
theorem dX5_digest_44 : decode cX5_digest 44 = .ok (.aload_n 0, 1) := by decide +kernel
theorem dX5_digest_45 : decode cX5_digest 45 = .ok (.lload_n 1, 1) := by decide +kernel
theorem dX5_digest_46 : decode cX5_digest 46 = .ok (.iload_n 3, 1) := by decide +kernel
theorem dX5_digest_47 : decode cX5_digest 47 = .ok (.invokevirtual 344, 3) := by decide +kernel
theorem dX5_digest_50 : decode cX5_digest 50 = .ok (.lstore_n 1, 1) := by decide +kernel
theorem dX5_digest_51 : decode cX5_digest 51 = .ok (.iinc 3 1, 3) := by decide +kernel
theorem dX5_digest_54 : decode cX5_digest 54 = .ok (.goto (-21), 3) := by decide +kernel
theorem dX5_digest_57 : decode cX5_digest 57 = .ok (.iconst 0, 1) := by decide +kernel
theorem dX5_digest_58 : decode cX5_digest 58 = .ok (.istore_n 3, 1) := by decide +kernel
theorem dX5_digest_59 : decode cX5_digest 59 = .ok (.iload_n 3, 1) := by decide +kernel
theorem dX5_digest_60 : decode cX5_digest 60 = .ok (.bipush 6, 2) := by decide +kernel
theorem dX5_digest_62 : decode cX5_digest 62 = .ok (.if_icmp .ge 16, 3) := by decide +kernel
theorem dX5_digest_65 : decode cX5_digest 65 = .ok (.aload_n 0, 1) := by decide +kernel
theorem dX5_digest_66 : decode cX5_digest 66 = .ok (.lload_n 1, 1) := by decide +kernel
theorem dX5_digest_67 : decode cX5_digest 67 = .ok (.iload_n 3, 1) := by decide +kernel
theorem dX5_digest_68 : decode cX5_digest 68 = .ok (.invokevirtual 348, 3) := by decide +kernel
theorem dX5_digest_71 : decode cX5_digest 71 = .ok (.lstore_n 1, 1) := by decide +kernel
theorem dX5_digest_72 : decode cX5_digest 72 = .ok (.iinc 3 1, 3) := by decide +kernel
theorem dX5_digest_75 : decode cX5_digest 75 = .ok (.goto (-16), 3) := by decide +kernel
theorem dX5_digest_78 : decode cX5_digest 78 = .ok (.iconst 0, 1) := by decide +kernel
theorem dX5_digest_79 : decode cX5_digest 79 = .ok (.istore_n 3, 1) := by decide +kernel
theorem dX5_digest_80 : decode cX5_digest 80 = .ok (.iload_n 3, 1) := by decide +kernel
theorem dX5_digest_81 : decode cX5_digest 81 = .ok (.aload_n 0, 1) := by decide +kernel
theorem dX5_digest_82 : decode cX5_digest 82 = .ok (.getfield 40, 3) := by decide +kernel
theorem dX5_digest_85 : decode cX5_digest 85 = .ok (.getfield 225, 3) := by decide +kernel
theorem dX5_digest_88 : decode cX5_digest 88 = .ok (.if_icmp .ge 40, 3) := by decide +kernel
theorem dX5_digest_91 : decode cX5_digest 91 = .ok (.iconst 0, 1) := by decide +kernel
theorem dX5_digest_92 : decode cX5_digest 92 = .ok (.istore 4, 2) := by decide +kernel
theorem dX5_digest_94 : decode cX5_digest 94 = .ok (.iload 4, 2) := by decide +kernel
theorem dX5_digest_96 : decode cX5_digest 96 = .ok (.bipush 11, 2) := by decide +kernel
theorem dX5_digest_98 : decode cX5_digest 98 = .ok (.if_icmp .gt 24, 3) := by decide +kernel
theorem dX5_digest_101 : decode cX5_digest 101 = .ok (.lload_n 1, 1) := by decide +kernel
theorem dX5_digest_102 : decode cX5_digest 102 = .ok (.ldc2_w 339, 3) := by decide +kernel
theorem dX5_digest_105 : decode cX5_digest 105 = .ok (.lmul, 1) := by decide +kernel
theorem dX5_digest_106 : decode cX5_digest 106 = .ok (.aload_n 0, 1) := by decide +kernel
theorem dX5_digest_107 : decode cX5_digest 107 = .ok (.iload_n 3, 1) := by decide +kernel
theorem dX5_digest_108 : decode cX5_digest 108 = .ok (.iload 4, 2) := by decide +kernel
theorem dX5_digest_110 : decode cX5_digest 110 = .ok (.invokevirtual 351, 3) := by decide +kernel
theorem dX5_digest_113 : decode cX5_digest 113 = .ok (.i2l, 1) := by decide +kernel
theorem dX5_digest_114 : decode cX5_digest 114 = .ok (.ladd, 1) := by decide +kernel
theorem dX5_digest_115 : decode cX5_digest 115 = .ok (.lstore_n 1, 1) := by decide +kernel
theorem dX5_digest_116 : decode cX5_digest 116 = .ok (.iinc 4 1, 3) := by decide +kernel
theorem dX5_digest_119 : decode cX5_digest 119 = .ok (.goto (-25), 3) := by decide +kernel
theorem dX5_digest_122 : decode cX5_digest 122 = .ok (.iinc 3 1, 3) := by decide +kernel
theorem dX5_digest_125 : decode cX5_digest 125 = .ok (.goto (-45), 3) := by decide +kernel
theorem dX5_digest_128 : decode cX5_digest 128 = .ok (.iconst 0, 1) := by decide +kernel
theorem dX5_digest_129 : decode cX5_digest 129 = .ok (.istore_n 3, 1) := by decide +kernel
theorem dX5_digest_130 : decode cX5_digest 130 = .ok (.iload_n 3, 1) := by decide +kernel
theorem dX5_digest_131 : decode cX5_digest 131 = .ok (.aload_n 0, 1) := by decide +kernel
theorem dX5_digest_132 : decode cX5_digest 132 = .ok (.getfield 33, 3) := by decide +kernel
theorem dX5_digest_135 : decode cX5_digest 135 = .ok (.getfield 200, 3) := by decide +kernel
theorem dX5_digest_138 : decode cX5_digest 138 = .ok (.if_icmp .ge 22, 3) := by decide +kernel
theorem dX5_digest_141 : decode cX5_digest 141 = .ok (.lload_n 1, 1) := by decide +kernel
theorem dX5_digest_142 : decode cX5_digest 142 = .ok (.ldc2_w 339, 3) := by decide +kernel
theorem dX5_digest_145 : decode cX5_digest 145 = .ok (.lmul, 1) := by decide +kernel
theorem dX5_digest_146 : decode cX5_digest 146 = .ok (.aload_n 0, 1) := by decide +kernel
theorem dX5_digest_147 : decode cX5_digest 147 = .ok (.iload_n 3, 1) := by decide +kernel
theorem dX5_digest_148 : decode cX5_digest 148 = .ok (.invokevirtual 354, 3) := by decide +kernel
theorem dX5_digest_151 : decode cX5_digest 151 = .ok (.i2l, 1) := by decide +kernel
theorem dX5_digest_152 : decode cX5_digest 152 = .ok (.ladd, 1) := by decide +kernel
theorem dX5_digest_153 : decode cX5_digest 153 = .ok (.lstore_n 1, 1) := by decide +kernel
theorem dX5_digest_154 : decode cX5_digest 154 = .ok (.iinc 3 1, 3) := by decide +kernel
theorem dX5_digest_157 : decode cX5_digest 157 = .ok (.goto (-27), 3) := by decide +kernel
theorem dX5_digest_160 : decode cX5_digest 160 = .ok (.lload_n 1, 1) := by decide +kernel
theorem dX5_digest_161 : decode cX5_digest 161 = .ok (.lreturn, 1) := by decide +kernel
set_option maxRecDepth 20000 in
theorem ggX5_digestSet_X5_ofSet : GoodIn wsX5_digestSet wsX5_ofSet := goodIn_ca (goodIn_ca (goodIn_r _ [7, 8, 9, 2, 10, 11, 12, 13, 14, 6, 15, 16, 17, 18, 19, 20, 21, 22, 23, 24, 25, 26, 27, 28, 29, 30, 31, 32, 33, 34, 35, 36, 37, 38, 39, 40, 41, 42, 43, 44, 45, 46, 47, 48, 49, 50, 51, 52, 53, 54, 55, 56, 57, 58, 59, 60, 61, 62, 63, 64, 65, 66, 67, 68, 69, 70, 71, 72, 73, 74, 75, 88, 89, 90, 91, 92, 93, 94, 95, 96, 97, 98, 99, 100, 101, 102, 103, 104, 105, 106, 107, 108, 109, 110, 111, 112, 113, 114, 115] (by decide +kernel) (by decide +kernel)) (goodIn_sub (fun _ h => List.mem_cons_of_mem _ (List.mem_append_left _ (List.mem_append_right _ h))) (by decide +kernel))) (goodIn_sub (fun _ h => List.mem_cons_of_mem _ (List.mem_append_right _ h)) (by decide +kernel))
set_option maxRecDepth 20000 in
theorem gX5_digestSet_X5_ofSet : GoodIn wsX5_digestSet (wsV RX5 357 RX5 yX5_ofSet wsX5_ofSet) := goodIn_app (goodIn_of _ (by decide +kernel)) ggX5_digestSet_X5_ofSet
set_option maxRecDepth 20000 in
theorem ggX5_digestSet_X5_harm : GoodIn wsX5_digestSet wsX5_harm := goodIn_ca (goodIn_r _ [79, 11, 80, 81, 82, 6, 83, 16, 17, 2, 84, 85, 86, 87, 12, 13, 14, 15, 18, 19, 20, 21, 22, 23, 41, 42, 43, 88, 89, 90, 91, 92, 93, 94, 101, 102, 103, 104, 95, 96, 97, 98, 99, 100] (by decide +kernel) (by decide +kernel)) (goodIn_sub (fun _ h => List.mem_cons_of_mem _ (List.mem_append_right _ h)) (by decide +kernel))
set_option maxRecDepth 20000 in
theorem gX5_digestSet_X5_harm : GoodIn wsX5_digestSet (wsV RX5 360 RX5 yX5_harm wsX5_harm) := goodIn_app (goodIn_of _ (by decide +kernel)) ggX5_digestSet_X5_harm
theorem dX5_digestSet_0 : decode cX5_digestSet 0 = .ok (.lload_n 1, 1) := by decide +kernel
theorem dX5_digestSet_1 : decode cX5_digestSet 1 = .ok (.lstore 4, 2) := by decide +kernel
theorem dX5_digestSet_3 : decode cX5_digestSet 3 = .ok (.iconst 0, 1) := by decide +kernel
theorem dX5_digestSet_4 : decode cX5_digestSet 4 = .ok (.istore 6, 2) := by decide +kernel
theorem dX5_digestSet_6 : decode cX5_digestSet 6 = .ok (.iload 6, 2) := by decide +kernel
theorem dX5_digestSet_8 : decode cX5_digestSet 8 = .ok (.bipush 6, 2) := by decide +kernel
theorem dX5_digestSet_10 : decode cX5_digestSet 10 = .ok (.if_icmp .gt 26, 3) := by decide +kernel
theorem dX5_digestSet_13 : decode cX5_digestSet 13 = .ok (.lload 4, 2) := by decide +kernel
theorem dX5_digestSet_15 : decode cX5_digestSet 15 = .ok (.ldc2_w 339, 3) := by decide +kernel
theorem dX5_digestSet_18 : decode cX5_digestSet 18 = .ok (.lmul, 1) := by decide +kernel
theorem dX5_digestSet_19 : decode cX5_digestSet 19 = .ok (.aload_n 0, 1) := by decide +kernel
theorem dX5_digestSet_20 : decode cX5_digestSet 20 = .ok (.iload_n 3, 1) := by decide +kernel
theorem dX5_digestSet_21 : decode cX5_digestSet 21 = .ok (.iload 6, 2) := by decide +kernel
theorem dX5_digestSet_23 : decode cX5_digestSet 23 = .ok (.invokevirtual 357, 3) := by decide +kernel
theorem dX5_digestSet_26 : decode cX5_digestSet 26 = .ok (.i2l, 1) := by decide +kernel
theorem dX5_digestSet_27 : decode cX5_digestSet 27 = .ok (.ladd, 1) := by decide +kernel
theorem dX5_digestSet_28 : decode cX5_digestSet 28 = .ok (.lstore 4, 2) := by decide +kernel
theorem dX5_digestSet_30 : decode cX5_digestSet 30 = .ok (.iinc 6 1, 3) := by decide +kernel
theorem dX5_digestSet_33 : decode cX5_digestSet 33 = .ok (.goto (-27), 3) := by decide +kernel
theorem dX5_digestSet_36 : decode cX5_digestSet 36 = .ok (.iconst 0, 1) := by decide +kernel
theorem dX5_digestSet_37 : decode cX5_digestSet 37 = .ok (.istore 6, 2) := by decide +kernel
theorem dX5_digestSet_39 : decode cX5_digestSet 39 = .ok (.iload 6, 2) := by decide +kernel
theorem dX5_digestSet_41 : decode cX5_digestSet 41 = .ok (.aload_n 0, 1) := by decide +kernel
theorem dX5_digestSet_42 : decode cX5_digestSet 42 = .ok (.getfield 12, 3) := by decide +kernel
theorem dX5_digestSet_45 : decode cX5_digestSet 45 = .ok (.getfield 117, 3) := by decide +kernel
theorem dX5_digestSet_48 : decode cX5_digestSet 48 = .ok (.iload_n 3, 1) := by decide +kernel
theorem dX5_digestSet_49 : decode cX5_digestSet 49 = .ok (.iaload, 1) := by decide +kernel
theorem dX5_digestSet_50 : decode cX5_digestSet 50 = .ok (.if_icmp .ge 51, 3) := by decide +kernel
theorem dX5_digestSet_53 : decode cX5_digestSet 53 = .ok (.iconst 0, 1) := by decide +kernel
theorem dX5_digestSet_54 : decode cX5_digestSet 54 = .ok (.istore 7, 2) := by decide +kernel
theorem dX5_digestSet_56 : decode cX5_digestSet 56 = .ok (.iload 7, 2) := by decide +kernel
theorem dX5_digestSet_58 : decode cX5_digestSet 58 = .ok (.aload_n 0, 1) := by decide +kernel
theorem dX5_digestSet_59 : decode cX5_digestSet 59 = .ok (.getfield 12, 3) := by decide +kernel
theorem dX5_digestSet_62 : decode cX5_digestSet 62 = .ok (.getfield 165, 3) := by decide +kernel
theorem dX5_digestSet_65 : decode cX5_digestSet 65 = .ok (.iload_n 3, 1) := by decide +kernel
theorem dX5_digestSet_66 : decode cX5_digestSet 66 = .ok (.iaload, 1) := by decide +kernel
theorem dX5_digestSet_67 : decode cX5_digestSet 67 = .ok (.if_icmp .ge 28, 3) := by decide +kernel
theorem dX5_digestSet_70 : decode cX5_digestSet 70 = .ok (.lload 4, 2) := by decide +kernel
theorem dX5_digestSet_72 : decode cX5_digestSet 72 = .ok (.ldc2_w 339, 3) := by decide +kernel
theorem dX5_digestSet_75 : decode cX5_digestSet 75 = .ok (.lmul, 1) := by decide +kernel
theorem dX5_digestSet_76 : decode cX5_digestSet 76 = .ok (.aload_n 0, 1) := by decide +kernel
theorem dX5_digestSet_77 : decode cX5_digestSet 77 = .ok (.iload_n 3, 1) := by decide +kernel
theorem dX5_digestSet_78 : decode cX5_digestSet 78 = .ok (.iload 6, 2) := by decide +kernel
theorem dX5_digestSet_80 : decode cX5_digestSet 80 = .ok (.iload 7, 2) := by decide +kernel
theorem dX5_digestSet_82 : decode cX5_digestSet 82 = .ok (.invokevirtual 360, 3) := by decide +kernel
theorem dX5_digestSet_85 : decode cX5_digestSet 85 = .ok (.i2l, 1) := by decide +kernel
theorem dX5_digestSet_86 : decode cX5_digestSet 86 = .ok (.ladd, 1) := by decide +kernel
theorem dX5_digestSet_87 : decode cX5_digestSet 87 = .ok (.lstore 4, 2) := by decide +kernel
theorem dX5_digestSet_89 : decode cX5_digestSet 89 = .ok (.iinc 7 1, 3) := by decide +kernel
theorem dX5_digestSet_92 : decode cX5_digestSet 92 = .ok (.goto (-36), 3) := by decide +kernel
theorem dX5_digestSet_95 : decode cX5_digestSet 95 = .ok (.iinc 6 1, 3) := by decide +kernel
theorem dX5_digestSet_98 : decode cX5_digestSet 98 = .ok (.goto (-59), 3) := by decide +kernel
theorem dX5_digestSet_101 : decode cX5_digestSet 101 = .ok (.lload 4, 2) := by decide +kernel
theorem dX5_digestSet_103 : decode cX5_digestSet 103 = .ok (.lreturn, 1) := by decide +kernel
set_option maxRecDepth 20000 in
theorem ggX5_digestReader_X5_ofReader : GoodIn wsX5_digestReader wsX5_ofReader := goodIn_ca (goodIn_ca (goodIn_r _ [8, 9, 10, 11, 3, 12, 13, 14, 15, 7, 16, 17, 18, 19, 20, 21, 22, 23, 24, 25, 26, 27, 28, 29, 30, 31, 32, 33, 34, 35, 36, 37, 38, 39, 40, 41, 42, 43, 44, 45, 46, 47, 48, 49, 50, 51, 52, 53, 54, 55, 56, 57, 58, 59, 60, 61, 62, 63, 64, 65, 66, 67, 68, 69, 70, 71, 72, 73, 74, 75, 76, 77, 78, 79, 80, 81, 82, 83, 84, 85, 86, 87, 88, 89, 90, 91, 92, 93, 94, 95, 96, 147, 148, 149, 150, 151, 152, 153, 160, 161, 162, 163, 164, 165, 166, 167, 168, 169, 170, 171, 172, 173, 174, 175, 176, 177, 178, 179, 180, 181] (by decide +kernel) (by decide +kernel)) (goodIn_sub (fun _ h => List.mem_cons_of_mem _ (List.mem_append_left _ (List.mem_append_right _ h))) (by decide +kernel))) (goodIn_sub (fun _ h => List.mem_cons_of_mem _ (List.mem_append_right _ h)) (by decide +kernel))
set_option maxRecDepth 20000 in
theorem gX5_digestReader_X5_ofReader : GoodIn wsX5_digestReader (wsV RX5 363 RX5 yX5_ofReader wsX5_ofReader) := goodIn_app (goodIn_of _ (by decide +kernel)) ggX5_digestReader_X5_ofReader
set_option maxRecDepth 20000 in
theorem ggX5_digestReader_X5_covered : GoodIn wsX5_digestReader wsX5_covered := goodIn_ca (goodIn_ca (goodIn_r _ [100, 9, 10, 13, 14, 15, 7, 16, 17, 18, 101, 102, 103, 104, 2, 105, 106, 107, 108, 109, 110, 111, 112, 113, 114, 115, 116, 87, 117, 89, 118, 119, 120, 121, 122, 90, 123, 124, 91, 92, 93, 94, 95, 96, 147, 148, 149, 150, 151, 152, 153, 154, 155, 156, 157, 158, 159, 175, 176, 177, 178, 179, 180, 181] (by decide +kernel) (by decide +kernel)) (goodIn_sub (fun _ h => List.mem_cons_of_mem _ (List.mem_append_left _ (List.mem_append_right _ h))) (by decide +kernel))) (goodIn_sub (fun _ h => List.mem_cons_of_mem _ (List.mem_append_right _ h)) (by decide +kernel))
set_option maxRecDepth 20000 in
theorem gX5_digestReader_X5_covered : GoodIn wsX5_digestReader (wsV RX5 366 RX5 yX5_covered wsX5_covered) := goodIn_app (goodIn_of _ (by decide +kernel)) ggX5_digestReader_X5_covered
set_option maxRecDepth 20000 in
theorem ggX5_digestReader_X5_previews : GoodIn wsX5_digestReader wsX5_previews := goodIn_ca (goodIn_r _ [128, 2, 129, 14, 15, 7, 16, 17, 18, 101, 102, 103, 104, 105, 106, 107, 108, 109, 110, 130, 131, 132, 133, 134, 135, 136, 13, 3, 114, 115, 116, 87, 117, 89, 118, 119, 120, 121, 122, 90, 123, 124, 91, 92, 93, 94, 95, 96, 137, 138, 139, 140, 141, 142, 34, 35, 36, 37, 38, 39, 143, 144, 145, 146, 147, 148, 149, 150, 151, 152, 153, 154, 155, 156, 157, 158, 159, 175, 176, 177, 178, 179, 180, 181] (by decide +kernel) (by decide +kernel)) (goodIn_sub (fun _ h => List.mem_cons_of_mem _ (List.mem_append_right _ h)) (by decide +kernel))
set_option maxRecDepth 20000 in
theorem gX5_digestReader_X5_previews : GoodIn wsX5_digestReader (wsV RX5 369 RX5 yX5_previews wsX5_previews) := goodIn_app (goodIn_of _ (by decide +kernel)) ggX5_digestReader_X5_previews
theorem dX5_digestReader_0 : decode cX5_digestReader 0 = .ok (.lload_n 1, 1) := by decide +kernel
theorem dX5_digestReader_1 : decode cX5_digestReader 1 = .ok (.lstore 4, 2) := by decide +kernel
theorem dX5_digestReader_3 : decode cX5_digestReader 3 = .ok (.iconst 0, 1) := by decide +kernel
theorem dX5_digestReader_4 : decode cX5_digestReader 4 = .ok (.istore 6, 2) := by decide +kernel
theorem dX5_digestReader_6 : decode cX5_digestReader 6 = .ok (.iload 6, 2) := by decide +kernel
theorem dX5_digestReader_8 : decode cX5_digestReader 8 = .ok (.bipush 6, 2) := by decide +kernel
theorem dX5_digestReader_10 : decode cX5_digestReader 10 = .ok (.if_icmp .gt 26, 3) := by decide +kernel
theorem dX5_digestReader_13 : decode cX5_digestReader 13 = .ok (.lload 4, 2) := by decide +kernel
theorem dX5_digestReader_15 : decode cX5_digestReader 15 = .ok (.ldc2_w 339, 3) := by decide +kernel
theorem dX5_digestReader_18 : decode cX5_digestReader 18 = .ok (.lmul, 1) := by decide +kernel
theorem dX5_digestReader_19 : decode cX5_digestReader 19 = .ok (.aload_n 0, 1) := by decide +kernel
theorem dX5_digestReader_20 : decode cX5_digestReader 20 = .ok (.iload_n 3, 1) := by decide +kernel
theorem dX5_digestReader_21 : decode cX5_digestReader 21 = .ok (.iload 6, 2) := by decide +kernel
theorem dX5_digestReader_23 : decode cX5_digestReader 23 = .ok (.invokevirtual 363, 3) := by decide +kernel
theorem dX5_digestReader_26 : decode cX5_digestReader 26 = .ok (.i2l, 1) := by decide +kernel
theorem dX5_digestReader_27 : decode cX5_digestReader 27 = .ok (.ladd, 1) := by decide +kernel
theorem dX5_digestReader_28 : decode cX5_digestReader 28 = .ok (.lstore 4, 2) := by decide +kernel
theorem dX5_digestReader_30 : decode cX5_digestReader 30 = .ok (.iinc 6 1, 3) := by decide +kernel
theorem dX5_digestReader_33 : decode cX5_digestReader 33 = .ok (.goto (-27), 3) := by decide +kernel
theorem dX5_digestReader_36 : decode cX5_digestReader 36 = .ok (.iconst 0, 1) := by decide +kernel
theorem dX5_digestReader_37 : decode cX5_digestReader 37 = .ok (.istore 6, 2) := by decide +kernel
theorem dX5_digestReader_39 : decode cX5_digestReader 39 = .ok (.iload 6, 2) := by decide +kernel
theorem dX5_digestReader_41 : decode cX5_digestReader 41 = .ok (.aload_n 0, 1) := by decide +kernel
theorem dX5_digestReader_42 : decode cX5_digestReader 42 = .ok (.getfield 12, 3) := by decide +kernel
theorem dX5_digestReader_45 : decode cX5_digestReader 45 = .ok (.getfield 59, 3) := by decide +kernel
theorem dX5_digestReader_48 : decode cX5_digestReader 48 = .ok (.if_icmp .ge 48, 3) := by decide +kernel
theorem dX5_digestReader_51 : decode cX5_digestReader 51 = .ok (.lload 4, 2) := by decide +kernel
theorem dX5_digestReader_53 : decode cX5_digestReader 53 = .ok (.ldc2_w 339, 3) := by decide +kernel
theorem dX5_digestReader_56 : decode cX5_digestReader 56 = .ok (.lmul, 1) := by decide +kernel
theorem dX5_digestReader_57 : decode cX5_digestReader 57 = .ok (.aload_n 0, 1) := by decide +kernel
theorem dX5_digestReader_58 : decode cX5_digestReader 58 = .ok (.iload_n 3, 1) := by decide +kernel
theorem dX5_digestReader_59 : decode cX5_digestReader 59 = .ok (.iload 6, 2) := by decide +kernel
theorem dX5_digestReader_61 : decode cX5_digestReader 61 = .ok (.iconst 0, 1) := by decide +kernel
theorem dX5_digestReader_62 : decode cX5_digestReader 62 = .ok (.aload_n 0, 1) := by decide +kernel
theorem dX5_digestReader_63 : decode cX5_digestReader 63 = .ok (.getfield 48, 3) := by decide +kernel
theorem dX5_digestReader_66 : decode cX5_digestReader 66 = .ok (.invokevirtual 366, 3) := by decide +kernel
theorem dX5_digestReader_69 : decode cX5_digestReader 69 = .ok (.i2l, 1) := by decide +kernel
theorem dX5_digestReader_70 : decode cX5_digestReader 70 = .ok (.ladd, 1) := by decide +kernel
theorem dX5_digestReader_71 : decode cX5_digestReader 71 = .ok (.lstore 4, 2) := by decide +kernel
theorem dX5_digestReader_73 : decode cX5_digestReader 73 = .ok (.lload 4, 2) := by decide +kernel
theorem dX5_digestReader_75 : decode cX5_digestReader 75 = .ok (.ldc2_w 339, 3) := by decide +kernel
theorem dX5_digestReader_78 : decode cX5_digestReader 78 = .ok (.lmul, 1) := by decide +kernel
theorem dX5_digestReader_79 : decode cX5_digestReader 79 = .ok (.aload_n 0, 1) := by decide +kernel
theorem dX5_digestReader_80 : decode cX5_digestReader 80 = .ok (.iload_n 3, 1) := by decide +kernel
theorem dX5_digestReader_81 : decode cX5_digestReader 81 = .ok (.iload 6, 2) := by decide +kernel
theorem dX5_digestReader_83 : decode cX5_digestReader 83 = .ok (.invokevirtual 369, 3) := by decide +kernel
theorem dX5_digestReader_86 : decode cX5_digestReader 86 = .ok (.i2l, 1) := by decide +kernel
theorem dX5_digestReader_87 : decode cX5_digestReader 87 = .ok (.ladd, 1) := by decide +kernel
theorem dX5_digestReader_88 : decode cX5_digestReader 88 = .ok (.lstore 4, 2) := by decide +kernel
theorem dX5_digestReader_90 : decode cX5_digestReader 90 = .ok (.iinc 6 1, 3) := by decide +kernel
theorem dX5_digestReader_93 : decode cX5_digestReader 93 = .ok (.goto (-54), 3) := by decide +kernel
theorem dX5_digestReader_96 : decode cX5_digestReader 96 = .ok (.lload 4, 2) := by decide +kernel
theorem dX5_digestReader_98 : decode cX5_digestReader 98 = .ok (.lreturn, 1) := by decide +kernel
set_option maxRecDepth 20000 in
theorem ggX5_harmedFields_X4_latestVersion : GoodIn wsX5_harmedFields wsX4_latestVersion := goodIn_r _ [7, 8, 20, 21, 22, 23, 24, 25] (by decide +kernel) (by decide +kernel)
set_option maxRecDepth 20000 in
theorem gX5_harmedFields_X4_latestVersion : GoodIn wsX5_harmedFields (wsV RX5 135 RX4 yX4_latestVersion wsX4_latestVersion) := goodIn_app (goodIn_of _ (by decide +kernel)) ggX5_harmedFields_X4_latestVersion
set_option maxRecDepth 20000 in
theorem ggX5_harmedFields_X5_placeAt : GoodIn wsX5_harmedFields wsX5_placeAt := goodIn_r _ [12] (by decide +kernel) (by decide +kernel)
set_option maxRecDepth 20000 in
theorem gX5_harmedFields_X5_placeAt : GoodIn wsX5_harmedFields (va_wsS RX5 140 yX5_placeAt wsX5_placeAt) := goodIn_app (goodIn_of _ (by decide +kernel)) ggX5_harmedFields_X5_placeAt
theorem dX5_harmedFields_0 : decode cX5_harmedFields 0 = .ok (.aload_n 0, 1) := by decide +kernel
theorem dX5_harmedFields_1 : decode cX5_harmedFields 1 = .ok (.getfield 12, 3) := by decide +kernel
theorem dX5_harmedFields_4 : decode cX5_harmedFields 4 = .ok (.iload_n 1, 1) := by decide +kernel
theorem dX5_harmedFields_5 : decode cX5_harmedFields 5 = .ok (.invokevirtual 135, 3) := by decide +kernel
theorem dX5_harmedFields_8 : decode cX5_harmedFields 8 = .ok (.istore_n 2, 1) := by decide +kernel
theorem dX5_harmedFields_9 : decode cX5_harmedFields 9 = .ok (.iload_n 2, 1) := by decide +kernel
theorem dX5_harmedFields_10 : decode cX5_harmedFields 10 = .ok (.iconst (-1), 1) := by decide +kernel
theorem dX5_harmedFields_11 : decode cX5_harmedFields 11 = .ok (.if_icmp .ne 5, 3) := by decide +kernel
theorem dX5_harmedFields_14 : decode cX5_harmedFields 14 = .ok (.iconst 0, 1) := by decide +kernel
theorem dX5_harmedFields_15 : decode cX5_harmedFields 15 = .ok (.ireturn, 1) := by decide +kernel
theorem dX5_harmedFields_16 : decode cX5_harmedFields 16 = .ok (.iconst 0, 1) := by decide +kernel
theorem dX5_harmedFields_17 : decode cX5_harmedFields 17 = .ok (.istore_n 3, 1) := by decide +kernel
theorem dX5_harmedFields_18 : decode cX5_harmedFields 18 = .ok (.iconst 0, 1) := by decide +kernel
theorem dX5_harmedFields_19 : decode cX5_harmedFields 19 = .ok (.istore 4, 2) := by decide +kernel
theorem dX5_harmedFields_21 : decode cX5_harmedFields 21 = .ok (.iload 4, 2) := by decide +kernel
theorem dX5_harmedFields_23 : decode cX5_harmedFields 23 = .ok (.aload_n 0, 1) := by decide +kernel
theorem dX5_harmedFields_24 : decode cX5_harmedFields 24 = .ok (.getfield 12, 3) := by decide +kernel
theorem dX5_harmedFields_27 : decode cX5_harmedFields 27 = .ok (.getfield 165, 3) := by decide +kernel
theorem dX5_harmedFields_30 : decode cX5_harmedFields 30 = .ok (.iload_n 1, 1) := by decide +kernel
theorem dX5_harmedFields_31 : decode cX5_harmedFields 31 = .ok (.iaload, 1) := by decide +kernel
theorem dX5_harmedFields_32 : decode cX5_harmedFields 32 = .ok (.if_icmp .ge 30, 3) := by decide +kernel
theorem dX5_harmedFields_35 : decode cX5_harmedFields 35 = .ok (.aload_n 0, 1) := by decide +kernel
theorem dX5_harmedFields_36 : decode cX5_harmedFields 36 = .ok (.getfield 26, 3) := by decide +kernel
theorem dX5_harmedFields_39 : decode cX5_harmedFields 39 = .ok (.getfield 153, 3) := by decide +kernel
theorem dX5_harmedFields_42 : decode cX5_harmedFields 42 = .ok (.iload_n 1, 1) := by decide +kernel
theorem dX5_harmedFields_43 : decode cX5_harmedFields 43 = .ok (.iload_n 2, 1) := by decide +kernel
theorem dX5_harmedFields_44 : decode cX5_harmedFields 44 = .ok (.iload 4, 2) := by decide +kernel
theorem dX5_harmedFields_46 : decode cX5_harmedFields 46 = .ok (.invokestatic 140, 3) := by decide +kernel
theorem dX5_harmedFields_49 : decode cX5_harmedFields 49 = .ok (.iaload, 1) := by decide +kernel
theorem dX5_harmedFields_50 : decode cX5_harmedFields 50 = .ok (.ifCond .le 6, 3) := by decide +kernel
theorem dX5_harmedFields_53 : decode cX5_harmedFields 53 = .ok (.iinc 3 1, 3) := by decide +kernel
theorem dX5_harmedFields_56 : decode cX5_harmedFields 56 = .ok (.iinc 4 1, 3) := by decide +kernel
theorem dX5_harmedFields_59 : decode cX5_harmedFields 59 = .ok (.goto (-38), 3) := by decide +kernel
theorem dX5_harmedFields_62 : decode cX5_harmedFields 62 = .ok (.iload_n 3, 1) := by decide +kernel
theorem dX5_harmedFields_63 : decode cX5_harmedFields 63 = .ok (.ireturn, 1) := by decide +kernel
set_option maxRecDepth 20000 in
theorem ggX5_creditGain_X1_tryRaise : GoodIn wsX5_creditGain wsX1_tryRaise := goodIn_r _ [8, 9, 10, 11, 12, 13, 14, 15, 16, 7, 17, 18, 19, 20, 21, 22, 23, 24, 25, 26, 27, 28, 59, 60, 61, 62, 63, 64, 65, 66, 67, 68, 69, 70, 71] (by decide +kernel) (by decide +kernel)
set_option maxRecDepth 20000 in
theorem gX5_creditGain_X1_tryRaise : GoodIn wsX5_creditGain (wsV RX5 372 RX1 yX1_tryRaise wsX1_tryRaise) := goodIn_app (goodIn_of _ (by decide +kernel)) ggX5_creditGain_X1_tryRaise
set_option maxRecDepth 20000 in
theorem ggX5_creditGain_X3_credit : GoodIn wsX5_creditGain wsX3_credit := goodIn_r _ [33, 34, 35, 36, 37, 32, 38, 39, 40, 41, 42, 43, 44, 45, 46, 47, 48, 49, 50, 51, 72, 73, 74, 75, 76, 77, 78, 79, 80, 81, 82] (by decide +kernel) (by decide +kernel)
set_option maxRecDepth 20000 in
theorem gX5_creditGain_X3_credit : GoodIn wsX5_creditGain (wsV RX5 180 RX3 yX3_credit wsX3_credit) := goodIn_app (goodIn_of _ (by decide +kernel)) ggX5_creditGain_X3_credit
theorem dX5_creditGain_0 : decode cX5_creditGain 0 = .ok (.aload_n 0, 1) := by decide +kernel
theorem dX5_creditGain_1 : decode cX5_creditGain 1 = .ok (.getfield 26, 3) := by decide +kernel
theorem dX5_creditGain_4 : decode cX5_creditGain 4 = .ok (.iload_n 1, 1) := by decide +kernel
theorem dX5_creditGain_5 : decode cX5_creditGain 5 = .ok (.iload_n 2, 1) := by decide +kernel
theorem dX5_creditGain_6 : decode cX5_creditGain 6 = .ok (.aload_n 0, 1) := by decide +kernel
theorem dX5_creditGain_7 : decode cX5_creditGain 7 = .ok (.getfield 19, 3) := by decide +kernel
theorem dX5_creditGain_10 : decode cX5_creditGain 10 = .ok (.invokevirtual 372, 3) := by decide +kernel
theorem dX5_creditGain_13 : decode cX5_creditGain 13 = .ok (.astore_n 3, 1) := by decide +kernel
theorem dX5_creditGain_14 : decode cX5_creditGain 14 = .ok (.aload_n 0, 1) := by decide +kernel
theorem dX5_creditGain_15 : decode cX5_creditGain 15 = .ok (.getfield 40, 3) := by decide +kernel
theorem dX5_creditGain_18 : decode cX5_creditGain 18 = .ok (.iconst (-1), 1) := by decide +kernel
theorem dX5_creditGain_19 : decode cX5_creditGain 19 = .ok (.iconst (-1), 1) := by decide +kernel
theorem dX5_creditGain_20 : decode cX5_creditGain 20 = .ok (.aload_n 3, 1) := by decide +kernel
theorem dX5_creditGain_21 : decode cX5_creditGain 21 = .ok (.invokevirtual 180, 3) := by decide +kernel
theorem dX5_creditGain_24 : decode cX5_creditGain 24 = .ok (.aload_n 0, 1) := by decide +kernel
theorem dX5_creditGain_25 : decode cX5_creditGain 25 = .ok (.getfield 40, 3) := by decide +kernel
theorem dX5_creditGain_28 : decode cX5_creditGain 28 = .ok (.iconst (-1), 1) := by decide +kernel
theorem dX5_creditGain_29 : decode cX5_creditGain 29 = .ok (.iconst (-1), 1) := by decide +kernel
theorem dX5_creditGain_30 : decode cX5_creditGain 30 = .ok (.aload_n 0, 1) := by decide +kernel
theorem dX5_creditGain_31 : decode cX5_creditGain 31 = .ok (.getfield 26, 3) := by decide +kernel
theorem dX5_creditGain_34 : decode cX5_creditGain 34 = .ok (.getfield 153, 3) := by decide +kernel
theorem dX5_creditGain_37 : decode cX5_creditGain 37 = .ok (.invokevirtual 180, 3) := by decide +kernel
theorem dX5_creditGain_40 : decode cX5_creditGain 40 = .ok (.isub, 1) := by decide +kernel
theorem dX5_creditGain_41 : decode cX5_creditGain 41 = .ok (.ireturn, 1) := by decide +kernel
set_option maxRecDepth 20000 in
theorem ggX5_enterRead_X4_latestVersion : GoodIn wsX5_enterRead wsX4_latestVersion := goodIn_r _ [8, 9, 69, 70, 71, 72, 73, 74] (by decide +kernel) (by decide +kernel)
set_option maxRecDepth 20000 in
theorem gX5_enterRead_X4_latestVersion : GoodIn wsX5_enterRead (wsV RX5 135 RX4 yX4_latestVersion wsX4_latestVersion) := goodIn_app (goodIn_of _ (by decide +kernel)) ggX5_enterRead_X4_latestVersion
set_option maxRecDepth 20000 in
theorem ggX5_enterRead_X3_add : GoodIn wsX5_enterRead wsX3_add := goodIn_r _ [14, 15, 16, 17, 18, 19, 20, 21, 22, 23, 24, 25, 26, 13, 27, 28, 29, 30, 31, 32, 33, 34, 35, 36, 37, 38, 39, 40, 41, 42, 75, 76, 77, 78, 79, 80, 81, 82, 83, 84, 85] (by decide +kernel) (by decide +kernel)
set_option maxRecDepth 20000 in
theorem gX5_enterRead_X3_add : GoodIn wsX5_enterRead (wsV RX5 376 RX3 yX3_add wsX3_add) := goodIn_app (goodIn_of _ (by decide +kernel)) ggX5_enterRead_X3_add
set_option maxRecDepth 20000 in
theorem ggX5_enterRead_X5_has : GoodIn wsX5_enterRead wsX5_has := goodIn_r _ [46] (by decide +kernel) (by decide +kernel)
set_option maxRecDepth 20000 in
theorem gX5_enterRead_X5_has : GoodIn wsX5_enterRead (va_wsS RX5 324 yX5_has wsX5_has) := goodIn_app (goodIn_of _ (by decide +kernel)) ggX5_enterRead_X5_has
set_option maxRecDepth 20000 in
theorem ggX5_enterRead_X5_chargeAt : GoodIn wsX5_enterRead wsX5_chargeAt := goodIn_r _ [49] (by decide +kernel) (by decide +kernel)
set_option maxRecDepth 20000 in
theorem gX5_enterRead_X5_chargeAt : GoodIn wsX5_enterRead (va_wsS RX5 382 yX5_chargeAt wsX5_chargeAt) := goodIn_app (goodIn_of _ (by decide +kernel)) ggX5_enterRead_X5_chargeAt
set_option maxRecDepth 20000 in
theorem ggX5_enterRead_X4_fieldCharge : GoodIn wsX5_enterRead wsX4_fieldCharge := goodIn_r _ [53, 54, 55, 45, 56, 69, 70, 71, 72, 73, 74] (by decide +kernel) (by decide +kernel)
set_option maxRecDepth 20000 in
theorem gX5_enterRead_X4_fieldCharge : GoodIn wsX5_enterRead (wsV RX5 327 RX4 yX4_fieldCharge wsX4_fieldCharge) := goodIn_app (goodIn_of _ (by decide +kernel)) ggX5_enterRead_X4_fieldCharge
set_option maxRecDepth 20000 in
theorem ggX5_enterRead_X3_chargeOf : GoodIn wsX5_enterRead wsX3_chargeOf := goodIn_r _ [60, 61, 48, 45, 49, 75, 76, 77, 78, 79, 80, 81, 82, 83, 84, 85] (by decide +kernel) (by decide +kernel)
set_option maxRecDepth 20000 in
theorem gX5_enterRead_X3_chargeOf : GoodIn wsX5_enterRead (wsV RX5 281 RX3 yX3_chargeOf wsX3_chargeOf) := goodIn_app (goodIn_of _ (by decide +kernel)) ggX5_enterRead_X3_chargeOf
theorem dX5_enterRead_0 : decode cX5_enterRead 0 = .ok (.aload_n 0, 1) := by decide +kernel
theorem dX5_enterRead_1 : decode cX5_enterRead 1 = .ok (.getfield 40, 3) := by decide +kernel
theorem dX5_enterRead_4 : decode cX5_enterRead 4 = .ok (.iload_n 1, 1) := by decide +kernel
theorem dX5_enterRead_5 : decode cX5_enterRead 5 = .ok (.iload_n 2, 1) := by decide +kernel
theorem dX5_enterRead_6 : decode cX5_enterRead 6 = .ok (.aload_n 0, 1) := by decide +kernel
theorem dX5_enterRead_7 : decode cX5_enterRead 7 = .ok (.getfield 12, 3) := by decide +kernel
theorem dX5_enterRead_10 : decode cX5_enterRead 10 = .ok (.iload_n 2, 1) := by decide +kernel
theorem dX5_enterRead_11 : decode cX5_enterRead 11 = .ok (.invokevirtual 135, 3) := by decide +kernel
theorem dX5_enterRead_14 : decode cX5_enterRead 14 = .ok (.iload_n 3, 1) := by decide +kernel
theorem dX5_enterRead_15 : decode cX5_enterRead 15 = .ok (.iload 4, 2) := by decide +kernel
theorem dX5_enterRead_17 : decode cX5_enterRead 17 = .ok (.iload 5, 2) := by decide +kernel
theorem dX5_enterRead_19 : decode cX5_enterRead 19 = .ok (.aload_n 0, 1) := by decide +kernel
theorem dX5_enterRead_20 : decode cX5_enterRead 20 = .ok (.getfield 48, 3) := by decide +kernel
theorem dX5_enterRead_23 : decode cX5_enterRead 23 = .ok (.invokevirtual 376, 3) := by decide +kernel
theorem dX5_enterRead_26 : decode cX5_enterRead 26 = .ok (.istore 6, 2) := by decide +kernel
theorem dX5_enterRead_28 : decode cX5_enterRead 28 = .ok (.iconst 0, 1) := by decide +kernel
theorem dX5_enterRead_29 : decode cX5_enterRead 29 = .ok (.istore 7, 2) := by decide +kernel
theorem dX5_enterRead_31 : decode cX5_enterRead 31 = .ok (.iload 7, 2) := by decide +kernel
theorem dX5_enterRead_33 : decode cX5_enterRead 33 = .ok (.aload_n 0, 1) := by decide +kernel
theorem dX5_enterRead_34 : decode cX5_enterRead 34 = .ok (.getfield 12, 3) := by decide +kernel
theorem dX5_enterRead_37 : decode cX5_enterRead 37 = .ok (.getfield 165, 3) := by decide +kernel
theorem dX5_enterRead_40 : decode cX5_enterRead 40 = .ok (.iload_n 2, 1) := by decide +kernel
theorem dX5_enterRead_41 : decode cX5_enterRead 41 = .ok (.iaload, 1) := by decide +kernel
theorem dX5_enterRead_42 : decode cX5_enterRead 42 = .ok (.if_icmp .ge 55, 3) := by decide +kernel
theorem dX5_enterRead_45 : decode cX5_enterRead 45 = .ok (.iload_n 3, 1) := by decide +kernel
theorem dX5_enterRead_46 : decode cX5_enterRead 46 = .ok (.iload 7, 2) := by decide +kernel
theorem dX5_enterRead_48 : decode cX5_enterRead 48 = .ok (.invokestatic 324, 3) := by decide +kernel
theorem dX5_enterRead_51 : decode cX5_enterRead 51 = .ok (.ifCond .eq 40, 3) := by decide +kernel
theorem dX5_enterRead_54 : decode cX5_enterRead 54 = .ok (.aload_n 0, 1) := by decide +kernel
theorem dX5_enterRead_55 : decode cX5_enterRead 55 = .ok (.getfield 40, 3) := by decide +kernel
theorem dX5_enterRead_58 : decode cX5_enterRead 58 = .ok (.getfield 379, 3) := by decide +kernel
theorem dX5_enterRead_61 : decode cX5_enterRead 61 = .ok (.iload 6, 2) := by decide +kernel
theorem dX5_enterRead_63 : decode cX5_enterRead 63 = .ok (.iload 7, 2) := by decide +kernel
theorem dX5_enterRead_65 : decode cX5_enterRead 65 = .ok (.invokestatic 382, 3) := by decide +kernel
theorem dX5_enterRead_68 : decode cX5_enterRead 68 = .ok (.aload_n 0, 1) := by decide +kernel
theorem dX5_enterRead_69 : decode cX5_enterRead 69 = .ok (.getfield 12, 3) := by decide +kernel
theorem dX5_enterRead_72 : decode cX5_enterRead 72 = .ok (.iload_n 2, 1) := by decide +kernel
theorem dX5_enterRead_73 : decode cX5_enterRead 73 = .ok (.iload 7, 2) := by decide +kernel
theorem dX5_enterRead_75 : decode cX5_enterRead 75 = .ok (.iload 4, 2) := by decide +kernel
theorem dX5_enterRead_77 : decode cX5_enterRead 77 = .ok (.aload_n 0, 1) := by decide +kernel
theorem dX5_enterRead_78 : decode cX5_enterRead 78 = .ok (.getfield 40, 3) := by decide +kernel
theorem dX5_enterRead_81 : decode cX5_enterRead 81 = .ok (.getfield 278, 3) := by decide +kernel
theorem dX5_enterRead_84 : decode cX5_enterRead 84 = .ok (.iload 6, 2) := by decide +kernel
theorem dX5_enterRead_86 : decode cX5_enterRead 86 = .ok (.iaload, 1) := by decide +kernel
theorem dX5_enterRead_87 : decode cX5_enterRead 87 = .ok (.invokevirtual 327, 3) := by decide +kernel
theorem dX5_enterRead_90 : decode cX5_enterRead 90 = .ok (.iastore, 1) := by decide +kernel
theorem dX5_enterRead_91 : decode cX5_enterRead 91 = .ok (.iinc 7 1, 3) := by decide +kernel
theorem dX5_enterRead_94 : decode cX5_enterRead 94 = .ok (.goto (-63), 3) := by decide +kernel
theorem dX5_enterRead_97 : decode cX5_enterRead 97 = .ok (.aload_n 0, 1) := by decide +kernel
theorem dX5_enterRead_98 : decode cX5_enterRead 98 = .ok (.getfield 40, 3) := by decide +kernel
theorem dX5_enterRead_101 : decode cX5_enterRead 101 = .ok (.iload 6, 2) := by decide +kernel
theorem dX5_enterRead_103 : decode cX5_enterRead 103 = .ok (.invokevirtual 281, 3) := by decide +kernel
theorem dX5_enterRead_106 : decode cX5_enterRead 106 = .ok (.ireturn, 1) := by decide +kernel
set_option maxRecDepth 20000 in
theorem ggX5_openToday_X0_open : GoodIn wsX5_openToday wsX0_open := goodIn_r _ [7, 8, 9, 10, 11, 12, 6, 13, 14, 15, 16, 17, 18, 19, 20, 21, 22, 30, 31, 32, 33, 34, 35, 36] (by decide +kernel) (by decide +kernel)
set_option maxRecDepth 20000 in
theorem gX5_openToday_X0_open : GoodIn wsX5_openToday (wsV RX5 219 RX0 yX0_open wsX0_open) := goodIn_app (goodIn_of _ (by decide +kernel)) ggX5_openToday_X0_open
theorem dX5_openToday_0 : decode cX5_openToday 0 = .ok (.aload_n 0, 1) := by decide +kernel
theorem dX5_openToday_1 : decode cX5_openToday 1 = .ok (.getfield 33, 3) := by decide +kernel
theorem dX5_openToday_4 : decode cX5_openToday 4 = .ok (.iload_n 1, 1) := by decide +kernel
theorem dX5_openToday_5 : decode cX5_openToday 5 = .ok (.iload_n 2, 1) := by decide +kernel
theorem dX5_openToday_6 : decode cX5_openToday 6 = .ok (.bipush 15, 2) := by decide +kernel
theorem dX5_openToday_8 : decode cX5_openToday 8 = .ok (.aload_n 0, 1) := by decide +kernel
theorem dX5_openToday_9 : decode cX5_openToday 9 = .ok (.getfield 48, 3) := by decide +kernel
theorem dX5_openToday_12 : decode cX5_openToday 12 = .ok (.iconst (-1), 1) := by decide +kernel
theorem dX5_openToday_13 : decode cX5_openToday 13 = .ok (.invokevirtual 219, 3) := by decide +kernel
theorem dX5_openToday_16 : decode cX5_openToday 16 = .ok (.ireturn, 1) := by decide +kernel
set_option maxRecDepth 20000 in
theorem ggX5_mayBeSeen_X4_allFields : GoodIn wsX5_mayBeSeen wsX4_allFields := goodIn_r _ [6, 7, 22, 23, 24, 25, 26, 27] (by decide +kernel) (by decide +kernel)
set_option maxRecDepth 20000 in
theorem gX5_mayBeSeen_X4_allFields : GoodIn wsX5_mayBeSeen (wsV RX5 331 RX4 yX4_allFields wsX4_allFields) := goodIn_app (goodIn_of _ (by decide +kernel)) ggX5_mayBeSeen_X4_allFields
set_option maxRecDepth 20000 in
theorem ggX5_mayBeSeen_J6_bitCount_0f7a4 : GoodIn wsX5_mayBeSeen wsJ6_bitCount_0f7a4 := goodIn_r _ [11, 12, 13, 14] (by decide +kernel) (by decide +kernel)
set_option maxRecDepth 20000 in
theorem gX5_mayBeSeen_J6_bitCount_0f7a4 : GoodIn wsX5_mayBeSeen (va_wsS RX5 235 yJ6_bitCount_0f7a4 wsJ6_bitCount_0f7a4) := goodIn_app (goodIn_of _ (by decide +kernel)) ggX5_mayBeSeen_J6_bitCount_0f7a4
theorem dX5_mayBeSeen_0 : decode cX5_mayBeSeen 0 = .ok (.aload_n 0, 1) := by decide +kernel
theorem dX5_mayBeSeen_1 : decode cX5_mayBeSeen 1 = .ok (.getfield 12, 3) := by decide +kernel
theorem dX5_mayBeSeen_4 : decode cX5_mayBeSeen 4 = .ok (.iload_n 1, 1) := by decide +kernel
theorem dX5_mayBeSeen_5 : decode cX5_mayBeSeen 5 = .ok (.invokevirtual 331, 3) := by decide +kernel
theorem dX5_mayBeSeen_8 : decode cX5_mayBeSeen 8 = .ok (.istore 4, 2) := by decide +kernel
theorem dX5_mayBeSeen_10 : decode cX5_mayBeSeen 10 = .ok (.iload_n 2, 1) := by decide +kernel
theorem dX5_mayBeSeen_11 : decode cX5_mayBeSeen 11 = .ok (.invokestatic 235, 3) := by decide +kernel
theorem dX5_mayBeSeen_14 : decode cX5_mayBeSeen 14 = .ok (.aload_n 0, 1) := by decide +kernel
theorem dX5_mayBeSeen_15 : decode cX5_mayBeSeen 15 = .ok (.getfield 12, 3) := by decide +kernel
theorem dX5_mayBeSeen_18 : decode cX5_mayBeSeen 18 = .ok (.getfield 165, 3) := by decide +kernel
theorem dX5_mayBeSeen_21 : decode cX5_mayBeSeen 21 = .ok (.iload_n 1, 1) := by decide +kernel
theorem dX5_mayBeSeen_22 : decode cX5_mayBeSeen 22 = .ok (.iaload, 1) := by decide +kernel
theorem dX5_mayBeSeen_23 : decode cX5_mayBeSeen 23 = .ok (.iconst 1, 1) := by decide +kernel
theorem dX5_mayBeSeen_24 : decode cX5_mayBeSeen 24 = .ok (.iadd, 1) := by decide +kernel
theorem dX5_mayBeSeen_25 : decode cX5_mayBeSeen 25 = .ok (.iconst 2, 1) := by decide +kernel
theorem dX5_mayBeSeen_26 : decode cX5_mayBeSeen 26 = .ok (.idiv, 1) := by decide +kernel
theorem dX5_mayBeSeen_27 : decode cX5_mayBeSeen 27 = .ok (.if_icmp .le 5, 3) := by decide +kernel
theorem dX5_mayBeSeen_30 : decode cX5_mayBeSeen 30 = .ok (.iconst 0, 1) := by decide +kernel
theorem dX5_mayBeSeen_31 : decode cX5_mayBeSeen 31 = .ok (.ireturn, 1) := by decide +kernel
theorem dX5_mayBeSeen_32 : decode cX5_mayBeSeen 32 = .ok (.iload_n 3, 1) := by decide +kernel
theorem dX5_mayBeSeen_33 : decode cX5_mayBeSeen 33 = .ok (.iload 4, 2) := by decide +kernel
theorem dX5_mayBeSeen_35 : decode cX5_mayBeSeen 35 = .ok (.if_icmp .eq 11, 3) := by decide +kernel
theorem dX5_mayBeSeen_38 : decode cX5_mayBeSeen 38 = .ok (.iload_n 2, 1) := by decide +kernel
theorem dX5_mayBeSeen_39 : decode cX5_mayBeSeen 39 = .ok (.iload_n 3, 1) := by decide +kernel
theorem dX5_mayBeSeen_40 : decode cX5_mayBeSeen 40 = .ok (.ior, 1) := by decide +kernel
theorem dX5_mayBeSeen_41 : decode cX5_mayBeSeen 41 = .ok (.iload 4, 2) := by decide +kernel
theorem dX5_mayBeSeen_43 : decode cX5_mayBeSeen 43 = .ok (.if_icmp .eq 7, 3) := by decide +kernel
theorem dX5_mayBeSeen_46 : decode cX5_mayBeSeen 46 = .ok (.iconst 1, 1) := by decide +kernel
theorem dX5_mayBeSeen_47 : decode cX5_mayBeSeen 47 = .ok (.goto 4, 3) := by decide +kernel
theorem dX5_mayBeSeen_50 : decode cX5_mayBeSeen 50 = .ok (.iconst 0, 1) := by decide +kernel
theorem dX5_mayBeSeen_51 : decode cX5_mayBeSeen 51 = .ok (.ireturn, 1) := by decide +kernel
set_option maxRecDepth 20000 in
theorem ggX5_needsContract_X0_isFor : GoodIn wsX5_needsContract wsX0_isFor := goodIn_r _ [7, 8, 9, 10, 11, 12, 13, 6, 14, 15, 16, 42, 43, 44, 45, 46, 47, 48] (by decide +kernel) (by decide +kernel)
set_option maxRecDepth 20000 in
theorem gX5_needsContract_X0_isFor : GoodIn wsX5_needsContract (wsV RX5 385 RX0 yX0_isFor wsX0_isFor) := goodIn_app (goodIn_of _ (by decide +kernel)) ggX5_needsContract_X0_isFor
set_option maxRecDepth 20000 in
theorem ggX5_needsContract_X0_open : GoodIn wsX5_needsContract wsX0_open := goodIn_r _ [20, 21, 22, 23, 4, 5, 6, 7, 8, 9, 10, 11, 12, 13, 14, 15, 16, 42, 43, 44, 45, 46, 47, 48] (by decide +kernel) (by decide +kernel)
set_option maxRecDepth 20000 in
theorem gX5_needsContract_X0_open : GoodIn wsX5_needsContract (wsV RX5 219 RX0 yX0_open wsX0_open) := goodIn_app (goodIn_of _ (by decide +kernel)) ggX5_needsContract_X0_open
theorem dX5_needsContract_0 : decode cX5_needsContract 0 = .ok (.aload_n 0, 1) := by decide +kernel
theorem dX5_needsContract_1 : decode cX5_needsContract 1 = .ok (.getfield 40, 3) := by decide +kernel
theorem dX5_needsContract_4 : decode cX5_needsContract 4 = .ok (.getfield 261, 3) := by decide +kernel
theorem dX5_needsContract_7 : decode cX5_needsContract 7 = .ok (.iload_n 1, 1) := by decide +kernel
theorem dX5_needsContract_8 : decode cX5_needsContract 8 = .ok (.iaload, 1) := by decide +kernel
theorem dX5_needsContract_9 : decode cX5_needsContract 9 = .ok (.istore_n 3, 1) := by decide +kernel
theorem dX5_needsContract_10 : decode cX5_needsContract 10 = .ok (.aload_n 0, 1) := by decide +kernel
theorem dX5_needsContract_11 : decode cX5_needsContract 11 = .ok (.getfield 40, 3) := by decide +kernel
theorem dX5_needsContract_14 : decode cX5_needsContract 14 = .ok (.getfield 264, 3) := by decide +kernel
theorem dX5_needsContract_17 : decode cX5_needsContract 17 = .ok (.iload_n 1, 1) := by decide +kernel
theorem dX5_needsContract_18 : decode cX5_needsContract 18 = .ok (.iaload, 1) := by decide +kernel
theorem dX5_needsContract_19 : decode cX5_needsContract 19 = .ok (.istore 4, 2) := by decide +kernel
theorem dX5_needsContract_21 : decode cX5_needsContract 21 = .ok (.iconst 1, 1) := by decide +kernel
theorem dX5_needsContract_22 : decode cX5_needsContract 22 = .ok (.aload_n 0, 1) := by decide +kernel
theorem dX5_needsContract_23 : decode cX5_needsContract 23 = .ok (.getfield 40, 3) := by decide +kernel
theorem dX5_needsContract_26 : decode cX5_needsContract 26 = .ok (.getfield 291, 3) := by decide +kernel
theorem dX5_needsContract_29 : decode cX5_needsContract 29 = .ok (.iload_n 1, 1) := by decide +kernel
theorem dX5_needsContract_30 : decode cX5_needsContract 30 = .ok (.iaload, 1) := by decide +kernel
theorem dX5_needsContract_31 : decode cX5_needsContract 31 = .ok (.ishl, 1) := by decide +kernel
theorem dX5_needsContract_32 : decode cX5_needsContract 32 = .ok (.istore 5, 2) := by decide +kernel
theorem dX5_needsContract_34 : decode cX5_needsContract 34 = .ok (.aload_n 0, 1) := by decide +kernel
theorem dX5_needsContract_35 : decode cX5_needsContract 35 = .ok (.getfield 40, 3) := by decide +kernel
theorem dX5_needsContract_38 : decode cX5_needsContract 38 = .ok (.getfield 272, 3) := by decide +kernel
theorem dX5_needsContract_41 : decode cX5_needsContract 41 = .ok (.iload_n 1, 1) := by decide +kernel
theorem dX5_needsContract_42 : decode cX5_needsContract 42 = .ok (.iaload, 1) := by decide +kernel
theorem dX5_needsContract_43 : decode cX5_needsContract 43 = .ok (.istore 6, 2) := by decide +kernel
theorem dX5_needsContract_45 : decode cX5_needsContract 45 = .ok (.aload_n 0, 1) := by decide +kernel
theorem dX5_needsContract_46 : decode cX5_needsContract 46 = .ok (.getfield 33, 3) := by decide +kernel
theorem dX5_needsContract_49 : decode cX5_needsContract 49 = .ok (.iload_n 2, 1) := by decide +kernel
theorem dX5_needsContract_50 : decode cX5_needsContract 50 = .ok (.iload_n 3, 1) := by decide +kernel
theorem dX5_needsContract_51 : decode cX5_needsContract 51 = .ok (.iload 4, 2) := by decide +kernel
theorem dX5_needsContract_53 : decode cX5_needsContract 53 = .ok (.iload 5, 2) := by decide +kernel
theorem dX5_needsContract_55 : decode cX5_needsContract 55 = .ok (.iload 6, 2) := by decide +kernel
theorem dX5_needsContract_57 : decode cX5_needsContract 57 = .ok (.invokevirtual 385, 3) := by decide +kernel
theorem dX5_needsContract_60 : decode cX5_needsContract 60 = .ok (.ifCond .ne 5, 3) := by decide +kernel
theorem dX5_needsContract_63 : decode cX5_needsContract 63 = .ok (.iconst 0, 1) := by decide +kernel
theorem dX5_needsContract_64 : decode cX5_needsContract 64 = .ok (.ireturn, 1) := by decide +kernel
theorem dX5_needsContract_65 : decode cX5_needsContract 65 = .ok (.aload_n 0, 1) := by decide +kernel
theorem dX5_needsContract_66 : decode cX5_needsContract 66 = .ok (.getfield 33, 3) := by decide +kernel
theorem dX5_needsContract_69 : decode cX5_needsContract 69 = .ok (.iload_n 3, 1) := by decide +kernel
theorem dX5_needsContract_70 : decode cX5_needsContract 70 = .ok (.iload 4, 2) := by decide +kernel
theorem dX5_needsContract_72 : decode cX5_needsContract 72 = .ok (.iload 5, 2) := by decide +kernel
theorem dX5_needsContract_74 : decode cX5_needsContract 74 = .ok (.iload 6, 2) := by decide +kernel
theorem dX5_needsContract_76 : decode cX5_needsContract 76 = .ok (.iload_n 2, 1) := by decide +kernel
theorem dX5_needsContract_77 : decode cX5_needsContract 77 = .ok (.invokevirtual 219, 3) := by decide +kernel
theorem dX5_needsContract_80 : decode cX5_needsContract 80 = .ok (.istore 7, 2) := by decide +kernel
theorem dX5_needsContract_82 : decode cX5_needsContract 82 = .ok (.aload_n 0, 1) := by decide +kernel
theorem dX5_needsContract_83 : decode cX5_needsContract 83 = .ok (.getfield 40, 3) := by decide +kernel
theorem dX5_needsContract_86 : decode cX5_needsContract 86 = .ok (.getfield 268, 3) := by decide +kernel
theorem dX5_needsContract_89 : decode cX5_needsContract 89 = .ok (.iload_n 1, 1) := by decide +kernel
theorem dX5_needsContract_90 : decode cX5_needsContract 90 = .ok (.iaload, 1) := by decide +kernel
theorem dX5_needsContract_91 : decode cX5_needsContract 91 = .ok (.aload_n 0, 1) := by decide +kernel
theorem dX5_needsContract_92 : decode cX5_needsContract 92 = .ok (.getfield 33, 3) := by decide +kernel
theorem dX5_needsContract_95 : decode cX5_needsContract 95 = .ok (.getfield 389, 3) := by decide +kernel
theorem dX5_needsContract_98 : decode cX5_needsContract 98 = .ok (.iload_n 2, 1) := by decide +kernel
theorem dX5_needsContract_99 : decode cX5_needsContract 99 = .ok (.iaload, 1) := by decide +kernel
theorem dX5_needsContract_100 : decode cX5_needsContract 100 = .ok (.iand, 1) := by decide +kernel
theorem dX5_needsContract_101 : decode cX5_needsContract 101 = .ok (.iload 7, 2) := by decide +kernel
theorem dX5_needsContract_103 : decode cX5_needsContract 103 = .ok (.iconst (-1), 1) := by decide +kernel
theorem dX5_needsContract_104 : decode cX5_needsContract 104 = .ok (.ixor, 1) := by decide +kernel
theorem dX5_needsContract_105 : decode cX5_needsContract 105 = .ok (.iand, 1) := by decide +kernel
theorem dX5_needsContract_106 : decode cX5_needsContract 106 = .ok (.ifCond .eq 7, 3) := by decide +kernel
theorem dX5_needsContract_109 : decode cX5_needsContract 109 = .ok (.iconst 1, 1) := by decide +kernel
theorem dX5_needsContract_110 : decode cX5_needsContract 110 = .ok (.goto 4, 3) := by decide +kernel
theorem dX5_needsContract_113 : decode cX5_needsContract 113 = .ok (.iconst 0, 1) := by decide +kernel
theorem dX5_needsContract_114 : decode cX5_needsContract 114 = .ok (.ireturn, 1) := by decide +kernel
set_option maxRecDepth 20000 in
theorem ggX5_needSet_X4_hasSet : GoodIn wsX5_needSet wsX4_hasSet := goodIn_r _ [8, 9, 17, 18, 19, 20, 21, 22] (by decide +kernel) (by decide +kernel)
set_option maxRecDepth 20000 in
theorem gX5_needSet_X4_hasSet : GoodIn wsX5_needSet (wsV RX5 390 RX4 yX4_hasSet wsX4_hasSet) := goodIn_app (goodIn_of _ (by decide +kernel)) ggX5_needSet_X4_hasSet
theorem dX5_needSet_0 : decode cX5_needSet 0 = .ok (.aload_n 0, 1) := by decide +kernel
theorem dX5_needSet_1 : decode cX5_needSet 1 = .ok (.getfield 12, 3) := by decide +kernel
theorem dX5_needSet_4 : decode cX5_needSet 4 = .ok (.iload_n 1, 1) := by decide +kernel
theorem dX5_needSet_5 : decode cX5_needSet 5 = .ok (.invokevirtual 390, 3) := by decide +kernel
theorem dX5_needSet_8 : decode cX5_needSet 8 = .ok (.ifCond .ne 14, 3) := by decide +kernel
theorem dX5_needSet_11 : decode cX5_needSet 11 = .ok (.new 256, 3) := by decide +kernel
theorem dX5_needSet_14 : decode cX5_needSet 14 = .ok (.dup, 1) := by decide +kernel
theorem dX5_needSet_15 : decode cX5_needSet 15 = .ok (.ldc_w 394, 3) := by decide +kernel
theorem dX5_needSet_18 : decode cX5_needSet 18 = .ok (.invokespecial 260, 3) := by decide +kernel
theorem dX5_needSet_21 : decode cX5_needSet 21 = .ok (.athrow, 1) := by decide +kernel
theorem dX5_needSet_22 : decode cX5_needSet 22 = .ok (.return_, 1) := by decide +kernel
set_option maxRecDepth 20000 in
theorem ggX5_needField_X5_needSet : GoodIn wsX5_needField wsX5_needSet := goodIn_ca (goodIn_r _ [8, 1, 2, 3, 9, 10, 11, 12, 13, 14, 15, 16, 17, 18, 19, 20, 21, 22, 23, 24, 25, 26, 27] (by decide +kernel) (by decide +kernel)) (goodIn_sub (fun _ h => List.mem_cons_of_mem _ (List.mem_append_right _ h)) (by decide +kernel))
set_option maxRecDepth 20000 in
theorem gX5_needField_X5_needSet : GoodIn wsX5_needField (wsV RX5 111 RX5 yX5_needSet wsX5_needSet) := goodIn_app (goodIn_of _ (by decide +kernel)) ggX5_needField_X5_needSet
theorem dX5_needField_0 : decode cX5_needField 0 = .ok (.aload_n 0, 1) := by decide +kernel
theorem dX5_needField_1 : decode cX5_needField 1 = .ok (.iload_n 1, 1) := by decide +kernel
theorem dX5_needField_2 : decode cX5_needField 2 = .ok (.invokevirtual 111, 3) := by decide +kernel
theorem dX5_needField_5 : decode cX5_needField 5 = .ok (.iload_n 2, 1) := by decide +kernel
theorem dX5_needField_6 : decode cX5_needField 6 = .ok (.ifCond .lt 16, 3) := by decide +kernel
theorem dX5_needField_9 : decode cX5_needField 9 = .ok (.iload_n 2, 1) := by decide +kernel
theorem dX5_needField_10 : decode cX5_needField 10 = .ok (.aload_n 0, 1) := by decide +kernel
theorem dX5_needField_11 : decode cX5_needField 11 = .ok (.getfield 12, 3) := by decide +kernel
theorem dX5_needField_14 : decode cX5_needField 14 = .ok (.getfield 165, 3) := by decide +kernel
theorem dX5_needField_17 : decode cX5_needField 17 = .ok (.iload_n 1, 1) := by decide +kernel
theorem dX5_needField_18 : decode cX5_needField 18 = .ok (.iaload, 1) := by decide +kernel
theorem dX5_needField_19 : decode cX5_needField 19 = .ok (.if_icmp .lt 14, 3) := by decide +kernel
theorem dX5_needField_22 : decode cX5_needField 22 = .ok (.new 256, 3) := by decide +kernel
theorem dX5_needField_25 : decode cX5_needField 25 = .ok (.dup, 1) := by decide +kernel
theorem dX5_needField_26 : decode cX5_needField 26 = .ok (.ldc_w 396, 3) := by decide +kernel
theorem dX5_needField_29 : decode cX5_needField 29 = .ok (.invokespecial 260, 3) := by decide +kernel
theorem dX5_needField_32 : decode cX5_needField 32 = .ok (.athrow, 1) := by decide +kernel
theorem dX5_needField_33 : decode cX5_needField 33 = .ok (.return_, 1) := by decide +kernel
set_option maxRecDepth 20000 in
theorem ggX5_needPlace_X5_needField : GoodIn wsX5_needPlace wsX5_needField := goodIn_ca (goodIn_r _ [8, 1, 2, 3, 9, 10, 11, 7, 12, 13, 14, 15, 16, 17, 18, 19, 20, 21, 22, 23, 24, 25, 26, 27, 28, 29, 30, 31] (by decide +kernel) (by decide +kernel)) (goodIn_sub (fun _ h => List.mem_cons_of_mem _ (List.mem_append_right _ h)) (by decide +kernel))
set_option maxRecDepth 20000 in
theorem gX5_needPlace_X5_needField : GoodIn wsX5_needPlace (wsV RX5 71 RX5 yX5_needField wsX5_needField) := goodIn_app (goodIn_of _ (by decide +kernel)) ggX5_needPlace_X5_needField
theorem dX5_needPlace_0 : decode cX5_needPlace 0 = .ok (.aload_n 0, 1) := by decide +kernel
theorem dX5_needPlace_1 : decode cX5_needPlace 1 = .ok (.iload_n 1, 1) := by decide +kernel
theorem dX5_needPlace_2 : decode cX5_needPlace 2 = .ok (.iload_n 3, 1) := by decide +kernel
theorem dX5_needPlace_3 : decode cX5_needPlace 3 = .ok (.invokevirtual 71, 3) := by decide +kernel
theorem dX5_needPlace_6 : decode cX5_needPlace 6 = .ok (.iload_n 2, 1) := by decide +kernel
theorem dX5_needPlace_7 : decode cX5_needPlace 7 = .ok (.ifCond .lt 16, 3) := by decide +kernel
theorem dX5_needPlace_10 : decode cX5_needPlace 10 = .ok (.iload_n 2, 1) := by decide +kernel
theorem dX5_needPlace_11 : decode cX5_needPlace 11 = .ok (.aload_n 0, 1) := by decide +kernel
theorem dX5_needPlace_12 : decode cX5_needPlace 12 = .ok (.getfield 12, 3) := by decide +kernel
theorem dX5_needPlace_15 : decode cX5_needPlace 15 = .ok (.getfield 117, 3) := by decide +kernel
theorem dX5_needPlace_18 : decode cX5_needPlace 18 = .ok (.iload_n 1, 1) := by decide +kernel
theorem dX5_needPlace_19 : decode cX5_needPlace 19 = .ok (.iaload, 1) := by decide +kernel
theorem dX5_needPlace_20 : decode cX5_needPlace 20 = .ok (.if_icmp .lt 14, 3) := by decide +kernel
theorem dX5_needPlace_23 : decode cX5_needPlace 23 = .ok (.new 256, 3) := by decide +kernel
theorem dX5_needPlace_26 : decode cX5_needPlace 26 = .ok (.dup, 1) := by decide +kernel
theorem dX5_needPlace_27 : decode cX5_needPlace 27 = .ok (.ldc_w 398, 3) := by decide +kernel
theorem dX5_needPlace_30 : decode cX5_needPlace 30 = .ok (.invokespecial 260, 3) := by decide +kernel
theorem dX5_needPlace_33 : decode cX5_needPlace 33 = .ok (.athrow, 1) := by decide +kernel
theorem dX5_needPlace_34 : decode cX5_needPlace 34 = .ok (.return_, 1) := by decide +kernel
set_option maxRecDepth 20000 in
theorem ggX5_needFields_X4_allFields : GoodIn wsX5_needFields wsX4_allFields := goodIn_r _ [8, 9, 17, 18, 19, 20, 21, 22] (by decide +kernel) (by decide +kernel)
set_option maxRecDepth 20000 in
theorem gX5_needFields_X4_allFields : GoodIn wsX5_needFields (wsV RX5 331 RX4 yX4_allFields wsX4_allFields) := goodIn_app (goodIn_of _ (by decide +kernel)) ggX5_needFields_X4_allFields
theorem dX5_needFields_0 : decode cX5_needFields 0 = .ok (.iload_n 2, 1) := by decide +kernel
theorem dX5_needFields_1 : decode cX5_needFields 1 = .ok (.iconst 1, 1) := by decide +kernel
theorem dX5_needFields_2 : decode cX5_needFields 2 = .ok (.if_icmp .lt 15, 3) := by decide +kernel
theorem dX5_needFields_5 : decode cX5_needFields 5 = .ok (.iload_n 2, 1) := by decide +kernel
theorem dX5_needFields_6 : decode cX5_needFields 6 = .ok (.aload_n 0, 1) := by decide +kernel
theorem dX5_needFields_7 : decode cX5_needFields 7 = .ok (.getfield 12, 3) := by decide +kernel
theorem dX5_needFields_10 : decode cX5_needFields 10 = .ok (.iload_n 1, 1) := by decide +kernel
theorem dX5_needFields_11 : decode cX5_needFields 11 = .ok (.invokevirtual 331, 3) := by decide +kernel
theorem dX5_needFields_14 : decode cX5_needFields 14 = .ok (.if_icmp .le 14, 3) := by decide +kernel
theorem dX5_needFields_17 : decode cX5_needFields 17 = .ok (.new 52, 3) := by decide +kernel
theorem dX5_needFields_20 : decode cX5_needFields 20 = .ok (.dup, 1) := by decide +kernel
theorem dX5_needFields_21 : decode cX5_needFields 21 = .ok (.ldc_w 400, 3) := by decide +kernel
theorem dX5_needFields_24 : decode cX5_needFields 24 = .ok (.invokespecial 56, 3) := by decide +kernel
theorem dX5_needFields_27 : decode cX5_needFields 27 = .ok (.athrow, 1) := by decide +kernel
theorem dX5_needFields_28 : decode cX5_needFields 28 = .ok (.return_, 1) := by decide +kernel
theorem dX5_needHarm_0 : decode cX5_needHarm 0 = .ok (.iload_n 0, 1) := by decide +kernel
theorem dX5_needHarm_1 : decode cX5_needHarm 1 = .ok (.iconst 1, 1) := by decide +kernel
theorem dX5_needHarm_2 : decode cX5_needHarm 2 = .ok (.if_icmp .lt 9, 3) := by decide +kernel
theorem dX5_needHarm_5 : decode cX5_needHarm 5 = .ok (.iload_n 0, 1) := by decide +kernel
theorem dX5_needHarm_6 : decode cX5_needHarm 6 = .ok (.bipush 100, 2) := by decide +kernel
theorem dX5_needHarm_8 : decode cX5_needHarm 8 = .ok (.if_icmp .le 14, 3) := by decide +kernel
theorem dX5_needHarm_11 : decode cX5_needHarm 11 = .ok (.new 52, 3) := by decide +kernel
theorem dX5_needHarm_14 : decode cX5_needHarm 14 = .ok (.dup, 1) := by decide +kernel
theorem dX5_needHarm_15 : decode cX5_needHarm 15 = .ok (.ldc_w 402, 3) := by decide +kernel
theorem dX5_needHarm_18 : decode cX5_needHarm 18 = .ok (.invokespecial 56, 3) := by decide +kernel
theorem dX5_needHarm_21 : decode cX5_needHarm 21 = .ok (.athrow, 1) := by decide +kernel
theorem dX5_needHarm_22 : decode cX5_needHarm 22 = .ok (.return_, 1) := by decide +kernel
theorem dX5_needReader_0 : decode cX5_needReader 0 = .ok (.iload_n 0, 1) := by decide +kernel
theorem dX5_needReader_1 : decode cX5_needReader 1 = .ok (.ifCond .lt 9, 3) := by decide +kernel
theorem dX5_needReader_4 : decode cX5_needReader 4 = .ok (.iload_n 0, 1) := by decide +kernel
theorem dX5_needReader_5 : decode cX5_needReader 5 = .ok (.bipush 6, 2) := by decide +kernel
theorem dX5_needReader_7 : decode cX5_needReader 7 = .ok (.if_icmp .lt 14, 3) := by decide +kernel
theorem dX5_needReader_10 : decode cX5_needReader 10 = .ok (.new 256, 3) := by decide +kernel
theorem dX5_needReader_13 : decode cX5_needReader 13 = .ok (.dup, 1) := by decide +kernel
theorem dX5_needReader_14 : decode cX5_needReader 14 = .ok (.ldc_w 404, 3) := by decide +kernel
theorem dX5_needReader_17 : decode cX5_needReader 17 = .ok (.invokespecial 260, 3) := by decide +kernel
theorem dX5_needReader_20 : decode cX5_needReader 20 = .ok (.athrow, 1) := by decide +kernel
theorem dX5_needReader_21 : decode cX5_needReader 21 = .ok (.return_, 1) := by decide +kernel
theorem dX5_needPurpose_0 : decode cX5_needPurpose 0 = .ok (.iload_n 0, 1) := by decide +kernel
theorem dX5_needPurpose_1 : decode cX5_needPurpose 1 = .ok (.ifCond .lt 8, 3) := by decide +kernel
theorem dX5_needPurpose_4 : decode cX5_needPurpose 4 = .ok (.iload_n 0, 1) := by decide +kernel
theorem dX5_needPurpose_5 : decode cX5_needPurpose 5 = .ok (.iconst 4, 1) := by decide +kernel
theorem dX5_needPurpose_6 : decode cX5_needPurpose 6 = .ok (.if_icmp .lt 14, 3) := by decide +kernel
theorem dX5_needPurpose_9 : decode cX5_needPurpose 9 = .ok (.new 256, 3) := by decide +kernel
theorem dX5_needPurpose_12 : decode cX5_needPurpose 12 = .ok (.dup, 1) := by decide +kernel
theorem dX5_needPurpose_13 : decode cX5_needPurpose 13 = .ok (.ldc_w 406, 3) := by decide +kernel
theorem dX5_needPurpose_16 : decode cX5_needPurpose 16 = .ok (.invokespecial 260, 3) := by decide +kernel
theorem dX5_needPurpose_19 : decode cX5_needPurpose 19 = .ok (.athrow, 1) := by decide +kernel
theorem dX5_needPurpose_20 : decode cX5_needPurpose 20 = .ok (.return_, 1) := by decide +kernel
theorem dX5_needContract_0 : decode cX5_needContract 0 = .ok (.iload_n 1, 1) := by decide +kernel
theorem dX5_needContract_1 : decode cX5_needContract 1 = .ok (.ifCond .lt 14, 3) := by decide +kernel
theorem dX5_needContract_4 : decode cX5_needContract 4 = .ok (.iload_n 1, 1) := by decide +kernel
theorem dX5_needContract_5 : decode cX5_needContract 5 = .ok (.aload_n 0, 1) := by decide +kernel
theorem dX5_needContract_6 : decode cX5_needContract 6 = .ok (.getfield 33, 3) := by decide +kernel
theorem dX5_needContract_9 : decode cX5_needContract 9 = .ok (.getfield 200, 3) := by decide +kernel
theorem dX5_needContract_12 : decode cX5_needContract 12 = .ok (.if_icmp .lt 14, 3) := by decide +kernel
theorem dX5_needContract_15 : decode cX5_needContract 15 = .ok (.new 256, 3) := by decide +kernel
theorem dX5_needContract_18 : decode cX5_needContract 18 = .ok (.dup, 1) := by decide +kernel
theorem dX5_needContract_19 : decode cX5_needContract 19 = .ok (.ldc_w 408, 3) := by decide +kernel
theorem dX5_needContract_22 : decode cX5_needContract 22 = .ok (.invokespecial 260, 3) := by decide +kernel
theorem dX5_needContract_25 : decode cX5_needContract 25 = .ok (.athrow, 1) := by decide +kernel
theorem dX5_needContract_26 : decode cX5_needContract 26 = .ok (.return_, 1) := by decide +kernel
theorem dJ9_max_7cf53_0 : decode cJ9_max_7cf53 0 = .ok (.iload_n 0, 1) := by decide +kernel
theorem dJ9_max_7cf53_1 : decode cJ9_max_7cf53 1 = .ok (.iload_n 1, 1) := by decide +kernel
theorem dJ9_max_7cf53_2 : decode cJ9_max_7cf53 2 = .ok (.if_icmp .lt 7, 3) := by decide +kernel
theorem dJ9_max_7cf53_5 : decode cJ9_max_7cf53 5 = .ok (.iload_n 0, 1) := by decide +kernel
theorem dJ9_max_7cf53_6 : decode cJ9_max_7cf53 6 = .ok (.goto 4, 3) := by decide +kernel
theorem dJ9_max_7cf53_9 : decode cJ9_max_7cf53 9 = .ok (.iload_n 1, 1) := by decide +kernel
theorem dJ9_max_7cf53_10 : decode cJ9_max_7cf53 10 = .ok (.ireturn, 1) := by decide +kernel
theorem dJ9_min_7cf53_0 : decode cJ9_min_7cf53 0 = .ok (.iload_n 0, 1) := by decide +kernel
theorem dJ9_min_7cf53_1 : decode cJ9_min_7cf53 1 = .ok (.iload_n 1, 1) := by decide +kernel
theorem dJ9_min_7cf53_2 : decode cJ9_min_7cf53 2 = .ok (.if_icmp .gt 7, 3) := by decide +kernel
theorem dJ9_min_7cf53_5 : decode cJ9_min_7cf53 5 = .ok (.iload_n 0, 1) := by decide +kernel
theorem dJ9_min_7cf53_6 : decode cJ9_min_7cf53 6 = .ok (.goto 4, 3) := by decide +kernel
theorem dJ9_min_7cf53_9 : decode cJ9_min_7cf53 9 = .ok (.iload_n 1, 1) := by decide +kernel
theorem dJ9_min_7cf53_10 : decode cJ9_min_7cf53 10 = .ok (.ireturn, 1) := by decide +kernel
