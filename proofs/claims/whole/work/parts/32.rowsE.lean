set_option maxRecDepth 20000 in
theorem ggX12_isNoContract_Jx4a65c_size_8abf5 : GoodIn wsX12_isNoContract wsJx4a65c_size_8abf5 := goodIn_r _ [6, 7, 27, 28, 29] (by decide +kernel) (by decide +kernel)
set_option maxRecDepth 20000 in
theorem gX12_isNoContract_Jx4a65c_size_8abf5 : GoodIn wsX12_isNoContract (wsV RX12 33 RJx4a65c yJx4a65c_size_8abf5 wsJx4a65c_size_8abf5) := goodIn_app (goodIn_of _ (by decide +kernel)) ggX12_isNoContract_Jx4a65c_size_8abf5
set_option maxRecDepth 20000 in
theorem ggX12_isNoContract_X12_isIn : GoodIn wsX12_isNoContract wsX12_isIn := goodIn_r _ [11] (by decide +kernel) (by decide +kernel)
set_option maxRecDepth 20000 in
theorem gX12_isNoContract_X12_isIn : GoodIn wsX12_isNoContract (va_wsS RX12 37 yX12_isIn wsX12_isIn) := goodIn_app (goodIn_of _ (by decide +kernel)) ggX12_isNoContract_X12_isIn
set_option maxRecDepth 20000 in
theorem ggX12_isNoContract_X12_start : GoodIn wsX12_isNoContract wsX12_start := goodIn_r _ [15, 16, 17, 18, 19, 10, 20, 21, 22, 23, 24, 25, 26] (by decide +kernel) (by decide +kernel)
set_option maxRecDepth 20000 in
theorem gX12_isNoContract_X12_start : GoodIn wsX12_isNoContract (wsV RX12 104 RX12 yX12_start wsX12_start) := goodIn_app (goodIn_of _ (by decide +kernel)) ggX12_isNoContract_X12_start
theorem dX12_isNoContract_0 : decode cX12_isNoContract 0 = .ok (.aload_n 0, 1) := by decide +kernel
theorem dX12_isNoContract_1 : decode cX12_isNoContract 1 = .ok (.iload_n 1, 1) := by decide +kernel
theorem dX12_isNoContract_2 : decode cX12_isNoContract 2 = .ok (.iconst 0, 1) := by decide +kernel
theorem dX12_isNoContract_3 : decode cX12_isNoContract 3 = .ok (.aload_n 0, 1) := by decide +kernel
theorem dX12_isNoContract_4 : decode cX12_isNoContract 4 = .ok (.getfield 19, 3) := by decide +kernel
theorem dX12_isNoContract_7 : decode cX12_isNoContract 7 = .ok (.invokevirtual 33, 3) := by decide +kernel
theorem dX12_isNoContract_10 : decode cX12_isNoContract 10 = .ok (.iconst 1, 1) := by decide +kernel
theorem dX12_isNoContract_11 : decode cX12_isNoContract 11 = .ok (.isub, 1) := by decide +kernel
theorem dX12_isNoContract_12 : decode cX12_isNoContract 12 = .ok (.invokestatic 37, 3) := by decide +kernel
theorem dX12_isNoContract_15 : decode cX12_isNoContract 15 = .ok (.ifCond .ne 7, 3) := by decide +kernel
theorem dX12_isNoContract_18 : decode cX12_isNoContract 18 = .ok (.iconst 1, 1) := by decide +kernel
theorem dX12_isNoContract_19 : decode cX12_isNoContract 19 = .ok (.goto 4, 3) := by decide +kernel
theorem dX12_isNoContract_22 : decode cX12_isNoContract 22 = .ok (.iconst 0, 1) := by decide +kernel
theorem dX12_isNoContract_23 : decode cX12_isNoContract 23 = .ok (.iconst 1, 1) := by decide +kernel
theorem dX12_isNoContract_24 : decode cX12_isNoContract 24 = .ok (.invokevirtual 104, 3) := by decide +kernel
theorem dX12_isNoContract_27 : decode cX12_isNoContract 27 = .ok (.ireturn, 1) := by decide +kernel
set_option maxRecDepth 20000 in
theorem ggX12_end_X12_isNoContract : GoodIn wsX12_end wsX12_isNoContract := goodIn_r _ [17, 1, 18, 19, 20, 21, 22, 23, 24, 25, 16, 26, 27, 28, 29, 30, 31, 32, 33, 34, 35, 53, 54, 55, 56, 57, 58, 65, 66, 67] (by decide +kernel) (by decide +kernel)
set_option maxRecDepth 20000 in
theorem gX12_end_X12_isNoContract : GoodIn wsX12_end (wsV RX12 201 RX12 yX12_isNoContract wsX12_isNoContract) := goodIn_app (goodIn_of _ (by decide +kernel)) ggX12_end_X12_isNoContract
set_option maxRecDepth 20000 in
theorem ggX12_end_Jx4a65c_get_915e3 : GoodIn wsX12_end wsJx4a65c_get_915e3 := goodIn_r _ [39, 23, 40, 41, 42, 43, 44, 45, 46, 47, 48, 49, 50, 21, 51, 52, 65, 66, 67] (by decide +kernel) (by decide +kernel)
set_option maxRecDepth 20000 in
theorem gX12_end_Jx4a65c_get_915e3 : GoodIn wsX12_end (wsV RX12 45 RJx4a65c yJx4a65c_get_915e3 wsJx4a65c_get_915e3) := goodIn_app (goodIn_of _ (by decide +kernel)) ggX12_end_Jx4a65c_get_915e3
theorem dX12_end_0 : decode cX12_end 0 = .ok (.aload_n 0, 1) := by decide +kernel
theorem dX12_end_1 : decode cX12_end 1 = .ok (.iload_n 1, 1) := by decide +kernel
theorem dX12_end_2 : decode cX12_end 2 = .ok (.invokevirtual 201, 3) := by decide +kernel
theorem dX12_end_5 : decode cX12_end 5 = .ok (.ifCond .eq 5, 3) := by decide +kernel
theorem dX12_end_8 : decode cX12_end 8 = .ok (.iconst 0, 1) := by decide +kernel
theorem dX12_end_9 : decode cX12_end 9 = .ok (.ireturn, 1) := by decide +kernel
theorem dX12_end_10 : decode cX12_end 10 = .ok (.aload_n 0, 1) := by decide +kernel
theorem dX12_end_11 : decode cX12_end 11 = .ok (.getfield 19, 3) := by decide +kernel
theorem dX12_end_14 : decode cX12_end 14 = .ok (.iload_n 1, 1) := by decide +kernel
theorem dX12_end_15 : decode cX12_end 15 = .ok (.invokevirtual 45, 3) := by decide +kernel
theorem dX12_end_18 : decode cX12_end 18 = .ok (.checkcast 196, 3) := by decide +kernel
theorem dX12_end_21 : decode cX12_end 21 = .ok (.astore_n 2, 1) := by decide +kernel
theorem dX12_end_22 : decode cX12_end 22 = .ok (.iconst 0, 1) := by decide +kernel
theorem dX12_end_23 : decode cX12_end 23 = .ok (.aload_n 2, 1) := by decide +kernel
theorem dX12_end_24 : decode cX12_end 24 = .ok (.getfield 204, 3) := by decide +kernel
theorem dX12_end_27 : decode cX12_end 27 = .ok (.aload_n 2, 1) := by decide +kernel
theorem dX12_end_28 : decode cX12_end 28 = .ok (.getfield 207, 3) := by decide +kernel
theorem dX12_end_31 : decode cX12_end 31 = .ok (.iconst 1, 1) := by decide +kernel
theorem dX12_end_32 : decode cX12_end 32 = .ok (.isub, 1) := by decide +kernel
theorem dX12_end_33 : decode cX12_end 33 = .ok (.aload_n 0, 1) := by decide +kernel
theorem dX12_end_34 : decode cX12_end 34 = .ok (.getfield 193, 3) := by decide +kernel
theorem dX12_end_37 : decode cX12_end 37 = .ok (.invokestatic 81, 3) := by decide +kernel
theorem dX12_end_40 : decode cX12_end 40 = .ok (.isub, 1) := by decide +kernel
theorem dX12_end_41 : decode cX12_end 41 = .ok (.invokestatic 81, 3) := by decide +kernel
theorem dX12_end_44 : decode cX12_end 44 = .ok (.istore_n 3, 1) := by decide +kernel
theorem dX12_end_45 : decode cX12_end 45 = .ok (.aload_n 2, 1) := by decide +kernel
theorem dX12_end_46 : decode cX12_end 46 = .ok (.aload_n 2, 1) := by decide +kernel
theorem dX12_end_47 : decode cX12_end 47 = .ok (.getfield 204, 3) := by decide +kernel
theorem dX12_end_50 : decode cX12_end 50 = .ok (.aload_n 0, 1) := by decide +kernel
theorem dX12_end_51 : decode cX12_end 51 = .ok (.getfield 193, 3) := by decide +kernel
theorem dX12_end_54 : decode cX12_end 54 = .ok (.invokestatic 208, 3) := by decide +kernel
theorem dX12_end_57 : decode cX12_end 57 = .ok (.putfield 204, 3) := by decide +kernel
theorem dX12_end_60 : decode cX12_end 60 = .ok (.iload_n 3, 1) := by decide +kernel
theorem dX12_end_61 : decode cX12_end 61 = .ok (.ireturn, 1) := by decide +kernel
set_option maxRecDepth 20000 in
theorem ggX12_coveredNow_Jx4a65c_size_8abf5 : GoodIn wsX12_coveredNow wsJx4a65c_size_8abf5 := goodIn_r _ [7, 8, 47, 48, 49] (by decide +kernel) (by decide +kernel)
set_option maxRecDepth 20000 in
theorem gX12_coveredNow_Jx4a65c_size_8abf5 : GoodIn wsX12_coveredNow (wsV RX12 33 RJx4a65c yJx4a65c_size_8abf5 wsJx4a65c_size_8abf5) := goodIn_app (goodIn_of _ (by decide +kernel)) ggX12_coveredNow_Jx4a65c_size_8abf5
set_option maxRecDepth 20000 in
theorem ggX12_coveredNow_Jx4a65c_get_915e3 : GoodIn wsX12_coveredNow wsJx4a65c_get_915e3 := goodIn_r _ [12, 8, 13, 14, 15, 16, 17, 18, 19, 20, 21, 22, 23, 6, 24, 25, 47, 48, 49] (by decide +kernel) (by decide +kernel)
set_option maxRecDepth 20000 in
theorem gX12_coveredNow_Jx4a65c_get_915e3 : GoodIn wsX12_coveredNow (wsV RX12 45 RJx4a65c yJx4a65c_get_915e3 wsJx4a65c_get_915e3) := goodIn_app (goodIn_of _ (by decide +kernel)) ggX12_coveredNow_Jx4a65c_get_915e3
set_option maxRecDepth 20000 in
theorem ggX12_coveredNow_X6_covers : GoodIn wsX12_coveredNow wsX6_covers := goodIn_r _ [30, 31, 32, 33, 34, 35, 36, 37, 29, 38, 39, 40, 50, 51, 52, 53, 54, 55] (by decide +kernel) (by decide +kernel)
set_option maxRecDepth 20000 in
theorem gX12_coveredNow_X6_covers : GoodIn wsX12_coveredNow (wsV RX12 211 RX6 yX6_covers wsX6_covers) := goodIn_app (goodIn_of _ (by decide +kernel)) ggX12_coveredNow_X6_covers
theorem dX12_coveredNow_0 : decode cX12_coveredNow 0 = .ok (.iconst 0, 1) := by decide +kernel
theorem dX12_coveredNow_1 : decode cX12_coveredNow 1 = .ok (.istore 5, 2) := by decide +kernel
theorem dX12_coveredNow_3 : decode cX12_coveredNow 3 = .ok (.iconst 0, 1) := by decide +kernel
theorem dX12_coveredNow_4 : decode cX12_coveredNow 4 = .ok (.istore 6, 2) := by decide +kernel
theorem dX12_coveredNow_6 : decode cX12_coveredNow 6 = .ok (.iload 6, 2) := by decide +kernel
theorem dX12_coveredNow_8 : decode cX12_coveredNow 8 = .ok (.aload_n 0, 1) := by decide +kernel
theorem dX12_coveredNow_9 : decode cX12_coveredNow 9 = .ok (.getfield 19, 3) := by decide +kernel
theorem dX12_coveredNow_12 : decode cX12_coveredNow 12 = .ok (.invokevirtual 33, 3) := by decide +kernel
theorem dX12_coveredNow_15 : decode cX12_coveredNow 15 = .ok (.if_icmp .ge 34, 3) := by decide +kernel
theorem dX12_coveredNow_18 : decode cX12_coveredNow 18 = .ok (.iload 5, 2) := by decide +kernel
theorem dX12_coveredNow_20 : decode cX12_coveredNow 20 = .ok (.aload_n 0, 1) := by decide +kernel
theorem dX12_coveredNow_21 : decode cX12_coveredNow 21 = .ok (.getfield 19, 3) := by decide +kernel
theorem dX12_coveredNow_24 : decode cX12_coveredNow 24 = .ok (.iload 6, 2) := by decide +kernel
theorem dX12_coveredNow_26 : decode cX12_coveredNow 26 = .ok (.invokevirtual 45, 3) := by decide +kernel
theorem dX12_coveredNow_29 : decode cX12_coveredNow 29 = .ok (.checkcast 196, 3) := by decide +kernel
theorem dX12_coveredNow_32 : decode cX12_coveredNow 32 = .ok (.iload_n 1, 1) := by decide +kernel
theorem dX12_coveredNow_33 : decode cX12_coveredNow 33 = .ok (.iload_n 2, 1) := by decide +kernel
theorem dX12_coveredNow_34 : decode cX12_coveredNow 34 = .ok (.iload_n 3, 1) := by decide +kernel
theorem dX12_coveredNow_35 : decode cX12_coveredNow 35 = .ok (.iload 4, 2) := by decide +kernel
theorem dX12_coveredNow_37 : decode cX12_coveredNow 37 = .ok (.invokevirtual 211, 3) := by decide +kernel
theorem dX12_coveredNow_40 : decode cX12_coveredNow 40 = .ok (.ior, 1) := by decide +kernel
theorem dX12_coveredNow_41 : decode cX12_coveredNow 41 = .ok (.istore 5, 2) := by decide +kernel
theorem dX12_coveredNow_43 : decode cX12_coveredNow 43 = .ok (.iinc 6 1, 3) := by decide +kernel
theorem dX12_coveredNow_46 : decode cX12_coveredNow 46 = .ok (.goto (-40), 3) := by decide +kernel
theorem dX12_coveredNow_49 : decode cX12_coveredNow 49 = .ok (.iload 5, 2) := by decide +kernel
theorem dX12_coveredNow_51 : decode cX12_coveredNow 51 = .ok (.ireturn, 1) := by decide +kernel
set_option maxRecDepth 20000 in
theorem ggX12_covered_X12_isNoReader : GoodIn wsX12_covered wsX12_isNoReader := goodIn_r _ [4, 5, 6, 3, 7] (by decide +kernel) (by decide +kernel)
set_option maxRecDepth 20000 in
theorem gX12_covered_X12_isNoReader : GoodIn wsX12_covered (va_wsS RX12 187 yX12_isNoReader wsX12_isNoReader) := goodIn_app (goodIn_of _ (by decide +kernel)) ggX12_covered_X12_isNoReader
set_option maxRecDepth 20000 in
theorem ggX12_covered_X12_isNo : GoodIn wsX12_covered wsX12_isNo := goodIn_r _ [11, 12, 13, 14, 15, 16, 17, 18, 5, 6, 3, 7, 66, 67, 68, 69, 70, 71, 72, 73, 74] (by decide +kernel) (by decide +kernel)
set_option maxRecDepth 20000 in
theorem gX12_covered_X12_isNo : GoodIn wsX12_covered (wsV RX12 41 RX12 yX12_isNo wsX12_isNo) := goodIn_app (goodIn_of _ (by decide +kernel)) ggX12_covered_X12_isNo
set_option maxRecDepth 20000 in
theorem ggX12_covered_X12_isIn : GoodIn wsX12_covered wsX12_isIn := goodIn_r _ [7] (by decide +kernel) (by decide +kernel)
set_option maxRecDepth 20000 in
theorem gX12_covered_X12_isIn : GoodIn wsX12_covered (va_wsS RX12 37 yX12_isIn wsX12_isIn) := goodIn_app (goodIn_of _ (by decide +kernel)) ggX12_covered_X12_isIn
set_option maxRecDepth 20000 in
theorem ggX12_covered_X12_start : GoodIn wsX12_covered wsX12_start := goodIn_r _ [22, 23, 24, 25, 26, 3, 27, 66, 67, 68, 69, 70, 71] (by decide +kernel) (by decide +kernel)
set_option maxRecDepth 20000 in
theorem gX12_covered_X12_start : GoodIn wsX12_covered (wsV RX12 104 RX12 yX12_start wsX12_start) := goodIn_app (goodIn_of _ (by decide +kernel)) ggX12_covered_X12_start
set_option maxRecDepth 20000 in
theorem ggX12_covered_X12_refuse : GoodIn wsX12_covered wsX12_refuse := goodIn_r _ [27, 23, 66, 67, 68, 69, 70, 71] (by decide +kernel) (by decide +kernel)
set_option maxRecDepth 20000 in
theorem gX12_covered_X12_refuse : GoodIn wsX12_covered (wsV RX12 29 RX12 yX12_refuse wsX12_refuse) := goodIn_app (goodIn_of _ (by decide +kernel)) ggX12_covered_X12_refuse
set_option maxRecDepth 20000 in
theorem ggX12_covered_X12_coveredNow : GoodIn wsX12_covered wsX12_coveredNow := goodIn_r _ [31, 32, 33, 13, 14, 15, 16, 17, 18, 34, 35, 36, 37, 38, 39, 40, 41, 42, 43, 44, 45, 46, 47, 48, 49, 50, 51, 52, 53, 54, 55, 56, 57, 58, 59, 60, 61, 62, 63, 64, 65, 66, 67, 68, 69, 70, 71, 72, 73, 74, 75, 76, 77, 78, 79, 80] (by decide +kernel) (by decide +kernel)
set_option maxRecDepth 20000 in
theorem gX12_covered_X12_coveredNow : GoodIn wsX12_covered (wsV RX12 214 RX12 yX12_coveredNow wsX12_coveredNow) := goodIn_app (goodIn_of _ (by decide +kernel)) ggX12_covered_X12_coveredNow
theorem dX12_covered_0 : decode cX12_covered 0 = .ok (.aload_n 0, 1) := by decide +kernel
theorem dX12_covered_1 : decode cX12_covered 1 = .ok (.iload_n 1, 1) := by decide +kernel
theorem dX12_covered_2 : decode cX12_covered 2 = .ok (.invokestatic 187, 3) := by decide +kernel
theorem dX12_covered_5 : decode cX12_covered 5 = .ok (.ifCond .ne 20, 3) := by decide +kernel
theorem dX12_covered_8 : decode cX12_covered 8 = .ok (.aload_n 0, 1) := by decide +kernel
theorem dX12_covered_9 : decode cX12_covered 9 = .ok (.iload_n 2, 1) := by decide +kernel
theorem dX12_covered_10 : decode cX12_covered 10 = .ok (.invokevirtual 41, 3) := by decide +kernel
theorem dX12_covered_13 : decode cX12_covered 13 = .ok (.ifCond .ne 12, 3) := by decide +kernel
theorem dX12_covered_16 : decode cX12_covered 16 = .ok (.iload_n 3, 1) := by decide +kernel
theorem dX12_covered_17 : decode cX12_covered 17 = .ok (.iconst 0, 1) := by decide +kernel
theorem dX12_covered_18 : decode cX12_covered 18 = .ok (.iconst 3, 1) := by decide +kernel
theorem dX12_covered_19 : decode cX12_covered 19 = .ok (.invokestatic 37, 3) := by decide +kernel
theorem dX12_covered_22 : decode cX12_covered 22 = .ok (.ifCond .ne 7, 3) := by decide +kernel
theorem dX12_covered_25 : decode cX12_covered 25 = .ok (.iconst 1, 1) := by decide +kernel
theorem dX12_covered_26 : decode cX12_covered 26 = .ok (.goto 4, 3) := by decide +kernel
theorem dX12_covered_29 : decode cX12_covered 29 = .ok (.iconst 0, 1) := by decide +kernel
theorem dX12_covered_30 : decode cX12_covered 30 = .ok (.iconst 1, 1) := by decide +kernel
theorem dX12_covered_31 : decode cX12_covered 31 = .ok (.invokevirtual 104, 3) := by decide +kernel
theorem dX12_covered_34 : decode cX12_covered 34 = .ok (.ifCond .ne 28, 3) := by decide +kernel
theorem dX12_covered_37 : decode cX12_covered 37 = .ok (.aload_n 0, 1) := by decide +kernel
theorem dX12_covered_38 : decode cX12_covered 38 = .ok (.iload 4, 2) := by decide +kernel
theorem dX12_covered_40 : decode cX12_covered 40 = .ok (.iconst 0, 1) := by decide +kernel
theorem dX12_covered_41 : decode cX12_covered 41 = .ok (.sipush 359, 3) := by decide +kernel
theorem dX12_covered_44 : decode cX12_covered 44 = .ok (.invokestatic 37, 3) := by decide +kernel
theorem dX12_covered_47 : decode cX12_covered 47 = .ok (.ifCond .ne 7, 3) := by decide +kernel
theorem dX12_covered_50 : decode cX12_covered 50 = .ok (.iconst 1, 1) := by decide +kernel
theorem dX12_covered_51 : decode cX12_covered 51 = .ok (.goto 4, 3) := by decide +kernel
theorem dX12_covered_54 : decode cX12_covered 54 = .ok (.iconst 0, 1) := by decide +kernel
theorem dX12_covered_55 : decode cX12_covered 55 = .ok (.iconst 2, 1) := by decide +kernel
theorem dX12_covered_56 : decode cX12_covered 56 = .ok (.invokevirtual 29, 3) := by decide +kernel
theorem dX12_covered_59 : decode cX12_covered 59 = .ok (.ifCond .eq 7, 3) := by decide +kernel
theorem dX12_covered_62 : decode cX12_covered 62 = .ok (.iconst 0, 1) := by decide +kernel
theorem dX12_covered_63 : decode cX12_covered 63 = .ok (.goto 12, 3) := by decide +kernel
theorem dX12_covered_66 : decode cX12_covered 66 = .ok (.aload_n 0, 1) := by decide +kernel
theorem dX12_covered_67 : decode cX12_covered 67 = .ok (.iload_n 1, 1) := by decide +kernel
theorem dX12_covered_68 : decode cX12_covered 68 = .ok (.iload_n 2, 1) := by decide +kernel
theorem dX12_covered_69 : decode cX12_covered 69 = .ok (.iload_n 3, 1) := by decide +kernel
theorem dX12_covered_70 : decode cX12_covered 70 = .ok (.iload 4, 2) := by decide +kernel
theorem dX12_covered_72 : decode cX12_covered 72 = .ok (.invokevirtual 214, 3) := by decide +kernel
theorem dX12_covered_75 : decode cX12_covered 75 = .ok (.ireturn, 1) := by decide +kernel
set_option maxRecDepth 20000 in
theorem ggX12_unitsNow_Jx4a65c_size_8abf5 : GoodIn wsX12_unitsNow wsJx4a65c_size_8abf5 := goodIn_r _ [10, 11, 59, 60, 61] (by decide +kernel) (by decide +kernel)
set_option maxRecDepth 20000 in
theorem gX12_unitsNow_Jx4a65c_size_8abf5 : GoodIn wsX12_unitsNow (wsV RX12 33 RJx4a65c yJx4a65c_size_8abf5 wsJx4a65c_size_8abf5) := goodIn_app (goodIn_of _ (by decide +kernel)) ggX12_unitsNow_Jx4a65c_size_8abf5
set_option maxRecDepth 20000 in
theorem ggX12_unitsNow_Jx4a65c_get_915e3 : GoodIn wsX12_unitsNow wsJx4a65c_get_915e3 := goodIn_r _ [15, 11, 16, 17, 18, 19, 20, 21, 22, 23, 24, 25, 26, 9, 27, 28, 59, 60, 61] (by decide +kernel) (by decide +kernel)
set_option maxRecDepth 20000 in
theorem gX12_unitsNow_Jx4a65c_get_915e3 : GoodIn wsX12_unitsNow (wsV RX12 45 RJx4a65c yJx4a65c_get_915e3 wsJx4a65c_get_915e3) := goodIn_app (goodIn_of _ (by decide +kernel)) ggX12_unitsNow_Jx4a65c_get_915e3
set_option maxRecDepth 20000 in
theorem ggX12_unitsNow_X9_units : GoodIn wsX12_unitsNow wsX9_units := goodIn_r _ [33, 34, 35, 36, 37, 38, 39, 40, 41, 42, 49, 50, 51, 52, 53, 54, 55, 56, 57, 58] (by decide +kernel) (by decide +kernel)
set_option maxRecDepth 20000 in
theorem gX12_unitsNow_X9_units : GoodIn wsX12_unitsNow (wsV RX12 223 RX9 yX9_units wsX9_units) := goodIn_app (goodIn_of _ (by decide +kernel)) ggX12_unitsNow_X9_units
theorem dX12_unitsNow_0 : decode cX12_unitsNow 0 = .ok (.iconst 0, 1) := by decide +kernel
theorem dX12_unitsNow_1 : decode cX12_unitsNow 1 = .ok (.istore_n 2, 1) := by decide +kernel
theorem dX12_unitsNow_2 : decode cX12_unitsNow 2 = .ok (.iconst 0, 1) := by decide +kernel
theorem dX12_unitsNow_3 : decode cX12_unitsNow 3 = .ok (.istore_n 3, 1) := by decide +kernel
theorem dX12_unitsNow_4 : decode cX12_unitsNow 4 = .ok (.iload_n 3, 1) := by decide +kernel
theorem dX12_unitsNow_5 : decode cX12_unitsNow 5 = .ok (.aload_n 0, 1) := by decide +kernel
theorem dX12_unitsNow_6 : decode cX12_unitsNow 6 = .ok (.getfield 22, 3) := by decide +kernel
theorem dX12_unitsNow_9 : decode cX12_unitsNow 9 = .ok (.invokevirtual 33, 3) := by decide +kernel
theorem dX12_unitsNow_12 : decode cX12_unitsNow 12 = .ok (.if_icmp .ge 75, 3) := by decide +kernel
theorem dX12_unitsNow_15 : decode cX12_unitsNow 15 = .ok (.iload_n 2, 1) := by decide +kernel
theorem dX12_unitsNow_16 : decode cX12_unitsNow 16 = .ok (.aload_n 0, 1) := by decide +kernel
theorem dX12_unitsNow_17 : decode cX12_unitsNow 17 = .ok (.getfield 22, 3) := by decide +kernel
theorem dX12_unitsNow_20 : decode cX12_unitsNow 20 = .ok (.iload_n 3, 1) := by decide +kernel
theorem dX12_unitsNow_21 : decode cX12_unitsNow 21 = .ok (.invokevirtual 45, 3) := by decide +kernel
theorem dX12_unitsNow_24 : decode cX12_unitsNow 24 = .ok (.checkcast 152, 3) := by decide +kernel
theorem dX12_unitsNow_27 : decode cX12_unitsNow 27 = .ok (.getfield 217, 3) := by decide +kernel
theorem dX12_unitsNow_30 : decode cX12_unitsNow 30 = .ok (.iload_n 1, 1) := by decide +kernel
theorem dX12_unitsNow_31 : decode cX12_unitsNow 31 = .ok (.if_icmp .ne 47, 3) := by decide +kernel
theorem dX12_unitsNow_34 : decode cX12_unitsNow 34 = .ok (.aload_n 0, 1) := by decide +kernel
theorem dX12_unitsNow_35 : decode cX12_unitsNow 35 = .ok (.getfield 22, 3) := by decide +kernel
theorem dX12_unitsNow_38 : decode cX12_unitsNow 38 = .ok (.iload_n 3, 1) := by decide +kernel
theorem dX12_unitsNow_39 : decode cX12_unitsNow 39 = .ok (.invokevirtual 45, 3) := by decide +kernel
theorem dX12_unitsNow_42 : decode cX12_unitsNow 42 = .ok (.checkcast 152, 3) := by decide +kernel
theorem dX12_unitsNow_45 : decode cX12_unitsNow 45 = .ok (.getfield 220, 3) := by decide +kernel
theorem dX12_unitsNow_48 : decode cX12_unitsNow 48 = .ok (.bipush 30, 2) := by decide +kernel
theorem dX12_unitsNow_50 : decode cX12_unitsNow 50 = .ok (.idiv, 1) := by decide +kernel
theorem dX12_unitsNow_51 : decode cX12_unitsNow 51 = .ok (.aload_n 0, 1) := by decide +kernel
theorem dX12_unitsNow_52 : decode cX12_unitsNow 52 = .ok (.getfield 193, 3) := by decide +kernel
theorem dX12_unitsNow_55 : decode cX12_unitsNow 55 = .ok (.bipush 30, 2) := by decide +kernel
theorem dX12_unitsNow_57 : decode cX12_unitsNow 57 = .ok (.idiv, 1) := by decide +kernel
theorem dX12_unitsNow_58 : decode cX12_unitsNow 58 = .ok (.if_icmp .ne 20, 3) := by decide +kernel
theorem dX12_unitsNow_61 : decode cX12_unitsNow 61 = .ok (.aload_n 0, 1) := by decide +kernel
theorem dX12_unitsNow_62 : decode cX12_unitsNow 62 = .ok (.getfield 22, 3) := by decide +kernel
theorem dX12_unitsNow_65 : decode cX12_unitsNow 65 = .ok (.iload_n 3, 1) := by decide +kernel
theorem dX12_unitsNow_66 : decode cX12_unitsNow 66 = .ok (.invokevirtual 45, 3) := by decide +kernel
theorem dX12_unitsNow_69 : decode cX12_unitsNow 69 = .ok (.checkcast 152, 3) := by decide +kernel
theorem dX12_unitsNow_72 : decode cX12_unitsNow 72 = .ok (.invokevirtual 223, 3) := by decide +kernel
theorem dX12_unitsNow_75 : decode cX12_unitsNow 75 = .ok (.goto 4, 3) := by decide +kernel
theorem dX12_unitsNow_78 : decode cX12_unitsNow 78 = .ok (.iconst 0, 1) := by decide +kernel
theorem dX12_unitsNow_79 : decode cX12_unitsNow 79 = .ok (.iadd, 1) := by decide +kernel
theorem dX12_unitsNow_80 : decode cX12_unitsNow 80 = .ok (.istore_n 2, 1) := by decide +kernel
theorem dX12_unitsNow_81 : decode cX12_unitsNow 81 = .ok (.iinc 3 1, 3) := by decide +kernel
theorem dX12_unitsNow_84 : decode cX12_unitsNow 84 = .ok (.goto (-80), 3) := by decide +kernel
theorem dX12_unitsNow_87 : decode cX12_unitsNow 87 = .ok (.iload_n 2, 1) := by decide +kernel
theorem dX12_unitsNow_88 : decode cX12_unitsNow 88 = .ok (.ireturn, 1) := by decide +kernel
set_option maxRecDepth 20000 in
theorem ggX12_tier_X12_unitsNow : GoodIn wsX12_tier wsX12_unitsNow := goodIn_r _ [5, 6, 7, 8, 9, 10, 11, 12, 13, 14, 15, 16, 17, 18, 19, 20, 21, 22, 23, 24, 25, 26, 27, 28, 29, 30, 31, 32, 33, 34, 35, 36, 37, 38, 39, 40, 41, 42, 43, 44, 45, 46, 47, 48, 49, 50, 51, 52, 53, 54, 55, 56, 57, 58, 59, 60, 61, 62, 63, 64, 65, 66] (by decide +kernel) (by decide +kernel)
set_option maxRecDepth 20000 in
theorem gX12_tier_X12_unitsNow : GoodIn wsX12_tier (wsV RX12 226 RX12 yX12_unitsNow wsX12_unitsNow) := goodIn_app (goodIn_of _ (by decide +kernel)) ggX12_tier_X12_unitsNow
theorem dX12_tier_0 : decode cX12_tier 0 = .ok (.aload_n 0, 1) := by decide +kernel
theorem dX12_tier_1 : decode cX12_tier 1 = .ok (.iload_n 1, 1) := by decide +kernel
theorem dX12_tier_2 : decode cX12_tier 2 = .ok (.invokevirtual 226, 3) := by decide +kernel
theorem dX12_tier_5 : decode cX12_tier 5 = .ok (.istore_n 2, 1) := by decide +kernel
theorem dX12_tier_6 : decode cX12_tier 6 = .ok (.iload_n 2, 1) := by decide +kernel
theorem dX12_tier_7 : decode cX12_tier 7 = .ok (.sipush 20000, 3) := by decide +kernel
theorem dX12_tier_10 : decode cX12_tier 10 = .ok (.if_icmp .lt 7, 3) := by decide +kernel
theorem dX12_tier_13 : decode cX12_tier 13 = .ok (.iconst 2, 1) := by decide +kernel
theorem dX12_tier_14 : decode cX12_tier 14 = .ok (.goto 15, 3) := by decide +kernel
theorem dX12_tier_17 : decode cX12_tier 17 = .ok (.iload_n 2, 1) := by decide +kernel
theorem dX12_tier_18 : decode cX12_tier 18 = .ok (.sipush 5000, 3) := by decide +kernel
theorem dX12_tier_21 : decode cX12_tier 21 = .ok (.if_icmp .lt 7, 3) := by decide +kernel
theorem dX12_tier_24 : decode cX12_tier 24 = .ok (.iconst 3, 1) := by decide +kernel
theorem dX12_tier_25 : decode cX12_tier 25 = .ok (.goto 4, 3) := by decide +kernel
theorem dX12_tier_28 : decode cX12_tier 28 = .ok (.iconst 4, 1) := by decide +kernel
theorem dX12_tier_29 : decode cX12_tier 29 = .ok (.ireturn, 1) := by decide +kernel
set_option maxRecDepth 20000 in
theorem ggX12_made_Jx4a65c_get_915e3 : GoodIn wsX12_made wsJx4a65c_get_915e3 := goodIn_r _ [14, 15, 16, 17, 18, 19, 20, 21, 22, 23, 24, 25, 26, 13, 27, 28, 101, 102, 103] (by decide +kernel) (by decide +kernel)
set_option maxRecDepth 20000 in
theorem gX12_made_Jx4a65c_get_915e3 : GoodIn wsX12_made (wsV RX12 45 RJx4a65c yJx4a65c_get_915e3 wsJx4a65c_get_915e3) := goodIn_app (goodIn_of _ (by decide +kernel)) ggX12_made_Jx4a65c_get_915e3
set_option maxRecDepth 20000 in
theorem ggX12_made_X7_latest : GoodIn wsX12_made wsX7_latest := goodIn_r _ [33, 34, 35, 36, 37, 13, 38, 15, 96, 97, 98, 99, 100, 101, 102, 103] (by decide +kernel) (by decide +kernel)
set_option maxRecDepth 20000 in
theorem gX12_made_X7_latest : GoodIn wsX12_made (wsV RX12 54 RX7 yX7_latest wsX7_latest) := goodIn_app (goodIn_of _ (by decide +kernel)) ggX12_made_X7_latest
set_option maxRecDepth 20000 in
theorem ggX12_made_X12_tier : GoodIn wsX12_made wsX12_tier := goodIn_r _ [43, 44, 45, 46, 42, 47, 48, 49, 50, 51, 6, 52, 36, 37, 13, 38, 15, 10, 11, 12, 14, 16, 17, 18, 19, 20, 21, 22, 23, 24, 25, 26, 27, 28, 53, 54, 55, 3, 56, 57, 58, 59, 60, 61, 62, 63, 64, 65, 90, 91, 92, 93, 94, 95, 80, 81, 82, 83, 84, 85, 86, 87, 88, 89, 101, 102, 103] (by decide +kernel) (by decide +kernel)
set_option maxRecDepth 20000 in
theorem gX12_made_X12_tier : GoodIn wsX12_made (wsV RX12 230 RX12 yX12_tier wsX12_tier) := goodIn_app (goodIn_of _ (by decide +kernel)) ggX12_made_X12_tier
set_option maxRecDepth 20000 in
theorem ggX12_made_X9_init : GoodIn wsX12_made wsX9_init := goodIn_r _ [68, 69, 70, 71, 72, 73, 74, 75, 76, 58, 57, 77, 78, 79, 80, 81, 82, 83, 84, 85, 86, 87, 88, 89] (by decide +kernel) (by decide +kernel)
set_option maxRecDepth 20000 in
theorem gX12_made_X9_init : GoodIn wsX12_made (wsX9_init) := ggX12_made_X9_init
theorem dX12_made_0 : decode cX12_made 0 = .ok (.new 152, 3) := by decide +kernel
theorem dX12_made_3 : decode cX12_made 3 = .ok (.dup, 1) := by decide +kernel
theorem dX12_made_4 : decode cX12_made 4 = .ok (.iload_n 1, 1) := by decide +kernel
theorem dX12_made_5 : decode cX12_made 5 = .ok (.iload_n 2, 1) := by decide +kernel
theorem dX12_made_6 : decode cX12_made 6 = .ok (.aload_n 0, 1) := by decide +kernel
theorem dX12_made_7 : decode cX12_made 7 = .ok (.getfield 10, 3) := by decide +kernel
theorem dX12_made_10 : decode cX12_made 10 = .ok (.iload_n 2, 1) := by decide +kernel
theorem dX12_made_11 : decode cX12_made 11 = .ok (.invokevirtual 45, 3) := by decide +kernel
theorem dX12_made_14 : decode cX12_made 14 = .ok (.checkcast 49, 3) := by decide +kernel
theorem dX12_made_17 : decode cX12_made 17 = .ok (.invokevirtual 54, 3) := by decide +kernel
theorem dX12_made_20 : decode cX12_made 20 = .ok (.iload_n 3, 1) := by decide +kernel
theorem dX12_made_21 : decode cX12_made 21 = .ok (.iload 4, 2) := by decide +kernel
theorem dX12_made_23 : decode cX12_made 23 = .ok (.aload_n 0, 1) := by decide +kernel
theorem dX12_made_24 : decode cX12_made 24 = .ok (.getfield 193, 3) := by decide +kernel
theorem dX12_made_27 : decode cX12_made 27 = .ok (.iload 5, 2) := by decide +kernel
theorem dX12_made_29 : decode cX12_made 29 = .ok (.aload_n 0, 1) := by decide +kernel
theorem dX12_made_30 : decode cX12_made 30 = .ok (.iload_n 1, 1) := by decide +kernel
theorem dX12_made_31 : decode cX12_made 31 = .ok (.invokevirtual 230, 3) := by decide +kernel
theorem dX12_made_34 : decode cX12_made 34 = .ok (.invokespecial 233, 3) := by decide +kernel
theorem dX12_made_37 : decode cX12_made 37 = .ok (.astore 6, 2) := by decide +kernel
theorem dX12_made_39 : decode cX12_made 39 = .ok (.iconst 0, 1) := by decide +kernel
theorem dX12_made_40 : decode cX12_made 40 = .ok (.istore 7, 2) := by decide +kernel
theorem dX12_made_42 : decode cX12_made 42 = .ok (.iload 7, 2) := by decide +kernel
theorem dX12_made_44 : decode cX12_made 44 = .ok (.bipush 6, 2) := by decide +kernel
theorem dX12_made_46 : decode cX12_made 46 = .ok (.if_icmp .ge 54, 3) := by decide +kernel
theorem dX12_made_49 : decode cX12_made 49 = .ok (.aload 6, 2) := by decide +kernel
theorem dX12_made_51 : decode cX12_made 51 = .ok (.getfield 236, 3) := by decide +kernel
theorem dX12_made_54 : decode cX12_made 54 = .ok (.iload 7, 2) := by decide +kernel
theorem dX12_made_56 : decode cX12_made 56 = .ok (.iload_n 3, 1) := by decide +kernel
theorem dX12_made_57 : decode cX12_made 57 = .ok (.iload 7, 2) := by decide +kernel
theorem dX12_made_59 : decode cX12_made 59 = .ok (.ishr, 1) := by decide +kernel
theorem dX12_made_60 : decode cX12_made 60 = .ok (.iconst 1, 1) := by decide +kernel
theorem dX12_made_61 : decode cX12_made 61 = .ok (.iand, 1) := by decide +kernel
theorem dX12_made_62 : decode cX12_made 62 = .ok (.iload 4, 2) := by decide +kernel
theorem dX12_made_64 : decode cX12_made 64 = .ok (.aload_n 0, 1) := by decide +kernel
theorem dX12_made_65 : decode cX12_made 65 = .ok (.getfield 10, 3) := by decide +kernel
theorem dX12_made_68 : decode cX12_made 68 = .ok (.iload_n 2, 1) := by decide +kernel
theorem dX12_made_69 : decode cX12_made 69 = .ok (.invokevirtual 45, 3) := by decide +kernel
theorem dX12_made_72 : decode cX12_made 72 = .ok (.checkcast 49, 3) := by decide +kernel
theorem dX12_made_75 : decode cX12_made 75 = .ok (.getfield 114, 3) := by decide +kernel
theorem dX12_made_78 : decode cX12_made 78 = .ok (.iload 7, 2) := by decide +kernel
theorem dX12_made_80 : decode cX12_made 80 = .ok (.iaload, 1) := by decide +kernel
theorem dX12_made_81 : decode cX12_made 81 = .ok (.imul, 1) := by decide +kernel
theorem dX12_made_82 : decode cX12_made 82 = .ok (.aload 6, 2) := by decide +kernel
theorem dX12_made_84 : decode cX12_made 84 = .ok (.getfield 239, 3) := by decide +kernel
theorem dX12_made_87 : decode cX12_made 87 = .ok (.imul, 1) := by decide +kernel
theorem dX12_made_88 : decode cX12_made 88 = .ok (.sipush 400, 3) := by decide +kernel
theorem dX12_made_91 : decode cX12_made 91 = .ok (.idiv, 1) := by decide +kernel
theorem dX12_made_92 : decode cX12_made 92 = .ok (.imul, 1) := by decide +kernel
theorem dX12_made_93 : decode cX12_made 93 = .ok (.iastore, 1) := by decide +kernel
theorem dX12_made_94 : decode cX12_made 94 = .ok (.iinc 7 1, 3) := by decide +kernel
theorem dX12_made_97 : decode cX12_made 97 = .ok (.goto (-55), 3) := by decide +kernel
theorem dX12_made_100 : decode cX12_made 100 = .ok (.aload 6, 2) := by decide +kernel
theorem dX12_made_102 : decode cX12_made 102 = .ok (.areturn, 1) := by decide +kernel
set_option maxRecDepth 20000 in
theorem ggX12_read_X12_isNoReader : GoodIn wsX12_read wsX12_isNoReader := goodIn_r _ [8, 9, 10, 7, 11] (by decide +kernel) (by decide +kernel)
set_option maxRecDepth 20000 in
theorem gX12_read_X12_isNoReader : GoodIn wsX12_read (va_wsS RX12 187 yX12_isNoReader wsX12_isNoReader) := goodIn_app (goodIn_of _ (by decide +kernel)) ggX12_read_X12_isNoReader
set_option maxRecDepth 20000 in
theorem ggX12_read_X12_isNo : GoodIn wsX12_read wsX12_isNo := goodIn_r _ [15, 2, 16, 17, 18, 19, 20, 21, 9, 10, 7, 11, 202, 203, 204, 205, 206, 207, 208, 209, 210] (by decide +kernel) (by decide +kernel)
set_option maxRecDepth 20000 in
theorem gX12_read_X12_isNo : GoodIn wsX12_read (wsV RX12 41 RX12 yX12_isNo wsX12_isNo) := goodIn_app (goodIn_of _ (by decide +kernel)) ggX12_read_X12_isNo
set_option maxRecDepth 20000 in
theorem ggX12_read_X12_isIn : GoodIn wsX12_read wsX12_isIn := goodIn_r _ [11] (by decide +kernel) (by decide +kernel)
set_option maxRecDepth 20000 in
theorem gX12_read_X12_isIn : GoodIn wsX12_read (va_wsS RX12 37 yX12_isIn wsX12_isIn) := goodIn_app (goodIn_of _ (by decide +kernel)) ggX12_read_X12_isIn
set_option maxRecDepth 20000 in
theorem ggX12_read_X12_start : GoodIn wsX12_read wsX12_start := goodIn_r _ [25, 26, 27, 28, 29, 7, 30, 202, 203, 204, 205, 206, 207] (by decide +kernel) (by decide +kernel)
set_option maxRecDepth 20000 in
theorem gX12_read_X12_start : GoodIn wsX12_read (wsV RX12 104 RX12 yX12_start wsX12_start) := goodIn_app (goodIn_of _ (by decide +kernel)) ggX12_read_X12_start
set_option maxRecDepth 20000 in
theorem ggX12_read_X12_isNoFields : GoodIn wsX12_read wsX12_isNoFields := goodIn_r _ [34, 2, 3, 35, 36, 37, 19, 38, 21, 39, 40, 41, 42, 43, 44, 45, 46, 47, 48, 49, 50, 51, 52, 53, 54, 55, 56, 57, 202, 203, 204, 205, 206, 207, 208, 209, 210, 211, 212, 213, 214, 215] (by decide +kernel) (by decide +kernel)
set_option maxRecDepth 20000 in
theorem gX12_read_X12_isNoFields : GoodIn wsX12_read (wsV RX12 190 RX12 yX12_isNoFields wsX12_isNoFields) := goodIn_app (goodIn_of _ (by decide +kernel)) ggX12_read_X12_isNoFields
set_option maxRecDepth 20000 in
theorem ggX12_read_X12_refuse : GoodIn wsX12_read wsX12_refuse := goodIn_r _ [30, 26, 202, 203, 204, 205, 206, 207] (by decide +kernel) (by decide +kernel)
set_option maxRecDepth 20000 in
theorem gX12_read_X12_refuse : GoodIn wsX12_read (wsV RX12 29 RX12 yX12_refuse wsX12_refuse) := goodIn_app (goodIn_of _ (by decide +kernel)) ggX12_read_X12_refuse
set_option maxRecDepth 20000 in
theorem ggX12_read_Jx4a65c_size_8abf5 : GoodIn wsX12_read wsJx4a65c_size_8abf5 := goodIn_r _ [20, 21, 208, 209, 210] (by decide +kernel) (by decide +kernel)
set_option maxRecDepth 20000 in
theorem gX12_read_Jx4a65c_size_8abf5 : GoodIn wsX12_read (wsV RX12 33 RJx4a65c yJx4a65c_size_8abf5 wsJx4a65c_size_8abf5) := goodIn_app (goodIn_of _ (by decide +kernel)) ggX12_read_Jx4a65c_size_8abf5
set_option maxRecDepth 20000 in
theorem ggX12_read_Jx4a65c_get_915e3 : GoodIn wsX12_read wsJx4a65c_get_915e3 := goodIn_r _ [38, 21, 39, 40, 41, 42, 43, 44, 45, 46, 47, 48, 49, 19, 50, 51, 208, 209, 210] (by decide +kernel) (by decide +kernel)
set_option maxRecDepth 20000 in
theorem gX12_read_Jx4a65c_get_915e3 : GoodIn wsX12_read (wsV RX12 45 RJx4a65c yJx4a65c_get_915e3 wsJx4a65c_get_915e3) := goodIn_app (goodIn_of _ (by decide +kernel)) ggX12_read_Jx4a65c_get_915e3
set_option maxRecDepth 20000 in
theorem ggX12_read_X7_rows : GoodIn wsX12_read wsX7_rows := goodIn_r _ [61, 62, 63, 64, 65, 66, 67, 19, 68, 21, 69, 70, 71, 55, 72, 73, 17, 18, 20, 74, 36, 37, 38, 39, 40, 41, 42, 43, 44, 45, 46, 47, 48, 49, 50, 51, 211, 212, 213, 214, 215, 216, 217, 218, 219, 220, 208, 209, 210] (by decide +kernel) (by decide +kernel)
set_option maxRecDepth 20000 in
theorem gX12_read_X7_rows : GoodIn wsX12_read (wsV RX12 172 RX7 yX7_rows wsX7_rows) := goodIn_app (goodIn_of _ (by decide +kernel)) ggX12_read_X7_rows
set_option maxRecDepth 20000 in
theorem ggX12_read_X12_coveredNow : GoodIn wsX12_read wsX12_coveredNow := goodIn_r _ [78, 79, 80, 16, 17, 18, 19, 20, 21, 35, 36, 37, 38, 39, 40, 41, 42, 43, 44, 45, 46, 47, 48, 49, 50, 51, 81, 82, 83, 84, 85, 86, 87, 88, 89, 90, 91, 92, 93, 94, 95, 202, 203, 204, 205, 206, 207, 208, 209, 210, 221, 222, 223, 224, 225, 226] (by decide +kernel) (by decide +kernel)
set_option maxRecDepth 20000 in
theorem gX12_read_X12_coveredNow : GoodIn wsX12_read (wsV RX12 214 RX12 yX12_coveredNow wsX12_coveredNow) := goodIn_app (goodIn_of _ (by decide +kernel)) ggX12_read_X12_coveredNow
set_option maxRecDepth 20000 in
theorem ggX12_read_X12_made : GoodIn wsX12_read wsX12_made := goodIn_r _ [99, 100, 101, 102, 2, 3, 4, 103, 104, 105, 35, 36, 37, 19, 38, 21, 39, 40, 41, 42, 43, 44, 45, 46, 47, 48, 49, 50, 51, 106, 70, 71, 55, 72, 62, 73, 17, 18, 20, 107, 108, 109, 7, 110, 111, 112, 113, 114, 1, 115, 116, 117, 16, 118, 119, 120, 121, 122, 123, 124, 125, 126, 127, 128, 129, 130, 131, 132, 133, 134, 135, 136, 137, 138, 139, 140, 141, 142, 143, 144, 227, 228, 229, 230, 231, 232, 233, 234, 235, 236, 202, 203, 204, 205, 206, 207, 211, 212, 213, 214, 215, 208, 209, 210] (by decide +kernel) (by decide +kernel)
set_option maxRecDepth 20000 in
theorem gX12_read_X12_made : GoodIn wsX12_read (wsV RX12 241 RX12 yX12_made wsX12_made) := goodIn_app (goodIn_of _ (by decide +kernel)) ggX12_read_X12_made
set_option maxRecDepth 20000 in
theorem ggX12_read_Jx4a65c_add_9ea2d : GoodIn wsX12_read wsJx4a65c_add_9ea2d := goodIn_r _ [148, 149, 150, 51, 21, 151, 152, 153, 19, 154, 155, 156, 157, 158, 159, 160, 161, 162, 163, 164, 165, 166, 167, 168, 169, 170, 171, 172, 173, 174, 175, 176, 177, 178, 179, 180, 181, 182, 183, 184, 185, 186, 187, 188, 189, 190, 191, 192, 193, 194, 195, 196, 197, 208, 209, 210] (by decide +kernel) (by decide +kernel)
set_option maxRecDepth 20000 in
theorem gX12_read_Jx4a65c_add_9ea2d : GoodIn wsX12_read (wsV RX12 110 RJx4a65c yJx4a65c_add_9ea2d wsJx4a65c_add_9ea2d) := goodIn_app (goodIn_of _ (by decide +kernel)) ggX12_read_Jx4a65c_add_9ea2d
set_option maxRecDepth 20000 in
theorem ggX12_read_X9_charge : GoodIn wsX12_read wsX9_charge := goodIn_r _ [201, 138, 227, 228, 229, 230, 231, 232, 233, 234, 235, 236] (by decide +kernel) (by decide +kernel)
set_option maxRecDepth 20000 in
theorem gX12_read_X9_charge : GoodIn wsX12_read (wsV RX12 176 RX9 yX9_charge wsX9_charge) := goodIn_app (goodIn_of _ (by decide +kernel)) ggX12_read_X9_charge
theorem dX12_read_0 : decode cX12_read 0 = .ok (.aload_n 0, 1) := by decide +kernel
theorem dX12_read_1 : decode cX12_read 1 = .ok (.iload_n 1, 1) := by decide +kernel
theorem dX12_read_2 : decode cX12_read 2 = .ok (.invokestatic 187, 3) := by decide +kernel
theorem dX12_read_5 : decode cX12_read 5 = .ok (.ifCond .ne 21, 3) := by decide +kernel
theorem dX12_read_8 : decode cX12_read 8 = .ok (.aload_n 0, 1) := by decide +kernel
theorem dX12_read_9 : decode cX12_read 9 = .ok (.iload_n 2, 1) := by decide +kernel
theorem dX12_read_10 : decode cX12_read 10 = .ok (.invokevirtual 41, 3) := by decide +kernel
theorem dX12_read_13 : decode cX12_read 13 = .ok (.ifCond .ne 13, 3) := by decide +kernel
theorem dX12_read_16 : decode cX12_read 16 = .ok (.iload 5, 2) := by decide +kernel
theorem dX12_read_18 : decode cX12_read 18 = .ok (.iconst 0, 1) := by decide +kernel
theorem dX12_read_19 : decode cX12_read 19 = .ok (.iconst 3, 1) := by decide +kernel
theorem dX12_read_20 : decode cX12_read 20 = .ok (.invokestatic 37, 3) := by decide +kernel
theorem dX12_read_23 : decode cX12_read 23 = .ok (.ifCond .ne 7, 3) := by decide +kernel
theorem dX12_read_26 : decode cX12_read 26 = .ok (.iconst 1, 1) := by decide +kernel
theorem dX12_read_27 : decode cX12_read 27 = .ok (.goto 4, 3) := by decide +kernel
theorem dX12_read_30 : decode cX12_read 30 = .ok (.iconst 0, 1) := by decide +kernel
theorem dX12_read_31 : decode cX12_read 31 = .ok (.iconst 1, 1) := by decide +kernel
theorem dX12_read_32 : decode cX12_read 32 = .ok (.invokevirtual 104, 3) := by decide +kernel
theorem dX12_read_35 : decode cX12_read 35 = .ok (.ifCond .ne 31, 3) := by decide +kernel
theorem dX12_read_38 : decode cX12_read 38 = .ok (.aload_n 0, 1) := by decide +kernel
theorem dX12_read_39 : decode cX12_read 39 = .ok (.aload_n 0, 1) := by decide +kernel
theorem dX12_read_40 : decode cX12_read 40 = .ok (.iload_n 2, 1) := by decide +kernel
theorem dX12_read_41 : decode cX12_read 41 = .ok (.iload_n 3, 1) := by decide +kernel
theorem dX12_read_42 : decode cX12_read 42 = .ok (.invokevirtual 190, 3) := by decide +kernel
theorem dX12_read_45 : decode cX12_read 45 = .ok (.ifCond .ne 9, 3) := by decide +kernel
theorem dX12_read_48 : decode cX12_read 48 = .ok (.iload 4, 2) := by decide +kernel
theorem dX12_read_50 : decode cX12_read 50 = .ok (.iconst 1, 1) := by decide +kernel
theorem dX12_read_51 : decode cX12_read 51 = .ok (.if_icmp .ge 7, 3) := by decide +kernel
theorem dX12_read_54 : decode cX12_read 54 = .ok (.iconst 1, 1) := by decide +kernel
theorem dX12_read_55 : decode cX12_read 55 = .ok (.goto 4, 3) := by decide +kernel
theorem dX12_read_58 : decode cX12_read 58 = .ok (.iconst 0, 1) := by decide +kernel
theorem dX12_read_59 : decode cX12_read 59 = .ok (.iconst 2, 1) := by decide +kernel
theorem dX12_read_60 : decode cX12_read 60 = .ok (.invokevirtual 29, 3) := by decide +kernel
theorem dX12_read_63 : decode cX12_read 63 = .ok (.ifCond .eq 5, 3) := by decide +kernel
theorem dX12_read_66 : decode cX12_read 66 = .ok (.iconst 0, 1) := by decide +kernel
theorem dX12_read_67 : decode cX12_read 67 = .ok (.ireturn, 1) := by decide +kernel
theorem dX12_read_68 : decode cX12_read 68 = .ok (.aload_n 0, 1) := by decide +kernel
theorem dX12_read_69 : decode cX12_read 69 = .ok (.aload_n 0, 1) := by decide +kernel
theorem dX12_read_70 : decode cX12_read 70 = .ok (.getfield 22, 3) := by decide +kernel
theorem dX12_read_73 : decode cX12_read 73 = .ok (.invokevirtual 33, 3) := by decide +kernel
theorem dX12_read_76 : decode cX12_read 76 = .ok (.bipush 40, 2) := by decide +kernel
theorem dX12_read_78 : decode cX12_read 78 = .ok (.if_icmp .eq 41, 3) := by decide +kernel
theorem dX12_read_81 : decode cX12_read 81 = .ok (.iload 4, 2) := by decide +kernel
theorem dX12_read_83 : decode cX12_read 83 = .ok (.aload_n 0, 1) := by decide +kernel
theorem dX12_read_84 : decode cX12_read 84 = .ok (.getfield 10, 3) := by decide +kernel
theorem dX12_read_87 : decode cX12_read 87 = .ok (.iload_n 2, 1) := by decide +kernel
theorem dX12_read_88 : decode cX12_read 88 = .ok (.invokevirtual 45, 3) := by decide +kernel
theorem dX12_read_91 : decode cX12_read 91 = .ok (.checkcast 49, 3) := by decide +kernel
theorem dX12_read_94 : decode cX12_read 94 = .ok (.invokevirtual 172, 3) := by decide +kernel
theorem dX12_read_97 : decode cX12_read 97 = .ok (.if_icmp .gt 22, 3) := by decide +kernel
theorem dX12_read_100 : decode cX12_read 100 = .ok (.iload_n 3, 1) := by decide +kernel
theorem dX12_read_101 : decode cX12_read 101 = .ok (.aload_n 0, 1) := by decide +kernel
theorem dX12_read_102 : decode cX12_read 102 = .ok (.iload_n 1, 1) := by decide +kernel
theorem dX12_read_103 : decode cX12_read 103 = .ok (.iload_n 2, 1) := by decide +kernel
theorem dX12_read_104 : decode cX12_read 104 = .ok (.iload 5, 2) := by decide +kernel
theorem dX12_read_106 : decode cX12_read 106 = .ok (.aload_n 0, 1) := by decide +kernel
theorem dX12_read_107 : decode cX12_read 107 = .ok (.getfield 193, 3) := by decide +kernel
theorem dX12_read_110 : decode cX12_read 110 = .ok (.invokevirtual 214, 3) := by decide +kernel
theorem dX12_read_113 : decode cX12_read 113 = .ok (.iconst (-1), 1) := by decide +kernel
theorem dX12_read_114 : decode cX12_read 114 = .ok (.ixor, 1) := by decide +kernel
theorem dX12_read_115 : decode cX12_read 115 = .ok (.iand, 1) := by decide +kernel
theorem dX12_read_116 : decode cX12_read 116 = .ok (.ifCond .eq 7, 3) := by decide +kernel
theorem dX12_read_119 : decode cX12_read 119 = .ok (.iconst 1, 1) := by decide +kernel
theorem dX12_read_120 : decode cX12_read 120 = .ok (.goto 4, 3) := by decide +kernel
theorem dX12_read_123 : decode cX12_read 123 = .ok (.iconst 0, 1) := by decide +kernel
theorem dX12_read_124 : decode cX12_read 124 = .ok (.iconst 3, 1) := by decide +kernel
theorem dX12_read_125 : decode cX12_read 125 = .ok (.invokevirtual 29, 3) := by decide +kernel
theorem dX12_read_128 : decode cX12_read 128 = .ok (.ifCond .eq 5, 3) := by decide +kernel
theorem dX12_read_131 : decode cX12_read 131 = .ok (.iconst 0, 1) := by decide +kernel
theorem dX12_read_132 : decode cX12_read 132 = .ok (.ireturn, 1) := by decide +kernel
theorem dX12_read_133 : decode cX12_read 133 = .ok (.aload_n 0, 1) := by decide +kernel
theorem dX12_read_134 : decode cX12_read 134 = .ok (.iload_n 1, 1) := by decide +kernel
theorem dX12_read_135 : decode cX12_read 135 = .ok (.iload_n 2, 1) := by decide +kernel
theorem dX12_read_136 : decode cX12_read 136 = .ok (.iload_n 3, 1) := by decide +kernel
theorem dX12_read_137 : decode cX12_read 137 = .ok (.iload 4, 2) := by decide +kernel
theorem dX12_read_139 : decode cX12_read 139 = .ok (.iload 5, 2) := by decide +kernel
theorem dX12_read_141 : decode cX12_read 141 = .ok (.invokevirtual 241, 3) := by decide +kernel
theorem dX12_read_144 : decode cX12_read 144 = .ok (.astore 6, 2) := by decide +kernel
theorem dX12_read_146 : decode cX12_read 146 = .ok (.aload_n 0, 1) := by decide +kernel
theorem dX12_read_147 : decode cX12_read 147 = .ok (.getfield 22, 3) := by decide +kernel
theorem dX12_read_150 : decode cX12_read 150 = .ok (.aload 6, 2) := by decide +kernel
theorem dX12_read_152 : decode cX12_read 152 = .ok (.invokevirtual 110, 3) := by decide +kernel
theorem dX12_read_155 : decode cX12_read 155 = .ok (.pop, 1) := by decide +kernel
theorem dX12_read_156 : decode cX12_read 156 = .ok (.aload 6, 2) := by decide +kernel
theorem dX12_read_158 : decode cX12_read 158 = .ok (.invokevirtual 176, 3) := by decide +kernel
theorem dX12_read_161 : decode cX12_read 161 = .ok (.ireturn, 1) := by decide +kernel
set_option maxRecDepth 20000 in
theorem ggX12_canPreview_Jx4a65c_get_915e3 : GoodIn wsX12_canPreview wsJx4a65c_get_915e3 := goodIn_r _ [11, 12, 13, 14, 15, 16, 17, 18, 19, 20, 21, 22, 23, 10, 24, 25, 80, 81, 82] (by decide +kernel) (by decide +kernel)
set_option maxRecDepth 20000 in
theorem gX12_canPreview_Jx4a65c_get_915e3 : GoodIn wsX12_canPreview (wsV RX12 45 RJx4a65c yJx4a65c_get_915e3 wsJx4a65c_get_915e3) := goodIn_app (goodIn_of _ (by decide +kernel)) ggX12_canPreview_Jx4a65c_get_915e3
set_option maxRecDepth 20000 in
theorem ggX12_canPreview_X12_coveredNow : GoodIn wsX12_canPreview wsX12_coveredNow := goodIn_r _ [30, 31, 32, 33, 34, 35, 10, 36, 12, 7, 8, 9, 11, 13, 14, 15, 16, 17, 18, 19, 20, 21, 22, 23, 24, 25, 37, 38, 39, 40, 41, 42, 43, 44, 45, 46, 47, 48, 49, 50, 51, 69, 70, 71, 72, 73, 74, 80, 81, 82, 83, 84, 85, 86, 87, 88] (by decide +kernel) (by decide +kernel)
set_option maxRecDepth 20000 in
theorem gX12_canPreview_X12_coveredNow : GoodIn wsX12_canPreview (wsV RX12 214 RX12 yX12_coveredNow wsX12_coveredNow) := goodIn_app (goodIn_of _ (by decide +kernel)) ggX12_canPreview_X12_coveredNow
set_option maxRecDepth 20000 in
theorem ggX12_canPreview_Jx4a65c_isEmpty_aae02 : GoodIn wsX12_canPreview wsJx4a65c_isEmpty_aae02 := goodIn_r _ [55, 12, 80, 81, 82] (by decide +kernel) (by decide +kernel)
set_option maxRecDepth 20000 in
theorem gX12_canPreview_Jx4a65c_isEmpty_aae02 : GoodIn wsX12_canPreview (wsV RX12 140 RJx4a65c yJx4a65c_isEmpty_aae02 wsJx4a65c_isEmpty_aae02) := goodIn_app (goodIn_of _ (by decide +kernel)) ggX12_canPreview_Jx4a65c_isEmpty_aae02
set_option maxRecDepth 20000 in
theorem ggX12_canPreview_J6_bitCount_0f7a4 : GoodIn wsX12_canPreview wsJ6_bitCount_0f7a4 := goodIn_r _ [59, 60, 61, 62] (by decide +kernel) (by decide +kernel)
set_option maxRecDepth 20000 in
theorem gX12_canPreview_J6_bitCount_0f7a4 : GoodIn wsX12_canPreview (va_wsS RX12 248 yJ6_bitCount_0f7a4 wsJ6_bitCount_0f7a4) := goodIn_app (goodIn_of _ (by decide +kernel)) ggX12_canPreview_J6_bitCount_0f7a4
set_option maxRecDepth 20000 in
theorem ggX12_canPreview_X7_all : GoodIn wsX12_canPreview wsX7_all := goodIn_r _ [67, 68, 75, 76, 77, 78, 79] (by decide +kernel) (by decide +kernel)
set_option maxRecDepth 20000 in
theorem gX12_canPreview_X7_all : GoodIn wsX12_canPreview (wsV RX12 64 RX7 yX7_all wsX7_all) := goodIn_app (goodIn_of _ (by decide +kernel)) ggX12_canPreview_X7_all
theorem dX12_canPreview_0 : decode cX12_canPreview 0 = .ok (.aload_n 0, 1) := by decide +kernel
theorem dX12_canPreview_1 : decode cX12_canPreview 1 = .ok (.getfield 10, 3) := by decide +kernel
theorem dX12_canPreview_4 : decode cX12_canPreview 4 = .ok (.iload_n 2, 1) := by decide +kernel
theorem dX12_canPreview_5 : decode cX12_canPreview 5 = .ok (.invokevirtual 45, 3) := by decide +kernel
theorem dX12_canPreview_8 : decode cX12_canPreview 8 = .ok (.checkcast 49, 3) := by decide +kernel
theorem dX12_canPreview_11 : decode cX12_canPreview 11 = .ok (.astore 4, 2) := by decide +kernel
theorem dX12_canPreview_13 : decode cX12_canPreview 13 = .ok (.aload 4, 2) := by decide +kernel
theorem dX12_canPreview_15 : decode cX12_canPreview 15 = .ok (.getfield 245, 3) := by decide +kernel
theorem dX12_canPreview_18 : decode cX12_canPreview 18 = .ok (.iload_n 1, 1) := by decide +kernel
theorem dX12_canPreview_19 : decode cX12_canPreview 19 = .ok (.iaload, 1) := by decide +kernel
theorem dX12_canPreview_20 : decode cX12_canPreview 20 = .ok (.iload_n 3, 1) := by decide +kernel
theorem dX12_canPreview_21 : decode cX12_canPreview 21 = .ok (.ior, 1) := by decide +kernel
theorem dX12_canPreview_22 : decode cX12_canPreview 22 = .ok (.istore 5, 2) := by decide +kernel
theorem dX12_canPreview_24 : decode cX12_canPreview 24 = .ok (.iconst 0, 1) := by decide +kernel
theorem dX12_canPreview_25 : decode cX12_canPreview 25 = .ok (.istore 6, 2) := by decide +kernel
theorem dX12_canPreview_27 : decode cX12_canPreview 27 = .ok (.iconst 0, 1) := by decide +kernel
theorem dX12_canPreview_28 : decode cX12_canPreview 28 = .ok (.istore 7, 2) := by decide +kernel
theorem dX12_canPreview_30 : decode cX12_canPreview 30 = .ok (.iload 7, 2) := by decide +kernel
theorem dX12_canPreview_32 : decode cX12_canPreview 32 = .ok (.iconst 4, 1) := by decide +kernel
theorem dX12_canPreview_33 : decode cX12_canPreview 33 = .ok (.if_icmp .ge 26, 3) := by decide +kernel
theorem dX12_canPreview_36 : decode cX12_canPreview 36 = .ok (.iload 6, 2) := by decide +kernel
theorem dX12_canPreview_38 : decode cX12_canPreview 38 = .ok (.aload_n 0, 1) := by decide +kernel
theorem dX12_canPreview_39 : decode cX12_canPreview 39 = .ok (.iload_n 1, 1) := by decide +kernel
theorem dX12_canPreview_40 : decode cX12_canPreview 40 = .ok (.iload_n 2, 1) := by decide +kernel
theorem dX12_canPreview_41 : decode cX12_canPreview 41 = .ok (.iload 7, 2) := by decide +kernel
theorem dX12_canPreview_43 : decode cX12_canPreview 43 = .ok (.aload_n 0, 1) := by decide +kernel
theorem dX12_canPreview_44 : decode cX12_canPreview 44 = .ok (.getfield 193, 3) := by decide +kernel
theorem dX12_canPreview_47 : decode cX12_canPreview 47 = .ok (.invokevirtual 214, 3) := by decide +kernel
theorem dX12_canPreview_50 : decode cX12_canPreview 50 = .ok (.ior, 1) := by decide +kernel
theorem dX12_canPreview_51 : decode cX12_canPreview 51 = .ok (.istore 6, 2) := by decide +kernel
theorem dX12_canPreview_53 : decode cX12_canPreview 53 = .ok (.iinc 7 1, 3) := by decide +kernel
theorem dX12_canPreview_56 : decode cX12_canPreview 56 = .ok (.goto (-26), 3) := by decide +kernel
theorem dX12_canPreview_59 : decode cX12_canPreview 59 = .ok (.aload 4, 2) := by decide +kernel
theorem dX12_canPreview_61 : decode cX12_canPreview 61 = .ok (.getfield 69, 3) := by decide +kernel
theorem dX12_canPreview_64 : decode cX12_canPreview 64 = .ok (.invokevirtual 140, 3) := by decide +kernel
theorem dX12_canPreview_67 : decode cX12_canPreview 67 = .ok (.ifCond .ne 47, 3) := by decide +kernel
theorem dX12_canPreview_70 : decode cX12_canPreview 70 = .ok (.iload 5, 2) := by decide +kernel
theorem dX12_canPreview_72 : decode cX12_canPreview 72 = .ok (.invokestatic 248, 3) := by decide +kernel
theorem dX12_canPreview_75 : decode cX12_canPreview 75 = .ok (.aload 4, 2) := by decide +kernel
theorem dX12_canPreview_77 : decode cX12_canPreview 77 = .ok (.getfield 51, 3) := by decide +kernel
theorem dX12_canPreview_80 : decode cX12_canPreview 80 = .ok (.iconst 1, 1) := by decide +kernel
theorem dX12_canPreview_81 : decode cX12_canPreview 81 = .ok (.iadd, 1) := by decide +kernel
theorem dX12_canPreview_82 : decode cX12_canPreview 82 = .ok (.iconst 2, 1) := by decide +kernel
theorem dX12_canPreview_83 : decode cX12_canPreview 83 = .ok (.idiv, 1) := by decide +kernel
theorem dX12_canPreview_84 : decode cX12_canPreview 84 = .ok (.if_icmp .gt 30, 3) := by decide +kernel
theorem dX12_canPreview_87 : decode cX12_canPreview 87 = .ok (.iload 6, 2) := by decide +kernel
theorem dX12_canPreview_89 : decode cX12_canPreview 89 = .ok (.aload 4, 2) := by decide +kernel
theorem dX12_canPreview_91 : decode cX12_canPreview 91 = .ok (.invokevirtual 64, 3) := by decide +kernel
theorem dX12_canPreview_94 : decode cX12_canPreview 94 = .ok (.if_icmp .eq 16, 3) := by decide +kernel
theorem dX12_canPreview_97 : decode cX12_canPreview 97 = .ok (.iload 5, 2) := by decide +kernel
theorem dX12_canPreview_99 : decode cX12_canPreview 99 = .ok (.iload 6, 2) := by decide +kernel
theorem dX12_canPreview_101 : decode cX12_canPreview 101 = .ok (.ior, 1) := by decide +kernel
theorem dX12_canPreview_102 : decode cX12_canPreview 102 = .ok (.aload 4, 2) := by decide +kernel
theorem dX12_canPreview_104 : decode cX12_canPreview 104 = .ok (.invokevirtual 64, 3) := by decide +kernel
theorem dX12_canPreview_107 : decode cX12_canPreview 107 = .ok (.if_icmp .eq 7, 3) := by decide +kernel
theorem dX12_canPreview_110 : decode cX12_canPreview 110 = .ok (.iconst 1, 1) := by decide +kernel
theorem dX12_canPreview_111 : decode cX12_canPreview 111 = .ok (.goto 4, 3) := by decide +kernel
theorem dX12_canPreview_114 : decode cX12_canPreview 114 = .ok (.iconst 0, 1) := by decide +kernel
theorem dX12_canPreview_115 : decode cX12_canPreview 115 = .ok (.ireturn, 1) := by decide +kernel
set_option maxRecDepth 20000 in
theorem ggX12_preview_X12_isNoReader : GoodIn wsX12_preview wsX12_isNoReader := goodIn_r _ [7, 8, 9, 6, 10] (by decide +kernel) (by decide +kernel)
set_option maxRecDepth 20000 in
theorem gX12_preview_X12_isNoReader : GoodIn wsX12_preview (va_wsS RX12 187 yX12_isNoReader wsX12_isNoReader) := goodIn_app (goodIn_of _ (by decide +kernel)) ggX12_preview_X12_isNoReader
set_option maxRecDepth 20000 in
theorem ggX12_preview_X12_isNo : GoodIn wsX12_preview wsX12_isNo := goodIn_r _ [14, 1, 15, 16, 17, 18, 19, 20, 8, 9, 6, 10, 96, 97, 98, 99, 100, 101, 107, 108, 109] (by decide +kernel) (by decide +kernel)
set_option maxRecDepth 20000 in
theorem gX12_preview_X12_isNo : GoodIn wsX12_preview (wsV RX12 41 RX12 yX12_isNo wsX12_isNo) := goodIn_app (goodIn_of _ (by decide +kernel)) ggX12_preview_X12_isNo
set_option maxRecDepth 20000 in
theorem ggX12_preview_X12_start : GoodIn wsX12_preview wsX12_start := goodIn_r _ [24, 25, 26, 27, 28, 6, 29, 96, 97, 98, 99, 100, 101] (by decide +kernel) (by decide +kernel)
set_option maxRecDepth 20000 in
theorem gX12_preview_X12_start : GoodIn wsX12_preview (wsV RX12 104 RX12 yX12_start wsX12_start) := goodIn_app (goodIn_of _ (by decide +kernel)) ggX12_preview_X12_start
set_option maxRecDepth 20000 in
theorem ggX12_preview_X12_isNoFields : GoodIn wsX12_preview wsX12_isNoFields := goodIn_r _ [33, 1, 2, 34, 35, 36, 18, 37, 20, 38, 39, 40, 41, 42, 43, 44, 45, 46, 47, 48, 49, 50, 51, 52, 53, 54, 55, 56, 96, 97, 98, 99, 100, 101, 107, 108, 109, 102, 103, 104, 105, 106] (by decide +kernel) (by decide +kernel)
set_option maxRecDepth 20000 in
theorem gX12_preview_X12_isNoFields : GoodIn wsX12_preview (wsV RX12 190 RX12 yX12_isNoFields wsX12_isNoFields) := goodIn_app (goodIn_of _ (by decide +kernel)) ggX12_preview_X12_isNoFields
set_option maxRecDepth 20000 in
theorem ggX12_preview_J6_bitCount_0f7a4 : GoodIn wsX12_preview wsJ6_bitCount_0f7a4 := goodIn_r _ [60, 61, 62, 63] (by decide +kernel) (by decide +kernel)
set_option maxRecDepth 20000 in
theorem gX12_preview_J6_bitCount_0f7a4 : GoodIn wsX12_preview (va_wsS RX12 248 yJ6_bitCount_0f7a4 wsJ6_bitCount_0f7a4) := goodIn_app (goodIn_of _ (by decide +kernel)) ggX12_preview_J6_bitCount_0f7a4
set_option maxRecDepth 20000 in
theorem ggX12_preview_X12_refuse : GoodIn wsX12_preview wsX12_refuse := goodIn_r _ [29, 25, 96, 97, 98, 99, 100, 101] (by decide +kernel) (by decide +kernel)
set_option maxRecDepth 20000 in
theorem gX12_preview_X12_refuse : GoodIn wsX12_preview (wsV RX12 29 RX12 yX12_refuse wsX12_refuse) := goodIn_app (goodIn_of _ (by decide +kernel)) ggX12_preview_X12_refuse
set_option maxRecDepth 20000 in
theorem ggX12_preview_X12_canPreview : GoodIn wsX12_preview wsX12_canPreview := goodIn_r _ [67, 1, 2, 3, 68, 69, 70, 34, 35, 36, 18, 37, 20, 38, 39, 40, 41, 42, 43, 44, 45, 46, 47, 48, 49, 50, 71, 72, 73, 6, 74, 75, 76, 15, 16, 17, 19, 77, 78, 79, 80, 81, 82, 83, 84, 85, 86, 87, 88, 89, 90, 91, 92, 93, 94, 95, 57, 58, 59, 60, 61, 62, 63, 51, 52, 53, 54, 55, 56, 96, 97, 98, 99, 100, 101, 102, 103, 104, 105, 106, 107, 108, 109, 110, 111, 112, 113, 114, 115] (by decide +kernel) (by decide +kernel)
set_option maxRecDepth 20000 in
theorem gX12_preview_X12_canPreview : GoodIn wsX12_preview (wsV RX12 253 RX12 yX12_canPreview wsX12_canPreview) := goodIn_app (goodIn_of _ (by decide +kernel)) ggX12_preview_X12_canPreview
set_option maxRecDepth 20000 in
theorem ggX12_preview_Jx4a65c_get_915e3 : GoodIn wsX12_preview wsJx4a65c_get_915e3 := goodIn_r _ [37, 20, 38, 39, 40, 41, 42, 43, 44, 45, 46, 47, 48, 18, 49, 50, 107, 108, 109] (by decide +kernel) (by decide +kernel)
set_option maxRecDepth 20000 in
theorem gX12_preview_Jx4a65c_get_915e3 : GoodIn wsX12_preview (wsV RX12 45 RJx4a65c yJx4a65c_get_915e3 wsJx4a65c_get_915e3) := goodIn_app (goodIn_of _ (by decide +kernel)) ggX12_preview_Jx4a65c_get_915e3
theorem dX12_preview_0 : decode cX12_preview 0 = .ok (.aload_n 0, 1) := by decide +kernel
theorem dX12_preview_1 : decode cX12_preview 1 = .ok (.iload_n 1, 1) := by decide +kernel
theorem dX12_preview_2 : decode cX12_preview 2 = .ok (.invokestatic 187, 3) := by decide +kernel
theorem dX12_preview_5 : decode cX12_preview 5 = .ok (.ifCond .ne 11, 3) := by decide +kernel
theorem dX12_preview_8 : decode cX12_preview 8 = .ok (.aload_n 0, 1) := by decide +kernel
theorem dX12_preview_9 : decode cX12_preview 9 = .ok (.iload_n 2, 1) := by decide +kernel
theorem dX12_preview_10 : decode cX12_preview 10 = .ok (.invokevirtual 41, 3) := by decide +kernel
theorem dX12_preview_13 : decode cX12_preview 13 = .ok (.ifCond .eq 7, 3) := by decide +kernel
theorem dX12_preview_16 : decode cX12_preview 16 = .ok (.iconst 1, 1) := by decide +kernel
theorem dX12_preview_17 : decode cX12_preview 17 = .ok (.goto 4, 3) := by decide +kernel
theorem dX12_preview_20 : decode cX12_preview 20 = .ok (.iconst 0, 1) := by decide +kernel
theorem dX12_preview_21 : decode cX12_preview 21 = .ok (.iconst 1, 1) := by decide +kernel
theorem dX12_preview_22 : decode cX12_preview 22 = .ok (.invokevirtual 104, 3) := by decide +kernel
theorem dX12_preview_25 : decode cX12_preview 25 = .ok (.ifCond .ne 56, 3) := by decide +kernel
theorem dX12_preview_28 : decode cX12_preview 28 = .ok (.aload_n 0, 1) := by decide +kernel
theorem dX12_preview_29 : decode cX12_preview 29 = .ok (.aload_n 0, 1) := by decide +kernel
theorem dX12_preview_30 : decode cX12_preview 30 = .ok (.iload_n 2, 1) := by decide +kernel
theorem dX12_preview_31 : decode cX12_preview 31 = .ok (.iload_n 3, 1) := by decide +kernel
theorem dX12_preview_32 : decode cX12_preview 32 = .ok (.invokevirtual 190, 3) := by decide +kernel
theorem dX12_preview_35 : decode cX12_preview 35 = .ok (.ifCond .ne 11, 3) := by decide +kernel
theorem dX12_preview_38 : decode cX12_preview 38 = .ok (.iload_n 3, 1) := by decide +kernel
theorem dX12_preview_39 : decode cX12_preview 39 = .ok (.invokestatic 248, 3) := by decide +kernel
theorem dX12_preview_42 : decode cX12_preview 42 = .ok (.iconst 2, 1) := by decide +kernel
theorem dX12_preview_43 : decode cX12_preview 43 = .ok (.if_icmp .le 7, 3) := by decide +kernel
theorem dX12_preview_46 : decode cX12_preview 46 = .ok (.iconst 1, 1) := by decide +kernel
theorem dX12_preview_47 : decode cX12_preview 47 = .ok (.goto 4, 3) := by decide +kernel
theorem dX12_preview_50 : decode cX12_preview 50 = .ok (.iconst 0, 1) := by decide +kernel
theorem dX12_preview_51 : decode cX12_preview 51 = .ok (.iconst 2, 1) := by decide +kernel
theorem dX12_preview_52 : decode cX12_preview 52 = .ok (.invokevirtual 29, 3) := by decide +kernel
theorem dX12_preview_55 : decode cX12_preview 55 = .ok (.ifCond .ne 26, 3) := by decide +kernel
theorem dX12_preview_58 : decode cX12_preview 58 = .ok (.aload_n 0, 1) := by decide +kernel
theorem dX12_preview_59 : decode cX12_preview 59 = .ok (.aload_n 0, 1) := by decide +kernel
theorem dX12_preview_60 : decode cX12_preview 60 = .ok (.iload_n 1, 1) := by decide +kernel
theorem dX12_preview_61 : decode cX12_preview 61 = .ok (.iload_n 2, 1) := by decide +kernel
theorem dX12_preview_62 : decode cX12_preview 62 = .ok (.iload_n 3, 1) := by decide +kernel
theorem dX12_preview_63 : decode cX12_preview 63 = .ok (.invokevirtual 253, 3) := by decide +kernel
theorem dX12_preview_66 : decode cX12_preview 66 = .ok (.ifCond .ne 7, 3) := by decide +kernel
theorem dX12_preview_69 : decode cX12_preview 69 = .ok (.iconst 1, 1) := by decide +kernel
theorem dX12_preview_70 : decode cX12_preview 70 = .ok (.goto 4, 3) := by decide +kernel
theorem dX12_preview_73 : decode cX12_preview 73 = .ok (.iconst 0, 1) := by decide +kernel
theorem dX12_preview_74 : decode cX12_preview 74 = .ok (.iconst 3, 1) := by decide +kernel
theorem dX12_preview_75 : decode cX12_preview 75 = .ok (.invokevirtual 29, 3) := by decide +kernel
theorem dX12_preview_78 : decode cX12_preview 78 = .ok (.ifCond .eq 5, 3) := by decide +kernel
theorem dX12_preview_81 : decode cX12_preview 81 = .ok (.iconst 0, 1) := by decide +kernel
theorem dX12_preview_82 : decode cX12_preview 82 = .ok (.ireturn, 1) := by decide +kernel
theorem dX12_preview_83 : decode cX12_preview 83 = .ok (.aload_n 0, 1) := by decide +kernel
theorem dX12_preview_84 : decode cX12_preview 84 = .ok (.getfield 10, 3) := by decide +kernel
theorem dX12_preview_87 : decode cX12_preview 87 = .ok (.iload_n 2, 1) := by decide +kernel
theorem dX12_preview_88 : decode cX12_preview 88 = .ok (.invokevirtual 45, 3) := by decide +kernel
theorem dX12_preview_91 : decode cX12_preview 91 = .ok (.checkcast 49, 3) := by decide +kernel
theorem dX12_preview_94 : decode cX12_preview 94 = .ok (.getfield 245, 3) := by decide +kernel
theorem dX12_preview_97 : decode cX12_preview 97 = .ok (.iload_n 1, 1) := by decide +kernel
theorem dX12_preview_98 : decode cX12_preview 98 = .ok (.dup2, 1) := by decide +kernel
theorem dX12_preview_99 : decode cX12_preview 99 = .ok (.iaload, 1) := by decide +kernel
theorem dX12_preview_100 : decode cX12_preview 100 = .ok (.iload_n 3, 1) := by decide +kernel
theorem dX12_preview_101 : decode cX12_preview 101 = .ok (.ior, 1) := by decide +kernel
theorem dX12_preview_102 : decode cX12_preview 102 = .ok (.iastore, 1) := by decide +kernel
theorem dX12_preview_103 : decode cX12_preview 103 = .ok (.aload_n 0, 1) := by decide +kernel
theorem dX12_preview_104 : decode cX12_preview 104 = .ok (.getfield 10, 3) := by decide +kernel
theorem dX12_preview_107 : decode cX12_preview 107 = .ok (.iload_n 2, 1) := by decide +kernel
theorem dX12_preview_108 : decode cX12_preview 108 = .ok (.invokevirtual 45, 3) := by decide +kernel
theorem dX12_preview_111 : decode cX12_preview 111 = .ok (.checkcast 49, 3) := by decide +kernel
theorem dX12_preview_114 : decode cX12_preview 114 = .ok (.getfield 245, 3) := by decide +kernel
theorem dX12_preview_117 : decode cX12_preview 117 = .ok (.iload_n 1, 1) := by decide +kernel
theorem dX12_preview_118 : decode cX12_preview 118 = .ok (.iaload, 1) := by decide +kernel
theorem dX12_preview_119 : decode cX12_preview 119 = .ok (.ireturn, 1) := by decide +kernel
set_option maxRecDepth 20000 in
theorem ggX12_ofReadNow_X9_units : GoodIn wsX12_ofReadNow wsX9_units := goodIn_r _ [15, 16, 17, 18, 19, 20, 21, 22, 23, 24, 36, 37, 38, 39, 40, 41, 42, 43, 44, 45] (by decide +kernel) (by decide +kernel)
set_option maxRecDepth 20000 in
theorem gX12_ofReadNow_X9_units : GoodIn wsX12_ofReadNow (wsV RX12 223 RX9 yX9_units wsX9_units) := goodIn_app (goodIn_of _ (by decide +kernel)) ggX12_ofReadNow_X9_units
set_option maxRecDepth 20000 in
theorem ggX12_ofReadNow_X9_charge : GoodIn wsX12_ofReadNow wsX9_charge := goodIn_r _ [28, 29, 36, 37, 38, 39, 40, 41, 42, 43, 44, 45] (by decide +kernel) (by decide +kernel)
set_option maxRecDepth 20000 in
theorem gX12_ofReadNow_X9_charge : GoodIn wsX12_ofReadNow (wsV RX12 176 RX9 yX9_charge wsX9_charge) := goodIn_app (goodIn_of _ (by decide +kernel)) ggX12_ofReadNow_X9_charge
set_option maxRecDepth 20000 in
theorem ggX12_ofReadNow_X9_credit : GoodIn wsX12_ofReadNow wsX9_credit := goodIn_r _ [33, 29, 34, 35, 36, 37, 38, 39, 40, 41, 42, 43, 44, 45] (by decide +kernel) (by decide +kernel)
set_option maxRecDepth 20000 in
theorem gX12_ofReadNow_X9_credit : GoodIn wsX12_ofReadNow (wsV RX12 154 RX9 yX9_credit wsX9_credit) := goodIn_app (goodIn_of _ (by decide +kernel)) ggX12_ofReadNow_X9_credit
theorem dX12_ofReadNow_0 : decode cX12_ofReadNow 0 = .ok (.bipush 12, 2) := by decide +kernel
theorem dX12_ofReadNow_2 : decode cX12_ofReadNow 2 = .ok (.newarray .int, 2) := by decide +kernel
theorem dX12_ofReadNow_4 : decode cX12_ofReadNow 4 = .ok (.dup, 1) := by decide +kernel
theorem dX12_ofReadNow_5 : decode cX12_ofReadNow 5 = .ok (.iconst 0, 1) := by decide +kernel
theorem dX12_ofReadNow_6 : decode cX12_ofReadNow 6 = .ok (.aload_n 1, 1) := by decide +kernel
theorem dX12_ofReadNow_7 : decode cX12_ofReadNow 7 = .ok (.getfield 217, 3) := by decide +kernel
theorem dX12_ofReadNow_10 : decode cX12_ofReadNow 10 = .ok (.iastore, 1) := by decide +kernel
theorem dX12_ofReadNow_11 : decode cX12_ofReadNow 11 = .ok (.dup, 1) := by decide +kernel
theorem dX12_ofReadNow_12 : decode cX12_ofReadNow 12 = .ok (.iconst 1, 1) := by decide +kernel
theorem dX12_ofReadNow_13 : decode cX12_ofReadNow 13 = .ok (.aload_n 1, 1) := by decide +kernel
theorem dX12_ofReadNow_14 : decode cX12_ofReadNow 14 = .ok (.getfield 175, 3) := by decide +kernel
theorem dX12_ofReadNow_17 : decode cX12_ofReadNow 17 = .ok (.iastore, 1) := by decide +kernel
theorem dX12_ofReadNow_18 : decode cX12_ofReadNow 18 = .ok (.dup, 1) := by decide +kernel
theorem dX12_ofReadNow_19 : decode cX12_ofReadNow 19 = .ok (.iconst 2, 1) := by decide +kernel
theorem dX12_ofReadNow_20 : decode cX12_ofReadNow 20 = .ok (.aload_n 1, 1) := by decide +kernel
theorem dX12_ofReadNow_21 : decode cX12_ofReadNow 21 = .ok (.getfield 256, 3) := by decide +kernel
theorem dX12_ofReadNow_24 : decode cX12_ofReadNow 24 = .ok (.iastore, 1) := by decide +kernel
theorem dX12_ofReadNow_25 : decode cX12_ofReadNow 25 = .ok (.dup, 1) := by decide +kernel
theorem dX12_ofReadNow_26 : decode cX12_ofReadNow 26 = .ok (.iconst 3, 1) := by decide +kernel
theorem dX12_ofReadNow_27 : decode cX12_ofReadNow 27 = .ok (.aload_n 1, 1) := by decide +kernel
theorem dX12_ofReadNow_28 : decode cX12_ofReadNow 28 = .ok (.getfield 257, 3) := by decide +kernel
theorem dX12_ofReadNow_31 : decode cX12_ofReadNow 31 = .ok (.iastore, 1) := by decide +kernel
theorem dX12_ofReadNow_32 : decode cX12_ofReadNow 32 = .ok (.dup, 1) := by decide +kernel
theorem dX12_ofReadNow_33 : decode cX12_ofReadNow 33 = .ok (.iconst 4, 1) := by decide +kernel
theorem dX12_ofReadNow_34 : decode cX12_ofReadNow 34 = .ok (.aload_n 1, 1) := by decide +kernel
theorem dX12_ofReadNow_35 : decode cX12_ofReadNow 35 = .ok (.getfield 258, 3) := by decide +kernel
theorem dX12_ofReadNow_38 : decode cX12_ofReadNow 38 = .ok (.iastore, 1) := by decide +kernel
theorem dX12_ofReadNow_39 : decode cX12_ofReadNow 39 = .ok (.dup, 1) := by decide +kernel
theorem dX12_ofReadNow_40 : decode cX12_ofReadNow 40 = .ok (.iconst 5, 1) := by decide +kernel
theorem dX12_ofReadNow_41 : decode cX12_ofReadNow 41 = .ok (.aload_n 1, 1) := by decide +kernel
theorem dX12_ofReadNow_42 : decode cX12_ofReadNow 42 = .ok (.getfield 220, 3) := by decide +kernel
theorem dX12_ofReadNow_45 : decode cX12_ofReadNow 45 = .ok (.iastore, 1) := by decide +kernel
theorem dX12_ofReadNow_46 : decode cX12_ofReadNow 46 = .ok (.dup, 1) := by decide +kernel
theorem dX12_ofReadNow_47 : decode cX12_ofReadNow 47 = .ok (.bipush 6, 2) := by decide +kernel
theorem dX12_ofReadNow_49 : decode cX12_ofReadNow 49 = .ok (.aload_n 1, 1) := by decide +kernel
theorem dX12_ofReadNow_50 : decode cX12_ofReadNow 50 = .ok (.invokevirtual 223, 3) := by decide +kernel
theorem dX12_ofReadNow_53 : decode cX12_ofReadNow 53 = .ok (.iastore, 1) := by decide +kernel
theorem dX12_ofReadNow_54 : decode cX12_ofReadNow 54 = .ok (.dup, 1) := by decide +kernel
theorem dX12_ofReadNow_55 : decode cX12_ofReadNow 55 = .ok (.bipush 7, 2) := by decide +kernel
theorem dX12_ofReadNow_57 : decode cX12_ofReadNow 57 = .ok (.aload_n 1, 1) := by decide +kernel
theorem dX12_ofReadNow_58 : decode cX12_ofReadNow 58 = .ok (.getfield 239, 3) := by decide +kernel
theorem dX12_ofReadNow_61 : decode cX12_ofReadNow 61 = .ok (.iastore, 1) := by decide +kernel
theorem dX12_ofReadNow_62 : decode cX12_ofReadNow 62 = .ok (.dup, 1) := by decide +kernel
theorem dX12_ofReadNow_63 : decode cX12_ofReadNow 63 = .ok (.bipush 8, 2) := by decide +kernel
theorem dX12_ofReadNow_65 : decode cX12_ofReadNow 65 = .ok (.aload_n 1, 1) := by decide +kernel
theorem dX12_ofReadNow_66 : decode cX12_ofReadNow 66 = .ok (.invokevirtual 176, 3) := by decide +kernel
theorem dX12_ofReadNow_69 : decode cX12_ofReadNow 69 = .ok (.iastore, 1) := by decide +kernel
theorem dX12_ofReadNow_70 : decode cX12_ofReadNow 70 = .ok (.dup, 1) := by decide +kernel
theorem dX12_ofReadNow_71 : decode cX12_ofReadNow 71 = .ok (.bipush 9, 2) := by decide +kernel
theorem dX12_ofReadNow_73 : decode cX12_ofReadNow 73 = .ok (.aload_n 1, 1) := by decide +kernel
theorem dX12_ofReadNow_74 : decode cX12_ofReadNow 74 = .ok (.aload_n 0, 1) := by decide +kernel
theorem dX12_ofReadNow_75 : decode cX12_ofReadNow 75 = .ok (.invokevirtual 154, 3) := by decide +kernel
theorem dX12_ofReadNow_78 : decode cX12_ofReadNow 78 = .ok (.iastore, 1) := by decide +kernel
theorem dX12_ofReadNow_79 : decode cX12_ofReadNow 79 = .ok (.dup, 1) := by decide +kernel
theorem dX12_ofReadNow_80 : decode cX12_ofReadNow 80 = .ok (.bipush 10, 2) := by decide +kernel
theorem dX12_ofReadNow_82 : decode cX12_ofReadNow 82 = .ok (.aload_n 1, 1) := by decide +kernel
theorem dX12_ofReadNow_83 : decode cX12_ofReadNow 83 = .ok (.getfield 260, 3) := by decide +kernel
theorem dX12_ofReadNow_86 : decode cX12_ofReadNow 86 = .ok (.iastore, 1) := by decide +kernel
theorem dX12_ofReadNow_87 : decode cX12_ofReadNow 87 = .ok (.dup, 1) := by decide +kernel
theorem dX12_ofReadNow_88 : decode cX12_ofReadNow 88 = .ok (.bipush 11, 2) := by decide +kernel
theorem dX12_ofReadNow_90 : decode cX12_ofReadNow 90 = .ok (.aload_n 1, 1) := by decide +kernel
theorem dX12_ofReadNow_91 : decode cX12_ofReadNow 91 = .ok (.getfield 263, 3) := by decide +kernel
theorem dX12_ofReadNow_94 : decode cX12_ofReadNow 94 = .ok (.iastore, 1) := by decide +kernel
theorem dX12_ofReadNow_95 : decode cX12_ofReadNow 95 = .ok (.astore_n 3, 1) := by decide +kernel
theorem dX12_ofReadNow_96 : decode cX12_ofReadNow 96 = .ok (.aload_n 3, 1) := by decide +kernel
theorem dX12_ofReadNow_97 : decode cX12_ofReadNow 97 = .ok (.iload_n 2, 1) := by decide +kernel
theorem dX12_ofReadNow_98 : decode cX12_ofReadNow 98 = .ok (.iaload, 1) := by decide +kernel
theorem dX12_ofReadNow_99 : decode cX12_ofReadNow 99 = .ok (.ireturn, 1) := by decide +kernel
set_option maxRecDepth 20000 in
theorem ggX12_ofRead_Jx4a65c_size_8abf5 : GoodIn wsX12_ofRead wsJx4a65c_size_8abf5 := goodIn_r _ [7, 8, 104, 105, 106] (by decide +kernel) (by decide +kernel)
set_option maxRecDepth 20000 in
theorem gX12_ofRead_Jx4a65c_size_8abf5 : GoodIn wsX12_ofRead (wsV RX12 33 RJx4a65c yJx4a65c_size_8abf5 wsJx4a65c_size_8abf5) := goodIn_app (goodIn_of _ (by decide +kernel)) ggX12_ofRead_Jx4a65c_size_8abf5
set_option maxRecDepth 20000 in
theorem ggX12_ofRead_X12_isIn : GoodIn wsX12_ofRead wsX12_isIn := goodIn_r _ [12] (by decide +kernel) (by decide +kernel)
set_option maxRecDepth 20000 in
theorem gX12_ofRead_X12_isIn : GoodIn wsX12_ofRead (va_wsS RX12 37 yX12_isIn wsX12_isIn) := goodIn_app (goodIn_of _ (by decide +kernel)) ggX12_ofRead_X12_isIn
set_option maxRecDepth 20000 in
theorem ggX12_ofRead_X12_start : GoodIn wsX12_ofRead wsX12_start := goodIn_r _ [16, 17, 18, 19, 20, 11, 21, 98, 99, 100, 101, 102, 103] (by decide +kernel) (by decide +kernel)
set_option maxRecDepth 20000 in
theorem gX12_ofRead_X12_start : GoodIn wsX12_ofRead (wsV RX12 104 RX12 yX12_start wsX12_start) := goodIn_app (goodIn_of _ (by decide +kernel)) ggX12_ofRead_X12_start
set_option maxRecDepth 20000 in
theorem ggX12_ofRead_X12_refuse : GoodIn wsX12_ofRead wsX12_refuse := goodIn_r _ [21, 17, 98, 99, 100, 101, 102, 103] (by decide +kernel) (by decide +kernel)
set_option maxRecDepth 20000 in
theorem gX12_ofRead_X12_refuse : GoodIn wsX12_ofRead (wsV RX12 29 RX12 yX12_refuse wsX12_refuse) := goodIn_app (goodIn_of _ (by decide +kernel)) ggX12_ofRead_X12_refuse
set_option maxRecDepth 20000 in
theorem ggX12_ofRead_X12_harms : GoodIn wsX12_ofRead wsX12_harms := goodIn_r _ [25, 26, 27, 28, 29, 30, 31, 32, 33, 34, 35, 36, 37, 38, 39, 40, 41, 42, 3, 4, 5, 6, 7, 8, 43, 44, 45, 46, 47, 48, 49, 50, 51, 52, 53, 54, 55, 56, 57, 58, 59, 98, 99, 100, 101, 102, 103, 107, 108, 109, 110, 111, 112, 113, 114, 115, 116, 117, 118, 119, 120, 104, 105, 106] (by decide +kernel) (by decide +kernel)
set_option maxRecDepth 20000 in
theorem gX12_ofRead_X12_harms : GoodIn wsX12_ofRead (wsV RX12 148 RX12 yX12_harms wsX12_harms) := goodIn_app (goodIn_of _ (by decide +kernel)) ggX12_ofRead_X12_harms
set_option maxRecDepth 20000 in
theorem ggX12_ofRead_Jx4a65c_get_915e3 : GoodIn wsX12_ofRead wsJx4a65c_get_915e3 := goodIn_r _ [46, 8, 47, 48, 49, 50, 51, 52, 53, 54, 55, 56, 57, 6, 58, 59, 104, 105, 106] (by decide +kernel) (by decide +kernel)
set_option maxRecDepth 20000 in
theorem gX12_ofRead_Jx4a65c_get_915e3 : GoodIn wsX12_ofRead (wsV RX12 45 RJx4a65c yJx4a65c_get_915e3 wsJx4a65c_get_915e3) := goodIn_app (goodIn_of _ (by decide +kernel)) ggX12_ofRead_Jx4a65c_get_915e3
set_option maxRecDepth 20000 in
theorem ggX12_ofRead_X12_ofReadNow : GoodIn wsX12_ofRead wsX12_ofReadNow := goodIn_r _ [62, 63, 64, 65, 66, 67, 68, 69, 70, 71, 72, 73, 74, 75, 76, 77, 78, 79, 80, 81, 82, 83, 84, 85, 86, 87, 88, 89, 90, 91, 92, 93, 94, 95, 96, 97, 121, 122, 123, 124, 125, 126, 127, 128, 129, 130] (by decide +kernel) (by decide +kernel)
set_option maxRecDepth 20000 in
theorem gX12_ofRead_X12_ofReadNow : GoodIn wsX12_ofRead (va_wsS RX12 266 yX12_ofReadNow wsX12_ofReadNow) := goodIn_app (goodIn_of _ (by decide +kernel)) ggX12_ofRead_X12_ofReadNow
theorem dX12_ofRead_0 : decode cX12_ofRead 0 = .ok (.aload_n 0, 1) := by decide +kernel
theorem dX12_ofRead_1 : decode cX12_ofRead 1 = .ok (.iload_n 1, 1) := by decide +kernel
theorem dX12_ofRead_2 : decode cX12_ofRead 2 = .ok (.iconst 0, 1) := by decide +kernel
theorem dX12_ofRead_3 : decode cX12_ofRead 3 = .ok (.aload_n 0, 1) := by decide +kernel
theorem dX12_ofRead_4 : decode cX12_ofRead 4 = .ok (.getfield 22, 3) := by decide +kernel
theorem dX12_ofRead_7 : decode cX12_ofRead 7 = .ok (.invokevirtual 33, 3) := by decide +kernel
theorem dX12_ofRead_10 : decode cX12_ofRead 10 = .ok (.iconst 1, 1) := by decide +kernel
theorem dX12_ofRead_11 : decode cX12_ofRead 11 = .ok (.isub, 1) := by decide +kernel
theorem dX12_ofRead_12 : decode cX12_ofRead 12 = .ok (.invokestatic 37, 3) := by decide +kernel
theorem dX12_ofRead_15 : decode cX12_ofRead 15 = .ok (.ifCond .ne 7, 3) := by decide +kernel
theorem dX12_ofRead_18 : decode cX12_ofRead 18 = .ok (.iconst 1, 1) := by decide +kernel
theorem dX12_ofRead_19 : decode cX12_ofRead 19 = .ok (.goto 4, 3) := by decide +kernel
theorem dX12_ofRead_22 : decode cX12_ofRead 22 = .ok (.iconst 0, 1) := by decide +kernel
theorem dX12_ofRead_23 : decode cX12_ofRead 23 = .ok (.iconst 1, 1) := by decide +kernel
theorem dX12_ofRead_24 : decode cX12_ofRead 24 = .ok (.invokevirtual 104, 3) := by decide +kernel
theorem dX12_ofRead_27 : decode cX12_ofRead 27 = .ok (.ifCond .ne 26, 3) := by decide +kernel
theorem dX12_ofRead_30 : decode cX12_ofRead 30 = .ok (.aload_n 0, 1) := by decide +kernel
theorem dX12_ofRead_31 : decode cX12_ofRead 31 = .ok (.iload_n 2, 1) := by decide +kernel
theorem dX12_ofRead_32 : decode cX12_ofRead 32 = .ok (.iconst 0, 1) := by decide +kernel
theorem dX12_ofRead_33 : decode cX12_ofRead 33 = .ok (.bipush 11, 2) := by decide +kernel
theorem dX12_ofRead_35 : decode cX12_ofRead 35 = .ok (.invokestatic 37, 3) := by decide +kernel
theorem dX12_ofRead_38 : decode cX12_ofRead 38 = .ok (.ifCond .ne 7, 3) := by decide +kernel
theorem dX12_ofRead_41 : decode cX12_ofRead 41 = .ok (.iconst 1, 1) := by decide +kernel
theorem dX12_ofRead_42 : decode cX12_ofRead 42 = .ok (.goto 4, 3) := by decide +kernel
theorem dX12_ofRead_45 : decode cX12_ofRead 45 = .ok (.iconst 0, 1) := by decide +kernel
theorem dX12_ofRead_46 : decode cX12_ofRead 46 = .ok (.iconst 2, 1) := by decide +kernel
theorem dX12_ofRead_47 : decode cX12_ofRead 47 = .ok (.invokevirtual 29, 3) := by decide +kernel
theorem dX12_ofRead_50 : decode cX12_ofRead 50 = .ok (.ifCond .eq 7, 3) := by decide +kernel
theorem dX12_ofRead_53 : decode cX12_ofRead 53 = .ok (.iconst 0, 1) := by decide +kernel
theorem dX12_ofRead_54 : decode cX12_ofRead 54 = .ok (.goto 22, 3) := by decide +kernel
theorem dX12_ofRead_57 : decode cX12_ofRead 57 = .ok (.aload_n 0, 1) := by decide +kernel
theorem dX12_ofRead_58 : decode cX12_ofRead 58 = .ok (.invokevirtual 148, 3) := by decide +kernel
theorem dX12_ofRead_61 : decode cX12_ofRead 61 = .ok (.aload_n 0, 1) := by decide +kernel
theorem dX12_ofRead_62 : decode cX12_ofRead 62 = .ok (.getfield 22, 3) := by decide +kernel
theorem dX12_ofRead_65 : decode cX12_ofRead 65 = .ok (.iload_n 1, 1) := by decide +kernel
theorem dX12_ofRead_66 : decode cX12_ofRead 66 = .ok (.invokevirtual 45, 3) := by decide +kernel
theorem dX12_ofRead_69 : decode cX12_ofRead 69 = .ok (.checkcast 152, 3) := by decide +kernel
theorem dX12_ofRead_72 : decode cX12_ofRead 72 = .ok (.iload_n 2, 1) := by decide +kernel
theorem dX12_ofRead_73 : decode cX12_ofRead 73 = .ok (.invokestatic 266, 3) := by decide +kernel
theorem dX12_ofRead_76 : decode cX12_ofRead 76 = .ok (.ireturn, 1) := by decide +kernel
set_option maxRecDepth 20000 in
theorem ggX12_contractsOf_Jx4a65c_size_8abf5 : GoodIn wsX12_contractsOf wsJx4a65c_size_8abf5 := goodIn_r _ [9, 10, 47, 48, 49] (by decide +kernel) (by decide +kernel)
set_option maxRecDepth 20000 in
theorem gX12_contractsOf_Jx4a65c_size_8abf5 : GoodIn wsX12_contractsOf (wsV RX12 33 RJx4a65c yJx4a65c_size_8abf5 wsJx4a65c_size_8abf5) := goodIn_app (goodIn_of _ (by decide +kernel)) ggX12_contractsOf_Jx4a65c_size_8abf5
set_option maxRecDepth 20000 in
theorem ggX12_contractsOf_Jx4a65c_get_915e3 : GoodIn wsX12_contractsOf wsJx4a65c_get_915e3 := goodIn_r _ [14, 10, 15, 16, 17, 18, 19, 20, 21, 22, 23, 24, 25, 8, 26, 27, 47, 48, 49] (by decide +kernel) (by decide +kernel)
set_option maxRecDepth 20000 in
theorem gX12_contractsOf_Jx4a65c_get_915e3 : GoodIn wsX12_contractsOf (wsV RX12 45 RJx4a65c yJx4a65c_get_915e3 wsJx4a65c_get_915e3) := goodIn_app (goodIn_of _ (by decide +kernel)) ggX12_contractsOf_Jx4a65c_get_915e3
set_option maxRecDepth 20000 in
theorem ggX12_contractsOf_X6_has : GoodIn wsX12_contractsOf wsX6_has := goodIn_r _ [32, 33, 34, 41, 42, 43, 44, 45, 46] (by decide +kernel) (by decide +kernel)
set_option maxRecDepth 20000 in
theorem gX12_contractsOf_X6_has : GoodIn wsX12_contractsOf (wsV RX12 271 RX6 yX6_has wsX6_has) := goodIn_app (goodIn_of _ (by decide +kernel)) ggX12_contractsOf_X6_has
theorem dX12_contractsOf_0 : decode cX12_contractsOf 0 = .ok (.iconst 0, 1) := by decide +kernel
theorem dX12_contractsOf_1 : decode cX12_contractsOf 1 = .ok (.istore_n 2, 1) := by decide +kernel
theorem dX12_contractsOf_2 : decode cX12_contractsOf 2 = .ok (.iconst 0, 1) := by decide +kernel
theorem dX12_contractsOf_3 : decode cX12_contractsOf 3 = .ok (.istore_n 3, 1) := by decide +kernel
theorem dX12_contractsOf_4 : decode cX12_contractsOf 4 = .ok (.iload_n 3, 1) := by decide +kernel
theorem dX12_contractsOf_5 : decode cX12_contractsOf 5 = .ok (.aload_n 0, 1) := by decide +kernel
theorem dX12_contractsOf_6 : decode cX12_contractsOf 6 = .ok (.getfield 19, 3) := by decide +kernel
theorem dX12_contractsOf_9 : decode cX12_contractsOf 9 = .ok (.invokevirtual 33, 3) := by decide +kernel
theorem dX12_contractsOf_12 : decode cX12_contractsOf 12 = .ok (.if_icmp .ge 56, 3) := by decide +kernel
theorem dX12_contractsOf_15 : decode cX12_contractsOf 15 = .ok (.iload_n 2, 1) := by decide +kernel
theorem dX12_contractsOf_16 : decode cX12_contractsOf 16 = .ok (.aload_n 0, 1) := by decide +kernel
theorem dX12_contractsOf_17 : decode cX12_contractsOf 17 = .ok (.getfield 19, 3) := by decide +kernel
theorem dX12_contractsOf_20 : decode cX12_contractsOf 20 = .ok (.iload_n 3, 1) := by decide +kernel
theorem dX12_contractsOf_21 : decode cX12_contractsOf 21 = .ok (.invokevirtual 45, 3) := by decide +kernel
theorem dX12_contractsOf_24 : decode cX12_contractsOf 24 = .ok (.checkcast 196, 3) := by decide +kernel
theorem dX12_contractsOf_27 : decode cX12_contractsOf 27 = .ok (.getfield 270, 3) := by decide +kernel
theorem dX12_contractsOf_30 : decode cX12_contractsOf 30 = .ok (.iload_n 1, 1) := by decide +kernel
theorem dX12_contractsOf_31 : decode cX12_contractsOf 31 = .ok (.if_icmp .ne 28, 3) := by decide +kernel
theorem dX12_contractsOf_34 : decode cX12_contractsOf 34 = .ok (.aload_n 0, 1) := by decide +kernel
theorem dX12_contractsOf_35 : decode cX12_contractsOf 35 = .ok (.getfield 19, 3) := by decide +kernel
theorem dX12_contractsOf_38 : decode cX12_contractsOf 38 = .ok (.iload_n 3, 1) := by decide +kernel
theorem dX12_contractsOf_39 : decode cX12_contractsOf 39 = .ok (.invokevirtual 45, 3) := by decide +kernel
theorem dX12_contractsOf_42 : decode cX12_contractsOf 42 = .ok (.checkcast 196, 3) := by decide +kernel
theorem dX12_contractsOf_45 : decode cX12_contractsOf 45 = .ok (.aload_n 0, 1) := by decide +kernel
theorem dX12_contractsOf_46 : decode cX12_contractsOf 46 = .ok (.getfield 193, 3) := by decide +kernel
theorem dX12_contractsOf_49 : decode cX12_contractsOf 49 = .ok (.invokevirtual 271, 3) := by decide +kernel
theorem dX12_contractsOf_52 : decode cX12_contractsOf 52 = .ok (.ifCond .eq 7, 3) := by decide +kernel
theorem dX12_contractsOf_55 : decode cX12_contractsOf 55 = .ok (.iconst 1, 1) := by decide +kernel
theorem dX12_contractsOf_56 : decode cX12_contractsOf 56 = .ok (.goto 4, 3) := by decide +kernel
theorem dX12_contractsOf_59 : decode cX12_contractsOf 59 = .ok (.iconst 0, 1) := by decide +kernel
theorem dX12_contractsOf_60 : decode cX12_contractsOf 60 = .ok (.iadd, 1) := by decide +kernel
theorem dX12_contractsOf_61 : decode cX12_contractsOf 61 = .ok (.istore_n 2, 1) := by decide +kernel
theorem dX12_contractsOf_62 : decode cX12_contractsOf 62 = .ok (.iinc 3 1, 3) := by decide +kernel
theorem dX12_contractsOf_65 : decode cX12_contractsOf 65 = .ok (.goto (-61), 3) := by decide +kernel
theorem dX12_contractsOf_68 : decode cX12_contractsOf 68 = .ok (.iload_n 2, 1) := by decide +kernel
theorem dX12_contractsOf_69 : decode cX12_contractsOf 69 = .ok (.ireturn, 1) := by decide +kernel
set_option maxRecDepth 20000 in
theorem ggX12_ofReaderNow_X12_unitsNow : GoodIn wsX12_ofReaderNow wsX12_unitsNow := goodIn_r _ [10, 1, 2, 3, 11, 12, 13, 14, 15, 16, 17, 18, 19, 20, 21, 22, 23, 24, 25, 26, 27, 28, 29, 30, 31, 32, 33, 34, 35, 36, 37, 38, 39, 40, 41, 42, 43, 44, 45, 46, 47, 48, 49, 81, 82, 83, 84, 85, 86, 87, 88, 89, 90, 91, 92, 93, 94, 95, 96, 97, 98, 99] (by decide +kernel) (by decide +kernel)
set_option maxRecDepth 20000 in
theorem gX12_ofReaderNow_X12_unitsNow : GoodIn wsX12_ofReaderNow (wsV RX12 226 RX12 yX12_unitsNow wsX12_unitsNow) := goodIn_app (goodIn_of _ (by decide +kernel)) ggX12_ofReaderNow_X12_unitsNow
set_option maxRecDepth 20000 in
theorem ggX12_ofReaderNow_X12_contractsOf : GoodIn wsX12_ofReaderNow wsX12_contractsOf := goodIn_r _ [53, 54, 55, 56, 12, 13, 14, 15, 16, 17, 18, 19, 20, 21, 22, 23, 24, 25, 26, 27, 28, 29, 30, 31, 32, 33, 34, 35, 57, 58, 59, 60, 61, 62, 63, 81, 82, 83, 84, 85, 86, 100, 101, 102, 103, 104, 105, 97, 98, 99] (by decide +kernel) (by decide +kernel)
set_option maxRecDepth 20000 in
theorem gX12_ofReaderNow_X12_contractsOf : GoodIn wsX12_ofReaderNow (wsV RX12 274 RX12 yX12_contractsOf wsX12_contractsOf) := goodIn_app (goodIn_of _ (by decide +kernel)) ggX12_ofReaderNow_X12_contractsOf
set_option maxRecDepth 20000 in
theorem ggX12_ofReaderNow_Jx4a65c_size_8abf5 : GoodIn wsX12_ofReaderNow wsJx4a65c_size_8abf5 := goodIn_r _ [17, 18, 97, 98, 99] (by decide +kernel) (by decide +kernel)
set_option maxRecDepth 20000 in
theorem gX12_ofReaderNow_Jx4a65c_size_8abf5 : GoodIn wsX12_ofReaderNow (wsV RX12 33 RJx4a65c yJx4a65c_size_8abf5 wsJx4a65c_size_8abf5) := goodIn_app (goodIn_of _ (by decide +kernel)) ggX12_ofReaderNow_Jx4a65c_size_8abf5
set_option maxRecDepth 20000 in
theorem ggX12_ofReaderNow_Jx4a65c_get_915e3 : GoodIn wsX12_ofReaderNow wsJx4a65c_get_915e3 := goodIn_r _ [22, 18, 23, 24, 25, 26, 27, 28, 29, 30, 31, 32, 33, 16, 34, 35, 97, 98, 99] (by decide +kernel) (by decide +kernel)
set_option maxRecDepth 20000 in
theorem gX12_ofReaderNow_Jx4a65c_get_915e3 : GoodIn wsX12_ofReaderNow (wsV RX12 45 RJx4a65c yJx4a65c_get_915e3 wsJx4a65c_get_915e3) := goodIn_app (goodIn_of _ (by decide +kernel)) ggX12_ofReaderNow_Jx4a65c_get_915e3
set_option maxRecDepth 20000 in
theorem ggX12_ofReaderNow_X9_charge : GoodIn wsX12_ofReaderNow wsX9_charge := goodIn_r _ [67, 68, 87, 88, 89, 90, 91, 92, 93, 94, 95, 96] (by decide +kernel) (by decide +kernel)
set_option maxRecDepth 20000 in
theorem gX12_ofReaderNow_X9_charge : GoodIn wsX12_ofReaderNow (wsV RX12 176 RX9 yX9_charge wsX9_charge) := goodIn_app (goodIn_of _ (by decide +kernel)) ggX12_ofReaderNow_X9_charge
set_option maxRecDepth 20000 in
theorem ggX12_ofReaderNow_X9_credit : GoodIn wsX12_ofReaderNow wsX9_credit := goodIn_r _ [72, 68, 73, 74, 87, 88, 89, 90, 91, 92, 93, 94, 95, 96] (by decide +kernel) (by decide +kernel)
set_option maxRecDepth 20000 in
theorem gX12_ofReaderNow_X9_credit : GoodIn wsX12_ofReaderNow (wsV RX12 154 RX9 yX9_credit wsX9_credit) := goodIn_app (goodIn_of _ (by decide +kernel)) ggX12_ofReaderNow_X9_credit
set_option maxRecDepth 20000 in
theorem ggX12_ofReaderNow_X9_worth : GoodIn wsX12_ofReaderNow wsX9_worth := goodIn_r _ [78, 79, 65, 66, 39, 67, 68, 80, 70, 71, 72, 73, 74, 87, 88, 89, 90, 91, 92, 93, 94, 95, 96] (by decide +kernel) (by decide +kernel)
set_option maxRecDepth 20000 in
theorem gX12_ofReaderNow_X9_worth : GoodIn wsX12_ofReaderNow (wsV RX12 277 RX9 yX9_worth wsX9_worth) := goodIn_app (goodIn_of _ (by decide +kernel)) ggX12_ofReaderNow_X9_worth
theorem dX12_ofReaderNow_0 : decode cX12_ofReaderNow 0 = .ok (.iload_n 3, 1) := by decide +kernel
theorem dX12_ofReaderNow_1 : decode cX12_ofReaderNow 1 = .ok (.ifCond .ne 9, 3) := by decide +kernel
theorem dX12_ofReaderNow_4 : decode cX12_ofReaderNow 4 = .ok (.aload_n 0, 1) := by decide +kernel
theorem dX12_ofReaderNow_5 : decode cX12_ofReaderNow 5 = .ok (.iload_n 2, 1) := by decide +kernel
theorem dX12_ofReaderNow_6 : decode cX12_ofReaderNow 6 = .ok (.invokevirtual 226, 3) := by decide +kernel
theorem dX12_ofReaderNow_9 : decode cX12_ofReaderNow 9 = .ok (.ireturn, 1) := by decide +kernel
theorem dX12_ofReaderNow_10 : decode cX12_ofReaderNow 10 = .ok (.iload_n 3, 1) := by decide +kernel
theorem dX12_ofReaderNow_11 : decode cX12_ofReaderNow 11 = .ok (.bipush 6, 2) := by decide +kernel
theorem dX12_ofReaderNow_13 : decode cX12_ofReaderNow 13 = .ok (.if_icmp .ne 9, 3) := by decide +kernel
theorem dX12_ofReaderNow_16 : decode cX12_ofReaderNow 16 = .ok (.aload_n 0, 1) := by decide +kernel
theorem dX12_ofReaderNow_17 : decode cX12_ofReaderNow 17 = .ok (.iload_n 2, 1) := by decide +kernel
theorem dX12_ofReaderNow_18 : decode cX12_ofReaderNow 18 = .ok (.invokevirtual 274, 3) := by decide +kernel
theorem dX12_ofReaderNow_21 : decode cX12_ofReaderNow 21 = .ok (.ireturn, 1) := by decide +kernel
theorem dX12_ofReaderNow_22 : decode cX12_ofReaderNow 22 = .ok (.iconst 0, 1) := by decide +kernel
theorem dX12_ofReaderNow_23 : decode cX12_ofReaderNow 23 = .ok (.istore 4, 2) := by decide +kernel
theorem dX12_ofReaderNow_25 : decode cX12_ofReaderNow 25 = .ok (.iconst 0, 1) := by decide +kernel
theorem dX12_ofReaderNow_26 : decode cX12_ofReaderNow 26 = .ok (.istore 5, 2) := by decide +kernel
theorem dX12_ofReaderNow_28 : decode cX12_ofReaderNow 28 = .ok (.iload 5, 2) := by decide +kernel
theorem dX12_ofReaderNow_30 : decode cX12_ofReaderNow 30 = .ok (.aload_n 0, 1) := by decide +kernel
theorem dX12_ofReaderNow_31 : decode cX12_ofReaderNow 31 = .ok (.getfield 22, 3) := by decide +kernel
theorem dX12_ofReaderNow_34 : decode cX12_ofReaderNow 34 = .ok (.invokevirtual 33, 3) := by decide +kernel
theorem dX12_ofReaderNow_37 : decode cX12_ofReaderNow 37 = .ok (.if_icmp .ge 98, 3) := by decide +kernel
theorem dX12_ofReaderNow_40 : decode cX12_ofReaderNow 40 = .ok (.aload_n 0, 1) := by decide +kernel
theorem dX12_ofReaderNow_41 : decode cX12_ofReaderNow 41 = .ok (.getfield 22, 3) := by decide +kernel
theorem dX12_ofReaderNow_44 : decode cX12_ofReaderNow 44 = .ok (.iload 5, 2) := by decide +kernel
theorem dX12_ofReaderNow_46 : decode cX12_ofReaderNow 46 = .ok (.invokevirtual 45, 3) := by decide +kernel
theorem dX12_ofReaderNow_49 : decode cX12_ofReaderNow 49 = .ok (.checkcast 152, 3) := by decide +kernel
theorem dX12_ofReaderNow_52 : decode cX12_ofReaderNow 52 = .ok (.astore 6, 2) := by decide +kernel
theorem dX12_ofReaderNow_54 : decode cX12_ofReaderNow 54 = .ok (.aload 6, 2) := by decide +kernel
theorem dX12_ofReaderNow_56 : decode cX12_ofReaderNow 56 = .ok (.getfield 217, 3) := by decide +kernel
theorem dX12_ofReaderNow_59 : decode cX12_ofReaderNow 59 = .ok (.iload_n 2, 1) := by decide +kernel
theorem dX12_ofReaderNow_60 : decode cX12_ofReaderNow 60 = .ok (.if_icmp .eq 6, 3) := by decide +kernel
theorem dX12_ofReaderNow_63 : decode cX12_ofReaderNow 63 = .ok (.goto 66, 3) := by decide +kernel
theorem dX12_ofReaderNow_66 : decode cX12_ofReaderNow 66 = .ok (.bipush 6, 2) := by decide +kernel
theorem dX12_ofReaderNow_68 : decode cX12_ofReaderNow 68 = .ok (.newarray .int, 2) := by decide +kernel
theorem dX12_ofReaderNow_70 : decode cX12_ofReaderNow 70 = .ok (.dup, 1) := by decide +kernel
theorem dX12_ofReaderNow_71 : decode cX12_ofReaderNow 71 = .ok (.iconst 0, 1) := by decide +kernel
theorem dX12_ofReaderNow_72 : decode cX12_ofReaderNow 72 = .ok (.iconst 0, 1) := by decide +kernel
theorem dX12_ofReaderNow_73 : decode cX12_ofReaderNow 73 = .ok (.iastore, 1) := by decide +kernel
theorem dX12_ofReaderNow_74 : decode cX12_ofReaderNow 74 = .ok (.dup, 1) := by decide +kernel
theorem dX12_ofReaderNow_75 : decode cX12_ofReaderNow 75 = .ok (.iconst 1, 1) := by decide +kernel
theorem dX12_ofReaderNow_76 : decode cX12_ofReaderNow 76 = .ok (.iconst 1, 1) := by decide +kernel
theorem dX12_ofReaderNow_77 : decode cX12_ofReaderNow 77 = .ok (.iastore, 1) := by decide +kernel
theorem dX12_ofReaderNow_78 : decode cX12_ofReaderNow 78 = .ok (.dup, 1) := by decide +kernel
theorem dX12_ofReaderNow_79 : decode cX12_ofReaderNow 79 = .ok (.iconst 2, 1) := by decide +kernel
theorem dX12_ofReaderNow_80 : decode cX12_ofReaderNow 80 = .ok (.aload 6, 2) := by decide +kernel
theorem dX12_ofReaderNow_82 : decode cX12_ofReaderNow 82 = .ok (.invokevirtual 176, 3) := by decide +kernel
theorem dX12_ofReaderNow_85 : decode cX12_ofReaderNow 85 = .ok (.iastore, 1) := by decide +kernel
theorem dX12_ofReaderNow_86 : decode cX12_ofReaderNow 86 = .ok (.dup, 1) := by decide +kernel
theorem dX12_ofReaderNow_87 : decode cX12_ofReaderNow 87 = .ok (.iconst 3, 1) := by decide +kernel
theorem dX12_ofReaderNow_88 : decode cX12_ofReaderNow 88 = .ok (.aload 6, 2) := by decide +kernel
theorem dX12_ofReaderNow_90 : decode cX12_ofReaderNow 90 = .ok (.aload_n 1, 1) := by decide +kernel
theorem dX12_ofReaderNow_91 : decode cX12_ofReaderNow 91 = .ok (.invokevirtual 154, 3) := by decide +kernel
theorem dX12_ofReaderNow_94 : decode cX12_ofReaderNow 94 = .ok (.iastore, 1) := by decide +kernel
theorem dX12_ofReaderNow_95 : decode cX12_ofReaderNow 95 = .ok (.dup, 1) := by decide +kernel
theorem dX12_ofReaderNow_96 : decode cX12_ofReaderNow 96 = .ok (.iconst 4, 1) := by decide +kernel
theorem dX12_ofReaderNow_97 : decode cX12_ofReaderNow 97 = .ok (.aload 6, 2) := by decide +kernel
theorem dX12_ofReaderNow_99 : decode cX12_ofReaderNow 99 = .ok (.getfield 260, 3) := by decide +kernel
theorem dX12_ofReaderNow_102 : decode cX12_ofReaderNow 102 = .ok (.iastore, 1) := by decide +kernel
theorem dX12_ofReaderNow_103 : decode cX12_ofReaderNow 103 = .ok (.dup, 1) := by decide +kernel
theorem dX12_ofReaderNow_104 : decode cX12_ofReaderNow 104 = .ok (.iconst 5, 1) := by decide +kernel
theorem dX12_ofReaderNow_105 : decode cX12_ofReaderNow 105 = .ok (.aload 6, 2) := by decide +kernel
theorem dX12_ofReaderNow_107 : decode cX12_ofReaderNow 107 = .ok (.aload_n 1, 1) := by decide +kernel
theorem dX12_ofReaderNow_108 : decode cX12_ofReaderNow 108 = .ok (.invokevirtual 277, 3) := by decide +kernel
theorem dX12_ofReaderNow_111 : decode cX12_ofReaderNow 111 = .ok (.aload 6, 2) := by decide +kernel
theorem dX12_ofReaderNow_113 : decode cX12_ofReaderNow 113 = .ok (.getfield 260, 3) := by decide +kernel
theorem dX12_ofReaderNow_116 : decode cX12_ofReaderNow 116 = .ok (.isub, 1) := by decide +kernel
theorem dX12_ofReaderNow_117 : decode cX12_ofReaderNow 117 = .ok (.iastore, 1) := by decide +kernel
theorem dX12_ofReaderNow_118 : decode cX12_ofReaderNow 118 = .ok (.astore 7, 2) := by decide +kernel
theorem dX12_ofReaderNow_120 : decode cX12_ofReaderNow 120 = .ok (.iload 4, 2) := by decide +kernel
theorem dX12_ofReaderNow_122 : decode cX12_ofReaderNow 122 = .ok (.aload 7, 2) := by decide +kernel
theorem dX12_ofReaderNow_124 : decode cX12_ofReaderNow 124 = .ok (.iload_n 3, 1) := by decide +kernel
theorem dX12_ofReaderNow_125 : decode cX12_ofReaderNow 125 = .ok (.iaload, 1) := by decide +kernel
theorem dX12_ofReaderNow_126 : decode cX12_ofReaderNow 126 = .ok (.iadd, 1) := by decide +kernel
theorem dX12_ofReaderNow_127 : decode cX12_ofReaderNow 127 = .ok (.istore 4, 2) := by decide +kernel
theorem dX12_ofReaderNow_129 : decode cX12_ofReaderNow 129 = .ok (.iinc 5 1, 3) := by decide +kernel
theorem dX12_ofReaderNow_132 : decode cX12_ofReaderNow 132 = .ok (.goto (-104), 3) := by decide +kernel
theorem dX12_ofReaderNow_135 : decode cX12_ofReaderNow 135 = .ok (.iload 4, 2) := by decide +kernel
theorem dX12_ofReaderNow_137 : decode cX12_ofReaderNow 137 = .ok (.ireturn, 1) := by decide +kernel
set_option maxRecDepth 20000 in
theorem ggX12_ofReader_X12_isNoReader : GoodIn wsX12_ofReader wsX12_isNoReader := goodIn_r _ [4, 5, 6, 3, 7] (by decide +kernel) (by decide +kernel)
set_option maxRecDepth 20000 in
theorem gX12_ofReader_X12_isNoReader : GoodIn wsX12_ofReader (va_wsS RX12 187 yX12_isNoReader wsX12_isNoReader) := goodIn_app (goodIn_of _ (by decide +kernel)) ggX12_ofReader_X12_isNoReader
set_option maxRecDepth 20000 in
theorem ggX12_ofReader_X12_start : GoodIn wsX12_ofReader wsX12_start := goodIn_r _ [11, 12, 13, 14, 15, 3, 16, 121, 122, 123, 124, 125, 126] (by decide +kernel) (by decide +kernel)
set_option maxRecDepth 20000 in
theorem gX12_ofReader_X12_start : GoodIn wsX12_ofReader (wsV RX12 104 RX12 yX12_start wsX12_start) := goodIn_app (goodIn_of _ (by decide +kernel)) ggX12_ofReader_X12_start
set_option maxRecDepth 20000 in
theorem ggX12_ofReader_X12_isIn : GoodIn wsX12_ofReader wsX12_isIn := goodIn_r _ [7] (by decide +kernel) (by decide +kernel)
set_option maxRecDepth 20000 in
theorem gX12_ofReader_X12_isIn : GoodIn wsX12_ofReader (va_wsS RX12 37 yX12_isIn wsX12_isIn) := goodIn_app (goodIn_of _ (by decide +kernel)) ggX12_ofReader_X12_isIn
set_option maxRecDepth 20000 in
theorem ggX12_ofReader_X12_refuse : GoodIn wsX12_ofReader wsX12_refuse := goodIn_r _ [16, 12, 121, 122, 123, 124, 125, 126] (by decide +kernel) (by decide +kernel)
set_option maxRecDepth 20000 in
theorem gX12_ofReader_X12_refuse : GoodIn wsX12_ofReader (wsV RX12 29 RX12 yX12_refuse wsX12_refuse) := goodIn_app (goodIn_of _ (by decide +kernel)) ggX12_ofReader_X12_refuse
set_option maxRecDepth 20000 in
theorem ggX12_ofReader_X12_harms : GoodIn wsX12_ofReader wsX12_harms := goodIn_r _ [20, 21, 22, 23, 24, 25, 26, 27, 28, 29, 30, 31, 32, 33, 34, 35, 36, 37, 38, 39, 40, 41, 42, 43, 44, 45, 46, 47, 48, 49, 50, 51, 52, 53, 54, 55, 56, 57, 58, 59, 60, 121, 122, 123, 124, 125, 126, 127, 128, 129, 130, 131, 132, 133, 134, 135, 136, 137, 138, 139, 140, 141, 142, 143] (by decide +kernel) (by decide +kernel)
set_option maxRecDepth 20000 in
theorem gX12_ofReader_X12_harms : GoodIn wsX12_ofReader (wsV RX12 148 RX12 yX12_harms wsX12_harms) := goodIn_app (goodIn_of _ (by decide +kernel)) ggX12_ofReader_X12_harms
set_option maxRecDepth 20000 in
theorem ggX12_ofReader_X12_ofReaderNow : GoodIn wsX12_ofReader wsX12_ofReaderNow := goodIn_r _ [64, 65, 66, 67, 68, 69, 70, 71, 72, 3, 73, 74, 75, 38, 39, 40, 41, 42, 43, 44, 45, 46, 47, 48, 49, 50, 51, 52, 53, 54, 55, 56, 57, 58, 59, 60, 76, 77, 78, 79, 80, 81, 82, 83, 84, 85, 86, 87, 88, 89, 90, 91, 92, 93, 94, 95, 96, 97, 98, 99, 100, 101, 102, 103, 104, 105, 106, 107, 108, 109, 110, 111, 112, 113, 114, 115, 116, 117, 118, 119, 120, 121, 122, 123, 124, 125, 126, 144, 145, 146, 147, 148, 149, 150, 151, 152, 153, 141, 142, 143, 154, 155, 156, 157, 158, 159] (by decide +kernel) (by decide +kernel)
set_option maxRecDepth 20000 in
theorem gX12_ofReader_X12_ofReaderNow : GoodIn wsX12_ofReader (wsV RX12 280 RX12 yX12_ofReaderNow wsX12_ofReaderNow) := goodIn_app (goodIn_of _ (by decide +kernel)) ggX12_ofReader_X12_ofReaderNow
theorem dX12_ofReader_0 : decode cX12_ofReader 0 = .ok (.aload_n 0, 1) := by decide +kernel
theorem dX12_ofReader_1 : decode cX12_ofReader 1 = .ok (.iload_n 1, 1) := by decide +kernel
theorem dX12_ofReader_2 : decode cX12_ofReader 2 = .ok (.invokestatic 187, 3) := by decide +kernel
theorem dX12_ofReader_5 : decode cX12_ofReader 5 = .ok (.iconst 1, 1) := by decide +kernel
theorem dX12_ofReader_6 : decode cX12_ofReader 6 = .ok (.invokevirtual 104, 3) := by decide +kernel
theorem dX12_ofReader_9 : decode cX12_ofReader 9 = .ok (.ifCond .ne 26, 3) := by decide +kernel
theorem dX12_ofReader_12 : decode cX12_ofReader 12 = .ok (.aload_n 0, 1) := by decide +kernel
theorem dX12_ofReader_13 : decode cX12_ofReader 13 = .ok (.iload_n 2, 1) := by decide +kernel
theorem dX12_ofReader_14 : decode cX12_ofReader 14 = .ok (.iconst 0, 1) := by decide +kernel
theorem dX12_ofReader_15 : decode cX12_ofReader 15 = .ok (.bipush 6, 2) := by decide +kernel
theorem dX12_ofReader_17 : decode cX12_ofReader 17 = .ok (.invokestatic 37, 3) := by decide +kernel
theorem dX12_ofReader_20 : decode cX12_ofReader 20 = .ok (.ifCond .ne 7, 3) := by decide +kernel
theorem dX12_ofReader_23 : decode cX12_ofReader 23 = .ok (.iconst 1, 1) := by decide +kernel
theorem dX12_ofReader_24 : decode cX12_ofReader 24 = .ok (.goto 4, 3) := by decide +kernel
theorem dX12_ofReader_27 : decode cX12_ofReader 27 = .ok (.iconst 0, 1) := by decide +kernel
theorem dX12_ofReader_28 : decode cX12_ofReader 28 = .ok (.iconst 2, 1) := by decide +kernel
theorem dX12_ofReader_29 : decode cX12_ofReader 29 = .ok (.invokevirtual 29, 3) := by decide +kernel
theorem dX12_ofReader_32 : decode cX12_ofReader 32 = .ok (.ifCond .eq 7, 3) := by decide +kernel
theorem dX12_ofReader_35 : decode cX12_ofReader 35 = .ok (.iconst 0, 1) := by decide +kernel
theorem dX12_ofReader_36 : decode cX12_ofReader 36 = .ok (.goto 13, 3) := by decide +kernel
theorem dX12_ofReader_39 : decode cX12_ofReader 39 = .ok (.aload_n 0, 1) := by decide +kernel
theorem dX12_ofReader_40 : decode cX12_ofReader 40 = .ok (.aload_n 0, 1) := by decide +kernel
theorem dX12_ofReader_41 : decode cX12_ofReader 41 = .ok (.invokevirtual 148, 3) := by decide +kernel
theorem dX12_ofReader_44 : decode cX12_ofReader 44 = .ok (.iload_n 1, 1) := by decide +kernel
theorem dX12_ofReader_45 : decode cX12_ofReader 45 = .ok (.iload_n 2, 1) := by decide +kernel
theorem dX12_ofReader_46 : decode cX12_ofReader 46 = .ok (.invokevirtual 280, 3) := by decide +kernel
theorem dX12_ofReader_49 : decode cX12_ofReader 49 = .ok (.ireturn, 1) := by decide +kernel
set_option maxRecDepth 20000 in
theorem ggX12_bill_X12_isNoReader : GoodIn wsX12_bill wsX12_isNoReader := goodIn_r _ [8, 9, 10, 7, 11] (by decide +kernel) (by decide +kernel)
set_option maxRecDepth 20000 in
theorem gX12_bill_X12_isNoReader : GoodIn wsX12_bill (va_wsS RX12 187 yX12_isNoReader wsX12_isNoReader) := goodIn_app (goodIn_of _ (by decide +kernel)) ggX12_bill_X12_isNoReader
set_option maxRecDepth 20000 in
theorem ggX12_bill_X12_start : GoodIn wsX12_bill wsX12_start := goodIn_r _ [15, 16, 17, 18, 19, 7, 20, 121, 122, 123, 124, 125, 126] (by decide +kernel) (by decide +kernel)
set_option maxRecDepth 20000 in
theorem gX12_bill_X12_start : GoodIn wsX12_bill (wsV RX12 104 RX12 yX12_start wsX12_start) := goodIn_app (goodIn_of _ (by decide +kernel)) ggX12_bill_X12_start
set_option maxRecDepth 20000 in
theorem ggX12_bill_X12_harms : GoodIn wsX12_bill wsX12_harms := goodIn_r _ [24, 25, 26, 27, 28, 29, 30, 31, 32, 33, 34, 35, 36, 37, 38, 39, 40, 41, 42, 43, 44, 45, 46, 47, 48, 49, 50, 51, 52, 53, 54, 55, 56, 57, 58, 59, 60, 61, 62, 63, 64, 121, 122, 123, 124, 125, 126, 137, 138, 139, 140, 141, 142, 143, 144, 145, 146, 147, 148, 149, 150, 151, 152, 153] (by decide +kernel) (by decide +kernel)
set_option maxRecDepth 20000 in
theorem gX12_bill_X12_harms : GoodIn wsX12_bill (wsV RX12 148 RX12 yX12_harms wsX12_harms) := goodIn_app (goodIn_of _ (by decide +kernel)) ggX12_bill_X12_harms
set_option maxRecDepth 20000 in
theorem ggX12_bill_X12_ofReaderNow : GoodIn wsX12_bill wsX12_ofReaderNow := goodIn_r _ [68, 1, 2, 3, 69, 4, 70, 71, 72, 7, 73, 74, 75, 42, 43, 44, 45, 46, 47, 48, 49, 50, 51, 52, 53, 54, 55, 56, 57, 58, 59, 60, 61, 62, 63, 64, 76, 77, 78, 79, 80, 81, 82, 83, 84, 85, 86, 87, 88, 89, 90, 91, 92, 93, 94, 95, 96, 97, 98, 99, 100, 101, 102, 103, 104, 105, 106, 107, 108, 109, 110, 111, 112, 113, 114, 115, 116, 117, 118, 119, 120, 121, 122, 123, 124, 125, 126, 127, 128, 129, 130, 131, 132, 133, 134, 135, 136, 151, 152, 153, 154, 155, 156, 157, 158, 159] (by decide +kernel) (by decide +kernel)
set_option maxRecDepth 20000 in
theorem gX12_bill_X12_ofReaderNow : GoodIn wsX12_bill (wsV RX12 280 RX12 yX12_ofReaderNow wsX12_ofReaderNow) := goodIn_app (goodIn_of _ (by decide +kernel)) ggX12_bill_X12_ofReaderNow
set_option maxRecDepth 20000 in
theorem ggX12_bill_Jx4a65c_size_8abf5 : GoodIn wsX12_bill wsJx4a65c_size_8abf5 := goodIn_r _ [46, 47, 151, 152, 153] (by decide +kernel) (by decide +kernel)
set_option maxRecDepth 20000 in
theorem gX12_bill_Jx4a65c_size_8abf5 : GoodIn wsX12_bill (wsV RX12 33 RJx4a65c yJx4a65c_size_8abf5 wsJx4a65c_size_8abf5) := goodIn_app (goodIn_of _ (by decide +kernel)) ggX12_bill_Jx4a65c_size_8abf5
set_option maxRecDepth 20000 in
theorem ggX12_bill_Jx4a65c_get_915e3 : GoodIn wsX12_bill wsJx4a65c_get_915e3 := goodIn_r _ [51, 47, 52, 53, 54, 55, 56, 57, 58, 59, 60, 61, 62, 45, 63, 64, 151, 152, 153] (by decide +kernel) (by decide +kernel)
set_option maxRecDepth 20000 in
theorem gX12_bill_Jx4a65c_get_915e3 : GoodIn wsX12_bill (wsV RX12 45 RJx4a65c yJx4a65c_get_915e3 wsJx4a65c_get_915e3) := goodIn_app (goodIn_of _ (by decide +kernel)) ggX12_bill_Jx4a65c_get_915e3
set_option maxRecDepth 20000 in
theorem ggX12_bill_X9_worth : GoodIn wsX12_bill wsX9_worth := goodIn_r _ [118, 119, 105, 106, 79, 107, 108, 120, 110, 111, 112, 113, 114, 127, 128, 129, 130, 131, 132, 133, 134, 135, 136] (by decide +kernel) (by decide +kernel)
set_option maxRecDepth 20000 in
theorem gX12_bill_X9_worth : GoodIn wsX12_bill (wsV RX12 277 RX9 yX9_worth wsX9_worth) := goodIn_app (goodIn_of _ (by decide +kernel)) ggX12_bill_X9_worth
theorem dX12_bill_0 : decode cX12_bill 0 = .ok (.aload_n 0, 1) := by decide +kernel
theorem dX12_bill_1 : decode cX12_bill 1 = .ok (.iload_n 1, 1) := by decide +kernel
theorem dX12_bill_2 : decode cX12_bill 2 = .ok (.invokestatic 187, 3) := by decide +kernel
theorem dX12_bill_5 : decode cX12_bill 5 = .ok (.iconst 1, 1) := by decide +kernel
theorem dX12_bill_6 : decode cX12_bill 6 = .ok (.invokevirtual 104, 3) := by decide +kernel
theorem dX12_bill_9 : decode cX12_bill 9 = .ok (.ifCond .eq 5, 3) := by decide +kernel
theorem dX12_bill_12 : decode cX12_bill 12 = .ok (.iconst 0, 1) := by decide +kernel
theorem dX12_bill_13 : decode cX12_bill 13 = .ok (.ireturn, 1) := by decide +kernel
theorem dX12_bill_14 : decode cX12_bill 14 = .ok (.aload_n 0, 1) := by decide +kernel
theorem dX12_bill_15 : decode cX12_bill 15 = .ok (.invokevirtual 148, 3) := by decide +kernel
theorem dX12_bill_18 : decode cX12_bill 18 = .ok (.astore_n 2, 1) := by decide +kernel
theorem dX12_bill_19 : decode cX12_bill 19 = .ok (.aload_n 0, 1) := by decide +kernel
theorem dX12_bill_20 : decode cX12_bill 20 = .ok (.aload_n 2, 1) := by decide +kernel
theorem dX12_bill_21 : decode cX12_bill 21 = .ok (.iload_n 1, 1) := by decide +kernel
theorem dX12_bill_22 : decode cX12_bill 22 = .ok (.iconst 5, 1) := by decide +kernel
theorem dX12_bill_23 : decode cX12_bill 23 = .ok (.invokevirtual 280, 3) := by decide +kernel
theorem dX12_bill_26 : decode cX12_bill 26 = .ok (.istore_n 3, 1) := by decide +kernel
theorem dX12_bill_27 : decode cX12_bill 27 = .ok (.iconst 0, 1) := by decide +kernel
theorem dX12_bill_28 : decode cX12_bill 28 = .ok (.istore 4, 2) := by decide +kernel
theorem dX12_bill_30 : decode cX12_bill 30 = .ok (.iload 4, 2) := by decide +kernel
theorem dX12_bill_32 : decode cX12_bill 32 = .ok (.aload_n 0, 1) := by decide +kernel
theorem dX12_bill_33 : decode cX12_bill 33 = .ok (.getfield 22, 3) := by decide +kernel
theorem dX12_bill_36 : decode cX12_bill 36 = .ok (.invokevirtual 33, 3) := by decide +kernel
theorem dX12_bill_39 : decode cX12_bill 39 = .ok (.if_icmp .ge 59, 3) := by decide +kernel
theorem dX12_bill_42 : decode cX12_bill 42 = .ok (.aload_n 0, 1) := by decide +kernel
theorem dX12_bill_43 : decode cX12_bill 43 = .ok (.getfield 22, 3) := by decide +kernel
theorem dX12_bill_46 : decode cX12_bill 46 = .ok (.iload 4, 2) := by decide +kernel
theorem dX12_bill_48 : decode cX12_bill 48 = .ok (.invokevirtual 45, 3) := by decide +kernel
theorem dX12_bill_51 : decode cX12_bill 51 = .ok (.checkcast 152, 3) := by decide +kernel
theorem dX12_bill_54 : decode cX12_bill 54 = .ok (.getfield 217, 3) := by decide +kernel
theorem dX12_bill_57 : decode cX12_bill 57 = .ok (.iload_n 1, 1) := by decide +kernel
theorem dX12_bill_58 : decode cX12_bill 58 = .ok (.if_icmp .ne 34, 3) := by decide +kernel
theorem dX12_bill_61 : decode cX12_bill 61 = .ok (.aload_n 0, 1) := by decide +kernel
theorem dX12_bill_62 : decode cX12_bill 62 = .ok (.getfield 22, 3) := by decide +kernel
theorem dX12_bill_65 : decode cX12_bill 65 = .ok (.iload 4, 2) := by decide +kernel
theorem dX12_bill_67 : decode cX12_bill 67 = .ok (.invokevirtual 45, 3) := by decide +kernel
theorem dX12_bill_70 : decode cX12_bill 70 = .ok (.checkcast 152, 3) := by decide +kernel
theorem dX12_bill_73 : decode cX12_bill 73 = .ok (.aload_n 0, 1) := by decide +kernel
theorem dX12_bill_74 : decode cX12_bill 74 = .ok (.getfield 22, 3) := by decide +kernel
theorem dX12_bill_77 : decode cX12_bill 77 = .ok (.iload 4, 2) := by decide +kernel
theorem dX12_bill_79 : decode cX12_bill 79 = .ok (.invokevirtual 45, 3) := by decide +kernel
theorem dX12_bill_82 : decode cX12_bill 82 = .ok (.checkcast 152, 3) := by decide +kernel
theorem dX12_bill_85 : decode cX12_bill 85 = .ok (.aload_n 2, 1) := by decide +kernel
theorem dX12_bill_86 : decode cX12_bill 86 = .ok (.invokevirtual 277, 3) := by decide +kernel
theorem dX12_bill_89 : decode cX12_bill 89 = .ok (.putfield 260, 3) := by decide +kernel
theorem dX12_bill_92 : decode cX12_bill 92 = .ok (.iinc 4 1, 3) := by decide +kernel
theorem dX12_bill_95 : decode cX12_bill 95 = .ok (.goto (-65), 3) := by decide +kernel
theorem dX12_bill_98 : decode cX12_bill 98 = .ok (.iload_n 3, 1) := by decide +kernel
theorem dX12_bill_99 : decode cX12_bill 99 = .ok (.ireturn, 1) := by decide +kernel
set_option maxRecDepth 20000 in
theorem ggX12_pass_X12_isIn : GoodIn wsX12_pass wsX12_isIn := goodIn_r _ [5] (by decide +kernel) (by decide +kernel)
set_option maxRecDepth 20000 in
theorem gX12_pass_X12_isIn : GoodIn wsX12_pass (va_wsS RX12 37 yX12_isIn wsX12_isIn) := goodIn_app (goodIn_of _ (by decide +kernel)) ggX12_pass_X12_isIn
set_option maxRecDepth 20000 in
theorem ggX12_pass_X12_start : GoodIn wsX12_pass wsX12_start := goodIn_r _ [9, 10, 11, 12, 13, 4, 14, 15, 16, 17, 18, 19, 20] (by decide +kernel) (by decide +kernel)
set_option maxRecDepth 20000 in
theorem gX12_pass_X12_start : GoodIn wsX12_pass (wsV RX12 104 RX12 yX12_start wsX12_start) := goodIn_app (goodIn_of _ (by decide +kernel)) ggX12_pass_X12_start
set_option maxRecDepth 20000 in
theorem ggX12_pass_X12_refuse : GoodIn wsX12_pass wsX12_refuse := goodIn_r _ [14, 10, 15, 16, 17, 18, 19, 20] (by decide +kernel) (by decide +kernel)
set_option maxRecDepth 20000 in
theorem gX12_pass_X12_refuse : GoodIn wsX12_pass (wsV RX12 29 RX12 yX12_refuse wsX12_refuse) := goodIn_app (goodIn_of _ (by decide +kernel)) ggX12_pass_X12_refuse
theorem dX12_pass_0 : decode cX12_pass 0 = .ok (.aload_n 0, 1) := by decide +kernel
theorem dX12_pass_1 : decode cX12_pass 1 = .ok (.iload_n 1, 1) := by decide +kernel
theorem dX12_pass_2 : decode cX12_pass 2 = .ok (.iconst 1, 1) := by decide +kernel
theorem dX12_pass_3 : decode cX12_pass 3 = .ok (.bipush 30, 2) := by decide +kernel
theorem dX12_pass_5 : decode cX12_pass 5 = .ok (.invokestatic 37, 3) := by decide +kernel
theorem dX12_pass_8 : decode cX12_pass 8 = .ok (.ifCond .ne 7, 3) := by decide +kernel
theorem dX12_pass_11 : decode cX12_pass 11 = .ok (.iconst 1, 1) := by decide +kernel
theorem dX12_pass_12 : decode cX12_pass 12 = .ok (.goto 4, 3) := by decide +kernel
theorem dX12_pass_15 : decode cX12_pass 15 = .ok (.iconst 0, 1) := by decide +kernel
theorem dX12_pass_16 : decode cX12_pass 16 = .ok (.iconst 1, 1) := by decide +kernel
theorem dX12_pass_17 : decode cX12_pass 17 = .ok (.invokevirtual 104, 3) := by decide +kernel
theorem dX12_pass_20 : decode cX12_pass 20 = .ok (.ifCond .ne 28, 3) := by decide +kernel
theorem dX12_pass_23 : decode cX12_pass 23 = .ok (.aload_n 0, 1) := by decide +kernel
theorem dX12_pass_24 : decode cX12_pass 24 = .ok (.aload_n 0, 1) := by decide +kernel
theorem dX12_pass_25 : decode cX12_pass 25 = .ok (.getfield 193, 3) := by decide +kernel
theorem dX12_pass_28 : decode cX12_pass 28 = .ok (.iload_n 1, 1) := by decide +kernel
theorem dX12_pass_29 : decode cX12_pass 29 = .ok (.iadd, 1) := by decide +kernel
theorem dX12_pass_30 : decode cX12_pass 30 = .ok (.sipush 359, 3) := by decide +kernel
theorem dX12_pass_33 : decode cX12_pass 33 = .ok (.if_icmp .le 7, 3) := by decide +kernel
theorem dX12_pass_36 : decode cX12_pass 36 = .ok (.iconst 1, 1) := by decide +kernel
theorem dX12_pass_37 : decode cX12_pass 37 = .ok (.goto 4, 3) := by decide +kernel
theorem dX12_pass_40 : decode cX12_pass 40 = .ok (.iconst 0, 1) := by decide +kernel
theorem dX12_pass_41 : decode cX12_pass 41 = .ok (.iconst 2, 1) := by decide +kernel
theorem dX12_pass_42 : decode cX12_pass 42 = .ok (.invokevirtual 29, 3) := by decide +kernel
theorem dX12_pass_45 : decode cX12_pass 45 = .ok (.ifCond .eq 5, 3) := by decide +kernel
theorem dX12_pass_48 : decode cX12_pass 48 = .ok (.iconst 0, 1) := by decide +kernel
theorem dX12_pass_49 : decode cX12_pass 49 = .ok (.ireturn, 1) := by decide +kernel
theorem dX12_pass_50 : decode cX12_pass 50 = .ok (.aload_n 0, 1) := by decide +kernel
theorem dX12_pass_51 : decode cX12_pass 51 = .ok (.dup, 1) := by decide +kernel
theorem dX12_pass_52 : decode cX12_pass 52 = .ok (.getfield 193, 3) := by decide +kernel
theorem dX12_pass_55 : decode cX12_pass 55 = .ok (.iload_n 1, 1) := by decide +kernel
theorem dX12_pass_56 : decode cX12_pass 56 = .ok (.iadd, 1) := by decide +kernel
theorem dX12_pass_57 : decode cX12_pass 57 = .ok (.putfield 193, 3) := by decide +kernel
theorem dX12_pass_60 : decode cX12_pass 60 = .ok (.aload_n 0, 1) := by decide +kernel
theorem dX12_pass_61 : decode cX12_pass 61 = .ok (.getfield 193, 3) := by decide +kernel
theorem dX12_pass_64 : decode cX12_pass 64 = .ok (.ireturn, 1) := by decide +kernel
set_option maxRecDepth 20000 in
theorem ggX12_count_Jx4a65c_size_8abf5 : GoodIn wsX12_count wsJx4a65c_size_8abf5 := goodIn_r _ [15, 16, 90, 91, 92] (by decide +kernel) (by decide +kernel)
set_option maxRecDepth 20000 in
theorem gX12_count_Jx4a65c_size_8abf5 : GoodIn wsX12_count (wsV RX12 33 RJx4a65c yJx4a65c_size_8abf5 wsJx4a65c_size_8abf5) := goodIn_app (goodIn_of _ (by decide +kernel)) ggX12_count_Jx4a65c_size_8abf5
set_option maxRecDepth 20000 in
theorem ggX12_count_Jx4a65c_get_915e3 : GoodIn wsX12_count wsJx4a65c_get_915e3 := goodIn_r _ [20, 16, 21, 22, 23, 24, 25, 26, 27, 28, 29, 30, 31, 14, 32, 33, 90, 91, 92] (by decide +kernel) (by decide +kernel)
set_option maxRecDepth 20000 in
theorem gX12_count_Jx4a65c_get_915e3 : GoodIn wsX12_count (wsV RX12 45 RJx4a65c yJx4a65c_get_915e3 wsJx4a65c_get_915e3) := goodIn_app (goodIn_of _ (by decide +kernel)) ggX12_count_Jx4a65c_get_915e3
set_option maxRecDepth 20000 in
theorem ggX12_count_X9_charge : GoodIn wsX12_count wsX9_charge := goodIn_r _ [38, 39, 80, 81, 82, 83, 84, 85, 86, 87, 88, 89] (by decide +kernel) (by decide +kernel)
set_option maxRecDepth 20000 in
theorem gX12_count_X9_charge : GoodIn wsX12_count (wsV RX12 176 RX9 yX9_charge wsX9_charge) := goodIn_app (goodIn_of _ (by decide +kernel)) ggX12_count_X9_charge
set_option maxRecDepth 20000 in
theorem ggX12_count_X12_credits : GoodIn wsX12_count wsX12_credits := goodIn_r _ [44, 4, 5, 45, 46, 47, 43, 48, 1, 2, 3, 49, 50, 51, 52, 53, 54, 55, 56, 57, 58, 59, 60, 61, 62, 11, 12, 13, 14, 15, 16, 17, 18, 19, 20, 21, 22, 23, 24, 25, 26, 27, 28, 29, 30, 31, 32, 33, 63, 64, 65, 37, 66, 39, 67, 68, 69, 70, 71, 72, 73, 74, 75, 76, 77, 78, 79, 93, 94, 95, 96, 97, 98, 99, 100, 101, 90, 91, 92, 80, 81, 82, 83, 84, 85, 86, 87, 88, 89] (by decide +kernel) (by decide +kernel)
set_option maxRecDepth 20000 in
theorem gX12_count_X12_credits : GoodIn wsX12_count (wsV RX12 161 RX12 yX12_credits wsX12_credits) := goodIn_app (goodIn_of _ (by decide +kernel)) ggX12_count_X12_credits
theorem dX12_count_0 : decode cX12_count 0 = .ok (.iconst 0, 1) := by decide +kernel
theorem dX12_count_1 : decode cX12_count 1 = .ok (.istore_n 2, 1) := by decide +kernel
theorem dX12_count_2 : decode cX12_count 2 = .ok (.iconst 0, 1) := by decide +kernel
theorem dX12_count_3 : decode cX12_count 3 = .ok (.istore_n 3, 1) := by decide +kernel
theorem dX12_count_4 : decode cX12_count 4 = .ok (.iload_n 3, 1) := by decide +kernel
theorem dX12_count_5 : decode cX12_count 5 = .ok (.aload_n 0, 1) := by decide +kernel
theorem dX12_count_6 : decode cX12_count 6 = .ok (.getfield 10, 3) := by decide +kernel
theorem dX12_count_9 : decode cX12_count 9 = .ok (.invokevirtual 33, 3) := by decide +kernel
theorem dX12_count_12 : decode cX12_count 12 = .ok (.if_icmp .ge 29, 3) := by decide +kernel
theorem dX12_count_15 : decode cX12_count 15 = .ok (.iload_n 2, 1) := by decide +kernel
theorem dX12_count_16 : decode cX12_count 16 = .ok (.aload_n 0, 1) := by decide +kernel
theorem dX12_count_17 : decode cX12_count 17 = .ok (.getfield 10, 3) := by decide +kernel
theorem dX12_count_20 : decode cX12_count 20 = .ok (.iload_n 3, 1) := by decide +kernel
theorem dX12_count_21 : decode cX12_count 21 = .ok (.invokevirtual 45, 3) := by decide +kernel
theorem dX12_count_24 : decode cX12_count 24 = .ok (.checkcast 49, 3) := by decide +kernel
theorem dX12_count_27 : decode cX12_count 27 = .ok (.getfield 69, 3) := by decide +kernel
theorem dX12_count_30 : decode cX12_count 30 = .ok (.invokevirtual 33, 3) := by decide +kernel
theorem dX12_count_33 : decode cX12_count 33 = .ok (.iadd, 1) := by decide +kernel
theorem dX12_count_34 : decode cX12_count 34 = .ok (.istore_n 2, 1) := by decide +kernel
theorem dX12_count_35 : decode cX12_count 35 = .ok (.iinc 3 1, 3) := by decide +kernel
theorem dX12_count_38 : decode cX12_count 38 = .ok (.goto (-34), 3) := by decide +kernel
theorem dX12_count_41 : decode cX12_count 41 = .ok (.iconst 0, 1) := by decide +kernel
theorem dX12_count_42 : decode cX12_count 42 = .ok (.istore_n 3, 1) := by decide +kernel
theorem dX12_count_43 : decode cX12_count 43 = .ok (.iconst 0, 1) := by decide +kernel
theorem dX12_count_44 : decode cX12_count 44 = .ok (.istore 4, 2) := by decide +kernel
theorem dX12_count_46 : decode cX12_count 46 = .ok (.iconst 0, 1) := by decide +kernel
theorem dX12_count_47 : decode cX12_count 47 = .ok (.istore 5, 2) := by decide +kernel
theorem dX12_count_49 : decode cX12_count 49 = .ok (.iload 5, 2) := by decide +kernel
theorem dX12_count_51 : decode cX12_count 51 = .ok (.aload_n 0, 1) := by decide +kernel
theorem dX12_count_52 : decode cX12_count 52 = .ok (.getfield 22, 3) := by decide +kernel
theorem dX12_count_55 : decode cX12_count 55 = .ok (.invokevirtual 33, 3) := by decide +kernel
theorem dX12_count_58 : decode cX12_count 58 = .ok (.if_icmp .ge 47, 3) := by decide +kernel
theorem dX12_count_61 : decode cX12_count 61 = .ok (.iload_n 3, 1) := by decide +kernel
theorem dX12_count_62 : decode cX12_count 62 = .ok (.aload_n 0, 1) := by decide +kernel
theorem dX12_count_63 : decode cX12_count 63 = .ok (.getfield 22, 3) := by decide +kernel
theorem dX12_count_66 : decode cX12_count 66 = .ok (.iload 5, 2) := by decide +kernel
theorem dX12_count_68 : decode cX12_count 68 = .ok (.invokevirtual 45, 3) := by decide +kernel
theorem dX12_count_71 : decode cX12_count 71 = .ok (.checkcast 152, 3) := by decide +kernel
theorem dX12_count_74 : decode cX12_count 74 = .ok (.invokevirtual 176, 3) := by decide +kernel
theorem dX12_count_77 : decode cX12_count 77 = .ok (.iadd, 1) := by decide +kernel
theorem dX12_count_78 : decode cX12_count 78 = .ok (.istore_n 3, 1) := by decide +kernel
theorem dX12_count_79 : decode cX12_count 79 = .ok (.iload 4, 2) := by decide +kernel
theorem dX12_count_81 : decode cX12_count 81 = .ok (.aload_n 0, 1) := by decide +kernel
theorem dX12_count_82 : decode cX12_count 82 = .ok (.getfield 22, 3) := by decide +kernel
theorem dX12_count_85 : decode cX12_count 85 = .ok (.iload 5, 2) := by decide +kernel
theorem dX12_count_87 : decode cX12_count 87 = .ok (.invokevirtual 45, 3) := by decide +kernel
theorem dX12_count_90 : decode cX12_count 90 = .ok (.checkcast 152, 3) := by decide +kernel
theorem dX12_count_93 : decode cX12_count 93 = .ok (.getfield 260, 3) := by decide +kernel
theorem dX12_count_96 : decode cX12_count 96 = .ok (.iadd, 1) := by decide +kernel
theorem dX12_count_97 : decode cX12_count 97 = .ok (.istore 4, 2) := by decide +kernel
theorem dX12_count_99 : decode cX12_count 99 = .ok (.iinc 5 1, 3) := by decide +kernel
theorem dX12_count_102 : decode cX12_count 102 = .ok (.goto (-53), 3) := by decide +kernel
theorem dX12_count_105 : decode cX12_count 105 = .ok (.bipush 9, 2) := by decide +kernel
theorem dX12_count_107 : decode cX12_count 107 = .ok (.newarray .int, 2) := by decide +kernel
theorem dX12_count_109 : decode cX12_count 109 = .ok (.dup, 1) := by decide +kernel
theorem dX12_count_110 : decode cX12_count 110 = .ok (.iconst 0, 1) := by decide +kernel
theorem dX12_count_111 : decode cX12_count 111 = .ok (.aload_n 0, 1) := by decide +kernel
theorem dX12_count_112 : decode cX12_count 112 = .ok (.getfield 10, 3) := by decide +kernel
theorem dX12_count_115 : decode cX12_count 115 = .ok (.invokevirtual 33, 3) := by decide +kernel
theorem dX12_count_118 : decode cX12_count 118 = .ok (.iastore, 1) := by decide +kernel
theorem dX12_count_119 : decode cX12_count 119 = .ok (.dup, 1) := by decide +kernel
theorem dX12_count_120 : decode cX12_count 120 = .ok (.iconst 1, 1) := by decide +kernel
theorem dX12_count_121 : decode cX12_count 121 = .ok (.iload_n 2, 1) := by decide +kernel
theorem dX12_count_122 : decode cX12_count 122 = .ok (.iastore, 1) := by decide +kernel
theorem dX12_count_123 : decode cX12_count 123 = .ok (.dup, 1) := by decide +kernel
theorem dX12_count_124 : decode cX12_count 124 = .ok (.iconst 2, 1) := by decide +kernel
theorem dX12_count_125 : decode cX12_count 125 = .ok (.aload_n 0, 1) := by decide +kernel
theorem dX12_count_126 : decode cX12_count 126 = .ok (.getfield 16, 3) := by decide +kernel
theorem dX12_count_129 : decode cX12_count 129 = .ok (.invokevirtual 33, 3) := by decide +kernel
theorem dX12_count_132 : decode cX12_count 132 = .ok (.iastore, 1) := by decide +kernel
theorem dX12_count_133 : decode cX12_count 133 = .ok (.dup, 1) := by decide +kernel
theorem dX12_count_134 : decode cX12_count 134 = .ok (.iconst 3, 1) := by decide +kernel
theorem dX12_count_135 : decode cX12_count 135 = .ok (.aload_n 0, 1) := by decide +kernel
theorem dX12_count_136 : decode cX12_count 136 = .ok (.getfield 19, 3) := by decide +kernel
theorem dX12_count_139 : decode cX12_count 139 = .ok (.invokevirtual 33, 3) := by decide +kernel
theorem dX12_count_142 : decode cX12_count 142 = .ok (.iastore, 1) := by decide +kernel
theorem dX12_count_143 : decode cX12_count 143 = .ok (.dup, 1) := by decide +kernel
theorem dX12_count_144 : decode cX12_count 144 = .ok (.iconst 4, 1) := by decide +kernel
theorem dX12_count_145 : decode cX12_count 145 = .ok (.aload_n 0, 1) := by decide +kernel
theorem dX12_count_146 : decode cX12_count 146 = .ok (.getfield 22, 3) := by decide +kernel
theorem dX12_count_149 : decode cX12_count 149 = .ok (.invokevirtual 33, 3) := by decide +kernel
theorem dX12_count_152 : decode cX12_count 152 = .ok (.iastore, 1) := by decide +kernel
theorem dX12_count_153 : decode cX12_count 153 = .ok (.dup, 1) := by decide +kernel
theorem dX12_count_154 : decode cX12_count 154 = .ok (.iconst 5, 1) := by decide +kernel
theorem dX12_count_155 : decode cX12_count 155 = .ok (.iload_n 3, 1) := by decide +kernel
theorem dX12_count_156 : decode cX12_count 156 = .ok (.iastore, 1) := by decide +kernel
theorem dX12_count_157 : decode cX12_count 157 = .ok (.dup, 1) := by decide +kernel
theorem dX12_count_158 : decode cX12_count 158 = .ok (.bipush 6, 2) := by decide +kernel
theorem dX12_count_160 : decode cX12_count 160 = .ok (.aload_n 0, 1) := by decide +kernel
theorem dX12_count_161 : decode cX12_count 161 = .ok (.invokevirtual 161, 3) := by decide +kernel
theorem dX12_count_164 : decode cX12_count 164 = .ok (.iastore, 1) := by decide +kernel
theorem dX12_count_165 : decode cX12_count 165 = .ok (.dup, 1) := by decide +kernel
theorem dX12_count_166 : decode cX12_count 166 = .ok (.bipush 7, 2) := by decide +kernel
theorem dX12_count_168 : decode cX12_count 168 = .ok (.iload 4, 2) := by decide +kernel
theorem dX12_count_170 : decode cX12_count 170 = .ok (.iastore, 1) := by decide +kernel
theorem dX12_count_171 : decode cX12_count 171 = .ok (.dup, 1) := by decide +kernel
theorem dX12_count_172 : decode cX12_count 172 = .ok (.bipush 8, 2) := by decide +kernel
theorem dX12_count_174 : decode cX12_count 174 = .ok (.aload_n 0, 1) := by decide +kernel
theorem dX12_count_175 : decode cX12_count 175 = .ok (.getfield 193, 3) := by decide +kernel
theorem dX12_count_178 : decode cX12_count 178 = .ok (.iastore, 1) := by decide +kernel
theorem dX12_count_179 : decode cX12_count 179 = .ok (.astore 5, 2) := by decide +kernel
theorem dX12_count_181 : decode cX12_count 181 = .ok (.aload 5, 2) := by decide +kernel
theorem dX12_count_183 : decode cX12_count 183 = .ok (.iload_n 1, 1) := by decide +kernel
theorem dX12_count_184 : decode cX12_count 184 = .ok (.iaload, 1) := by decide +kernel
theorem dX12_count_185 : decode cX12_count 185 = .ok (.ireturn, 1) := by decide +kernel
set_option maxRecDepth 20000 in
theorem ggX12_many_X12_isIn : GoodIn wsX12_many wsX12_isIn := goodIn_r _ [4] (by decide +kernel) (by decide +kernel)
set_option maxRecDepth 20000 in
theorem gX12_many_X12_isIn : GoodIn wsX12_many (va_wsS RX12 37 yX12_isIn wsX12_isIn) := goodIn_app (goodIn_of _ (by decide +kernel)) ggX12_many_X12_isIn
set_option maxRecDepth 20000 in
theorem ggX12_many_X12_start : GoodIn wsX12_many wsX12_start := goodIn_r _ [8, 9, 10, 11, 12, 3, 13, 85, 86, 87, 88, 89, 90] (by decide +kernel) (by decide +kernel)
set_option maxRecDepth 20000 in
theorem gX12_many_X12_start : GoodIn wsX12_many (wsV RX12 104 RX12 yX12_start wsX12_start) := goodIn_app (goodIn_of _ (by decide +kernel)) ggX12_many_X12_start
set_option maxRecDepth 20000 in
theorem ggX12_many_X12_count : GoodIn wsX12_many wsX12_count := goodIn_r _ [17, 18, 19, 20, 21, 22, 23, 24, 25, 26, 27, 28, 29, 30, 31, 32, 33, 34, 35, 36, 37, 38, 39, 40, 41, 42, 43, 44, 45, 46, 47, 48, 49, 50, 51, 52, 53, 54, 55, 56, 57, 58, 59, 3, 60, 61, 62, 63, 64, 65, 66, 67, 68, 69, 70, 71, 72, 73, 74, 75, 76, 77, 78, 79, 80, 81, 82, 83, 84, 85, 86, 87, 88, 89, 90, 91, 92, 93, 94, 95, 96, 97, 98, 99, 100, 101, 102, 103, 104, 105, 106, 107, 108, 109, 110, 111, 112, 113, 114, 115, 116, 117] (by decide +kernel) (by decide +kernel)
set_option maxRecDepth 20000 in
theorem gX12_many_X12_count : GoodIn wsX12_many (wsV RX12 283 RX12 yX12_count wsX12_count) := goodIn_app (goodIn_of _ (by decide +kernel)) ggX12_many_X12_count
theorem dX12_many_0 : decode cX12_many 0 = .ok (.aload_n 0, 1) := by decide +kernel
theorem dX12_many_1 : decode cX12_many 1 = .ok (.iload_n 1, 1) := by decide +kernel
theorem dX12_many_2 : decode cX12_many 2 = .ok (.iconst 0, 1) := by decide +kernel
theorem dX12_many_3 : decode cX12_many 3 = .ok (.bipush 8, 2) := by decide +kernel
theorem dX12_many_5 : decode cX12_many 5 = .ok (.invokestatic 37, 3) := by decide +kernel
theorem dX12_many_8 : decode cX12_many 8 = .ok (.ifCond .ne 7, 3) := by decide +kernel
theorem dX12_many_11 : decode cX12_many 11 = .ok (.iconst 1, 1) := by decide +kernel
theorem dX12_many_12 : decode cX12_many 12 = .ok (.goto 4, 3) := by decide +kernel
theorem dX12_many_15 : decode cX12_many 15 = .ok (.iconst 0, 1) := by decide +kernel
theorem dX12_many_16 : decode cX12_many 16 = .ok (.iconst 1, 1) := by decide +kernel
theorem dX12_many_17 : decode cX12_many 17 = .ok (.invokevirtual 104, 3) := by decide +kernel
theorem dX12_many_20 : decode cX12_many 20 = .ok (.ifCond .eq 7, 3) := by decide +kernel
theorem dX12_many_23 : decode cX12_many 23 = .ok (.iconst 0, 1) := by decide +kernel
theorem dX12_many_24 : decode cX12_many 24 = .ok (.goto 8, 3) := by decide +kernel
theorem dX12_many_27 : decode cX12_many 27 = .ok (.aload_n 0, 1) := by decide +kernel
theorem dX12_many_28 : decode cX12_many 28 = .ok (.iload_n 1, 1) := by decide +kernel
theorem dX12_many_29 : decode cX12_many 29 = .ok (.invokevirtual 283, 3) := by decide +kernel
theorem dX12_many_32 : decode cX12_many 32 = .ok (.ireturn, 1) := by decide +kernel
set_option maxRecDepth 20000 in
theorem ggX12_meanWorth_Jx4a65c_isEmpty_aae02 : GoodIn wsX12_meanWorth wsJx4a65c_isEmpty_aae02 := goodIn_r _ [7, 8, 84, 85, 86] (by decide +kernel) (by decide +kernel)
set_option maxRecDepth 20000 in
theorem gX12_meanWorth_Jx4a65c_isEmpty_aae02 : GoodIn wsX12_meanWorth (wsV RX12 140 RJx4a65c yJx4a65c_isEmpty_aae02 wsJx4a65c_isEmpty_aae02) := goodIn_app (goodIn_of _ (by decide +kernel)) ggX12_meanWorth_Jx4a65c_isEmpty_aae02
set_option maxRecDepth 20000 in
theorem ggX12_meanWorth_X12_count : GoodIn wsX12_meanWorth wsX12_count := goodIn_r _ [13, 14, 15, 16, 2, 17, 18, 19, 20, 21, 22, 23, 24, 25, 6, 26, 8, 27, 28, 29, 30, 31, 32, 33, 34, 35, 36, 37, 38, 39, 40, 41, 42, 43, 44, 45, 46, 47, 48, 49, 50, 51, 52, 12, 53, 54, 55, 56, 57, 58, 59, 60, 61, 62, 63, 64, 65, 66, 67, 68, 69, 70, 71, 72, 73, 74, 75, 76, 77, 78, 79, 80, 81, 82, 83, 87, 88, 89, 90, 91, 92, 93, 94, 95, 96, 97, 98, 99, 100, 101, 84, 85, 86, 102, 103, 104, 105, 106, 107, 108, 109, 110] (by decide +kernel) (by decide +kernel)
set_option maxRecDepth 20000 in
theorem gX12_meanWorth_X12_count : GoodIn wsX12_meanWorth (wsV RX12 283 RX12 yX12_count wsX12_count) := goodIn_app (goodIn_of _ (by decide +kernel)) ggX12_meanWorth_X12_count
set_option maxRecDepth 20000 in
theorem ggX12_meanWorth_Jx4a65c_size_8abf5 : GoodIn wsX12_meanWorth wsJx4a65c_size_8abf5 := goodIn_r _ [26, 8, 84, 85, 86] (by decide +kernel) (by decide +kernel)
set_option maxRecDepth 20000 in
theorem gX12_meanWorth_Jx4a65c_size_8abf5 : GoodIn wsX12_meanWorth (wsV RX12 33 RJx4a65c yJx4a65c_size_8abf5 wsJx4a65c_size_8abf5) := goodIn_app (goodIn_of _ (by decide +kernel)) ggX12_meanWorth_Jx4a65c_size_8abf5
theorem dX12_meanWorth_0 : decode cX12_meanWorth 0 = .ok (.aload_n 0, 1) := by decide +kernel
theorem dX12_meanWorth_1 : decode cX12_meanWorth 1 = .ok (.iconst 0, 1) := by decide +kernel
theorem dX12_meanWorth_2 : decode cX12_meanWorth 2 = .ok (.putfield 25, 3) := by decide +kernel
theorem dX12_meanWorth_5 : decode cX12_meanWorth 5 = .ok (.aload_n 0, 1) := by decide +kernel
theorem dX12_meanWorth_6 : decode cX12_meanWorth 6 = .ok (.getfield 22, 3) := by decide +kernel
theorem dX12_meanWorth_9 : decode cX12_meanWorth 9 = .ok (.invokevirtual 140, 3) := by decide +kernel
theorem dX12_meanWorth_12 : decode cX12_meanWorth 12 = .ok (.ifCond .eq 7, 3) := by decide +kernel
theorem dX12_meanWorth_15 : decode cX12_meanWorth 15 = .ok (.dconst 0, 1) := by decide +kernel
theorem dX12_meanWorth_16 : decode cX12_meanWorth 16 = .ok (.goto 25, 3) := by decide +kernel
theorem dX12_meanWorth_19 : decode cX12_meanWorth 19 = .ok (.aload_n 0, 1) := by decide +kernel
theorem dX12_meanWorth_20 : decode cX12_meanWorth 20 = .ok (.iconst 5, 1) := by decide +kernel
theorem dX12_meanWorth_21 : decode cX12_meanWorth 21 = .ok (.invokevirtual 283, 3) := by decide +kernel
theorem dX12_meanWorth_24 : decode cX12_meanWorth 24 = .ok (.aload_n 0, 1) := by decide +kernel
theorem dX12_meanWorth_25 : decode cX12_meanWorth 25 = .ok (.bipush 6, 2) := by decide +kernel
theorem dX12_meanWorth_27 : decode cX12_meanWorth 27 = .ok (.invokevirtual 283, 3) := by decide +kernel
theorem dX12_meanWorth_30 : decode cX12_meanWorth 30 = .ok (.isub, 1) := by decide +kernel
theorem dX12_meanWorth_31 : decode cX12_meanWorth 31 = .ok (.i2d, 1) := by decide +kernel
theorem dX12_meanWorth_32 : decode cX12_meanWorth 32 = .ok (.aload_n 0, 1) := by decide +kernel
theorem dX12_meanWorth_33 : decode cX12_meanWorth 33 = .ok (.getfield 22, 3) := by decide +kernel
theorem dX12_meanWorth_36 : decode cX12_meanWorth 36 = .ok (.invokevirtual 33, 3) := by decide +kernel
theorem dX12_meanWorth_39 : decode cX12_meanWorth 39 = .ok (.i2d, 1) := by decide +kernel
theorem dX12_meanWorth_40 : decode cX12_meanWorth 40 = .ok (.ddiv, 1) := by decide +kernel
theorem dX12_meanWorth_41 : decode cX12_meanWorth 41 = .ok (.dreturn, 1) := by decide +kernel
set_option maxRecDepth 20000 in
theorem ggX12_quote_X12_isNoReader : GoodIn wsX12_quote wsX12_isNoReader := goodIn_r _ [4, 5, 6, 3, 7] (by decide +kernel) (by decide +kernel)
set_option maxRecDepth 20000 in
theorem gX12_quote_X12_isNoReader : GoodIn wsX12_quote (va_wsS RX12 187 yX12_isNoReader wsX12_isNoReader) := goodIn_app (goodIn_of _ (by decide +kernel)) ggX12_quote_X12_isNoReader
set_option maxRecDepth 20000 in
theorem ggX12_quote_X12_isNo : GoodIn wsX12_quote wsX12_isNo := goodIn_r _ [11, 12, 13, 14, 15, 16, 17, 18, 5, 6, 3, 7, 116, 117, 118, 119, 120, 121, 122, 123, 124] (by decide +kernel) (by decide +kernel)
set_option maxRecDepth 20000 in
theorem gX12_quote_X12_isNo : GoodIn wsX12_quote (wsV RX12 41 RX12 yX12_isNo wsX12_isNo) := goodIn_app (goodIn_of _ (by decide +kernel)) ggX12_quote_X12_isNo
set_option maxRecDepth 20000 in
theorem ggX12_quote_X12_start : GoodIn wsX12_quote wsX12_start := goodIn_r _ [22, 23, 24, 25, 26, 3, 27, 116, 117, 118, 119, 120, 121] (by decide +kernel) (by decide +kernel)
set_option maxRecDepth 20000 in
theorem gX12_quote_X12_start : GoodIn wsX12_quote (wsV RX12 104 RX12 yX12_start wsX12_start) := goodIn_app (goodIn_of _ (by decide +kernel)) ggX12_quote_X12_start
set_option maxRecDepth 20000 in
theorem ggX12_quote_X12_isNoFields : GoodIn wsX12_quote wsX12_isNoFields := goodIn_r _ [31, 12, 32, 33, 34, 35, 16, 36, 18, 37, 38, 39, 40, 41, 42, 43, 44, 45, 46, 47, 48, 49, 50, 51, 52, 53, 54, 55, 116, 117, 118, 119, 120, 121, 122, 123, 124, 125, 126, 127, 128, 129] (by decide +kernel) (by decide +kernel)
set_option maxRecDepth 20000 in
theorem gX12_quote_X12_isNoFields : GoodIn wsX12_quote (wsV RX12 190 RX12 yX12_isNoFields wsX12_isNoFields) := goodIn_app (goodIn_of _ (by decide +kernel)) ggX12_quote_X12_isNoFields
set_option maxRecDepth 20000 in
theorem ggX12_quote_X12_isIn : GoodIn wsX12_quote wsX12_isIn := goodIn_r _ [7] (by decide +kernel) (by decide +kernel)
set_option maxRecDepth 20000 in
theorem gX12_quote_X12_isIn : GoodIn wsX12_quote (va_wsS RX12 37 yX12_isIn wsX12_isIn) := goodIn_app (goodIn_of _ (by decide +kernel)) ggX12_quote_X12_isIn
set_option maxRecDepth 20000 in
theorem ggX12_quote_X12_refuse : GoodIn wsX12_quote wsX12_refuse := goodIn_r _ [27, 23, 116, 117, 118, 119, 120, 121] (by decide +kernel) (by decide +kernel)
set_option maxRecDepth 20000 in
theorem gX12_quote_X12_refuse : GoodIn wsX12_quote (wsV RX12 29 RX12 yX12_refuse wsX12_refuse) := goodIn_app (goodIn_of _ (by decide +kernel)) ggX12_quote_X12_refuse
set_option maxRecDepth 20000 in
theorem ggX12_quote_X12_made : GoodIn wsX12_quote wsX12_made := goodIn_r _ [59, 60, 61, 62, 12, 32, 63, 64, 65, 66, 33, 34, 35, 16, 36, 18, 37, 38, 39, 40, 41, 42, 43, 44, 45, 46, 47, 48, 49, 67, 68, 69, 53, 70, 71, 72, 14, 15, 17, 73, 74, 75, 3, 76, 77, 78, 79, 80, 81, 82, 83, 84, 13, 85, 86, 87, 88, 89, 90, 91, 92, 93, 94, 95, 96, 97, 98, 99, 100, 101, 102, 103, 104, 105, 106, 107, 108, 109, 110, 111, 130, 131, 132, 133, 134, 135, 136, 137, 138, 139, 116, 117, 118, 119, 120, 121, 125, 126, 127, 128, 129, 122, 123, 124] (by decide +kernel) (by decide +kernel)
set_option maxRecDepth 20000 in
theorem gX12_quote_X12_made : GoodIn wsX12_quote (wsV RX12 241 RX12 yX12_made wsX12_made) := goodIn_app (goodIn_of _ (by decide +kernel)) ggX12_quote_X12_made
set_option maxRecDepth 20000 in
theorem ggX12_quote_X9_charge : GoodIn wsX12_quote wsX9_charge := goodIn_r _ [115, 105, 130, 131, 132, 133, 134, 135, 136, 137, 138, 139] (by decide +kernel) (by decide +kernel)
set_option maxRecDepth 20000 in
theorem gX12_quote_X9_charge : GoodIn wsX12_quote (wsV RX12 176 RX9 yX9_charge wsX9_charge) := goodIn_app (goodIn_of _ (by decide +kernel)) ggX12_quote_X9_charge
theorem dX12_quote_0 : decode cX12_quote 0 = .ok (.aload_n 0, 1) := by decide +kernel
theorem dX12_quote_1 : decode cX12_quote 1 = .ok (.iload_n 1, 1) := by decide +kernel
theorem dX12_quote_2 : decode cX12_quote 2 = .ok (.invokestatic 187, 3) := by decide +kernel
theorem dX12_quote_5 : decode cX12_quote 5 = .ok (.ifCond .ne 11, 3) := by decide +kernel
theorem dX12_quote_8 : decode cX12_quote 8 = .ok (.aload_n 0, 1) := by decide +kernel
theorem dX12_quote_9 : decode cX12_quote 9 = .ok (.iload_n 2, 1) := by decide +kernel
theorem dX12_quote_10 : decode cX12_quote 10 = .ok (.invokevirtual 41, 3) := by decide +kernel
theorem dX12_quote_13 : decode cX12_quote 13 = .ok (.ifCond .eq 7, 3) := by decide +kernel
theorem dX12_quote_16 : decode cX12_quote 16 = .ok (.iconst 1, 1) := by decide +kernel
theorem dX12_quote_17 : decode cX12_quote 17 = .ok (.goto 4, 3) := by decide +kernel
theorem dX12_quote_20 : decode cX12_quote 20 = .ok (.iconst 0, 1) := by decide +kernel
theorem dX12_quote_21 : decode cX12_quote 21 = .ok (.iconst 1, 1) := by decide +kernel
theorem dX12_quote_22 : decode cX12_quote 22 = .ok (.invokevirtual 104, 3) := by decide +kernel
theorem dX12_quote_25 : decode cX12_quote 25 = .ok (.ifCond .ne 37, 3) := by decide +kernel
theorem dX12_quote_28 : decode cX12_quote 28 = .ok (.aload_n 0, 1) := by decide +kernel
theorem dX12_quote_29 : decode cX12_quote 29 = .ok (.aload_n 0, 1) := by decide +kernel
theorem dX12_quote_30 : decode cX12_quote 30 = .ok (.iload_n 2, 1) := by decide +kernel
theorem dX12_quote_31 : decode cX12_quote 31 = .ok (.iload_n 3, 1) := by decide +kernel
theorem dX12_quote_32 : decode cX12_quote 32 = .ok (.invokevirtual 190, 3) := by decide +kernel
theorem dX12_quote_35 : decode cX12_quote 35 = .ok (.ifCond .ne 15, 3) := by decide +kernel
theorem dX12_quote_38 : decode cX12_quote 38 = .ok (.iload 4, 2) := by decide +kernel
theorem dX12_quote_40 : decode cX12_quote 40 = .ok (.iconst 1, 1) := by decide +kernel
theorem dX12_quote_41 : decode cX12_quote 41 = .ok (.sipush 9999, 3) := by decide +kernel
theorem dX12_quote_44 : decode cX12_quote 44 = .ok (.invokestatic 37, 3) := by decide +kernel
theorem dX12_quote_47 : decode cX12_quote 47 = .ok (.ifCond .ne 7, 3) := by decide +kernel
theorem dX12_quote_50 : decode cX12_quote 50 = .ok (.iconst 1, 1) := by decide +kernel
theorem dX12_quote_51 : decode cX12_quote 51 = .ok (.goto 4, 3) := by decide +kernel
theorem dX12_quote_54 : decode cX12_quote 54 = .ok (.iconst 0, 1) := by decide +kernel
theorem dX12_quote_55 : decode cX12_quote 55 = .ok (.iconst 2, 1) := by decide +kernel
theorem dX12_quote_56 : decode cX12_quote 56 = .ok (.invokevirtual 29, 3) := by decide +kernel
theorem dX12_quote_59 : decode cX12_quote 59 = .ok (.ifCond .eq 7, 3) := by decide +kernel
theorem dX12_quote_62 : decode cX12_quote 62 = .ok (.iconst 0, 1) := by decide +kernel
theorem dX12_quote_63 : decode cX12_quote 63 = .ok (.goto 16, 3) := by decide +kernel
theorem dX12_quote_66 : decode cX12_quote 66 = .ok (.aload_n 0, 1) := by decide +kernel
theorem dX12_quote_67 : decode cX12_quote 67 = .ok (.iload_n 1, 1) := by decide +kernel
theorem dX12_quote_68 : decode cX12_quote 68 = .ok (.iload_n 2, 1) := by decide +kernel
theorem dX12_quote_69 : decode cX12_quote 69 = .ok (.iload_n 3, 1) := by decide +kernel
theorem dX12_quote_70 : decode cX12_quote 70 = .ok (.iload 4, 2) := by decide +kernel
theorem dX12_quote_72 : decode cX12_quote 72 = .ok (.iconst 0, 1) := by decide +kernel
theorem dX12_quote_73 : decode cX12_quote 73 = .ok (.invokevirtual 241, 3) := by decide +kernel
theorem dX12_quote_76 : decode cX12_quote 76 = .ok (.invokevirtual 176, 3) := by decide +kernel
theorem dX12_quote_79 : decode cX12_quote 79 = .ok (.ireturn, 1) := by decide +kernel
set_option maxRecDepth 20000 in
theorem ggX12_creditBy_X12_isNoHarm : GoodIn wsX12_creditBy wsX12_isNoHarm := goodIn_r _ [10, 11, 12, 13, 9, 14, 15, 16, 17, 18, 1, 2, 19, 20, 21, 22, 23, 24, 25, 26, 27, 28, 29, 30, 31, 32, 33, 34, 35, 36, 37, 38, 39, 40, 41, 42, 43, 44, 45, 46, 47, 48, 49, 50, 51, 52, 53, 54, 55, 56, 57, 58, 59, 60, 61, 62, 63, 64, 65, 66, 67, 68, 69, 104, 105, 106, 107, 108, 109, 110, 111, 112, 113, 114, 120, 121, 122] (by decide +kernel) (by decide +kernel)
set_option maxRecDepth 20000 in
theorem gX12_creditBy_X12_isNoHarm : GoodIn wsX12_creditBy (wsV RX12 164 RX12 yX12_isNoHarm wsX12_isNoHarm) := goodIn_app (goodIn_of _ (by decide +kernel)) ggX12_creditBy_X12_isNoHarm
set_option maxRecDepth 20000 in
theorem ggX12_creditBy_Jx4a65c_get_915e3 : GoodIn wsX12_creditBy wsJx4a65c_get_915e3 := goodIn_r _ [36, 29, 37, 38, 39, 40, 41, 42, 43, 44, 45, 46, 47, 27, 48, 49, 120, 121, 122] (by decide +kernel) (by decide +kernel)
set_option maxRecDepth 20000 in
theorem gX12_creditBy_Jx4a65c_get_915e3 : GoodIn wsX12_creditBy (wsV RX12 45 RJx4a65c yJx4a65c_get_915e3 wsJx4a65c_get_915e3) := goodIn_app (goodIn_of _ (by decide +kernel)) ggX12_creditBy_Jx4a65c_get_915e3
set_option maxRecDepth 20000 in
theorem ggX12_creditBy_X12_reportNow : GoodIn wsX12_creditBy wsX12_reportNow := goodIn_r _ [73, 1, 2, 3, 4, 5, 74, 75, 76, 77, 78, 79, 80, 9, 81, 82, 83, 84, 85, 86, 87, 88, 89, 90, 91, 92, 93, 94, 95, 24, 25, 26, 27, 28, 29, 33, 34, 35, 36, 37, 38, 39, 40, 41, 42, 43, 44, 45, 46, 47, 48, 49, 96, 97, 98, 99, 100, 101, 102, 103, 104, 105, 106, 107, 108, 109, 110, 111, 112, 113, 114, 115, 116, 117, 118, 119, 123, 124, 125, 126, 120, 121, 122, 127, 128, 129, 130, 131, 132, 133, 134, 135, 136] (by decide +kernel) (by decide +kernel)
set_option maxRecDepth 20000 in
theorem gX12_creditBy_X12_reportNow : GoodIn wsX12_creditBy (wsV RX12 168 RX12 yX12_reportNow wsX12_reportNow) := goodIn_app (goodIn_of _ (by decide +kernel)) ggX12_creditBy_X12_reportNow
theorem dX12_creditBy_0 : decode cX12_creditBy 0 = .ok (.aload_n 0, 1) := by decide +kernel
theorem dX12_creditBy_1 : decode cX12_creditBy 1 = .ok (.iload_n 1, 1) := by decide +kernel
theorem dX12_creditBy_2 : decode cX12_creditBy 2 = .ok (.iload_n 2, 1) := by decide +kernel
theorem dX12_creditBy_3 : decode cX12_creditBy 3 = .ok (.iload_n 3, 1) := by decide +kernel
theorem dX12_creditBy_4 : decode cX12_creditBy 4 = .ok (.iload 4, 2) := by decide +kernel
theorem dX12_creditBy_6 : decode cX12_creditBy 6 = .ok (.invokevirtual 164, 3) := by decide +kernel
theorem dX12_creditBy_9 : decode cX12_creditBy 9 = .ok (.ifCond .eq 5, 3) := by decide +kernel
theorem dX12_creditBy_12 : decode cX12_creditBy 12 = .ok (.iconst 0, 1) := by decide +kernel
theorem dX12_creditBy_13 : decode cX12_creditBy 13 = .ok (.ireturn, 1) := by decide +kernel
theorem dX12_creditBy_14 : decode cX12_creditBy 14 = .ok (.aload_n 0, 1) := by decide +kernel
theorem dX12_creditBy_15 : decode cX12_creditBy 15 = .ok (.getfield 10, 3) := by decide +kernel
theorem dX12_creditBy_18 : decode cX12_creditBy 18 = .ok (.iload_n 1, 1) := by decide +kernel
theorem dX12_creditBy_19 : decode cX12_creditBy 19 = .ok (.invokevirtual 45, 3) := by decide +kernel
theorem dX12_creditBy_22 : decode cX12_creditBy 22 = .ok (.checkcast 49, 3) := by decide +kernel
theorem dX12_creditBy_25 : decode cX12_creditBy 25 = .ok (.getfield 69, 3) := by decide +kernel
theorem dX12_creditBy_28 : decode cX12_creditBy 28 = .ok (.iload_n 2, 1) := by decide +kernel
theorem dX12_creditBy_29 : decode cX12_creditBy 29 = .ok (.invokevirtual 45, 3) := by decide +kernel
theorem dX12_creditBy_32 : decode cX12_creditBy 32 = .ok (.checkcast 72, 3) := by decide +kernel
theorem dX12_creditBy_35 : decode cX12_creditBy 35 = .ok (.getfield 74, 3) := by decide +kernel
theorem dX12_creditBy_38 : decode cX12_creditBy 38 = .ok (.astore 5, 2) := by decide +kernel
theorem dX12_creditBy_40 : decode cX12_creditBy 40 = .ok (.aload 5, 2) := by decide +kernel
theorem dX12_creditBy_42 : decode cX12_creditBy 42 = .ok (.iload_n 3, 1) := by decide +kernel
theorem dX12_creditBy_43 : decode cX12_creditBy 43 = .ok (.iaload, 1) := by decide +kernel
theorem dX12_creditBy_44 : decode cX12_creditBy 44 = .ok (.istore 6, 2) := by decide +kernel
theorem dX12_creditBy_46 : decode cX12_creditBy 46 = .ok (.aload_n 0, 1) := by decide +kernel
theorem dX12_creditBy_47 : decode cX12_creditBy 47 = .ok (.iload_n 1, 1) := by decide +kernel
theorem dX12_creditBy_48 : decode cX12_creditBy 48 = .ok (.iload_n 2, 1) := by decide +kernel
theorem dX12_creditBy_49 : decode cX12_creditBy 49 = .ok (.iload_n 3, 1) := by decide +kernel
theorem dX12_creditBy_50 : decode cX12_creditBy 50 = .ok (.iload 4, 2) := by decide +kernel
theorem dX12_creditBy_52 : decode cX12_creditBy 52 = .ok (.invokevirtual 168, 3) := by decide +kernel
theorem dX12_creditBy_55 : decode cX12_creditBy 55 = .ok (.istore 7, 2) := by decide +kernel
theorem dX12_creditBy_57 : decode cX12_creditBy 57 = .ok (.aload 5, 2) := by decide +kernel
theorem dX12_creditBy_59 : decode cX12_creditBy 59 = .ok (.iload_n 3, 1) := by decide +kernel
theorem dX12_creditBy_60 : decode cX12_creditBy 60 = .ok (.iload 6, 2) := by decide +kernel
theorem dX12_creditBy_62 : decode cX12_creditBy 62 = .ok (.iastore, 1) := by decide +kernel
theorem dX12_creditBy_63 : decode cX12_creditBy 63 = .ok (.iload 7, 2) := by decide +kernel
theorem dX12_creditBy_65 : decode cX12_creditBy 65 = .ok (.ireturn, 1) := by decide +kernel
set_option maxRecDepth 20000 in
theorem ggX12_previewsNow_Jx4a65c_get_915e3 : GoodIn wsX12_previewsNow wsJx4a65c_get_915e3 := goodIn_r _ [7, 8, 9, 10, 11, 12, 13, 14, 15, 16, 17, 18, 19, 6, 20, 21, 79, 80, 81] (by decide +kernel) (by decide +kernel)
set_option maxRecDepth 20000 in
theorem gX12_previewsNow_Jx4a65c_get_915e3 : GoodIn wsX12_previewsNow (wsV RX12 45 RJx4a65c yJx4a65c_get_915e3 wsJx4a65c_get_915e3) := goodIn_app (goodIn_of _ (by decide +kernel)) ggX12_previewsNow_Jx4a65c_get_915e3
set_option maxRecDepth 20000 in
theorem ggX12_previewsNow_X7_all : GoodIn wsX12_previewsNow wsX7_all := goodIn_r _ [26, 27, 82, 83, 84, 85, 86] (by decide +kernel) (by decide +kernel)
set_option maxRecDepth 20000 in
theorem gX12_previewsNow_X7_all : GoodIn wsX12_previewsNow (wsV RX12 64 RX7 yX7_all wsX7_all) := goodIn_app (goodIn_of _ (by decide +kernel)) ggX12_previewsNow_X7_all
set_option maxRecDepth 20000 in
theorem ggX12_previewsNow_J6_bitCount_0f7a4 : GoodIn wsX12_previewsNow wsJ6_bitCount_0f7a4 := goodIn_r _ [31, 32, 33, 34] (by decide +kernel) (by decide +kernel)
set_option maxRecDepth 20000 in
theorem gX12_previewsNow_J6_bitCount_0f7a4 : GoodIn wsX12_previewsNow (va_wsS RX12 248 yJ6_bitCount_0f7a4 wsJ6_bitCount_0f7a4) := goodIn_app (goodIn_of _ (by decide +kernel)) ggX12_previewsNow_J6_bitCount_0f7a4
set_option maxRecDepth 20000 in
theorem ggX12_previewsNow_X12_canPreview : GoodIn wsX12_previewsNow wsX12_canPreview := goodIn_r _ [39, 1, 2, 40, 41, 42, 43, 3, 4, 5, 6, 7, 8, 9, 10, 11, 12, 13, 14, 15, 16, 17, 18, 19, 20, 21, 44, 45, 46, 38, 47, 48, 49, 50, 51, 52, 53, 54, 55, 56, 57, 58, 59, 60, 61, 62, 63, 64, 65, 66, 67, 68, 69, 70, 71, 72, 28, 29, 30, 31, 32, 33, 34, 22, 23, 24, 25, 26, 27, 73, 74, 75, 76, 77, 78, 82, 83, 84, 85, 86, 79, 80, 81, 87, 88, 89, 90, 91, 92] (by decide +kernel) (by decide +kernel)
set_option maxRecDepth 20000 in
theorem gX12_previewsNow_X12_canPreview : GoodIn wsX12_previewsNow (wsV RX12 253 RX12 yX12_canPreview wsX12_canPreview) := goodIn_app (goodIn_of _ (by decide +kernel)) ggX12_previewsNow_X12_canPreview
theorem dX12_previewsNow_0 : decode cX12_previewsNow 0 = .ok (.iconst 0, 1) := by decide +kernel
theorem dX12_previewsNow_1 : decode cX12_previewsNow 1 = .ok (.istore_n 3, 1) := by decide +kernel
theorem dX12_previewsNow_2 : decode cX12_previewsNow 2 = .ok (.iconst 1, 1) := by decide +kernel
theorem dX12_previewsNow_3 : decode cX12_previewsNow 3 = .ok (.istore 4, 2) := by decide +kernel
theorem dX12_previewsNow_5 : decode cX12_previewsNow 5 = .ok (.iload 4, 2) := by decide +kernel
theorem dX12_previewsNow_7 : decode cX12_previewsNow 7 = .ok (.aload_n 0, 1) := by decide +kernel
theorem dX12_previewsNow_8 : decode cX12_previewsNow 8 = .ok (.getfield 10, 3) := by decide +kernel
theorem dX12_previewsNow_11 : decode cX12_previewsNow 11 = .ok (.iload_n 2, 1) := by decide +kernel
theorem dX12_previewsNow_12 : decode cX12_previewsNow 12 = .ok (.invokevirtual 45, 3) := by decide +kernel
theorem dX12_previewsNow_15 : decode cX12_previewsNow 15 = .ok (.checkcast 49, 3) := by decide +kernel
theorem dX12_previewsNow_18 : decode cX12_previewsNow 18 = .ok (.invokevirtual 64, 3) := by decide +kernel
theorem dX12_previewsNow_21 : decode cX12_previewsNow 21 = .ok (.if_icmp .gt 37, 3) := by decide +kernel
theorem dX12_previewsNow_24 : decode cX12_previewsNow 24 = .ok (.iload_n 3, 1) := by decide +kernel
theorem dX12_previewsNow_25 : decode cX12_previewsNow 25 = .ok (.iload 4, 2) := by decide +kernel
theorem dX12_previewsNow_27 : decode cX12_previewsNow 27 = .ok (.invokestatic 248, 3) := by decide +kernel
theorem dX12_previewsNow_30 : decode cX12_previewsNow 30 = .ok (.iconst 2, 1) := by decide +kernel
theorem dX12_previewsNow_31 : decode cX12_previewsNow 31 = .ok (.if_icmp .gt 18, 3) := by decide +kernel
theorem dX12_previewsNow_34 : decode cX12_previewsNow 34 = .ok (.aload_n 0, 1) := by decide +kernel
theorem dX12_previewsNow_35 : decode cX12_previewsNow 35 = .ok (.iload_n 1, 1) := by decide +kernel
theorem dX12_previewsNow_36 : decode cX12_previewsNow 36 = .ok (.iload_n 2, 1) := by decide +kernel
theorem dX12_previewsNow_37 : decode cX12_previewsNow 37 = .ok (.iload 4, 2) := by decide +kernel
theorem dX12_previewsNow_39 : decode cX12_previewsNow 39 = .ok (.invokevirtual 253, 3) := by decide +kernel
theorem dX12_previewsNow_42 : decode cX12_previewsNow 42 = .ok (.ifCond .eq 7, 3) := by decide +kernel
theorem dX12_previewsNow_45 : decode cX12_previewsNow 45 = .ok (.iconst 1, 1) := by decide +kernel
theorem dX12_previewsNow_46 : decode cX12_previewsNow 46 = .ok (.goto 4, 3) := by decide +kernel
theorem dX12_previewsNow_49 : decode cX12_previewsNow 49 = .ok (.iconst 0, 1) := by decide +kernel
theorem dX12_previewsNow_50 : decode cX12_previewsNow 50 = .ok (.iadd, 1) := by decide +kernel
theorem dX12_previewsNow_51 : decode cX12_previewsNow 51 = .ok (.istore_n 3, 1) := by decide +kernel
theorem dX12_previewsNow_52 : decode cX12_previewsNow 52 = .ok (.iinc 4 1, 3) := by decide +kernel
theorem dX12_previewsNow_55 : decode cX12_previewsNow 55 = .ok (.goto (-50), 3) := by decide +kernel
theorem dX12_previewsNow_58 : decode cX12_previewsNow 58 = .ok (.iload_n 3, 1) := by decide +kernel
theorem dX12_previewsNow_59 : decode cX12_previewsNow 59 = .ok (.ireturn, 1) := by decide +kernel
set_option maxRecDepth 20000 in
theorem ggX12_previews_X12_isNoReader : GoodIn wsX12_previews wsX12_isNoReader := goodIn_r _ [4, 5, 6, 3, 7] (by decide +kernel) (by decide +kernel)
set_option maxRecDepth 20000 in
theorem gX12_previews_X12_isNoReader : GoodIn wsX12_previews (va_wsS RX12 187 yX12_isNoReader wsX12_isNoReader) := goodIn_app (goodIn_of _ (by decide +kernel)) ggX12_previews_X12_isNoReader
set_option maxRecDepth 20000 in
theorem ggX12_previews_X12_isNo : GoodIn wsX12_previews wsX12_isNo := goodIn_r _ [11, 12, 13, 14, 15, 16, 17, 18, 5, 6, 3, 7, 96, 97, 98, 99, 100, 101, 102, 103, 104] (by decide +kernel) (by decide +kernel)
set_option maxRecDepth 20000 in
theorem gX12_previews_X12_isNo : GoodIn wsX12_previews (wsV RX12 41 RX12 yX12_isNo wsX12_isNo) := goodIn_app (goodIn_of _ (by decide +kernel)) ggX12_previews_X12_isNo
set_option maxRecDepth 20000 in
theorem ggX12_previews_X12_start : GoodIn wsX12_previews wsX12_start := goodIn_r _ [22, 23, 24, 25, 26, 3, 27, 96, 97, 98, 99, 100, 101] (by decide +kernel) (by decide +kernel)
set_option maxRecDepth 20000 in
theorem gX12_previews_X12_start : GoodIn wsX12_previews (wsV RX12 104 RX12 yX12_start wsX12_start) := goodIn_app (goodIn_of _ (by decide +kernel)) ggX12_previews_X12_start
set_option maxRecDepth 20000 in
theorem ggX12_previews_X12_previewsNow : GoodIn wsX12_previews wsX12_previewsNow := goodIn_r _ [31, 12, 32, 33, 34, 35, 16, 36, 18, 37, 38, 39, 40, 41, 42, 43, 44, 45, 46, 47, 48, 49, 50, 51, 52, 53, 54, 55, 56, 57, 58, 59, 60, 61, 62, 63, 64, 65, 3, 66, 67, 68, 69, 70, 71, 72, 73, 74, 75, 76, 13, 14, 15, 17, 77, 78, 79, 80, 81, 82, 83, 84, 85, 86, 87, 88, 89, 90, 91, 92, 93, 94, 95, 96, 97, 98, 99, 100, 101, 102, 103, 104, 105, 106, 107, 108, 109, 110, 111, 112, 113, 114, 115] (by decide +kernel) (by decide +kernel)
set_option maxRecDepth 20000 in
theorem gX12_previews_X12_previewsNow : GoodIn wsX12_previews (wsV RX12 286 RX12 yX12_previewsNow wsX12_previewsNow) := goodIn_app (goodIn_of _ (by decide +kernel)) ggX12_previews_X12_previewsNow
theorem dX12_previews_0 : decode cX12_previews 0 = .ok (.aload_n 0, 1) := by decide +kernel
theorem dX12_previews_1 : decode cX12_previews 1 = .ok (.iload_n 1, 1) := by decide +kernel
theorem dX12_previews_2 : decode cX12_previews 2 = .ok (.invokestatic 187, 3) := by decide +kernel
theorem dX12_previews_5 : decode cX12_previews 5 = .ok (.ifCond .ne 11, 3) := by decide +kernel
theorem dX12_previews_8 : decode cX12_previews 8 = .ok (.aload_n 0, 1) := by decide +kernel
theorem dX12_previews_9 : decode cX12_previews 9 = .ok (.iload_n 2, 1) := by decide +kernel
theorem dX12_previews_10 : decode cX12_previews 10 = .ok (.invokevirtual 41, 3) := by decide +kernel
theorem dX12_previews_13 : decode cX12_previews 13 = .ok (.ifCond .eq 7, 3) := by decide +kernel
theorem dX12_previews_16 : decode cX12_previews 16 = .ok (.iconst 1, 1) := by decide +kernel
theorem dX12_previews_17 : decode cX12_previews 17 = .ok (.goto 4, 3) := by decide +kernel
theorem dX12_previews_20 : decode cX12_previews 20 = .ok (.iconst 0, 1) := by decide +kernel
theorem dX12_previews_21 : decode cX12_previews 21 = .ok (.iconst 1, 1) := by decide +kernel
theorem dX12_previews_22 : decode cX12_previews 22 = .ok (.invokevirtual 104, 3) := by decide +kernel
theorem dX12_previews_25 : decode cX12_previews 25 = .ok (.ifCond .eq 7, 3) := by decide +kernel
theorem dX12_previews_28 : decode cX12_previews 28 = .ok (.iconst 0, 1) := by decide +kernel
theorem dX12_previews_29 : decode cX12_previews 29 = .ok (.goto 9, 3) := by decide +kernel
theorem dX12_previews_32 : decode cX12_previews 32 = .ok (.aload_n 0, 1) := by decide +kernel
theorem dX12_previews_33 : decode cX12_previews 33 = .ok (.iload_n 1, 1) := by decide +kernel
theorem dX12_previews_34 : decode cX12_previews 34 = .ok (.iload_n 2, 1) := by decide +kernel
theorem dX12_previews_35 : decode cX12_previews 35 = .ok (.invokevirtual 286, 3) := by decide +kernel
theorem dX12_previews_38 : decode cX12_previews 38 = .ok (.ireturn, 1) := by decide +kernel
set_option maxRecDepth 20000 in
theorem ggX12_neededNow_Jx4a65c_size_8abf5 : GoodIn wsX12_neededNow wsJx4a65c_size_8abf5 := goodIn_r _ [14, 15, 64, 65, 66] (by decide +kernel) (by decide +kernel)
set_option maxRecDepth 20000 in
theorem gX12_neededNow_Jx4a65c_size_8abf5 : GoodIn wsX12_neededNow (wsV RX12 33 RJx4a65c yJx4a65c_size_8abf5 wsJx4a65c_size_8abf5) := goodIn_app (goodIn_of _ (by decide +kernel)) ggX12_neededNow_Jx4a65c_size_8abf5
set_option maxRecDepth 20000 in
theorem ggX12_neededNow_Jx4a65c_get_915e3 : GoodIn wsX12_neededNow wsJx4a65c_get_915e3 := goodIn_r _ [19, 15, 20, 21, 22, 23, 24, 25, 26, 27, 28, 29, 30, 13, 31, 32, 64, 65, 66] (by decide +kernel) (by decide +kernel)
set_option maxRecDepth 20000 in
theorem gX12_neededNow_Jx4a65c_get_915e3 : GoodIn wsX12_neededNow (wsV RX12 45 RJx4a65c yJx4a65c_get_915e3 wsJx4a65c_get_915e3) := goodIn_app (goodIn_of _ (by decide +kernel)) ggX12_neededNow_Jx4a65c_get_915e3
set_option maxRecDepth 20000 in
theorem ggX12_neededNow_X6_covers : GoodIn wsX12_neededNow wsX6_covers := goodIn_r _ [37, 38, 39, 40, 41, 42, 43, 44, 36, 45, 46, 47, 67, 68, 69, 70, 71, 72] (by decide +kernel) (by decide +kernel)
set_option maxRecDepth 20000 in
theorem gX12_neededNow_X6_covers : GoodIn wsX12_neededNow (wsV RX12 211 RX6 yX6_covers wsX6_covers) := goodIn_app (goodIn_of _ (by decide +kernel)) ggX12_neededNow_X6_covers
theorem dX12_neededNow_0 : decode cX12_neededNow 0 = .ok (.iconst 0, 1) := by decide +kernel
theorem dX12_neededNow_1 : decode cX12_neededNow 1 = .ok (.istore_n 2, 1) := by decide +kernel
theorem dX12_neededNow_2 : decode cX12_neededNow 2 = .ok (.iconst 0, 1) := by decide +kernel
theorem dX12_neededNow_3 : decode cX12_neededNow 3 = .ok (.istore_n 3, 1) := by decide +kernel
theorem dX12_neededNow_4 : decode cX12_neededNow 4 = .ok (.iload_n 3, 1) := by decide +kernel
theorem dX12_neededNow_5 : decode cX12_neededNow 5 = .ok (.aload_n 0, 1) := by decide +kernel
theorem dX12_neededNow_6 : decode cX12_neededNow 6 = .ok (.getfield 22, 3) := by decide +kernel
theorem dX12_neededNow_9 : decode cX12_neededNow 9 = .ok (.invokevirtual 33, 3) := by decide +kernel
theorem dX12_neededNow_12 : decode cX12_neededNow 12 = .ok (.if_icmp .ge 152, 3) := by decide +kernel
theorem dX12_neededNow_15 : decode cX12_neededNow 15 = .ok (.aload_n 0, 1) := by decide +kernel
theorem dX12_neededNow_16 : decode cX12_neededNow 16 = .ok (.getfield 22, 3) := by decide +kernel
theorem dX12_neededNow_19 : decode cX12_neededNow 19 = .ok (.iload_n 3, 1) := by decide +kernel
theorem dX12_neededNow_20 : decode cX12_neededNow 20 = .ok (.invokevirtual 45, 3) := by decide +kernel
theorem dX12_neededNow_23 : decode cX12_neededNow 23 = .ok (.checkcast 152, 3) := by decide +kernel
theorem dX12_neededNow_26 : decode cX12_neededNow 26 = .ok (.astore 4, 2) := by decide +kernel
theorem dX12_neededNow_28 : decode cX12_neededNow 28 = .ok (.iconst 0, 1) := by decide +kernel
theorem dX12_neededNow_29 : decode cX12_neededNow 29 = .ok (.istore 5, 2) := by decide +kernel
theorem dX12_neededNow_31 : decode cX12_neededNow 31 = .ok (.iconst 0, 1) := by decide +kernel
theorem dX12_neededNow_32 : decode cX12_neededNow 32 = .ok (.istore 6, 2) := by decide +kernel
theorem dX12_neededNow_34 : decode cX12_neededNow 34 = .ok (.iload 6, 2) := by decide +kernel
theorem dX12_neededNow_36 : decode cX12_neededNow 36 = .ok (.aload_n 0, 1) := by decide +kernel
theorem dX12_neededNow_37 : decode cX12_neededNow 37 = .ok (.getfield 19, 3) := by decide +kernel
theorem dX12_neededNow_40 : decode cX12_neededNow 40 = .ok (.invokevirtual 33, 3) := by decide +kernel
theorem dX12_neededNow_43 : decode cX12_neededNow 43 = .ok (.if_icmp .ge 59, 3) := by decide +kernel
theorem dX12_neededNow_46 : decode cX12_neededNow 46 = .ok (.iload 5, 2) := by decide +kernel
theorem dX12_neededNow_48 : decode cX12_neededNow 48 = .ok (.iload 6, 2) := by decide +kernel
theorem dX12_neededNow_50 : decode cX12_neededNow 50 = .ok (.iload_n 1, 1) := by decide +kernel
theorem dX12_neededNow_51 : decode cX12_neededNow 51 = .ok (.if_icmp .ne 7, 3) := by decide +kernel
theorem dX12_neededNow_54 : decode cX12_neededNow 54 = .ok (.iconst 0, 1) := by decide +kernel
theorem dX12_neededNow_55 : decode cX12_neededNow 55 = .ok (.goto 38, 3) := by decide +kernel
theorem dX12_neededNow_58 : decode cX12_neededNow 58 = .ok (.aload_n 0, 1) := by decide +kernel
theorem dX12_neededNow_59 : decode cX12_neededNow 59 = .ok (.getfield 19, 3) := by decide +kernel
theorem dX12_neededNow_62 : decode cX12_neededNow 62 = .ok (.iload 6, 2) := by decide +kernel
theorem dX12_neededNow_64 : decode cX12_neededNow 64 = .ok (.invokevirtual 45, 3) := by decide +kernel
theorem dX12_neededNow_67 : decode cX12_neededNow 67 = .ok (.checkcast 196, 3) := by decide +kernel
theorem dX12_neededNow_70 : decode cX12_neededNow 70 = .ok (.aload 4, 2) := by decide +kernel
theorem dX12_neededNow_72 : decode cX12_neededNow 72 = .ok (.getfield 217, 3) := by decide +kernel
theorem dX12_neededNow_75 : decode cX12_neededNow 75 = .ok (.aload 4, 2) := by decide +kernel
theorem dX12_neededNow_77 : decode cX12_neededNow 77 = .ok (.getfield 175, 3) := by decide +kernel
theorem dX12_neededNow_80 : decode cX12_neededNow 80 = .ok (.aload 4, 2) := by decide +kernel
theorem dX12_neededNow_82 : decode cX12_neededNow 82 = .ok (.getfield 263, 3) := by decide +kernel
theorem dX12_neededNow_85 : decode cX12_neededNow 85 = .ok (.aload 4, 2) := by decide +kernel
theorem dX12_neededNow_87 : decode cX12_neededNow 87 = .ok (.getfield 220, 3) := by decide +kernel
theorem dX12_neededNow_90 : decode cX12_neededNow 90 = .ok (.invokevirtual 211, 3) := by decide +kernel
theorem dX12_neededNow_93 : decode cX12_neededNow 93 = .ok (.ior, 1) := by decide +kernel
theorem dX12_neededNow_94 : decode cX12_neededNow 94 = .ok (.istore 5, 2) := by decide +kernel
theorem dX12_neededNow_96 : decode cX12_neededNow 96 = .ok (.iinc 6 1, 3) := by decide +kernel
theorem dX12_neededNow_99 : decode cX12_neededNow 99 = .ok (.goto (-65), 3) := by decide +kernel
theorem dX12_neededNow_102 : decode cX12_neededNow 102 = .ok (.iload_n 2, 1) := by decide +kernel
theorem dX12_neededNow_103 : decode cX12_neededNow 103 = .ok (.aload 4, 2) := by decide +kernel
theorem dX12_neededNow_105 : decode cX12_neededNow 105 = .ok (.getfield 257, 3) := by decide +kernel
theorem dX12_neededNow_108 : decode cX12_neededNow 108 = .ok (.aload_n 0, 1) := by decide +kernel
theorem dX12_neededNow_109 : decode cX12_neededNow 109 = .ok (.getfield 19, 3) := by decide +kernel
theorem dX12_neededNow_112 : decode cX12_neededNow 112 = .ok (.iload_n 1, 1) := by decide +kernel
theorem dX12_neededNow_113 : decode cX12_neededNow 113 = .ok (.invokevirtual 45, 3) := by decide +kernel
theorem dX12_neededNow_116 : decode cX12_neededNow 116 = .ok (.checkcast 196, 3) := by decide +kernel
theorem dX12_neededNow_119 : decode cX12_neededNow 119 = .ok (.aload 4, 2) := by decide +kernel
theorem dX12_neededNow_121 : decode cX12_neededNow 121 = .ok (.getfield 217, 3) := by decide +kernel
theorem dX12_neededNow_124 : decode cX12_neededNow 124 = .ok (.aload 4, 2) := by decide +kernel
theorem dX12_neededNow_126 : decode cX12_neededNow 126 = .ok (.getfield 175, 3) := by decide +kernel
theorem dX12_neededNow_129 : decode cX12_neededNow 129 = .ok (.aload 4, 2) := by decide +kernel
theorem dX12_neededNow_131 : decode cX12_neededNow 131 = .ok (.getfield 263, 3) := by decide +kernel
theorem dX12_neededNow_134 : decode cX12_neededNow 134 = .ok (.aload 4, 2) := by decide +kernel
theorem dX12_neededNow_136 : decode cX12_neededNow 136 = .ok (.getfield 220, 3) := by decide +kernel
theorem dX12_neededNow_139 : decode cX12_neededNow 139 = .ok (.invokevirtual 211, 3) := by decide +kernel
theorem dX12_neededNow_142 : decode cX12_neededNow 142 = .ok (.iand, 1) := by decide +kernel
theorem dX12_neededNow_143 : decode cX12_neededNow 143 = .ok (.iload 5, 2) := by decide +kernel
theorem dX12_neededNow_145 : decode cX12_neededNow 145 = .ok (.iconst (-1), 1) := by decide +kernel
theorem dX12_neededNow_146 : decode cX12_neededNow 146 = .ok (.ixor, 1) := by decide +kernel
theorem dX12_neededNow_147 : decode cX12_neededNow 147 = .ok (.iand, 1) := by decide +kernel
theorem dX12_neededNow_148 : decode cX12_neededNow 148 = .ok (.ifCond .eq 7, 3) := by decide +kernel
theorem dX12_neededNow_151 : decode cX12_neededNow 151 = .ok (.iconst 1, 1) := by decide +kernel
theorem dX12_neededNow_152 : decode cX12_neededNow 152 = .ok (.goto 4, 3) := by decide +kernel
theorem dX12_neededNow_155 : decode cX12_neededNow 155 = .ok (.iconst 0, 1) := by decide +kernel
theorem dX12_neededNow_156 : decode cX12_neededNow 156 = .ok (.iadd, 1) := by decide +kernel
theorem dX12_neededNow_157 : decode cX12_neededNow 157 = .ok (.istore_n 2, 1) := by decide +kernel
theorem dX12_neededNow_158 : decode cX12_neededNow 158 = .ok (.iinc 3 1, 3) := by decide +kernel
theorem dX12_neededNow_161 : decode cX12_neededNow 161 = .ok (.goto (-157), 3) := by decide +kernel
theorem dX12_neededNow_164 : decode cX12_neededNow 164 = .ok (.iload_n 2, 1) := by decide +kernel
theorem dX12_neededNow_165 : decode cX12_neededNow 165 = .ok (.ireturn, 1) := by decide +kernel
set_option maxRecDepth 20000 in
theorem ggX12_neededBy_X12_isNoContract : GoodIn wsX12_neededBy wsX12_isNoContract := goodIn_r _ [5, 6, 7, 8, 9, 10, 11, 12, 13, 14, 4, 15, 16, 17, 18, 19, 20, 21, 22, 23, 24, 69, 70, 71, 72, 73, 74, 75, 76, 77] (by decide +kernel) (by decide +kernel)
set_option maxRecDepth 20000 in
theorem gX12_neededBy_X12_isNoContract : GoodIn wsX12_neededBy (wsV RX12 201 RX12 yX12_isNoContract wsX12_isNoContract) := goodIn_app (goodIn_of _ (by decide +kernel)) ggX12_neededBy_X12_isNoContract
set_option maxRecDepth 20000 in
theorem ggX12_neededBy_X12_neededNow : GoodIn wsX12_neededBy wsX12_neededNow := goodIn_r _ [28, 29, 30, 6, 31, 32, 33, 34, 35, 36, 7, 8, 9, 10, 11, 12, 37, 38, 39, 40, 41, 42, 43, 44, 45, 46, 47, 48, 49, 50, 51, 52, 53, 54, 55, 56, 57, 58, 59, 60, 61, 62, 63, 64, 65, 66, 67, 68, 69, 70, 71, 72, 73, 74, 78, 79, 80, 81, 82, 83, 84, 85, 86, 87, 75, 76, 77, 88, 89, 90, 91, 92, 93] (by decide +kernel) (by decide +kernel)
set_option maxRecDepth 20000 in
theorem gX12_neededBy_X12_neededNow : GoodIn wsX12_neededBy (wsV RX12 289 RX12 yX12_neededNow wsX12_neededNow) := goodIn_app (goodIn_of _ (by decide +kernel)) ggX12_neededBy_X12_neededNow
theorem dX12_neededBy_0 : decode cX12_neededBy 0 = .ok (.aload_n 0, 1) := by decide +kernel
theorem dX12_neededBy_1 : decode cX12_neededBy 1 = .ok (.iload_n 1, 1) := by decide +kernel
theorem dX12_neededBy_2 : decode cX12_neededBy 2 = .ok (.invokevirtual 201, 3) := by decide +kernel
theorem dX12_neededBy_5 : decode cX12_neededBy 5 = .ok (.ifCond .eq 7, 3) := by decide +kernel
theorem dX12_neededBy_8 : decode cX12_neededBy 8 = .ok (.iconst 0, 1) := by decide +kernel
theorem dX12_neededBy_9 : decode cX12_neededBy 9 = .ok (.goto 8, 3) := by decide +kernel
theorem dX12_neededBy_12 : decode cX12_neededBy 12 = .ok (.aload_n 0, 1) := by decide +kernel
theorem dX12_neededBy_13 : decode cX12_neededBy 13 = .ok (.iload_n 1, 1) := by decide +kernel
theorem dX12_neededBy_14 : decode cX12_neededBy 14 = .ok (.invokevirtual 289, 3) := by decide +kernel
theorem dX12_neededBy_17 : decode cX12_neededBy 17 = .ok (.ireturn, 1) := by decide +kernel
theorem dX12_add_0 : decode cX12_add 0 = .ok (.lload_n 0, 1) := by decide +kernel
theorem dX12_add_1 : decode cX12_add 1 = .ok (.ldc2_w 292, 3) := by decide +kernel
theorem dX12_add_4 : decode cX12_add 4 = .ok (.lmul, 1) := by decide +kernel
theorem dX12_add_5 : decode cX12_add 5 = .ok (.lload_n 2, 1) := by decide +kernel
theorem dX12_add_6 : decode cX12_add 6 = .ok (.ladd, 1) := by decide +kernel
theorem dX12_add_7 : decode cX12_add 7 = .ok (.lreturn, 1) := by decide +kernel
set_option maxRecDepth 20000 in
theorem ggX12_digest_X12_harms : GoodIn wsX12_digest wsX12_harms := goodIn_r _ [15, 3, 4, 5, 16, 17, 18, 19, 20, 21, 22, 23, 24, 25, 26, 27, 28, 29, 30, 31, 32, 33, 34, 35, 36, 37, 38, 39, 40, 41, 42, 43, 44, 45, 46, 47, 48, 49, 50, 51, 52, 187, 188, 189, 190, 191, 192, 193, 194, 195, 196, 197, 198, 199, 200, 201, 202, 203, 204, 205, 206, 207, 208, 209] (by decide +kernel) (by decide +kernel)
set_option maxRecDepth 20000 in
theorem gX12_digest_X12_harms : GoodIn wsX12_digest (wsV RX12 148 RX12 yX12_harms wsX12_harms) := goodIn_app (goodIn_of _ (by decide +kernel)) ggX12_digest_X12_harms
set_option maxRecDepth 20000 in
theorem ggX12_digest_X12_count : GoodIn wsX12_digest wsX12_count := goodIn_r _ [56, 3, 4, 5, 8, 9, 57, 58, 59, 10, 7, 30, 31, 32, 33, 34, 35, 36, 37, 38, 39, 40, 41, 42, 43, 44, 45, 46, 47, 48, 49, 50, 51, 52, 60, 61, 62, 63, 64, 65, 66, 67, 68, 14, 69, 11, 12, 13, 15, 16, 17, 18, 19, 20, 21, 22, 23, 24, 25, 26, 27, 28, 29, 70, 71, 72, 73, 74, 75, 187, 188, 189, 190, 191, 192, 193, 194, 195, 196, 197, 210, 211, 212, 213, 214, 215, 216, 217, 218, 219, 207, 208, 209, 198, 199, 200, 201, 202, 203, 204, 205, 206] (by decide +kernel) (by decide +kernel)
set_option maxRecDepth 20000 in
theorem gX12_digest_X12_count : GoodIn wsX12_digest (wsV RX12 283 RX12 yX12_count wsX12_count) := goodIn_app (goodIn_of _ (by decide +kernel)) ggX12_digest_X12_count
set_option maxRecDepth 20000 in
theorem ggX12_digest_X12_add : GoodIn wsX12_digest wsX12_add := goodIn_r _ [78, 79] (by decide +kernel) (by decide +kernel)
set_option maxRecDepth 20000 in
theorem gX12_digest_X12_add : GoodIn wsX12_digest (va_wsS RX12 296 yX12_add wsX12_add) := goodIn_app (goodIn_of _ (by decide +kernel)) ggX12_digest_X12_add
set_option maxRecDepth 20000 in
theorem ggX12_digest_Jx4a65c_size_8abf5 : GoodIn wsX12_digest wsJx4a65c_size_8abf5 := goodIn_r _ [34, 35, 207, 208, 209] (by decide +kernel) (by decide +kernel)
set_option maxRecDepth 20000 in
theorem gX12_digest_Jx4a65c_size_8abf5 : GoodIn wsX12_digest (wsV RX12 33 RJx4a65c yJx4a65c_size_8abf5 wsJx4a65c_size_8abf5) := goodIn_app (goodIn_of _ (by decide +kernel)) ggX12_digest_Jx4a65c_size_8abf5
set_option maxRecDepth 20000 in
theorem ggX12_digest_X12_ofSetNow : GoodIn wsX12_digest wsX12_ofSetNow := goodIn_r _ [83, 3, 4, 6, 5, 8, 9, 84, 36, 37, 38, 33, 39, 35, 40, 41, 42, 43, 44, 45, 46, 47, 48, 49, 50, 51, 52, 30, 31, 32, 34, 85, 86, 87, 88, 89, 90, 91, 92, 93, 94, 95, 96, 97, 98, 99, 100, 101, 102, 103, 104, 60, 61, 62, 63, 64, 65, 70, 71, 72, 73, 74, 75, 187, 188, 189, 190, 191, 192, 193, 194, 195, 196, 197, 210, 211, 212, 213, 214, 215, 216, 217, 218, 219, 207, 208, 209, 198, 199, 200, 201, 202] (by decide +kernel) (by decide +kernel)
set_option maxRecDepth 20000 in
theorem gX12_digest_X12_ofSetNow : GoodIn wsX12_digest (wsV RX12 179 RX12 yX12_ofSetNow wsX12_ofSetNow) := goodIn_app (goodIn_of _ (by decide +kernel)) ggX12_digest_X12_ofSetNow
set_option maxRecDepth 20000 in
theorem ggX12_digest_Jx4a65c_get_915e3 : GoodIn wsX12_digest wsJx4a65c_get_915e3 := goodIn_r _ [39, 35, 40, 41, 42, 43, 44, 45, 46, 47, 48, 49, 50, 33, 51, 52, 207, 208, 209] (by decide +kernel) (by decide +kernel)
set_option maxRecDepth 20000 in
theorem gX12_digest_Jx4a65c_get_915e3 : GoodIn wsX12_digest (wsV RX12 45 RJx4a65c yJx4a65c_get_915e3 wsJx4a65c_get_915e3) := goodIn_app (goodIn_of _ (by decide +kernel)) ggX12_digest_Jx4a65c_get_915e3
set_option maxRecDepth 20000 in
theorem ggX12_digest_X12_ofReaderNow : GoodIn wsX12_digest wsX12_ofReaderNow := goodIn_r _ [108, 8, 9, 109, 58, 57, 110, 111, 112, 14, 113, 114, 7, 30, 31, 32, 33, 34, 35, 36, 37, 38, 39, 40, 41, 42, 43, 44, 45, 46, 47, 48, 49, 50, 51, 52, 115, 116, 117, 63, 118, 119, 120, 121, 122, 123, 124, 125, 126, 127, 128, 129, 130, 131, 10, 132, 133, 134, 135, 136, 137, 138, 139, 140, 60, 61, 62, 64, 65, 70, 71, 72, 73, 74, 75, 141, 142, 143, 144, 145, 146, 187, 188, 189, 190, 191, 192, 210, 211, 212, 213, 214, 215, 216, 217, 218, 219, 207, 208, 209, 220, 221, 222, 223, 224, 225] (by decide +kernel) (by decide +kernel)
set_option maxRecDepth 20000 in
theorem gX12_digest_X12_ofReaderNow : GoodIn wsX12_digest (wsV RX12 280 RX12 yX12_ofReaderNow wsX12_ofReaderNow) := goodIn_app (goodIn_of _ (by decide +kernel)) ggX12_digest_X12_ofReaderNow
set_option maxRecDepth 20000 in
theorem ggX12_digest_X12_coveredNow : GoodIn wsX12_digest wsX12_coveredNow := goodIn_r _ [150, 10, 132, 30, 31, 32, 33, 34, 35, 36, 37, 38, 39, 40, 41, 42, 43, 44, 45, 46, 47, 48, 49, 50, 51, 52, 151, 152, 153, 137, 154, 155, 156, 157, 158, 159, 135, 136, 138, 139, 140, 187, 188, 189, 190, 191, 192, 207, 208, 209, 220, 221, 222, 223, 224, 225] (by decide +kernel) (by decide +kernel)
set_option maxRecDepth 20000 in
theorem gX12_digest_X12_coveredNow : GoodIn wsX12_digest (wsV RX12 214 RX12 yX12_coveredNow wsX12_coveredNow) := goodIn_app (goodIn_of _ (by decide +kernel)) ggX12_digest_X12_coveredNow
set_option maxRecDepth 20000 in
theorem ggX12_digest_X12_previewsNow : GoodIn wsX12_digest wsX12_previewsNow := goodIn_r _ [163, 3, 4, 36, 37, 38, 33, 39, 35, 40, 41, 42, 43, 44, 45, 46, 47, 48, 49, 50, 51, 52, 164, 165, 166, 88, 167, 168, 169, 122, 123, 124, 125, 126, 127, 170, 171, 172, 14, 173, 174, 7, 5, 6, 147, 148, 149, 150, 10, 132, 30, 31, 32, 34, 151, 152, 153, 137, 154, 155, 156, 157, 158, 159, 135, 136, 138, 139, 140, 103, 94, 95, 96, 187, 188, 189, 190, 191, 192, 207, 208, 209, 193, 194, 195, 196, 197, 220, 221, 222, 223, 224, 225] (by decide +kernel) (by decide +kernel)
set_option maxRecDepth 20000 in
theorem gX12_digest_X12_previewsNow : GoodIn wsX12_digest (wsV RX12 286 RX12 yX12_previewsNow wsX12_previewsNow) := goodIn_app (goodIn_of _ (by decide +kernel)) ggX12_digest_X12_previewsNow
set_option maxRecDepth 20000 in
theorem ggX12_digest_X12_ofReadNow : GoodIn wsX12_digest wsX12_ofReadNow := goodIn_r _ [177, 58, 109, 84, 178, 179, 180, 114, 181, 57, 182, 115, 116, 117, 63, 118, 119, 120, 121, 122, 123, 124, 125, 126, 127, 60, 61, 62, 64, 65, 70, 71, 72, 73, 74, 75, 210, 211, 212, 213, 214, 215, 216, 217, 218, 219] (by decide +kernel) (by decide +kernel)
set_option maxRecDepth 20000 in
theorem gX12_digest_X12_ofReadNow : GoodIn wsX12_digest (va_wsS RX12 266 yX12_ofReadNow wsX12_ofReadNow) := goodIn_app (goodIn_of _ (by decide +kernel)) ggX12_digest_X12_ofReadNow
set_option maxRecDepth 20000 in
theorem ggX12_digest_X12_neededNow : GoodIn wsX12_digest wsX12_neededNow := goodIn_r _ [186, 8, 9, 10, 132, 109, 84, 182, 114, 179, 30, 31, 32, 33, 34, 35, 36, 37, 38, 39, 40, 41, 42, 43, 44, 45, 46, 47, 48, 49, 50, 51, 52, 151, 152, 153, 137, 154, 155, 156, 157, 158, 159, 135, 136, 138, 139, 140, 187, 188, 189, 190, 191, 192, 210, 211, 212, 213, 214, 215, 216, 217, 218, 219, 207, 208, 209, 220, 221, 222, 223, 224, 225] (by decide +kernel) (by decide +kernel)
set_option maxRecDepth 20000 in
theorem gX12_digest_X12_neededNow : GoodIn wsX12_digest (wsV RX12 289 RX12 yX12_neededNow wsX12_neededNow) := goodIn_app (goodIn_of _ (by decide +kernel)) ggX12_digest_X12_neededNow
theorem dX12_digest_0 : decode cX12_digest 0 = .ok (.aload_n 0, 1) := by decide +kernel
theorem dX12_digest_1 : decode cX12_digest 1 = .ok (.iconst 0, 1) := by decide +kernel
theorem dX12_digest_2 : decode cX12_digest 2 = .ok (.putfield 25, 3) := by decide +kernel
theorem dX12_digest_5 : decode cX12_digest 5 = .ok (.aload_n 0, 1) := by decide +kernel
theorem dX12_digest_6 : decode cX12_digest 6 = .ok (.invokevirtual 148, 3) := by decide +kernel
theorem dX12_digest_9 : decode cX12_digest 9 = .ok (.astore_n 1, 1) := by decide +kernel
theorem dX12_digest_10 : decode cX12_digest 10 = .ok (.ldc2_w 294, 3) := by decide +kernel
theorem dX12_digest_13 : decode cX12_digest 13 = .ok (.lstore_n 2, 1) := by decide +kernel
theorem dX12_digest_14 : decode cX12_digest 14 = .ok (.iconst 0, 1) := by decide +kernel
theorem dX12_digest_15 : decode cX12_digest 15 = .ok (.istore 4, 2) := by decide +kernel
theorem dX12_digest_17 : decode cX12_digest 17 = .ok (.iload 4, 2) := by decide +kernel
theorem dX12_digest_19 : decode cX12_digest 19 = .ok (.bipush 9, 2) := by decide +kernel
theorem dX12_digest_21 : decode cX12_digest 21 = .ok (.if_icmp .ge 21, 3) := by decide +kernel
theorem dX12_digest_24 : decode cX12_digest 24 = .ok (.lload_n 2, 1) := by decide +kernel
theorem dX12_digest_25 : decode cX12_digest 25 = .ok (.aload_n 0, 1) := by decide +kernel
theorem dX12_digest_26 : decode cX12_digest 26 = .ok (.iload 4, 2) := by decide +kernel
theorem dX12_digest_28 : decode cX12_digest 28 = .ok (.invokevirtual 283, 3) := by decide +kernel
theorem dX12_digest_31 : decode cX12_digest 31 = .ok (.i2l, 1) := by decide +kernel
theorem dX12_digest_32 : decode cX12_digest 32 = .ok (.invokestatic 296, 3) := by decide +kernel
theorem dX12_digest_35 : decode cX12_digest 35 = .ok (.lstore_n 2, 1) := by decide +kernel
theorem dX12_digest_36 : decode cX12_digest 36 = .ok (.iinc 4 1, 3) := by decide +kernel
theorem dX12_digest_39 : decode cX12_digest 39 = .ok (.goto (-22), 3) := by decide +kernel
theorem dX12_digest_42 : decode cX12_digest 42 = .ok (.iconst 0, 1) := by decide +kernel
theorem dX12_digest_43 : decode cX12_digest 43 = .ok (.istore 4, 2) := by decide +kernel
theorem dX12_digest_45 : decode cX12_digest 45 = .ok (.iload 4, 2) := by decide +kernel
theorem dX12_digest_47 : decode cX12_digest 47 = .ok (.aload_n 0, 1) := by decide +kernel
theorem dX12_digest_48 : decode cX12_digest 48 = .ok (.getfield 10, 3) := by decide +kernel
theorem dX12_digest_51 : decode cX12_digest 51 = .ok (.invokevirtual 33, 3) := by decide +kernel
theorem dX12_digest_54 : decode cX12_digest 54 = .ok (.if_icmp .ge 117, 3) := by decide +kernel
theorem dX12_digest_57 : decode cX12_digest 57 = .ok (.iconst 0, 1) := by decide +kernel
theorem dX12_digest_58 : decode cX12_digest 58 = .ok (.istore 5, 2) := by decide +kernel
theorem dX12_digest_60 : decode cX12_digest 60 = .ok (.iload 5, 2) := by decide +kernel
theorem dX12_digest_62 : decode cX12_digest 62 = .ok (.bipush 7, 2) := by decide +kernel
theorem dX12_digest_64 : decode cX12_digest 64 = .ok (.if_icmp .ge 24, 3) := by decide +kernel
theorem dX12_digest_67 : decode cX12_digest 67 = .ok (.lload_n 2, 1) := by decide +kernel
theorem dX12_digest_68 : decode cX12_digest 68 = .ok (.aload_n 0, 1) := by decide +kernel
theorem dX12_digest_69 : decode cX12_digest 69 = .ok (.aload_n 1, 1) := by decide +kernel
theorem dX12_digest_70 : decode cX12_digest 70 = .ok (.iload 4, 2) := by decide +kernel
theorem dX12_digest_72 : decode cX12_digest 72 = .ok (.iload 5, 2) := by decide +kernel
theorem dX12_digest_74 : decode cX12_digest 74 = .ok (.invokevirtual 179, 3) := by decide +kernel
theorem dX12_digest_77 : decode cX12_digest 77 = .ok (.i2l, 1) := by decide +kernel
theorem dX12_digest_78 : decode cX12_digest 78 = .ok (.invokestatic 296, 3) := by decide +kernel
theorem dX12_digest_81 : decode cX12_digest 81 = .ok (.lstore_n 2, 1) := by decide +kernel
theorem dX12_digest_82 : decode cX12_digest 82 = .ok (.iinc 5 1, 3) := by decide +kernel
theorem dX12_digest_85 : decode cX12_digest 85 = .ok (.goto (-25), 3) := by decide +kernel
theorem dX12_digest_88 : decode cX12_digest 88 = .ok (.iconst 0, 1) := by decide +kernel
theorem dX12_digest_89 : decode cX12_digest 89 = .ok (.istore 5, 2) := by decide +kernel
theorem dX12_digest_91 : decode cX12_digest 91 = .ok (.iload 5, 2) := by decide +kernel
theorem dX12_digest_93 : decode cX12_digest 93 = .ok (.aload_n 0, 1) := by decide +kernel
theorem dX12_digest_94 : decode cX12_digest 94 = .ok (.getfield 10, 3) := by decide +kernel
theorem dX12_digest_97 : decode cX12_digest 97 = .ok (.iload 4, 2) := by decide +kernel
theorem dX12_digest_99 : decode cX12_digest 99 = .ok (.invokevirtual 45, 3) := by decide +kernel
theorem dX12_digest_102 : decode cX12_digest 102 = .ok (.checkcast 49, 3) := by decide +kernel
theorem dX12_digest_105 : decode cX12_digest 105 = .ok (.getfield 69, 3) := by decide +kernel
theorem dX12_digest_108 : decode cX12_digest 108 = .ok (.invokevirtual 33, 3) := by decide +kernel
theorem dX12_digest_111 : decode cX12_digest 111 = .ok (.if_icmp .ge 54, 3) := by decide +kernel
theorem dX12_digest_114 : decode cX12_digest 114 = .ok (.iconst 0, 1) := by decide +kernel
theorem dX12_digest_115 : decode cX12_digest 115 = .ok (.istore 6, 2) := by decide +kernel
theorem dX12_digest_117 : decode cX12_digest 117 = .ok (.iload 6, 2) := by decide +kernel
theorem dX12_digest_119 : decode cX12_digest 119 = .ok (.aload_n 0, 1) := by decide +kernel
theorem dX12_digest_120 : decode cX12_digest 120 = .ok (.getfield 10, 3) := by decide +kernel
theorem dX12_digest_123 : decode cX12_digest 123 = .ok (.iload 4, 2) := by decide +kernel
theorem dX12_digest_125 : decode cX12_digest 125 = .ok (.invokevirtual 45, 3) := by decide +kernel
theorem dX12_digest_128 : decode cX12_digest 128 = .ok (.checkcast 49, 3) := by decide +kernel
theorem dX12_digest_131 : decode cX12_digest 131 = .ok (.getfield 51, 3) := by decide +kernel
theorem dX12_digest_134 : decode cX12_digest 134 = .ok (.if_icmp .ge 25, 3) := by decide +kernel
theorem dX12_digest_137 : decode cX12_digest 137 = .ok (.lload_n 2, 1) := by decide +kernel
theorem dX12_digest_138 : decode cX12_digest 138 = .ok (.aload_n 1, 1) := by decide +kernel
theorem dX12_digest_139 : decode cX12_digest 139 = .ok (.iload 4, 2) := by decide +kernel
theorem dX12_digest_141 : decode cX12_digest 141 = .ok (.aaload, 1) := by decide +kernel
theorem dX12_digest_142 : decode cX12_digest 142 = .ok (.iload 5, 2) := by decide +kernel
theorem dX12_digest_144 : decode cX12_digest 144 = .ok (.aaload, 1) := by decide +kernel
theorem dX12_digest_145 : decode cX12_digest 145 = .ok (.iload 6, 2) := by decide +kernel
theorem dX12_digest_147 : decode cX12_digest 147 = .ok (.iaload, 1) := by decide +kernel
theorem dX12_digest_148 : decode cX12_digest 148 = .ok (.i2l, 1) := by decide +kernel
theorem dX12_digest_149 : decode cX12_digest 149 = .ok (.invokestatic 296, 3) := by decide +kernel
theorem dX12_digest_152 : decode cX12_digest 152 = .ok (.lstore_n 2, 1) := by decide +kernel
theorem dX12_digest_153 : decode cX12_digest 153 = .ok (.iinc 6 1, 3) := by decide +kernel
theorem dX12_digest_156 : decode cX12_digest 156 = .ok (.goto (-39), 3) := by decide +kernel
theorem dX12_digest_159 : decode cX12_digest 159 = .ok (.iinc 5 1, 3) := by decide +kernel
theorem dX12_digest_162 : decode cX12_digest 162 = .ok (.goto (-71), 3) := by decide +kernel
theorem dX12_digest_165 : decode cX12_digest 165 = .ok (.iinc 4 1, 3) := by decide +kernel
theorem dX12_digest_168 : decode cX12_digest 168 = .ok (.goto (-123), 3) := by decide +kernel
theorem dX12_digest_171 : decode cX12_digest 171 = .ok (.iconst 0, 1) := by decide +kernel
theorem dX12_digest_172 : decode cX12_digest 172 = .ok (.istore 4, 2) := by decide +kernel
theorem dX12_digest_174 : decode cX12_digest 174 = .ok (.iload 4, 2) := by decide +kernel
theorem dX12_digest_176 : decode cX12_digest 176 = .ok (.bipush 6, 2) := by decide +kernel
theorem dX12_digest_178 : decode cX12_digest 178 = .ok (.if_icmp .ge 92, 3) := by decide +kernel
theorem dX12_digest_181 : decode cX12_digest 181 = .ok (.iconst 0, 1) := by decide +kernel
theorem dX12_digest_182 : decode cX12_digest 182 = .ok (.istore 5, 2) := by decide +kernel
theorem dX12_digest_184 : decode cX12_digest 184 = .ok (.iload 5, 2) := by decide +kernel
theorem dX12_digest_186 : decode cX12_digest 186 = .ok (.bipush 7, 2) := by decide +kernel
theorem dX12_digest_188 : decode cX12_digest 188 = .ok (.if_icmp .ge 24, 3) := by decide +kernel
theorem dX12_digest_191 : decode cX12_digest 191 = .ok (.lload_n 2, 1) := by decide +kernel
theorem dX12_digest_192 : decode cX12_digest 192 = .ok (.aload_n 0, 1) := by decide +kernel
theorem dX12_digest_193 : decode cX12_digest 193 = .ok (.aload_n 1, 1) := by decide +kernel
theorem dX12_digest_194 : decode cX12_digest 194 = .ok (.iload 4, 2) := by decide +kernel
theorem dX12_digest_196 : decode cX12_digest 196 = .ok (.iload 5, 2) := by decide +kernel
theorem dX12_digest_198 : decode cX12_digest 198 = .ok (.invokevirtual 280, 3) := by decide +kernel
theorem dX12_digest_201 : decode cX12_digest 201 = .ok (.i2l, 1) := by decide +kernel
theorem dX12_digest_202 : decode cX12_digest 202 = .ok (.invokestatic 296, 3) := by decide +kernel
theorem dX12_digest_205 : decode cX12_digest 205 = .ok (.lstore_n 2, 1) := by decide +kernel
theorem dX12_digest_206 : decode cX12_digest 206 = .ok (.iinc 5 1, 3) := by decide +kernel
theorem dX12_digest_209 : decode cX12_digest 209 = .ok (.goto (-25), 3) := by decide +kernel
theorem dX12_digest_212 : decode cX12_digest 212 = .ok (.iconst 0, 1) := by decide +kernel
theorem dX12_digest_213 : decode cX12_digest 213 = .ok (.istore 5, 2) := by decide +kernel
theorem dX12_digest_215 : decode cX12_digest 215 = .ok (.iload 5, 2) := by decide +kernel
theorem dX12_digest_217 : decode cX12_digest 217 = .ok (.aload_n 0, 1) := by decide +kernel
theorem dX12_digest_218 : decode cX12_digest 218 = .ok (.getfield 10, 3) := by decide +kernel
theorem dX12_digest_221 : decode cX12_digest 221 = .ok (.invokevirtual 33, 3) := by decide +kernel
theorem dX12_digest_224 : decode cX12_digest 224 = .ok (.if_icmp .ge 40, 3) := by decide +kernel
theorem dX12_digest_227 : decode cX12_digest 227 = .ok (.lload_n 2, 1) := by decide +kernel
theorem dX12_digest_228 : decode cX12_digest 228 = .ok (.aload_n 0, 1) := by decide +kernel
theorem dX12_digest_229 : decode cX12_digest 229 = .ok (.iload 4, 2) := by decide +kernel
theorem dX12_digest_231 : decode cX12_digest 231 = .ok (.iload 5, 2) := by decide +kernel
theorem dX12_digest_233 : decode cX12_digest 233 = .ok (.iconst 0, 1) := by decide +kernel
theorem dX12_digest_234 : decode cX12_digest 234 = .ok (.aload_n 0, 1) := by decide +kernel
theorem dX12_digest_235 : decode cX12_digest 235 = .ok (.getfield 193, 3) := by decide +kernel
theorem dX12_digest_238 : decode cX12_digest 238 = .ok (.invokevirtual 214, 3) := by decide +kernel
theorem dX12_digest_241 : decode cX12_digest 241 = .ok (.i2l, 1) := by decide +kernel
theorem dX12_digest_242 : decode cX12_digest 242 = .ok (.invokestatic 296, 3) := by decide +kernel
theorem dX12_digest_245 : decode cX12_digest 245 = .ok (.aload_n 0, 1) := by decide +kernel
theorem dX12_digest_246 : decode cX12_digest 246 = .ok (.iload 4, 2) := by decide +kernel
theorem dX12_digest_248 : decode cX12_digest 248 = .ok (.iload 5, 2) := by decide +kernel
theorem dX12_digest_250 : decode cX12_digest 250 = .ok (.invokevirtual 286, 3) := by decide +kernel
theorem dX12_digest_253 : decode cX12_digest 253 = .ok (.i2l, 1) := by decide +kernel
theorem dX12_digest_254 : decode cX12_digest 254 = .ok (.invokestatic 296, 3) := by decide +kernel
theorem dX12_digest_257 : decode cX12_digest 257 = .ok (.lstore_n 2, 1) := by decide +kernel
theorem dX12_digest_258 : decode cX12_digest 258 = .ok (.iinc 5 1, 3) := by decide +kernel
theorem dX12_digest_261 : decode cX12_digest 261 = .ok (.goto (-46), 3) := by decide +kernel
theorem dX12_digest_264 : decode cX12_digest 264 = .ok (.iinc 4 1, 3) := by decide +kernel
theorem dX12_digest_267 : decode cX12_digest 267 = .ok (.goto (-93), 3) := by decide +kernel
theorem dX12_digest_270 : decode cX12_digest 270 = .ok (.iconst 0, 1) := by decide +kernel
theorem dX12_digest_271 : decode cX12_digest 271 = .ok (.istore 4, 2) := by decide +kernel
theorem dX12_digest_273 : decode cX12_digest 273 = .ok (.iload 4, 2) := by decide +kernel
theorem dX12_digest_275 : decode cX12_digest 275 = .ok (.aload_n 0, 1) := by decide +kernel
theorem dX12_digest_276 : decode cX12_digest 276 = .ok (.getfield 22, 3) := by decide +kernel
theorem dX12_digest_279 : decode cX12_digest 279 = .ok (.invokevirtual 33, 3) := by decide +kernel
theorem dX12_digest_282 : decode cX12_digest 282 = .ok (.if_icmp .ge 49, 3) := by decide +kernel
theorem dX12_digest_285 : decode cX12_digest 285 = .ok (.iconst 0, 1) := by decide +kernel
theorem dX12_digest_286 : decode cX12_digest 286 = .ok (.istore 5, 2) := by decide +kernel
theorem dX12_digest_288 : decode cX12_digest 288 = .ok (.iload 5, 2) := by decide +kernel
theorem dX12_digest_290 : decode cX12_digest 290 = .ok (.bipush 12, 2) := by decide +kernel
theorem dX12_digest_292 : decode cX12_digest 292 = .ok (.if_icmp .ge 33, 3) := by decide +kernel
theorem dX12_digest_295 : decode cX12_digest 295 = .ok (.lload_n 2, 1) := by decide +kernel
theorem dX12_digest_296 : decode cX12_digest 296 = .ok (.aload_n 1, 1) := by decide +kernel
theorem dX12_digest_297 : decode cX12_digest 297 = .ok (.aload_n 0, 1) := by decide +kernel
theorem dX12_digest_298 : decode cX12_digest 298 = .ok (.getfield 22, 3) := by decide +kernel
theorem dX12_digest_301 : decode cX12_digest 301 = .ok (.iload 4, 2) := by decide +kernel
theorem dX12_digest_303 : decode cX12_digest 303 = .ok (.invokevirtual 45, 3) := by decide +kernel
theorem dX12_digest_306 : decode cX12_digest 306 = .ok (.checkcast 152, 3) := by decide +kernel
theorem dX12_digest_309 : decode cX12_digest 309 = .ok (.iload 5, 2) := by decide +kernel
theorem dX12_digest_311 : decode cX12_digest 311 = .ok (.invokestatic 266, 3) := by decide +kernel
theorem dX12_digest_314 : decode cX12_digest 314 = .ok (.i2l, 1) := by decide +kernel
theorem dX12_digest_315 : decode cX12_digest 315 = .ok (.invokestatic 296, 3) := by decide +kernel
theorem dX12_digest_318 : decode cX12_digest 318 = .ok (.lstore_n 2, 1) := by decide +kernel
theorem dX12_digest_319 : decode cX12_digest 319 = .ok (.iinc 5 1, 3) := by decide +kernel
theorem dX12_digest_322 : decode cX12_digest 322 = .ok (.goto (-34), 3) := by decide +kernel
theorem dX12_digest_325 : decode cX12_digest 325 = .ok (.iinc 4 1, 3) := by decide +kernel
theorem dX12_digest_328 : decode cX12_digest 328 = .ok (.goto (-55), 3) := by decide +kernel
theorem dX12_digest_331 : decode cX12_digest 331 = .ok (.iconst 0, 1) := by decide +kernel
theorem dX12_digest_332 : decode cX12_digest 332 = .ok (.istore 4, 2) := by decide +kernel
theorem dX12_digest_334 : decode cX12_digest 334 = .ok (.iload 4, 2) := by decide +kernel
theorem dX12_digest_336 : decode cX12_digest 336 = .ok (.aload_n 0, 1) := by decide +kernel
theorem dX12_digest_337 : decode cX12_digest 337 = .ok (.getfield 19, 3) := by decide +kernel
theorem dX12_digest_340 : decode cX12_digest 340 = .ok (.invokevirtual 33, 3) := by decide +kernel
theorem dX12_digest_343 : decode cX12_digest 343 = .ok (.if_icmp .ge 21, 3) := by decide +kernel
theorem dX12_digest_346 : decode cX12_digest 346 = .ok (.lload_n 2, 1) := by decide +kernel
theorem dX12_digest_347 : decode cX12_digest 347 = .ok (.aload_n 0, 1) := by decide +kernel
theorem dX12_digest_348 : decode cX12_digest 348 = .ok (.iload 4, 2) := by decide +kernel
theorem dX12_digest_350 : decode cX12_digest 350 = .ok (.invokevirtual 289, 3) := by decide +kernel
theorem dX12_digest_353 : decode cX12_digest 353 = .ok (.i2l, 1) := by decide +kernel
theorem dX12_digest_354 : decode cX12_digest 354 = .ok (.invokestatic 296, 3) := by decide +kernel
theorem dX12_digest_357 : decode cX12_digest 357 = .ok (.lstore_n 2, 1) := by decide +kernel
theorem dX12_digest_358 : decode cX12_digest 358 = .ok (.iinc 4 1, 3) := by decide +kernel
theorem dX12_digest_361 : decode cX12_digest 361 = .ok (.goto (-27), 3) := by decide +kernel
theorem dX12_digest_364 : decode cX12_digest 364 = .ok (.lload_n 2, 1) := by decide +kernel
theorem dX12_digest_365 : decode cX12_digest 365 = .ok (.lreturn, 1) := by decide +kernel
