set_option maxRecDepth 20000 in
theorem ggX12_init_Jx4a65c_init_da8c8 : GoodIn wsX12_init wsJx4a65c_init_da8c8 := goodIn_r _ [13, 14, 15, 16, 17, 18, 19, 20, 21, 22, 23, 24, 25, 2, 3, 26, 27, 28] (by decide +kernel) (by decide +kernel)
set_option maxRecDepth 20000 in
theorem gX12_init_Jx4a65c_init_da8c8 : GoodIn wsX12_init (wsJx4a65c_init_da8c8) := ggX12_init_Jx4a65c_init_da8c8
theorem dX12_init_0 : decode cX12_init 0 = .ok (.aload_n 0, 1) := by decide +kernel
theorem dX12_init_1 : decode cX12_init 1 = .ok (.invokespecial 1, 3) := by decide +kernel
theorem dX12_init_4 : decode cX12_init 4 = .ok (.aload_n 0, 1) := by decide +kernel
theorem dX12_init_5 : decode cX12_init 5 = .ok (.new 7, 3) := by decide +kernel
theorem dX12_init_8 : decode cX12_init 8 = .ok (.dup, 1) := by decide +kernel
theorem dX12_init_9 : decode cX12_init 9 = .ok (.invokespecial 9, 3) := by decide +kernel
theorem dX12_init_12 : decode cX12_init 12 = .ok (.putfield 10, 3) := by decide +kernel
theorem dX12_init_15 : decode cX12_init 15 = .ok (.aload_n 0, 1) := by decide +kernel
theorem dX12_init_16 : decode cX12_init 16 = .ok (.new 7, 3) := by decide +kernel
theorem dX12_init_19 : decode cX12_init 19 = .ok (.dup, 1) := by decide +kernel
theorem dX12_init_20 : decode cX12_init 20 = .ok (.invokespecial 9, 3) := by decide +kernel
theorem dX12_init_23 : decode cX12_init 23 = .ok (.putfield 16, 3) := by decide +kernel
theorem dX12_init_26 : decode cX12_init 26 = .ok (.aload_n 0, 1) := by decide +kernel
theorem dX12_init_27 : decode cX12_init 27 = .ok (.new 7, 3) := by decide +kernel
theorem dX12_init_30 : decode cX12_init 30 = .ok (.dup, 1) := by decide +kernel
theorem dX12_init_31 : decode cX12_init 31 = .ok (.invokespecial 9, 3) := by decide +kernel
theorem dX12_init_34 : decode cX12_init 34 = .ok (.putfield 19, 3) := by decide +kernel
theorem dX12_init_37 : decode cX12_init 37 = .ok (.aload_n 0, 1) := by decide +kernel
theorem dX12_init_38 : decode cX12_init 38 = .ok (.new 7, 3) := by decide +kernel
theorem dX12_init_41 : decode cX12_init 41 = .ok (.dup, 1) := by decide +kernel
theorem dX12_init_42 : decode cX12_init 42 = .ok (.invokespecial 9, 3) := by decide +kernel
theorem dX12_init_45 : decode cX12_init 45 = .ok (.putfield 22, 3) := by decide +kernel
theorem dX12_init_48 : decode cX12_init 48 = .ok (.return_, 1) := by decide +kernel
theorem dX12_thrown_0 : decode cX12_thrown 0 = .ok (.aload_n 0, 1) := by decide +kernel
theorem dX12_thrown_1 : decode cX12_thrown 1 = .ok (.getfield 25, 3) := by decide +kernel
theorem dX12_thrown_4 : decode cX12_thrown 4 = .ok (.ireturn, 1) := by decide +kernel
theorem dX12_isIn_0 : decode cX12_isIn 0 = .ok (.iload_n 0, 1) := by decide +kernel
theorem dX12_isIn_1 : decode cX12_isIn 1 = .ok (.iload_n 1, 1) := by decide +kernel
theorem dX12_isIn_2 : decode cX12_isIn 2 = .ok (.if_icmp .lt 12, 3) := by decide +kernel
theorem dX12_isIn_5 : decode cX12_isIn 5 = .ok (.iload_n 0, 1) := by decide +kernel
theorem dX12_isIn_6 : decode cX12_isIn 6 = .ok (.iload_n 2, 1) := by decide +kernel
theorem dX12_isIn_7 : decode cX12_isIn 7 = .ok (.if_icmp .gt 7, 3) := by decide +kernel
theorem dX12_isIn_10 : decode cX12_isIn 10 = .ok (.iconst 1, 1) := by decide +kernel
theorem dX12_isIn_11 : decode cX12_isIn 11 = .ok (.goto 4, 3) := by decide +kernel
theorem dX12_isIn_14 : decode cX12_isIn 14 = .ok (.iconst 0, 1) := by decide +kernel
theorem dX12_isIn_15 : decode cX12_isIn 15 = .ok (.ireturn, 1) := by decide +kernel
theorem dX12_refuse_0 : decode cX12_refuse 0 = .ok (.iload_n 1, 1) := by decide +kernel
theorem dX12_refuse_1 : decode cX12_refuse 1 = .ok (.ifCond .eq 15, 3) := by decide +kernel
theorem dX12_refuse_4 : decode cX12_refuse 4 = .ok (.aload_n 0, 1) := by decide +kernel
theorem dX12_refuse_5 : decode cX12_refuse 5 = .ok (.getfield 25, 3) := by decide +kernel
theorem dX12_refuse_8 : decode cX12_refuse 8 = .ok (.ifCond .ne 8, 3) := by decide +kernel
theorem dX12_refuse_11 : decode cX12_refuse 11 = .ok (.aload_n 0, 1) := by decide +kernel
theorem dX12_refuse_12 : decode cX12_refuse 12 = .ok (.iload_n 2, 1) := by decide +kernel
theorem dX12_refuse_13 : decode cX12_refuse 13 = .ok (.putfield 25, 3) := by decide +kernel
theorem dX12_refuse_16 : decode cX12_refuse 16 = .ok (.aload_n 0, 1) := by decide +kernel
theorem dX12_refuse_17 : decode cX12_refuse 17 = .ok (.getfield 25, 3) := by decide +kernel
theorem dX12_refuse_20 : decode cX12_refuse 20 = .ok (.ifCond .le 7, 3) := by decide +kernel
theorem dX12_refuse_23 : decode cX12_refuse 23 = .ok (.iconst 1, 1) := by decide +kernel
theorem dX12_refuse_24 : decode cX12_refuse 24 = .ok (.goto 4, 3) := by decide +kernel
theorem dX12_refuse_27 : decode cX12_refuse 27 = .ok (.iconst 0, 1) := by decide +kernel
theorem dX12_refuse_28 : decode cX12_refuse 28 = .ok (.ireturn, 1) := by decide +kernel
set_option maxRecDepth 20000 in
theorem ggX12_start_X12_refuse : GoodIn wsX12_start wsX12_refuse := goodIn_r _ [6, 1, 7, 8, 9, 10, 11, 12] (by decide +kernel) (by decide +kernel)
set_option maxRecDepth 20000 in
theorem gX12_start_X12_refuse : GoodIn wsX12_start (wsV RX12 29 RX12 yX12_refuse wsX12_refuse) := goodIn_app (goodIn_of _ (by decide +kernel)) ggX12_start_X12_refuse
theorem dX12_start_0 : decode cX12_start 0 = .ok (.aload_n 0, 1) := by decide +kernel
theorem dX12_start_1 : decode cX12_start 1 = .ok (.iconst 0, 1) := by decide +kernel
theorem dX12_start_2 : decode cX12_start 2 = .ok (.putfield 25, 3) := by decide +kernel
theorem dX12_start_5 : decode cX12_start 5 = .ok (.aload_n 0, 1) := by decide +kernel
theorem dX12_start_6 : decode cX12_start 6 = .ok (.iload_n 1, 1) := by decide +kernel
theorem dX12_start_7 : decode cX12_start 7 = .ok (.iload_n 2, 1) := by decide +kernel
theorem dX12_start_8 : decode cX12_start 8 = .ok (.invokevirtual 29, 3) := by decide +kernel
theorem dX12_start_11 : decode cX12_start 11 = .ok (.ireturn, 1) := by decide +kernel
set_option maxRecDepth 20000 in
theorem ggX12_isNo_Jx4a65c_size_8abf5 : GoodIn wsX12_isNo wsJx4a65c_size_8abf5 := goodIn_r _ [6, 7, 18, 19, 20] (by decide +kernel) (by decide +kernel)
set_option maxRecDepth 20000 in
theorem gX12_isNo_Jx4a65c_size_8abf5 : GoodIn wsX12_isNo (wsV RX12 33 RJx4a65c yJx4a65c_size_8abf5 wsJx4a65c_size_8abf5) := goodIn_app (goodIn_of _ (by decide +kernel)) ggX12_isNo_Jx4a65c_size_8abf5
set_option maxRecDepth 20000 in
theorem ggX12_isNo_X12_isIn : GoodIn wsX12_isNo wsX12_isIn := goodIn_r _ [11] (by decide +kernel) (by decide +kernel)
set_option maxRecDepth 20000 in
theorem gX12_isNo_X12_isIn : GoodIn wsX12_isNo (va_wsS RX12 37 yX12_isIn wsX12_isIn) := goodIn_app (goodIn_of _ (by decide +kernel)) ggX12_isNo_X12_isIn
theorem dX12_isNo_0 : decode cX12_isNo 0 = .ok (.iload_n 1, 1) := by decide +kernel
theorem dX12_isNo_1 : decode cX12_isNo 1 = .ok (.iconst 0, 1) := by decide +kernel
theorem dX12_isNo_2 : decode cX12_isNo 2 = .ok (.aload_n 0, 1) := by decide +kernel
theorem dX12_isNo_3 : decode cX12_isNo 3 = .ok (.getfield 10, 3) := by decide +kernel
theorem dX12_isNo_6 : decode cX12_isNo 6 = .ok (.invokevirtual 33, 3) := by decide +kernel
theorem dX12_isNo_9 : decode cX12_isNo 9 = .ok (.iconst 1, 1) := by decide +kernel
theorem dX12_isNo_10 : decode cX12_isNo 10 = .ok (.isub, 1) := by decide +kernel
theorem dX12_isNo_11 : decode cX12_isNo 11 = .ok (.invokestatic 37, 3) := by decide +kernel
theorem dX12_isNo_14 : decode cX12_isNo 14 = .ok (.ifCond .ne 7, 3) := by decide +kernel
theorem dX12_isNo_17 : decode cX12_isNo 17 = .ok (.iconst 1, 1) := by decide +kernel
theorem dX12_isNo_18 : decode cX12_isNo 18 = .ok (.goto 4, 3) := by decide +kernel
theorem dX12_isNo_21 : decode cX12_isNo 21 = .ok (.iconst 0, 1) := by decide +kernel
theorem dX12_isNo_22 : decode cX12_isNo 22 = .ok (.ireturn, 1) := by decide +kernel
set_option maxRecDepth 20000 in
theorem ggX12_isNoField_X12_isNo : GoodIn wsX12_isNoField wsX12_isNo := goodIn_r _ [8, 1, 9, 10, 11, 12, 13, 14, 15, 16, 7, 17, 35, 36, 37, 38, 39, 40, 46, 47, 48] (by decide +kernel) (by decide +kernel)
set_option maxRecDepth 20000 in
theorem gX12_isNoField_X12_isNo : GoodIn wsX12_isNoField (wsV RX12 41 RX12 yX12_isNo wsX12_isNo) := goodIn_app (goodIn_of _ (by decide +kernel)) ggX12_isNoField_X12_isNo
set_option maxRecDepth 20000 in
theorem ggX12_isNoField_Jx4a65c_get_915e3 : GoodIn wsX12_isNoField wsJx4a65c_get_915e3 := goodIn_r _ [21, 14, 22, 23, 24, 25, 26, 27, 28, 29, 30, 31, 32, 12, 33, 34, 46, 47, 48] (by decide +kernel) (by decide +kernel)
set_option maxRecDepth 20000 in
theorem gX12_isNoField_Jx4a65c_get_915e3 : GoodIn wsX12_isNoField (wsV RX12 45 RJx4a65c yJx4a65c_get_915e3 wsJx4a65c_get_915e3) := goodIn_app (goodIn_of _ (by decide +kernel)) ggX12_isNoField_Jx4a65c_get_915e3
set_option maxRecDepth 20000 in
theorem ggX12_isNoField_X12_isIn : GoodIn wsX12_isNoField wsX12_isIn := goodIn_r _ [17] (by decide +kernel) (by decide +kernel)
set_option maxRecDepth 20000 in
theorem gX12_isNoField_X12_isIn : GoodIn wsX12_isNoField (va_wsS RX12 37 yX12_isIn wsX12_isIn) := goodIn_app (goodIn_of _ (by decide +kernel)) ggX12_isNoField_X12_isIn
theorem dX12_isNoField_0 : decode cX12_isNoField 0 = .ok (.aload_n 0, 1) := by decide +kernel
theorem dX12_isNoField_1 : decode cX12_isNoField 1 = .ok (.iload_n 1, 1) := by decide +kernel
theorem dX12_isNoField_2 : decode cX12_isNoField 2 = .ok (.invokevirtual 41, 3) := by decide +kernel
theorem dX12_isNoField_5 : decode cX12_isNoField 5 = .ok (.ifCond .ne 27, 3) := by decide +kernel
theorem dX12_isNoField_8 : decode cX12_isNoField 8 = .ok (.iload_n 2, 1) := by decide +kernel
theorem dX12_isNoField_9 : decode cX12_isNoField 9 = .ok (.iconst 0, 1) := by decide +kernel
theorem dX12_isNoField_10 : decode cX12_isNoField 10 = .ok (.aload_n 0, 1) := by decide +kernel
theorem dX12_isNoField_11 : decode cX12_isNoField 11 = .ok (.getfield 10, 3) := by decide +kernel
theorem dX12_isNoField_14 : decode cX12_isNoField 14 = .ok (.iload_n 1, 1) := by decide +kernel
theorem dX12_isNoField_15 : decode cX12_isNoField 15 = .ok (.invokevirtual 45, 3) := by decide +kernel
theorem dX12_isNoField_18 : decode cX12_isNoField 18 = .ok (.checkcast 49, 3) := by decide +kernel
theorem dX12_isNoField_21 : decode cX12_isNoField 21 = .ok (.getfield 51, 3) := by decide +kernel
theorem dX12_isNoField_24 : decode cX12_isNoField 24 = .ok (.iconst 1, 1) := by decide +kernel
theorem dX12_isNoField_25 : decode cX12_isNoField 25 = .ok (.isub, 1) := by decide +kernel
theorem dX12_isNoField_26 : decode cX12_isNoField 26 = .ok (.invokestatic 37, 3) := by decide +kernel
theorem dX12_isNoField_29 : decode cX12_isNoField 29 = .ok (.ifCond .ne 7, 3) := by decide +kernel
theorem dX12_isNoField_32 : decode cX12_isNoField 32 = .ok (.iconst 1, 1) := by decide +kernel
theorem dX12_isNoField_33 : decode cX12_isNoField 33 = .ok (.goto 4, 3) := by decide +kernel
theorem dX12_isNoField_36 : decode cX12_isNoField 36 = .ok (.iconst 0, 1) := by decide +kernel
theorem dX12_isNoField_37 : decode cX12_isNoField 37 = .ok (.ireturn, 1) := by decide +kernel
set_option maxRecDepth 20000 in
theorem ggX12_isNoVersion_X12_isNo : GoodIn wsX12_isNoVersion wsX12_isNo := goodIn_r _ [7, 1, 8, 9, 10, 11, 12, 13, 14, 15, 6, 16, 41, 42, 43, 44, 45, 46, 47, 48, 49] (by decide +kernel) (by decide +kernel)
set_option maxRecDepth 20000 in
theorem gX12_isNoVersion_X12_isNo : GoodIn wsX12_isNoVersion (wsV RX12 41 RX12 yX12_isNo wsX12_isNo) := goodIn_app (goodIn_of _ (by decide +kernel)) ggX12_isNoVersion_X12_isNo
set_option maxRecDepth 20000 in
theorem ggX12_isNoVersion_Jx4a65c_get_915e3 : GoodIn wsX12_isNoVersion wsJx4a65c_get_915e3 := goodIn_r _ [20, 13, 21, 22, 23, 24, 25, 26, 27, 28, 29, 30, 31, 11, 32, 33, 47, 48, 49] (by decide +kernel) (by decide +kernel)
set_option maxRecDepth 20000 in
theorem gX12_isNoVersion_Jx4a65c_get_915e3 : GoodIn wsX12_isNoVersion (wsV RX12 45 RJx4a65c yJx4a65c_get_915e3 wsJx4a65c_get_915e3) := goodIn_app (goodIn_of _ (by decide +kernel)) ggX12_isNoVersion_Jx4a65c_get_915e3
set_option maxRecDepth 20000 in
theorem ggX12_isNoVersion_X7_latest : GoodIn wsX12_isNoVersion wsX7_latest := goodIn_r _ [38, 39, 40, 9, 10, 11, 12, 13, 50, 51, 52, 53, 54, 47, 48, 49] (by decide +kernel) (by decide +kernel)
set_option maxRecDepth 20000 in
theorem gX12_isNoVersion_X7_latest : GoodIn wsX12_isNoVersion (wsV RX12 54 RX7 yX7_latest wsX7_latest) := goodIn_app (goodIn_of _ (by decide +kernel)) ggX12_isNoVersion_X7_latest
set_option maxRecDepth 20000 in
theorem ggX12_isNoVersion_X12_isIn : GoodIn wsX12_isNoVersion wsX12_isIn := goodIn_r _ [16] (by decide +kernel) (by decide +kernel)
set_option maxRecDepth 20000 in
theorem gX12_isNoVersion_X12_isIn : GoodIn wsX12_isNoVersion (va_wsS RX12 37 yX12_isIn wsX12_isIn) := goodIn_app (goodIn_of _ (by decide +kernel)) ggX12_isNoVersion_X12_isIn
theorem dX12_isNoVersion_0 : decode cX12_isNoVersion 0 = .ok (.aload_n 0, 1) := by decide +kernel
theorem dX12_isNoVersion_1 : decode cX12_isNoVersion 1 = .ok (.iload_n 1, 1) := by decide +kernel
theorem dX12_isNoVersion_2 : decode cX12_isNoVersion 2 = .ok (.invokevirtual 41, 3) := by decide +kernel
theorem dX12_isNoVersion_5 : decode cX12_isNoVersion 5 = .ok (.ifCond .ne 25, 3) := by decide +kernel
theorem dX12_isNoVersion_8 : decode cX12_isNoVersion 8 = .ok (.iload_n 2, 1) := by decide +kernel
theorem dX12_isNoVersion_9 : decode cX12_isNoVersion 9 = .ok (.iconst 0, 1) := by decide +kernel
theorem dX12_isNoVersion_10 : decode cX12_isNoVersion 10 = .ok (.aload_n 0, 1) := by decide +kernel
theorem dX12_isNoVersion_11 : decode cX12_isNoVersion 11 = .ok (.getfield 10, 3) := by decide +kernel
theorem dX12_isNoVersion_14 : decode cX12_isNoVersion 14 = .ok (.iload_n 1, 1) := by decide +kernel
theorem dX12_isNoVersion_15 : decode cX12_isNoVersion 15 = .ok (.invokevirtual 45, 3) := by decide +kernel
theorem dX12_isNoVersion_18 : decode cX12_isNoVersion 18 = .ok (.checkcast 49, 3) := by decide +kernel
theorem dX12_isNoVersion_21 : decode cX12_isNoVersion 21 = .ok (.invokevirtual 54, 3) := by decide +kernel
theorem dX12_isNoVersion_24 : decode cX12_isNoVersion 24 = .ok (.invokestatic 37, 3) := by decide +kernel
theorem dX12_isNoVersion_27 : decode cX12_isNoVersion 27 = .ok (.ifCond .ne 7, 3) := by decide +kernel
theorem dX12_isNoVersion_30 : decode cX12_isNoVersion 30 = .ok (.iconst 1, 1) := by decide +kernel
theorem dX12_isNoVersion_31 : decode cX12_isNoVersion 31 = .ok (.goto 4, 3) := by decide +kernel
theorem dX12_isNoVersion_34 : decode cX12_isNoVersion 34 = .ok (.iconst 0, 1) := by decide +kernel
theorem dX12_isNoVersion_35 : decode cX12_isNoVersion 35 = .ok (.ireturn, 1) := by decide +kernel
set_option maxRecDepth 20000 in
theorem ggX12_isNoValue_X12_isNoField : GoodIn wsX12_isNoValue wsX12_isNoField := goodIn_r _ [5, 6, 7, 8, 9, 10, 11, 4, 12, 13, 14, 15, 16, 17, 18, 19, 20, 21, 22, 23, 24, 25, 26, 27, 28, 29, 30, 31, 32, 33, 34, 35, 36, 37, 38, 50, 51, 52, 53, 54, 55, 56, 57, 58, 59, 60, 61, 62, 63] (by decide +kernel) (by decide +kernel)
set_option maxRecDepth 20000 in
theorem gX12_isNoValue_X12_isNoField : GoodIn wsX12_isNoValue (wsV RX12 57 RX12 yX12_isNoField wsX12_isNoField) := goodIn_app (goodIn_of _ (by decide +kernel)) ggX12_isNoValue_X12_isNoField
set_option maxRecDepth 20000 in
theorem ggX12_isNoValue_X12_isNoVersion : GoodIn wsX12_isNoValue wsX12_isNoVersion := goodIn_r _ [42, 6, 7, 9, 10, 11, 4, 12, 13, 14, 15, 16, 17, 18, 19, 20, 21, 22, 23, 24, 25, 26, 27, 28, 29, 30, 31, 32, 33, 34, 35, 36, 37, 38, 43, 44, 45, 46, 47, 48, 49, 50, 51, 52, 53, 54, 55, 61, 62, 63, 56, 57, 58, 59, 60] (by decide +kernel) (by decide +kernel)
set_option maxRecDepth 20000 in
theorem gX12_isNoValue_X12_isNoVersion : GoodIn wsX12_isNoValue (wsV RX12 61 RX12 yX12_isNoVersion wsX12_isNoVersion) := goodIn_app (goodIn_of _ (by decide +kernel)) ggX12_isNoValue_X12_isNoVersion
theorem dX12_isNoValue_0 : decode cX12_isNoValue 0 = .ok (.aload_n 0, 1) := by decide +kernel
theorem dX12_isNoValue_1 : decode cX12_isNoValue 1 = .ok (.iload_n 1, 1) := by decide +kernel
theorem dX12_isNoValue_2 : decode cX12_isNoValue 2 = .ok (.iload_n 3, 1) := by decide +kernel
theorem dX12_isNoValue_3 : decode cX12_isNoValue 3 = .ok (.invokevirtual 57, 3) := by decide +kernel
theorem dX12_isNoValue_6 : decode cX12_isNoValue 6 = .ok (.ifCond .ne 12, 3) := by decide +kernel
theorem dX12_isNoValue_9 : decode cX12_isNoValue 9 = .ok (.aload_n 0, 1) := by decide +kernel
theorem dX12_isNoValue_10 : decode cX12_isNoValue 10 = .ok (.iload_n 1, 1) := by decide +kernel
theorem dX12_isNoValue_11 : decode cX12_isNoValue 11 = .ok (.iload_n 2, 1) := by decide +kernel
theorem dX12_isNoValue_12 : decode cX12_isNoValue 12 = .ok (.invokevirtual 61, 3) := by decide +kernel
theorem dX12_isNoValue_15 : decode cX12_isNoValue 15 = .ok (.ifCond .eq 7, 3) := by decide +kernel
theorem dX12_isNoValue_18 : decode cX12_isNoValue 18 = .ok (.iconst 1, 1) := by decide +kernel
theorem dX12_isNoValue_19 : decode cX12_isNoValue 19 = .ok (.goto 4, 3) := by decide +kernel
theorem dX12_isNoValue_22 : decode cX12_isNoValue 22 = .ok (.iconst 0, 1) := by decide +kernel
theorem dX12_isNoValue_23 : decode cX12_isNoValue 23 = .ok (.ireturn, 1) := by decide +kernel
set_option maxRecDepth 20000 in
theorem ggX12_isNoFields_Jx4a65c_get_915e3 : GoodIn wsX12_isNoFields wsJx4a65c_get_915e3 := goodIn_r _ [7, 8, 9, 10, 11, 12, 13, 14, 15, 16, 17, 18, 19, 6, 20, 21, 34, 35, 36] (by decide +kernel) (by decide +kernel)
set_option maxRecDepth 20000 in
theorem gX12_isNoFields_Jx4a65c_get_915e3 : GoodIn wsX12_isNoFields (wsV RX12 45 RJx4a65c yJx4a65c_get_915e3 wsJx4a65c_get_915e3) := goodIn_app (goodIn_of _ (by decide +kernel)) ggX12_isNoFields_Jx4a65c_get_915e3
set_option maxRecDepth 20000 in
theorem ggX12_isNoFields_X7_all : GoodIn wsX12_isNoFields wsX7_all := goodIn_r _ [26, 27, 37, 38, 39, 40, 41] (by decide +kernel) (by decide +kernel)
set_option maxRecDepth 20000 in
theorem gX12_isNoFields_X7_all : GoodIn wsX12_isNoFields (wsV RX12 64 RX7 yX7_all wsX7_all) := goodIn_app (goodIn_of _ (by decide +kernel)) ggX12_isNoFields_X7_all
theorem dX12_isNoFields_0 : decode cX12_isNoFields 0 = .ok (.iload_n 2, 1) := by decide +kernel
theorem dX12_isNoFields_1 : decode cX12_isNoFields 1 = .ok (.iconst 1, 1) := by decide +kernel
theorem dX12_isNoFields_2 : decode cX12_isNoFields 2 = .ok (.if_icmp .lt 21, 3) := by decide +kernel
theorem dX12_isNoFields_5 : decode cX12_isNoFields 5 = .ok (.iload_n 2, 1) := by decide +kernel
theorem dX12_isNoFields_6 : decode cX12_isNoFields 6 = .ok (.aload_n 0, 1) := by decide +kernel
theorem dX12_isNoFields_7 : decode cX12_isNoFields 7 = .ok (.getfield 10, 3) := by decide +kernel
theorem dX12_isNoFields_10 : decode cX12_isNoFields 10 = .ok (.iload_n 1, 1) := by decide +kernel
theorem dX12_isNoFields_11 : decode cX12_isNoFields 11 = .ok (.invokevirtual 45, 3) := by decide +kernel
theorem dX12_isNoFields_14 : decode cX12_isNoFields 14 = .ok (.checkcast 49, 3) := by decide +kernel
theorem dX12_isNoFields_17 : decode cX12_isNoFields 17 = .ok (.invokevirtual 64, 3) := by decide +kernel
theorem dX12_isNoFields_20 : decode cX12_isNoFields 20 = .ok (.if_icmp .le 7, 3) := by decide +kernel
theorem dX12_isNoFields_23 : decode cX12_isNoFields 23 = .ok (.iconst 1, 1) := by decide +kernel
theorem dX12_isNoFields_24 : decode cX12_isNoFields 24 = .ok (.goto 4, 3) := by decide +kernel
theorem dX12_isNoFields_27 : decode cX12_isNoFields 27 = .ok (.iconst 0, 1) := by decide +kernel
theorem dX12_isNoFields_28 : decode cX12_isNoFields 28 = .ok (.ireturn, 1) := by decide +kernel
set_option maxRecDepth 20000 in
theorem ggX12_isNoReader_X12_isIn : GoodIn wsX12_isNoReader wsX12_isIn := goodIn_r _ [4] (by decide +kernel) (by decide +kernel)
set_option maxRecDepth 20000 in
theorem gX12_isNoReader_X12_isIn : GoodIn wsX12_isNoReader (va_wsS RX12 37 yX12_isIn wsX12_isIn) := goodIn_app (goodIn_of _ (by decide +kernel)) ggX12_isNoReader_X12_isIn
theorem dX12_isNoReader_0 : decode cX12_isNoReader 0 = .ok (.iload_n 0, 1) := by decide +kernel
theorem dX12_isNoReader_1 : decode cX12_isNoReader 1 = .ok (.iconst 0, 1) := by decide +kernel
theorem dX12_isNoReader_2 : decode cX12_isNoReader 2 = .ok (.iconst 5, 1) := by decide +kernel
theorem dX12_isNoReader_3 : decode cX12_isNoReader 3 = .ok (.invokestatic 37, 3) := by decide +kernel
theorem dX12_isNoReader_6 : decode cX12_isNoReader 6 = .ok (.ifCond .ne 7, 3) := by decide +kernel
theorem dX12_isNoReader_9 : decode cX12_isNoReader 9 = .ok (.iconst 1, 1) := by decide +kernel
theorem dX12_isNoReader_10 : decode cX12_isNoReader 10 = .ok (.goto 4, 3) := by decide +kernel
theorem dX12_isNoReader_13 : decode cX12_isNoReader 13 = .ok (.iconst 0, 1) := by decide +kernel
theorem dX12_isNoReader_14 : decode cX12_isNoReader 14 = .ok (.ireturn, 1) := by decide +kernel
set_option maxRecDepth 20000 in
theorem ggX12_harms_Jx4a65c_size_8abf5 : GoodIn wsX12_harms wsJx4a65c_size_8abf5 := goodIn_r _ [22, 23, 61, 62, 63] (by decide +kernel) (by decide +kernel)
set_option maxRecDepth 20000 in
theorem gX12_harms_Jx4a65c_size_8abf5 : GoodIn wsX12_harms (wsV RX12 33 RJx4a65c yJx4a65c_size_8abf5 wsJx4a65c_size_8abf5) := goodIn_app (goodIn_of _ (by decide +kernel)) ggX12_harms_Jx4a65c_size_8abf5
set_option maxRecDepth 20000 in
theorem ggX12_harms_Jx4a65c_get_915e3 : GoodIn wsX12_harms wsJx4a65c_get_915e3 := goodIn_r _ [27, 23, 28, 29, 30, 31, 32, 33, 34, 35, 36, 37, 38, 21, 39, 40, 61, 62, 63] (by decide +kernel) (by decide +kernel)
set_option maxRecDepth 20000 in
theorem gX12_harms_Jx4a65c_get_915e3 : GoodIn wsX12_harms (wsV RX12 45 RJx4a65c yJx4a65c_get_915e3 wsJx4a65c_get_915e3) := goodIn_app (goodIn_of _ (by decide +kernel)) ggX12_harms_Jx4a65c_get_915e3
theorem dX12_harms_0 : decode cX12_harms 0 = .ok (.bipush 8, 2) := by decide +kernel
theorem dX12_harms_2 : decode cX12_harms 2 = .ok (.bipush 6, 2) := by decide +kernel
theorem dX12_harms_4 : decode cX12_harms 4 = .ok (.bipush 6, 2) := by decide +kernel
theorem dX12_harms_6 : decode cX12_harms 6 = .ok (.multianewarray 67 3, 4) := by decide +kernel
theorem dX12_harms_10 : decode cX12_harms 10 = .ok (.astore_n 1, 1) := by decide +kernel
theorem dX12_harms_11 : decode cX12_harms 11 = .ok (.iconst 0, 1) := by decide +kernel
theorem dX12_harms_12 : decode cX12_harms 12 = .ok (.istore_n 2, 1) := by decide +kernel
theorem dX12_harms_13 : decode cX12_harms 13 = .ok (.iload_n 2, 1) := by decide +kernel
theorem dX12_harms_14 : decode cX12_harms 14 = .ok (.aload_n 0, 1) := by decide +kernel
theorem dX12_harms_15 : decode cX12_harms 15 = .ok (.getfield 10, 3) := by decide +kernel
theorem dX12_harms_18 : decode cX12_harms 18 = .ok (.invokevirtual 33, 3) := by decide +kernel
theorem dX12_harms_21 : decode cX12_harms 21 = .ok (.if_icmp .ge 202, 3) := by decide +kernel
theorem dX12_harms_24 : decode cX12_harms 24 = .ok (.aload_n 0, 1) := by decide +kernel
theorem dX12_harms_25 : decode cX12_harms 25 = .ok (.getfield 10, 3) := by decide +kernel
theorem dX12_harms_28 : decode cX12_harms 28 = .ok (.iload_n 2, 1) := by decide +kernel
theorem dX12_harms_29 : decode cX12_harms 29 = .ok (.invokevirtual 45, 3) := by decide +kernel
theorem dX12_harms_32 : decode cX12_harms 32 = .ok (.checkcast 49, 3) := by decide +kernel
theorem dX12_harms_35 : decode cX12_harms 35 = .ok (.getfield 69, 3) := by decide +kernel
theorem dX12_harms_38 : decode cX12_harms 38 = .ok (.astore_n 3, 1) := by decide +kernel
theorem dX12_harms_39 : decode cX12_harms 39 = .ok (.iconst 0, 1) := by decide +kernel
theorem dX12_harms_40 : decode cX12_harms 40 = .ok (.istore 4, 2) := by decide +kernel
theorem dX12_harms_42 : decode cX12_harms 42 = .ok (.iload 4, 2) := by decide +kernel
theorem dX12_harms_44 : decode cX12_harms 44 = .ok (.aload_n 3, 1) := by decide +kernel
theorem dX12_harms_45 : decode cX12_harms 45 = .ok (.invokevirtual 33, 3) := by decide +kernel
theorem dX12_harms_48 : decode cX12_harms 48 = .ok (.if_icmp .ge 169, 3) := by decide +kernel
theorem dX12_harms_51 : decode cX12_harms 51 = .ok (.aload_n 3, 1) := by decide +kernel
theorem dX12_harms_52 : decode cX12_harms 52 = .ok (.iload 4, 2) := by decide +kernel
theorem dX12_harms_54 : decode cX12_harms 54 = .ok (.invokevirtual 45, 3) := by decide +kernel
theorem dX12_harms_57 : decode cX12_harms 57 = .ok (.checkcast 72, 3) := by decide +kernel
theorem dX12_harms_60 : decode cX12_harms 60 = .ok (.astore 5, 2) := by decide +kernel
theorem dX12_harms_62 : decode cX12_harms 62 = .ok (.iconst 0, 1) := by decide +kernel
theorem dX12_harms_63 : decode cX12_harms 63 = .ok (.istore 6, 2) := by decide +kernel
theorem dX12_harms_65 : decode cX12_harms 65 = .ok (.iload 6, 2) := by decide +kernel
theorem dX12_harms_67 : decode cX12_harms 67 = .ok (.bipush 6, 2) := by decide +kernel
theorem dX12_harms_69 : decode cX12_harms 69 = .ok (.if_icmp .ge 142, 3) := by decide +kernel
theorem dX12_harms_72 : decode cX12_harms 72 = .ok (.aload 5, 2) := by decide +kernel
theorem dX12_harms_74 : decode cX12_harms 74 = .ok (.getfield 74, 3) := by decide +kernel
theorem dX12_harms_77 : decode cX12_harms 77 = .ok (.iload 6, 2) := by decide +kernel
theorem dX12_harms_79 : decode cX12_harms 79 = .ok (.iaload, 1) := by decide +kernel
theorem dX12_harms_80 : decode cX12_harms 80 = .ok (.aload 5, 2) := by decide +kernel
theorem dX12_harms_82 : decode cX12_harms 82 = .ok (.getfield 78, 3) := by decide +kernel
theorem dX12_harms_85 : decode cX12_harms 85 = .ok (.iload 6, 2) := by decide +kernel
theorem dX12_harms_87 : decode cX12_harms 87 = .ok (.iaload, 1) := by decide +kernel
theorem dX12_harms_88 : decode cX12_harms 88 = .ok (.invokestatic 81, 3) := by decide +kernel
theorem dX12_harms_91 : decode cX12_harms 91 = .ok (.istore 7, 2) := by decide +kernel
theorem dX12_harms_93 : decode cX12_harms 93 = .ok (.aload 5, 2) := by decide +kernel
theorem dX12_harms_95 : decode cX12_harms 95 = .ok (.getfield 87, 3) := by decide +kernel
theorem dX12_harms_98 : decode cX12_harms 98 = .ok (.iload 6, 2) := by decide +kernel
theorem dX12_harms_100 : decode cX12_harms 100 = .ok (.invokevirtual 45, 3) := by decide +kernel
theorem dX12_harms_103 : decode cX12_harms 103 = .ok (.checkcast 7, 3) := by decide +kernel
theorem dX12_harms_106 : decode cX12_harms 106 = .ok (.astore 8, 2) := by decide +kernel
theorem dX12_harms_108 : decode cX12_harms 108 = .ok (.iconst 0, 1) := by decide +kernel
theorem dX12_harms_109 : decode cX12_harms 109 = .ok (.istore 9, 2) := by decide +kernel
theorem dX12_harms_111 : decode cX12_harms 111 = .ok (.iload 9, 2) := by decide +kernel
theorem dX12_harms_113 : decode cX12_harms 113 = .ok (.aload 8, 2) := by decide +kernel
theorem dX12_harms_115 : decode cX12_harms 115 = .ok (.invokevirtual 33, 3) := by decide +kernel
theorem dX12_harms_118 : decode cX12_harms 118 = .ok (.if_icmp .ge 76, 3) := by decide +kernel
theorem dX12_harms_121 : decode cX12_harms 121 = .ok (.iload 7, 2) := by decide +kernel
theorem dX12_harms_123 : decode cX12_harms 123 = .ok (.aload_n 1, 1) := by decide +kernel
theorem dX12_harms_124 : decode cX12_harms 124 = .ok (.aload 8, 2) := by decide +kernel
theorem dX12_harms_126 : decode cX12_harms 126 = .ok (.iload 9, 2) := by decide +kernel
theorem dX12_harms_128 : decode cX12_harms 128 = .ok (.invokevirtual 45, 3) := by decide +kernel
theorem dX12_harms_131 : decode cX12_harms 131 = .ok (.checkcast 90, 3) := by decide +kernel
theorem dX12_harms_134 : decode cX12_harms 134 = .ok (.getfield 92, 3) := by decide +kernel
theorem dX12_harms_137 : decode cX12_harms 137 = .ok (.aaload, 1) := by decide +kernel
theorem dX12_harms_138 : decode cX12_harms 138 = .ok (.aload 8, 2) := by decide +kernel
theorem dX12_harms_140 : decode cX12_harms 140 = .ok (.iload 9, 2) := by decide +kernel
theorem dX12_harms_142 : decode cX12_harms 142 = .ok (.invokevirtual 45, 3) := by decide +kernel
theorem dX12_harms_145 : decode cX12_harms 145 = .ok (.checkcast 90, 3) := by decide +kernel
theorem dX12_harms_148 : decode cX12_harms 148 = .ok (.getfield 95, 3) := by decide +kernel
theorem dX12_harms_151 : decode cX12_harms 151 = .ok (.aaload, 1) := by decide +kernel
theorem dX12_harms_152 : decode cX12_harms 152 = .ok (.aload 8, 2) := by decide +kernel
theorem dX12_harms_154 : decode cX12_harms 154 = .ok (.iload 9, 2) := by decide +kernel
theorem dX12_harms_156 : decode cX12_harms 156 = .ok (.invokevirtual 45, 3) := by decide +kernel
theorem dX12_harms_159 : decode cX12_harms 159 = .ok (.checkcast 90, 3) := by decide +kernel
theorem dX12_harms_162 : decode cX12_harms 162 = .ok (.getfield 98, 3) := by decide +kernel
theorem dX12_harms_165 : decode cX12_harms 165 = .ok (.iaload, 1) := by decide +kernel
theorem dX12_harms_166 : decode cX12_harms 166 = .ok (.aload 8, 2) := by decide +kernel
theorem dX12_harms_168 : decode cX12_harms 168 = .ok (.iload 9, 2) := by decide +kernel
theorem dX12_harms_170 : decode cX12_harms 170 = .ok (.invokevirtual 45, 3) := by decide +kernel
theorem dX12_harms_173 : decode cX12_harms 173 = .ok (.checkcast 90, 3) := by decide +kernel
theorem dX12_harms_176 : decode cX12_harms 176 = .ok (.getfield 101, 3) := by decide +kernel
theorem dX12_harms_179 : decode cX12_harms 179 = .ok (.imul, 1) := by decide +kernel
theorem dX12_harms_180 : decode cX12_harms 180 = .ok (.bipush 100, 2) := by decide +kernel
theorem dX12_harms_182 : decode cX12_harms 182 = .ok (.idiv, 1) := by decide +kernel
theorem dX12_harms_183 : decode cX12_harms 183 = .ok (.invokestatic 81, 3) := by decide +kernel
theorem dX12_harms_186 : decode cX12_harms 186 = .ok (.istore 7, 2) := by decide +kernel
theorem dX12_harms_188 : decode cX12_harms 188 = .ok (.iinc 9 1, 3) := by decide +kernel
theorem dX12_harms_191 : decode cX12_harms 191 = .ok (.goto (-80), 3) := by decide +kernel
theorem dX12_harms_194 : decode cX12_harms 194 = .ok (.aload_n 1, 1) := by decide +kernel
theorem dX12_harms_195 : decode cX12_harms 195 = .ok (.iload_n 2, 1) := by decide +kernel
theorem dX12_harms_196 : decode cX12_harms 196 = .ok (.aaload, 1) := by decide +kernel
theorem dX12_harms_197 : decode cX12_harms 197 = .ok (.iload 4, 2) := by decide +kernel
theorem dX12_harms_199 : decode cX12_harms 199 = .ok (.aaload, 1) := by decide +kernel
theorem dX12_harms_200 : decode cX12_harms 200 = .ok (.iload 6, 2) := by decide +kernel
theorem dX12_harms_202 : decode cX12_harms 202 = .ok (.iload 7, 2) := by decide +kernel
theorem dX12_harms_204 : decode cX12_harms 204 = .ok (.iastore, 1) := by decide +kernel
theorem dX12_harms_205 : decode cX12_harms 205 = .ok (.iinc 6 1, 3) := by decide +kernel
theorem dX12_harms_208 : decode cX12_harms 208 = .ok (.goto (-143), 3) := by decide +kernel
theorem dX12_harms_211 : decode cX12_harms 211 = .ok (.iinc 4 1, 3) := by decide +kernel
theorem dX12_harms_214 : decode cX12_harms 214 = .ok (.goto (-172), 3) := by decide +kernel
theorem dX12_harms_217 : decode cX12_harms 217 = .ok (.iinc 2 1, 3) := by decide +kernel
theorem dX12_harms_220 : decode cX12_harms 220 = .ok (.goto (-207), 3) := by decide +kernel
theorem dX12_harms_223 : decode cX12_harms 223 = .ok (.aload_n 1, 1) := by decide +kernel
theorem dX12_harms_224 : decode cX12_harms 224 = .ok (.areturn, 1) := by decide +kernel
set_option maxRecDepth 20000 in
theorem ggX12_set_X12_isIn : GoodIn wsX12_set wsX12_isIn := goodIn_r _ [8] (by decide +kernel) (by decide +kernel)
set_option maxRecDepth 20000 in
theorem gX12_set_X12_isIn : GoodIn wsX12_set (va_wsS RX12 37 yX12_isIn wsX12_isIn) := goodIn_app (goodIn_of _ (by decide +kernel)) ggX12_set_X12_isIn
set_option maxRecDepth 20000 in
theorem ggX12_set_X12_start : GoodIn wsX12_set wsX12_start := goodIn_r _ [12, 13, 14, 15, 16, 7, 17, 105, 106, 107, 108, 109, 110] (by decide +kernel) (by decide +kernel)
set_option maxRecDepth 20000 in
theorem gX12_set_X12_start : GoodIn wsX12_set (wsV RX12 104 RX12 yX12_start wsX12_start) := goodIn_app (goodIn_of _ (by decide +kernel)) ggX12_set_X12_start
set_option maxRecDepth 20000 in
theorem ggX12_set_Jx4a65c_size_8abf5 : GoodIn wsX12_set wsJx4a65c_size_8abf5 := goodIn_r _ [22, 23, 116, 117, 118] (by decide +kernel) (by decide +kernel)
set_option maxRecDepth 20000 in
theorem gX12_set_Jx4a65c_size_8abf5 : GoodIn wsX12_set (wsV RX12 33 RJx4a65c yJx4a65c_size_8abf5 wsJx4a65c_size_8abf5) := goodIn_app (goodIn_of _ (by decide +kernel)) ggX12_set_Jx4a65c_size_8abf5
set_option maxRecDepth 20000 in
theorem ggX12_set_X12_refuse : GoodIn wsX12_set wsX12_refuse := goodIn_r _ [17, 13, 105, 106, 107, 108, 109, 110] (by decide +kernel) (by decide +kernel)
set_option maxRecDepth 20000 in
theorem gX12_set_X12_refuse : GoodIn wsX12_set (wsV RX12 29 RX12 yX12_refuse wsX12_refuse) := goodIn_app (goodIn_of _ (by decide +kernel)) ggX12_set_X12_refuse
set_option maxRecDepth 20000 in
theorem ggX12_set_X7_init : GoodIn wsX12_set wsX7_init := goodIn_r _ [26, 27, 28, 29, 30, 31, 32, 33, 34, 21, 35, 36, 37, 38, 39, 40, 41, 42, 43, 44, 45, 46, 47, 48, 49, 50, 51, 52, 111, 112, 113, 114, 115, 116, 117, 118] (by decide +kernel) (by decide +kernel)
set_option maxRecDepth 20000 in
theorem gX12_set_X7_init : GoodIn wsX12_set (wsX7_init) := ggX12_set_X7_init
set_option maxRecDepth 20000 in
theorem ggX12_set_Jx4a65c_add_9ea2d : GoodIn wsX12_set wsJx4a65c_add_9ea2d := goodIn_r _ [56, 57, 58, 42, 23, 59, 60, 61, 21, 62, 63, 64, 65, 66, 67, 68, 69, 70, 41, 71, 72, 73, 74, 75, 76, 77, 78, 79, 80, 81, 82, 83, 84, 85, 86, 87, 88, 89, 90, 91, 92, 93, 94, 95, 96, 97, 98, 99, 100, 101, 102, 103, 104, 116, 117, 118] (by decide +kernel) (by decide +kernel)
set_option maxRecDepth 20000 in
theorem gX12_set_Jx4a65c_add_9ea2d : GoodIn wsX12_set (wsV RX12 110 RJx4a65c yJx4a65c_add_9ea2d wsJx4a65c_add_9ea2d) := goodIn_app (goodIn_of _ (by decide +kernel)) ggX12_set_Jx4a65c_add_9ea2d
theorem dX12_set_0 : decode cX12_set 0 = .ok (.aload_n 0, 1) := by decide +kernel
theorem dX12_set_1 : decode cX12_set 1 = .ok (.iload_n 1, 1) := by decide +kernel
theorem dX12_set_2 : decode cX12_set 2 = .ok (.iconst 1, 1) := by decide +kernel
theorem dX12_set_3 : decode cX12_set 3 = .ok (.bipush 6, 2) := by decide +kernel
theorem dX12_set_5 : decode cX12_set 5 = .ok (.invokestatic 37, 3) := by decide +kernel
theorem dX12_set_8 : decode cX12_set 8 = .ok (.ifCond .ne 7, 3) := by decide +kernel
theorem dX12_set_11 : decode cX12_set 11 = .ok (.iconst 1, 1) := by decide +kernel
theorem dX12_set_12 : decode cX12_set 12 = .ok (.goto 4, 3) := by decide +kernel
theorem dX12_set_15 : decode cX12_set 15 = .ok (.iconst 0, 1) := by decide +kernel
theorem dX12_set_16 : decode cX12_set 16 = .ok (.iconst 1, 1) := by decide +kernel
theorem dX12_set_17 : decode cX12_set 17 = .ok (.invokevirtual 104, 3) := by decide +kernel
theorem dX12_set_20 : decode cX12_set 20 = .ok (.ifCond .ne 28, 3) := by decide +kernel
theorem dX12_set_23 : decode cX12_set 23 = .ok (.aload_n 0, 1) := by decide +kernel
theorem dX12_set_24 : decode cX12_set 24 = .ok (.aload_n 0, 1) := by decide +kernel
theorem dX12_set_25 : decode cX12_set 25 = .ok (.getfield 10, 3) := by decide +kernel
theorem dX12_set_28 : decode cX12_set 28 = .ok (.invokevirtual 33, 3) := by decide +kernel
theorem dX12_set_31 : decode cX12_set 31 = .ok (.bipush 8, 2) := by decide +kernel
theorem dX12_set_33 : decode cX12_set 33 = .ok (.if_icmp .ne 7, 3) := by decide +kernel
theorem dX12_set_36 : decode cX12_set 36 = .ok (.iconst 1, 1) := by decide +kernel
theorem dX12_set_37 : decode cX12_set 37 = .ok (.goto 4, 3) := by decide +kernel
theorem dX12_set_40 : decode cX12_set 40 = .ok (.iconst 0, 1) := by decide +kernel
theorem dX12_set_41 : decode cX12_set 41 = .ok (.iconst 2, 1) := by decide +kernel
theorem dX12_set_42 : decode cX12_set 42 = .ok (.invokevirtual 29, 3) := by decide +kernel
theorem dX12_set_45 : decode cX12_set 45 = .ok (.ifCond .eq 5, 3) := by decide +kernel
theorem dX12_set_48 : decode cX12_set 48 = .ok (.iconst 0, 1) := by decide +kernel
theorem dX12_set_49 : decode cX12_set 49 = .ok (.ireturn, 1) := by decide +kernel
theorem dX12_set_50 : decode cX12_set 50 = .ok (.aload_n 0, 1) := by decide +kernel
theorem dX12_set_51 : decode cX12_set 51 = .ok (.getfield 10, 3) := by decide +kernel
theorem dX12_set_54 : decode cX12_set 54 = .ok (.new 49, 3) := by decide +kernel
theorem dX12_set_57 : decode cX12_set 57 = .ok (.dup, 1) := by decide +kernel
theorem dX12_set_58 : decode cX12_set 58 = .ok (.iload_n 1, 1) := by decide +kernel
theorem dX12_set_59 : decode cX12_set 59 = .ok (.invokespecial 107, 3) := by decide +kernel
theorem dX12_set_62 : decode cX12_set 62 = .ok (.invokevirtual 110, 3) := by decide +kernel
theorem dX12_set_65 : decode cX12_set 65 = .ok (.pop, 1) := by decide +kernel
theorem dX12_set_66 : decode cX12_set 66 = .ok (.aload_n 0, 1) := by decide +kernel
theorem dX12_set_67 : decode cX12_set 67 = .ok (.getfield 10, 3) := by decide +kernel
theorem dX12_set_70 : decode cX12_set 70 = .ok (.invokevirtual 33, 3) := by decide +kernel
theorem dX12_set_73 : decode cX12_set 73 = .ok (.iconst 1, 1) := by decide +kernel
theorem dX12_set_74 : decode cX12_set 74 = .ok (.isub, 1) := by decide +kernel
theorem dX12_set_75 : decode cX12_set 75 = .ok (.ireturn, 1) := by decide +kernel
set_option maxRecDepth 20000 in
theorem ggX12_terms_X12_isNoField : GoodIn wsX12_terms wsX12_isNoField := goodIn_r _ [9, 1, 2, 10, 11, 12, 13, 8, 14, 15, 16, 17, 18, 19, 20, 21, 22, 23, 24, 25, 26, 27, 28, 29, 30, 31, 32, 33, 34, 35, 36, 37, 38, 39, 40, 50, 51, 52, 53, 54, 55, 56, 57, 58, 59, 60, 61, 62, 63] (by decide +kernel) (by decide +kernel)
set_option maxRecDepth 20000 in
theorem gX12_terms_X12_isNoField : GoodIn wsX12_terms (wsV RX12 57 RX12 yX12_isNoField wsX12_isNoField) := goodIn_app (goodIn_of _ (by decide +kernel)) ggX12_terms_X12_isNoField
set_option maxRecDepth 20000 in
theorem ggX12_terms_X12_start : GoodIn wsX12_terms wsX12_start := goodIn_r _ [44, 45, 46, 47, 48, 8, 49, 50, 51, 52, 53, 54, 55] (by decide +kernel) (by decide +kernel)
set_option maxRecDepth 20000 in
theorem gX12_terms_X12_start : GoodIn wsX12_terms (wsV RX12 104 RX12 yX12_start wsX12_start) := goodIn_app (goodIn_of _ (by decide +kernel)) ggX12_terms_X12_start
set_option maxRecDepth 20000 in
theorem ggX12_terms_X12_isIn : GoodIn wsX12_terms wsX12_isIn := goodIn_r _ [23] (by decide +kernel) (by decide +kernel)
set_option maxRecDepth 20000 in
theorem gX12_terms_X12_isIn : GoodIn wsX12_terms (va_wsS RX12 37 yX12_isIn wsX12_isIn) := goodIn_app (goodIn_of _ (by decide +kernel)) ggX12_terms_X12_isIn
set_option maxRecDepth 20000 in
theorem ggX12_terms_X12_refuse : GoodIn wsX12_terms wsX12_refuse := goodIn_r _ [49, 45, 50, 51, 52, 53, 54, 55] (by decide +kernel) (by decide +kernel)
set_option maxRecDepth 20000 in
theorem gX12_terms_X12_refuse : GoodIn wsX12_terms (wsV RX12 29 RX12 yX12_refuse wsX12_refuse) := goodIn_app (goodIn_of _ (by decide +kernel)) ggX12_terms_X12_refuse
set_option maxRecDepth 20000 in
theorem ggX12_terms_Jx4a65c_get_915e3 : GoodIn wsX12_terms wsJx4a65c_get_915e3 := goodIn_r _ [27, 20, 28, 29, 30, 31, 32, 33, 34, 35, 36, 37, 38, 18, 39, 40, 61, 62, 63] (by decide +kernel) (by decide +kernel)
set_option maxRecDepth 20000 in
theorem gX12_terms_Jx4a65c_get_915e3 : GoodIn wsX12_terms (wsV RX12 45 RJx4a65c yJx4a65c_get_915e3 wsJx4a65c_get_915e3) := goodIn_app (goodIn_of _ (by decide +kernel)) ggX12_terms_Jx4a65c_get_915e3
theorem dX12_terms_0 : decode cX12_terms 0 = .ok (.aload_n 0, 1) := by decide +kernel
theorem dX12_terms_1 : decode cX12_terms 1 = .ok (.aload_n 0, 1) := by decide +kernel
theorem dX12_terms_2 : decode cX12_terms 2 = .ok (.iload_n 1, 1) := by decide +kernel
theorem dX12_terms_3 : decode cX12_terms 3 = .ok (.iload_n 2, 1) := by decide +kernel
theorem dX12_terms_4 : decode cX12_terms 4 = .ok (.invokevirtual 57, 3) := by decide +kernel
theorem dX12_terms_7 : decode cX12_terms 7 = .ok (.iconst 1, 1) := by decide +kernel
theorem dX12_terms_8 : decode cX12_terms 8 = .ok (.invokevirtual 104, 3) := by decide +kernel
theorem dX12_terms_11 : decode cX12_terms 11 = .ok (.ifCond .ne 38, 3) := by decide +kernel
theorem dX12_terms_14 : decode cX12_terms 14 = .ok (.aload_n 0, 1) := by decide +kernel
theorem dX12_terms_15 : decode cX12_terms 15 = .ok (.iload_n 3, 1) := by decide +kernel
theorem dX12_terms_16 : decode cX12_terms 16 = .ok (.iconst 1, 1) := by decide +kernel
theorem dX12_terms_17 : decode cX12_terms 17 = .ok (.bipush 99, 2) := by decide +kernel
theorem dX12_terms_19 : decode cX12_terms 19 = .ok (.invokestatic 37, 3) := by decide +kernel
theorem dX12_terms_22 : decode cX12_terms 22 = .ok (.ifCond .eq 15, 3) := by decide +kernel
theorem dX12_terms_25 : decode cX12_terms 25 = .ok (.iload 4, 2) := by decide +kernel
theorem dX12_terms_27 : decode cX12_terms 27 = .ok (.iconst 0, 1) := by decide +kernel
theorem dX12_terms_28 : decode cX12_terms 28 = .ok (.sipush 1000, 3) := by decide +kernel
theorem dX12_terms_31 : decode cX12_terms 31 = .ok (.invokestatic 37, 3) := by decide +kernel
theorem dX12_terms_34 : decode cX12_terms 34 = .ok (.ifCond .ne 7, 3) := by decide +kernel
theorem dX12_terms_37 : decode cX12_terms 37 = .ok (.iconst 1, 1) := by decide +kernel
theorem dX12_terms_38 : decode cX12_terms 38 = .ok (.goto 4, 3) := by decide +kernel
theorem dX12_terms_41 : decode cX12_terms 41 = .ok (.iconst 0, 1) := by decide +kernel
theorem dX12_terms_42 : decode cX12_terms 42 = .ok (.iconst 2, 1) := by decide +kernel
theorem dX12_terms_43 : decode cX12_terms 43 = .ok (.invokevirtual 29, 3) := by decide +kernel
theorem dX12_terms_46 : decode cX12_terms 46 = .ok (.ifCond .eq 5, 3) := by decide +kernel
theorem dX12_terms_49 : decode cX12_terms 49 = .ok (.iconst 0, 1) := by decide +kernel
theorem dX12_terms_50 : decode cX12_terms 50 = .ok (.ireturn, 1) := by decide +kernel
theorem dX12_terms_51 : decode cX12_terms 51 = .ok (.aload_n 0, 1) := by decide +kernel
theorem dX12_terms_52 : decode cX12_terms 52 = .ok (.getfield 10, 3) := by decide +kernel
theorem dX12_terms_55 : decode cX12_terms 55 = .ok (.iload_n 1, 1) := by decide +kernel
theorem dX12_terms_56 : decode cX12_terms 56 = .ok (.invokevirtual 45, 3) := by decide +kernel
theorem dX12_terms_59 : decode cX12_terms 59 = .ok (.checkcast 49, 3) := by decide +kernel
theorem dX12_terms_62 : decode cX12_terms 62 = .ok (.astore 5, 2) := by decide +kernel
theorem dX12_terms_64 : decode cX12_terms 64 = .ok (.aload 5, 2) := by decide +kernel
theorem dX12_terms_66 : decode cX12_terms 66 = .ok (.getfield 114, 3) := by decide +kernel
theorem dX12_terms_69 : decode cX12_terms 69 = .ok (.iload_n 2, 1) := by decide +kernel
theorem dX12_terms_70 : decode cX12_terms 70 = .ok (.iaload, 1) := by decide +kernel
theorem dX12_terms_71 : decode cX12_terms 71 = .ok (.istore 6, 2) := by decide +kernel
theorem dX12_terms_73 : decode cX12_terms 73 = .ok (.aload 5, 2) := by decide +kernel
theorem dX12_terms_75 : decode cX12_terms 75 = .ok (.getfield 114, 3) := by decide +kernel
theorem dX12_terms_78 : decode cX12_terms 78 = .ok (.iload_n 2, 1) := by decide +kernel
theorem dX12_terms_79 : decode cX12_terms 79 = .ok (.iload_n 3, 1) := by decide +kernel
theorem dX12_terms_80 : decode cX12_terms 80 = .ok (.iastore, 1) := by decide +kernel
theorem dX12_terms_81 : decode cX12_terms 81 = .ok (.aload 5, 2) := by decide +kernel
theorem dX12_terms_83 : decode cX12_terms 83 = .ok (.getfield 117, 3) := by decide +kernel
theorem dX12_terms_86 : decode cX12_terms 86 = .ok (.iload_n 2, 1) := by decide +kernel
theorem dX12_terms_87 : decode cX12_terms 87 = .ok (.iload 4, 2) := by decide +kernel
theorem dX12_terms_89 : decode cX12_terms 89 = .ok (.iastore, 1) := by decide +kernel
theorem dX12_terms_90 : decode cX12_terms 90 = .ok (.iload 6, 2) := by decide +kernel
theorem dX12_terms_92 : decode cX12_terms 92 = .ok (.ireturn, 1) := by decide +kernel
set_option maxRecDepth 20000 in
theorem ggX12_sourceOf_Jx4a65c_size_8abf5 : GoodIn wsX12_sourceOf wsJx4a65c_size_8abf5 := goodIn_r _ [11, 12, 41, 42, 43] (by decide +kernel) (by decide +kernel)
set_option maxRecDepth 20000 in
theorem gX12_sourceOf_Jx4a65c_size_8abf5 : GoodIn wsX12_sourceOf (wsV RX12 33 RJx4a65c yJx4a65c_size_8abf5 wsJx4a65c_size_8abf5) := goodIn_app (goodIn_of _ (by decide +kernel)) ggX12_sourceOf_Jx4a65c_size_8abf5
set_option maxRecDepth 20000 in
theorem ggX12_sourceOf_Jx4a65c_get_915e3 : GoodIn wsX12_sourceOf wsJx4a65c_get_915e3 := goodIn_r _ [16, 12, 17, 18, 19, 20, 21, 22, 23, 24, 25, 26, 27, 10, 28, 29, 41, 42, 43] (by decide +kernel) (by decide +kernel)
set_option maxRecDepth 20000 in
theorem gX12_sourceOf_Jx4a65c_get_915e3 : GoodIn wsX12_sourceOf (wsV RX12 45 RJx4a65c yJx4a65c_get_915e3 wsJx4a65c_get_915e3) := goodIn_app (goodIn_of _ (by decide +kernel)) ggX12_sourceOf_Jx4a65c_get_915e3
theorem dX12_sourceOf_0 : decode cX12_sourceOf 0 = .ok (.iconst 0, 1) := by decide +kernel
theorem dX12_sourceOf_1 : decode cX12_sourceOf 1 = .ok (.istore 5, 2) := by decide +kernel
theorem dX12_sourceOf_3 : decode cX12_sourceOf 3 = .ok (.iload 5, 2) := by decide +kernel
theorem dX12_sourceOf_5 : decode cX12_sourceOf 5 = .ok (.aload_n 0, 1) := by decide +kernel
theorem dX12_sourceOf_6 : decode cX12_sourceOf 6 = .ok (.getfield 16, 3) := by decide +kernel
theorem dX12_sourceOf_9 : decode cX12_sourceOf 9 = .ok (.invokevirtual 33, 3) := by decide +kernel
theorem dX12_sourceOf_12 : decode cX12_sourceOf 12 = .ok (.if_icmp .ge 63, 3) := by decide +kernel
theorem dX12_sourceOf_15 : decode cX12_sourceOf 15 = .ok (.aload_n 0, 1) := by decide +kernel
theorem dX12_sourceOf_16 : decode cX12_sourceOf 16 = .ok (.getfield 16, 3) := by decide +kernel
theorem dX12_sourceOf_19 : decode cX12_sourceOf 19 = .ok (.iload 5, 2) := by decide +kernel
theorem dX12_sourceOf_21 : decode cX12_sourceOf 21 = .ok (.invokevirtual 45, 3) := by decide +kernel
theorem dX12_sourceOf_24 : decode cX12_sourceOf 24 = .ok (.checkcast 120, 3) := by decide +kernel
theorem dX12_sourceOf_27 : decode cX12_sourceOf 27 = .ok (.astore 6, 2) := by decide +kernel
theorem dX12_sourceOf_29 : decode cX12_sourceOf 29 = .ok (.aload 6, 2) := by decide +kernel
theorem dX12_sourceOf_31 : decode cX12_sourceOf 31 = .ok (.getfield 122, 3) := by decide +kernel
theorem dX12_sourceOf_34 : decode cX12_sourceOf 34 = .ok (.iload_n 1, 1) := by decide +kernel
theorem dX12_sourceOf_35 : decode cX12_sourceOf 35 = .ok (.if_icmp .ne 34, 3) := by decide +kernel
theorem dX12_sourceOf_38 : decode cX12_sourceOf 38 = .ok (.aload 6, 2) := by decide +kernel
theorem dX12_sourceOf_40 : decode cX12_sourceOf 40 = .ok (.getfield 123, 3) := by decide +kernel
theorem dX12_sourceOf_43 : decode cX12_sourceOf 43 = .ok (.iload_n 2, 1) := by decide +kernel
theorem dX12_sourceOf_44 : decode cX12_sourceOf 44 = .ok (.if_icmp .ne 25, 3) := by decide +kernel
theorem dX12_sourceOf_47 : decode cX12_sourceOf 47 = .ok (.aload 6, 2) := by decide +kernel
theorem dX12_sourceOf_49 : decode cX12_sourceOf 49 = .ok (.getfield 124, 3) := by decide +kernel
theorem dX12_sourceOf_52 : decode cX12_sourceOf 52 = .ok (.iload_n 3, 1) := by decide +kernel
theorem dX12_sourceOf_53 : decode cX12_sourceOf 53 = .ok (.if_icmp .ne 16, 3) := by decide +kernel
theorem dX12_sourceOf_56 : decode cX12_sourceOf 56 = .ok (.aload 6, 2) := by decide +kernel
theorem dX12_sourceOf_58 : decode cX12_sourceOf 58 = .ok (.getfield 127, 3) := by decide +kernel
theorem dX12_sourceOf_61 : decode cX12_sourceOf 61 = .ok (.iload 4, 2) := by decide +kernel
theorem dX12_sourceOf_63 : decode cX12_sourceOf 63 = .ok (.if_icmp .ne 6, 3) := by decide +kernel
theorem dX12_sourceOf_66 : decode cX12_sourceOf 66 = .ok (.aload 6, 2) := by decide +kernel
theorem dX12_sourceOf_68 : decode cX12_sourceOf 68 = .ok (.areturn, 1) := by decide +kernel
theorem dX12_sourceOf_69 : decode cX12_sourceOf 69 = .ok (.iinc 5 1, 3) := by decide +kernel
theorem dX12_sourceOf_72 : decode cX12_sourceOf 72 = .ok (.goto (-69), 3) := by decide +kernel
theorem dX12_sourceOf_75 : decode cX12_sourceOf 75 = .ok (.aconst_null, 1) := by decide +kernel
theorem dX12_sourceOf_76 : decode cX12_sourceOf 76 = .ok (.areturn, 1) := by decide +kernel
set_option maxRecDepth 20000 in
theorem ggX12_source_X12_isNoField : GoodIn wsX12_source wsX12_isNoField := goodIn_r _ [13, 14, 15, 16, 17, 18, 19, 12, 20, 21, 22, 23, 24, 25, 26, 27, 28, 29, 30, 31, 32, 33, 34, 35, 36, 37, 38, 39, 40, 41, 42, 43, 44, 45, 46, 125, 126, 127, 128, 129, 130, 136, 137, 138, 139, 140, 141, 142, 143] (by decide +kernel) (by decide +kernel)
set_option maxRecDepth 20000 in
theorem gX12_source_X12_isNoField : GoodIn wsX12_source (wsV RX12 57 RX12 yX12_isNoField wsX12_isNoField) := goodIn_app (goodIn_of _ (by decide +kernel)) ggX12_source_X12_isNoField
set_option maxRecDepth 20000 in
theorem ggX12_source_X12_start : GoodIn wsX12_source wsX12_start := goodIn_r _ [50, 51, 52, 53, 54, 12, 55, 125, 126, 127, 128, 129, 130] (by decide +kernel) (by decide +kernel)
set_option maxRecDepth 20000 in
theorem gX12_source_X12_start : GoodIn wsX12_source (wsV RX12 104 RX12 yX12_start wsX12_start) := goodIn_app (goodIn_of _ (by decide +kernel)) ggX12_source_X12_start
set_option maxRecDepth 20000 in
theorem ggX12_source_X12_isIn : GoodIn wsX12_source wsX12_isIn := goodIn_r _ [29] (by decide +kernel) (by decide +kernel)
set_option maxRecDepth 20000 in
theorem gX12_source_X12_isIn : GoodIn wsX12_source (va_wsS RX12 37 yX12_isIn wsX12_isIn) := goodIn_app (goodIn_of _ (by decide +kernel)) ggX12_source_X12_isIn
set_option maxRecDepth 20000 in
theorem ggX12_source_X12_refuse : GoodIn wsX12_source wsX12_refuse := goodIn_r _ [55, 51, 125, 126, 127, 128, 129, 130] (by decide +kernel) (by decide +kernel)
set_option maxRecDepth 20000 in
theorem gX12_source_X12_refuse : GoodIn wsX12_source (wsV RX12 29 RX12 yX12_refuse wsX12_refuse) := goodIn_app (goodIn_of _ (by decide +kernel)) ggX12_source_X12_refuse
set_option maxRecDepth 20000 in
theorem ggX12_source_X12_sourceOf : GoodIn wsX12_source wsX12_sourceOf := goodIn_r _ [59, 1, 6, 7, 8, 60, 61, 21, 22, 23, 24, 25, 26, 30, 31, 32, 33, 34, 35, 36, 37, 38, 39, 40, 41, 42, 43, 44, 45, 46, 125, 126, 127, 128, 129, 130, 131, 132, 133, 134, 135, 141, 142, 143] (by decide +kernel) (by decide +kernel)
set_option maxRecDepth 20000 in
theorem gX12_source_X12_sourceOf : GoodIn wsX12_source (wsV RX12 130 RX12 yX12_sourceOf wsX12_sourceOf) := goodIn_app (goodIn_of _ (by decide +kernel)) ggX12_source_X12_sourceOf
set_option maxRecDepth 20000 in
theorem ggX12_source_Jx4a65c_size_8abf5 : GoodIn wsX12_source wsJx4a65c_size_8abf5 := goodIn_r _ [25, 26, 141, 142, 143] (by decide +kernel) (by decide +kernel)
set_option maxRecDepth 20000 in
theorem gX12_source_Jx4a65c_size_8abf5 : GoodIn wsX12_source (wsV RX12 33 RJx4a65c yJx4a65c_size_8abf5 wsJx4a65c_size_8abf5) := goodIn_app (goodIn_of _ (by decide +kernel)) ggX12_source_Jx4a65c_size_8abf5
set_option maxRecDepth 20000 in
theorem ggX12_source_X10_init : GoodIn wsX12_source wsX10_init := goodIn_r _ [64, 65, 66, 67, 68, 69, 70, 71, 131, 132, 133, 134, 135] (by decide +kernel) (by decide +kernel)
set_option maxRecDepth 20000 in
theorem gX12_source_X10_init : GoodIn wsX12_source (wsX10_init) := ggX12_source_X10_init
set_option maxRecDepth 20000 in
theorem ggX12_source_Jx4a65c_add_9ea2d : GoodIn wsX12_source wsJx4a65c_add_9ea2d := goodIn_r _ [75, 76, 77, 46, 26, 78, 79, 80, 24, 81, 82, 83, 84, 85, 86, 87, 88, 89, 90, 91, 92, 93, 94, 95, 96, 97, 98, 99, 100, 101, 102, 103, 104, 105, 106, 107, 108, 109, 110, 111, 112, 113, 114, 115, 116, 117, 118, 119, 120, 121, 122, 123, 124, 141, 142, 143] (by decide +kernel) (by decide +kernel)
set_option maxRecDepth 20000 in
theorem gX12_source_Jx4a65c_add_9ea2d : GoodIn wsX12_source (wsV RX12 110 RJx4a65c yJx4a65c_add_9ea2d wsJx4a65c_add_9ea2d) := goodIn_app (goodIn_of _ (by decide +kernel)) ggX12_source_Jx4a65c_add_9ea2d
set_option maxRecDepth 20000 in
theorem ggX12_source_Jx4a65c_get_915e3 : GoodIn wsX12_source wsJx4a65c_get_915e3 := goodIn_r _ [33, 26, 34, 35, 36, 37, 38, 39, 40, 41, 42, 43, 44, 24, 45, 46, 141, 142, 143] (by decide +kernel) (by decide +kernel)
set_option maxRecDepth 20000 in
theorem gX12_source_Jx4a65c_get_915e3 : GoodIn wsX12_source (wsV RX12 45 RJx4a65c yJx4a65c_get_915e3 wsJx4a65c_get_915e3) := goodIn_app (goodIn_of _ (by decide +kernel)) ggX12_source_Jx4a65c_get_915e3
theorem dX12_source_0 : decode cX12_source 0 = .ok (.aload_n 0, 1) := by decide +kernel
theorem dX12_source_1 : decode cX12_source 1 = .ok (.aload_n 0, 1) := by decide +kernel
theorem dX12_source_2 : decode cX12_source 2 = .ok (.iload_n 1, 1) := by decide +kernel
theorem dX12_source_3 : decode cX12_source 3 = .ok (.iload_n 2, 1) := by decide +kernel
theorem dX12_source_4 : decode cX12_source 4 = .ok (.invokevirtual 57, 3) := by decide +kernel
theorem dX12_source_7 : decode cX12_source 7 = .ok (.ifCond .ne 13, 3) := by decide +kernel
theorem dX12_source_10 : decode cX12_source 10 = .ok (.aload_n 0, 1) := by decide +kernel
theorem dX12_source_11 : decode cX12_source 11 = .ok (.iload_n 3, 1) := by decide +kernel
theorem dX12_source_12 : decode cX12_source 12 = .ok (.iload 4, 2) := by decide +kernel
theorem dX12_source_14 : decode cX12_source 14 = .ok (.invokevirtual 57, 3) := by decide +kernel
theorem dX12_source_17 : decode cX12_source 17 = .ok (.ifCond .eq 7, 3) := by decide +kernel
theorem dX12_source_20 : decode cX12_source 20 = .ok (.iconst 1, 1) := by decide +kernel
theorem dX12_source_21 : decode cX12_source 21 = .ok (.goto 4, 3) := by decide +kernel
theorem dX12_source_24 : decode cX12_source 24 = .ok (.iconst 0, 1) := by decide +kernel
theorem dX12_source_25 : decode cX12_source 25 = .ok (.iconst 1, 1) := by decide +kernel
theorem dX12_source_26 : decode cX12_source 26 = .ok (.invokevirtual 104, 3) := by decide +kernel
theorem dX12_source_29 : decode cX12_source 29 = .ok (.ifCond .ne 32, 3) := by decide +kernel
theorem dX12_source_32 : decode cX12_source 32 = .ok (.aload_n 0, 1) := by decide +kernel
theorem dX12_source_33 : decode cX12_source 33 = .ok (.iload_n 3, 1) := by decide +kernel
theorem dX12_source_34 : decode cX12_source 34 = .ok (.iload_n 1, 1) := by decide +kernel
theorem dX12_source_35 : decode cX12_source 35 = .ok (.if_icmp .ge 14, 3) := by decide +kernel
theorem dX12_source_38 : decode cX12_source 38 = .ok (.iload 5, 2) := by decide +kernel
theorem dX12_source_40 : decode cX12_source 40 = .ok (.iconst 1, 1) := by decide +kernel
theorem dX12_source_41 : decode cX12_source 41 = .ok (.bipush 100, 2) := by decide +kernel
theorem dX12_source_43 : decode cX12_source 43 = .ok (.invokestatic 37, 3) := by decide +kernel
theorem dX12_source_46 : decode cX12_source 46 = .ok (.ifCond .ne 7, 3) := by decide +kernel
theorem dX12_source_49 : decode cX12_source 49 = .ok (.iconst 1, 1) := by decide +kernel
theorem dX12_source_50 : decode cX12_source 50 = .ok (.goto 4, 3) := by decide +kernel
theorem dX12_source_53 : decode cX12_source 53 = .ok (.iconst 0, 1) := by decide +kernel
theorem dX12_source_54 : decode cX12_source 54 = .ok (.iconst 2, 1) := by decide +kernel
theorem dX12_source_55 : decode cX12_source 55 = .ok (.invokevirtual 29, 3) := by decide +kernel
theorem dX12_source_58 : decode cX12_source 58 = .ok (.ifCond .eq 5, 3) := by decide +kernel
theorem dX12_source_61 : decode cX12_source 61 = .ok (.iconst 0, 1) := by decide +kernel
theorem dX12_source_62 : decode cX12_source 62 = .ok (.ireturn, 1) := by decide +kernel
theorem dX12_source_63 : decode cX12_source 63 = .ok (.aload_n 0, 1) := by decide +kernel
theorem dX12_source_64 : decode cX12_source 64 = .ok (.iload_n 1, 1) := by decide +kernel
theorem dX12_source_65 : decode cX12_source 65 = .ok (.iload_n 2, 1) := by decide +kernel
theorem dX12_source_66 : decode cX12_source 66 = .ok (.iload_n 3, 1) := by decide +kernel
theorem dX12_source_67 : decode cX12_source 67 = .ok (.iload 4, 2) := by decide +kernel
theorem dX12_source_69 : decode cX12_source 69 = .ok (.invokevirtual 130, 3) := by decide +kernel
theorem dX12_source_72 : decode cX12_source 72 = .ok (.astore 6, 2) := by decide +kernel
theorem dX12_source_74 : decode cX12_source 74 = .ok (.aload_n 0, 1) := by decide +kernel
theorem dX12_source_75 : decode cX12_source 75 = .ok (.aload 6, 2) := by decide +kernel
theorem dX12_source_77 : decode cX12_source 77 = .ok (.ifnonnull 19, 3) := by decide +kernel
theorem dX12_source_80 : decode cX12_source 80 = .ok (.aload_n 0, 1) := by decide +kernel
theorem dX12_source_81 : decode cX12_source 81 = .ok (.getfield 16, 3) := by decide +kernel
theorem dX12_source_84 : decode cX12_source 84 = .ok (.invokevirtual 33, 3) := by decide +kernel
theorem dX12_source_87 : decode cX12_source 87 = .ok (.bipush 20, 2) := by decide +kernel
theorem dX12_source_89 : decode cX12_source 89 = .ok (.if_icmp .ne 7, 3) := by decide +kernel
theorem dX12_source_92 : decode cX12_source 92 = .ok (.iconst 1, 1) := by decide +kernel
theorem dX12_source_93 : decode cX12_source 93 = .ok (.goto 4, 3) := by decide +kernel
theorem dX12_source_96 : decode cX12_source 96 = .ok (.iconst 0, 1) := by decide +kernel
theorem dX12_source_97 : decode cX12_source 97 = .ok (.iconst 3, 1) := by decide +kernel
theorem dX12_source_98 : decode cX12_source 98 = .ok (.invokevirtual 29, 3) := by decide +kernel
theorem dX12_source_101 : decode cX12_source 101 = .ok (.ifCond .eq 5, 3) := by decide +kernel
theorem dX12_source_104 : decode cX12_source 104 = .ok (.iconst 0, 1) := by decide +kernel
theorem dX12_source_105 : decode cX12_source 105 = .ok (.ireturn, 1) := by decide +kernel
theorem dX12_source_106 : decode cX12_source 106 = .ok (.aload 6, 2) := by decide +kernel
theorem dX12_source_108 : decode cX12_source 108 = .ok (.ifnonnull 27, 3) := by decide +kernel
theorem dX12_source_111 : decode cX12_source 111 = .ok (.new 120, 3) := by decide +kernel
theorem dX12_source_114 : decode cX12_source 114 = .ok (.dup, 1) := by decide +kernel
theorem dX12_source_115 : decode cX12_source 115 = .ok (.iload_n 1, 1) := by decide +kernel
theorem dX12_source_116 : decode cX12_source 116 = .ok (.iload_n 2, 1) := by decide +kernel
theorem dX12_source_117 : decode cX12_source 117 = .ok (.iload_n 3, 1) := by decide +kernel
theorem dX12_source_118 : decode cX12_source 118 = .ok (.iload 4, 2) := by decide +kernel
theorem dX12_source_120 : decode cX12_source 120 = .ok (.invokespecial 134, 3) := by decide +kernel
theorem dX12_source_123 : decode cX12_source 123 = .ok (.astore 6, 2) := by decide +kernel
theorem dX12_source_125 : decode cX12_source 125 = .ok (.aload_n 0, 1) := by decide +kernel
theorem dX12_source_126 : decode cX12_source 126 = .ok (.getfield 16, 3) := by decide +kernel
theorem dX12_source_129 : decode cX12_source 129 = .ok (.aload 6, 2) := by decide +kernel
theorem dX12_source_131 : decode cX12_source 131 = .ok (.invokevirtual 110, 3) := by decide +kernel
theorem dX12_source_134 : decode cX12_source 134 = .ok (.pop, 1) := by decide +kernel
theorem dX12_source_135 : decode cX12_source 135 = .ok (.aload 6, 2) := by decide +kernel
theorem dX12_source_137 : decode cX12_source 137 = .ok (.iload 5, 2) := by decide +kernel
theorem dX12_source_139 : decode cX12_source 139 = .ok (.putfield 137, 3) := by decide +kernel
theorem dX12_source_142 : decode cX12_source 142 = .ok (.iconst 0, 1) := by decide +kernel
theorem dX12_source_143 : decode cX12_source 143 = .ok (.istore 7, 2) := by decide +kernel
theorem dX12_source_145 : decode cX12_source 145 = .ok (.iconst 0, 1) := by decide +kernel
theorem dX12_source_146 : decode cX12_source 146 = .ok (.istore 8, 2) := by decide +kernel
theorem dX12_source_148 : decode cX12_source 148 = .ok (.iload 8, 2) := by decide +kernel
theorem dX12_source_150 : decode cX12_source 150 = .ok (.aload_n 0, 1) := by decide +kernel
theorem dX12_source_151 : decode cX12_source 151 = .ok (.getfield 16, 3) := by decide +kernel
theorem dX12_source_154 : decode cX12_source 154 = .ok (.invokevirtual 33, 3) := by decide +kernel
theorem dX12_source_157 : decode cX12_source 157 = .ok (.if_icmp .ge 57, 3) := by decide +kernel
theorem dX12_source_160 : decode cX12_source 160 = .ok (.iload 7, 2) := by decide +kernel
theorem dX12_source_162 : decode cX12_source 162 = .ok (.aload_n 0, 1) := by decide +kernel
theorem dX12_source_163 : decode cX12_source 163 = .ok (.getfield 16, 3) := by decide +kernel
theorem dX12_source_166 : decode cX12_source 166 = .ok (.iload 8, 2) := by decide +kernel
theorem dX12_source_168 : decode cX12_source 168 = .ok (.invokevirtual 45, 3) := by decide +kernel
theorem dX12_source_171 : decode cX12_source 171 = .ok (.checkcast 120, 3) := by decide +kernel
theorem dX12_source_174 : decode cX12_source 174 = .ok (.getfield 122, 3) := by decide +kernel
theorem dX12_source_177 : decode cX12_source 177 = .ok (.iload_n 1, 1) := by decide +kernel
theorem dX12_source_178 : decode cX12_source 178 = .ok (.if_icmp .ne 26, 3) := by decide +kernel
theorem dX12_source_181 : decode cX12_source 181 = .ok (.aload_n 0, 1) := by decide +kernel
theorem dX12_source_182 : decode cX12_source 182 = .ok (.getfield 16, 3) := by decide +kernel
theorem dX12_source_185 : decode cX12_source 185 = .ok (.iload 8, 2) := by decide +kernel
theorem dX12_source_187 : decode cX12_source 187 = .ok (.invokevirtual 45, 3) := by decide +kernel
theorem dX12_source_190 : decode cX12_source 190 = .ok (.checkcast 120, 3) := by decide +kernel
theorem dX12_source_193 : decode cX12_source 193 = .ok (.getfield 123, 3) := by decide +kernel
theorem dX12_source_196 : decode cX12_source 196 = .ok (.iload_n 2, 1) := by decide +kernel
theorem dX12_source_197 : decode cX12_source 197 = .ok (.if_icmp .ne 7, 3) := by decide +kernel
theorem dX12_source_200 : decode cX12_source 200 = .ok (.iconst 1, 1) := by decide +kernel
theorem dX12_source_201 : decode cX12_source 201 = .ok (.goto 4, 3) := by decide +kernel
theorem dX12_source_204 : decode cX12_source 204 = .ok (.iconst 0, 1) := by decide +kernel
theorem dX12_source_205 : decode cX12_source 205 = .ok (.iadd, 1) := by decide +kernel
theorem dX12_source_206 : decode cX12_source 206 = .ok (.istore 7, 2) := by decide +kernel
theorem dX12_source_208 : decode cX12_source 208 = .ok (.iinc 8 1, 3) := by decide +kernel
theorem dX12_source_211 : decode cX12_source 211 = .ok (.goto (-63), 3) := by decide +kernel
theorem dX12_source_214 : decode cX12_source 214 = .ok (.iload 7, 2) := by decide +kernel
theorem dX12_source_216 : decode cX12_source 216 = .ok (.ireturn, 1) := by decide +kernel
set_option maxRecDepth 20000 in
theorem ggX12_version_X12_isNo : GoodIn wsX12_version wsX12_isNo := goodIn_r _ [23, 1, 24, 25, 26, 27, 28, 29, 30, 31, 22, 32, 156, 157, 158, 159, 160, 161, 181, 182, 183] (by decide +kernel) (by decide +kernel)
set_option maxRecDepth 20000 in
theorem gX12_version_X12_isNo : GoodIn wsX12_version (wsV RX12 41 RX12 yX12_isNo wsX12_isNo) := goodIn_app (goodIn_of _ (by decide +kernel)) ggX12_version_X12_isNo
set_option maxRecDepth 20000 in
theorem ggX12_version_X12_start : GoodIn wsX12_version wsX12_start := goodIn_r _ [36, 37, 38, 39, 40, 22, 41, 156, 157, 158, 159, 160, 161] (by decide +kernel) (by decide +kernel)
set_option maxRecDepth 20000 in
theorem gX12_version_X12_start : GoodIn wsX12_version (wsV RX12 104 RX12 yX12_start wsX12_start) := goodIn_app (goodIn_of _ (by decide +kernel)) ggX12_version_X12_start
set_option maxRecDepth 20000 in
theorem ggX12_version_X12_isIn : GoodIn wsX12_version wsX12_isIn := goodIn_r _ [32] (by decide +kernel) (by decide +kernel)
set_option maxRecDepth 20000 in
theorem gX12_version_X12_isIn : GoodIn wsX12_version (va_wsS RX12 37 yX12_isIn wsX12_isIn) := goodIn_app (goodIn_of _ (by decide +kernel)) ggX12_version_X12_isIn
set_option maxRecDepth 20000 in
theorem ggX12_version_X12_refuse : GoodIn wsX12_version wsX12_refuse := goodIn_r _ [41, 37, 156, 157, 158, 159, 160, 161] (by decide +kernel) (by decide +kernel)
set_option maxRecDepth 20000 in
theorem gX12_version_X12_refuse : GoodIn wsX12_version (wsV RX12 29 RX12 yX12_refuse wsX12_refuse) := goodIn_app (goodIn_of _ (by decide +kernel)) ggX12_version_X12_refuse
set_option maxRecDepth 20000 in
theorem ggX12_version_Jx4a65c_get_915e3 : GoodIn wsX12_version wsJx4a65c_get_915e3 := goodIn_r _ [45, 29, 46, 47, 48, 49, 50, 51, 52, 53, 54, 55, 56, 27, 57, 58, 181, 182, 183] (by decide +kernel) (by decide +kernel)
set_option maxRecDepth 20000 in
theorem gX12_version_Jx4a65c_get_915e3 : GoodIn wsX12_version (wsV RX12 45 RJx4a65c yJx4a65c_get_915e3 wsJx4a65c_get_915e3) := goodIn_app (goodIn_of _ (by decide +kernel)) ggX12_version_Jx4a65c_get_915e3
set_option maxRecDepth 20000 in
theorem ggX12_version_Jx4a65c_size_8abf5 : GoodIn wsX12_version wsJx4a65c_size_8abf5 := goodIn_r _ [28, 29, 181, 182, 183] (by decide +kernel) (by decide +kernel)
set_option maxRecDepth 20000 in
theorem gX12_version_Jx4a65c_size_8abf5 : GoodIn wsX12_version (wsV RX12 33 RJx4a65c yJx4a65c_size_8abf5 wsJx4a65c_size_8abf5) := goodIn_app (goodIn_of _ (by decide +kernel)) ggX12_version_Jx4a65c_size_8abf5
set_option maxRecDepth 20000 in
theorem ggX12_version_X11_init : GoodIn wsX12_version wsX11_init := goodIn_r _ [61, 62, 63, 64, 65, 66, 67, 68, 69, 70, 71, 27, 72, 73, 74, 75, 76, 77, 58, 78, 79, 80, 81, 82, 83, 84, 85, 86, 87, 88, 89, 90, 91, 92, 93, 29, 94, 95, 96, 97, 98, 99, 100, 101, 102, 103, 104, 105, 106, 107, 108, 109, 110, 111, 112, 113, 114, 115, 116, 117, 118, 119, 120, 121, 122, 123, 124, 125, 126, 127, 128, 129, 130, 131, 132, 133, 134, 135, 136, 137, 138, 139, 167, 168, 169, 170, 171, 181, 182, 183] (by decide +kernel) (by decide +kernel)
set_option maxRecDepth 20000 in
theorem gX12_version_X11_init : GoodIn wsX12_version (wsX11_init) := ggX12_version_X11_init
set_option maxRecDepth 20000 in
theorem ggX12_version_X7_latest : GoodIn wsX12_version wsX7_latest := goodIn_r _ [144, 145, 146, 25, 26, 27, 28, 29, 162, 163, 164, 165, 166, 181, 182, 183] (by decide +kernel) (by decide +kernel)
set_option maxRecDepth 20000 in
theorem gX12_version_X7_latest : GoodIn wsX12_version (wsV RX12 54 RX7 yX7_latest wsX7_latest) := goodIn_app (goodIn_of _ (by decide +kernel)) ggX12_version_X7_latest
set_option maxRecDepth 20000 in
theorem ggX12_version_X8_init : GoodIn wsX12_version wsX8_init := goodIn_r _ [149, 150, 63, 64, 151, 152, 153, 154, 177, 178, 179, 180] (by decide +kernel) (by decide +kernel)
set_option maxRecDepth 20000 in
theorem gX12_version_X8_init : GoodIn wsX12_version (wsX8_init) := ggX12_version_X8_init
set_option maxRecDepth 20000 in
theorem ggX12_version_Jx4a65c_add_9ea2d : GoodIn wsX12_version wsJx4a65c_add_9ea2d := goodIn_r _ [91, 92, 93, 58, 29, 94, 95, 96, 27, 97, 98, 99, 100, 101, 102, 103, 104, 105, 77, 106, 107, 108, 109, 110, 111, 112, 113, 114, 115, 116, 117, 118, 119, 120, 121, 122, 123, 124, 125, 126, 127, 128, 129, 130, 131, 132, 133, 134, 135, 136, 137, 138, 139, 181, 182, 183] (by decide +kernel) (by decide +kernel)
set_option maxRecDepth 20000 in
theorem gX12_version_Jx4a65c_add_9ea2d : GoodIn wsX12_version (wsV RX12 110 RJx4a65c yJx4a65c_add_9ea2d wsJx4a65c_add_9ea2d) := goodIn_app (goodIn_of _ (by decide +kernel)) ggX12_version_Jx4a65c_add_9ea2d
theorem dX12_version_0 : decode cX12_version 0 = .ok (.aload_n 0, 1) := by decide +kernel
theorem dX12_version_1 : decode cX12_version 1 = .ok (.aload_n 0, 1) := by decide +kernel
theorem dX12_version_2 : decode cX12_version 2 = .ok (.iload_n 1, 1) := by decide +kernel
theorem dX12_version_3 : decode cX12_version 3 = .ok (.invokevirtual 41, 3) := by decide +kernel
theorem dX12_version_6 : decode cX12_version 6 = .ok (.iconst 1, 1) := by decide +kernel
theorem dX12_version_7 : decode cX12_version 7 = .ok (.invokevirtual 104, 3) := by decide +kernel
theorem dX12_version_10 : decode cX12_version 10 = .ok (.ifCond .ne 62, 3) := by decide +kernel
theorem dX12_version_13 : decode cX12_version 13 = .ok (.aload_n 0, 1) := by decide +kernel
theorem dX12_version_14 : decode cX12_version 14 = .ok (.iload_n 2, 1) := by decide +kernel
theorem dX12_version_15 : decode cX12_version 15 = .ok (.iconst 1, 1) := by decide +kernel
theorem dX12_version_16 : decode cX12_version 16 = .ok (.sipush 9999, 3) := by decide +kernel
theorem dX12_version_19 : decode cX12_version 19 = .ok (.invokestatic 37, 3) := by decide +kernel
theorem dX12_version_22 : decode cX12_version 22 = .ok (.ifCond .ne 7, 3) := by decide +kernel
theorem dX12_version_25 : decode cX12_version 25 = .ok (.iconst 1, 1) := by decide +kernel
theorem dX12_version_26 : decode cX12_version 26 = .ok (.goto 4, 3) := by decide +kernel
theorem dX12_version_29 : decode cX12_version 29 = .ok (.iconst 0, 1) := by decide +kernel
theorem dX12_version_30 : decode cX12_version 30 = .ok (.iconst 2, 1) := by decide +kernel
theorem dX12_version_31 : decode cX12_version 31 = .ok (.invokevirtual 29, 3) := by decide +kernel
theorem dX12_version_34 : decode cX12_version 34 = .ok (.ifCond .ne 38, 3) := by decide +kernel
theorem dX12_version_37 : decode cX12_version 37 = .ok (.aload_n 0, 1) := by decide +kernel
theorem dX12_version_38 : decode cX12_version 38 = .ok (.aload_n 0, 1) := by decide +kernel
theorem dX12_version_39 : decode cX12_version 39 = .ok (.getfield 10, 3) := by decide +kernel
theorem dX12_version_42 : decode cX12_version 42 = .ok (.iload_n 1, 1) := by decide +kernel
theorem dX12_version_43 : decode cX12_version 43 = .ok (.invokevirtual 45, 3) := by decide +kernel
theorem dX12_version_46 : decode cX12_version 46 = .ok (.checkcast 49, 3) := by decide +kernel
theorem dX12_version_49 : decode cX12_version 49 = .ok (.getfield 69, 3) := by decide +kernel
theorem dX12_version_52 : decode cX12_version 52 = .ok (.invokevirtual 33, 3) := by decide +kernel
theorem dX12_version_55 : decode cX12_version 55 = .ok (.bipush 6, 2) := by decide +kernel
theorem dX12_version_57 : decode cX12_version 57 = .ok (.if_icmp .ne 7, 3) := by decide +kernel
theorem dX12_version_60 : decode cX12_version 60 = .ok (.iconst 1, 1) := by decide +kernel
theorem dX12_version_61 : decode cX12_version 61 = .ok (.goto 4, 3) := by decide +kernel
theorem dX12_version_64 : decode cX12_version 64 = .ok (.iconst 0, 1) := by decide +kernel
theorem dX12_version_65 : decode cX12_version 65 = .ok (.iconst 3, 1) := by decide +kernel
theorem dX12_version_66 : decode cX12_version 66 = .ok (.invokevirtual 29, 3) := by decide +kernel
theorem dX12_version_69 : decode cX12_version 69 = .ok (.ifCond .eq 5, 3) := by decide +kernel
theorem dX12_version_72 : decode cX12_version 72 = .ok (.iconst 0, 1) := by decide +kernel
theorem dX12_version_73 : decode cX12_version 73 = .ok (.ireturn, 1) := by decide +kernel
theorem dX12_version_74 : decode cX12_version 74 = .ok (.new 72, 3) := by decide +kernel
theorem dX12_version_77 : decode cX12_version 77 = .ok (.dup, 1) := by decide +kernel
theorem dX12_version_78 : decode cX12_version 78 = .ok (.iload_n 2, 1) := by decide +kernel
theorem dX12_version_79 : decode cX12_version 79 = .ok (.invokespecial 138, 3) := by decide +kernel
theorem dX12_version_82 : decode cX12_version 82 = .ok (.astore_n 3, 1) := by decide +kernel
theorem dX12_version_83 : decode cX12_version 83 = .ok (.iconst 0, 1) := by decide +kernel
theorem dX12_version_84 : decode cX12_version 84 = .ok (.istore 4, 2) := by decide +kernel
theorem dX12_version_86 : decode cX12_version 86 = .ok (.iload 4, 2) := by decide +kernel
theorem dX12_version_88 : decode cX12_version 88 = .ok (.aload_n 0, 1) := by decide +kernel
theorem dX12_version_89 : decode cX12_version 89 = .ok (.getfield 16, 3) := by decide +kernel
theorem dX12_version_92 : decode cX12_version 92 = .ok (.invokevirtual 33, 3) := by decide +kernel
theorem dX12_version_95 : decode cX12_version 95 = .ok (.if_icmp .ge 101, 3) := by decide +kernel
theorem dX12_version_98 : decode cX12_version 98 = .ok (.aload_n 0, 1) := by decide +kernel
theorem dX12_version_99 : decode cX12_version 99 = .ok (.getfield 16, 3) := by decide +kernel
theorem dX12_version_102 : decode cX12_version 102 = .ok (.iload 4, 2) := by decide +kernel
theorem dX12_version_104 : decode cX12_version 104 = .ok (.invokevirtual 45, 3) := by decide +kernel
theorem dX12_version_107 : decode cX12_version 107 = .ok (.checkcast 120, 3) := by decide +kernel
theorem dX12_version_110 : decode cX12_version 110 = .ok (.astore 5, 2) := by decide +kernel
theorem dX12_version_112 : decode cX12_version 112 = .ok (.aload_n 0, 1) := by decide +kernel
theorem dX12_version_113 : decode cX12_version 113 = .ok (.getfield 10, 3) := by decide +kernel
theorem dX12_version_116 : decode cX12_version 116 = .ok (.aload 5, 2) := by decide +kernel
theorem dX12_version_118 : decode cX12_version 118 = .ok (.getfield 124, 3) := by decide +kernel
theorem dX12_version_121 : decode cX12_version 121 = .ok (.invokevirtual 45, 3) := by decide +kernel
theorem dX12_version_124 : decode cX12_version 124 = .ok (.checkcast 49, 3) := by decide +kernel
theorem dX12_version_127 : decode cX12_version 127 = .ok (.invokevirtual 54, 3) := by decide +kernel
theorem dX12_version_130 : decode cX12_version 130 = .ok (.istore 6, 2) := by decide +kernel
theorem dX12_version_132 : decode cX12_version 132 = .ok (.aload 5, 2) := by decide +kernel
theorem dX12_version_134 : decode cX12_version 134 = .ok (.getfield 122, 3) := by decide +kernel
theorem dX12_version_137 : decode cX12_version 137 = .ok (.iload_n 1, 1) := by decide +kernel
theorem dX12_version_138 : decode cX12_version 138 = .ok (.if_icmp .ne 52, 3) := by decide +kernel
theorem dX12_version_141 : decode cX12_version 141 = .ok (.iload 6, 2) := by decide +kernel
theorem dX12_version_143 : decode cX12_version 143 = .ok (.iconst (-1), 1) := by decide +kernel
theorem dX12_version_144 : decode cX12_version 144 = .ok (.if_icmp .eq 46, 3) := by decide +kernel
theorem dX12_version_147 : decode cX12_version 147 = .ok (.aload_n 3, 1) := by decide +kernel
theorem dX12_version_148 : decode cX12_version 148 = .ok (.getfield 87, 3) := by decide +kernel
theorem dX12_version_151 : decode cX12_version 151 = .ok (.aload 5, 2) := by decide +kernel
theorem dX12_version_153 : decode cX12_version 153 = .ok (.getfield 123, 3) := by decide +kernel
theorem dX12_version_156 : decode cX12_version 156 = .ok (.invokevirtual 45, 3) := by decide +kernel
theorem dX12_version_159 : decode cX12_version 159 = .ok (.checkcast 7, 3) := by decide +kernel
theorem dX12_version_162 : decode cX12_version 162 = .ok (.new 90, 3) := by decide +kernel
theorem dX12_version_165 : decode cX12_version 165 = .ok (.dup, 1) := by decide +kernel
theorem dX12_version_166 : decode cX12_version 166 = .ok (.aload 5, 2) := by decide +kernel
theorem dX12_version_168 : decode cX12_version 168 = .ok (.getfield 124, 3) := by decide +kernel
theorem dX12_version_171 : decode cX12_version 171 = .ok (.iload 6, 2) := by decide +kernel
theorem dX12_version_173 : decode cX12_version 173 = .ok (.aload 5, 2) := by decide +kernel
theorem dX12_version_175 : decode cX12_version 175 = .ok (.getfield 127, 3) := by decide +kernel
theorem dX12_version_178 : decode cX12_version 178 = .ok (.aload 5, 2) := by decide +kernel
theorem dX12_version_180 : decode cX12_version 180 = .ok (.getfield 137, 3) := by decide +kernel
theorem dX12_version_183 : decode cX12_version 183 = .ok (.invokespecial 139, 3) := by decide +kernel
theorem dX12_version_186 : decode cX12_version 186 = .ok (.invokevirtual 110, 3) := by decide +kernel
theorem dX12_version_189 : decode cX12_version 189 = .ok (.pop, 1) := by decide +kernel
theorem dX12_version_190 : decode cX12_version 190 = .ok (.iinc 4 1, 3) := by decide +kernel
theorem dX12_version_193 : decode cX12_version 193 = .ok (.goto (-107), 3) := by decide +kernel
theorem dX12_version_196 : decode cX12_version 196 = .ok (.aload_n 0, 1) := by decide +kernel
theorem dX12_version_197 : decode cX12_version 197 = .ok (.getfield 10, 3) := by decide +kernel
theorem dX12_version_200 : decode cX12_version 200 = .ok (.iload_n 1, 1) := by decide +kernel
theorem dX12_version_201 : decode cX12_version 201 = .ok (.invokevirtual 45, 3) := by decide +kernel
theorem dX12_version_204 : decode cX12_version 204 = .ok (.checkcast 49, 3) := by decide +kernel
theorem dX12_version_207 : decode cX12_version 207 = .ok (.getfield 69, 3) := by decide +kernel
theorem dX12_version_210 : decode cX12_version 210 = .ok (.aload_n 3, 1) := by decide +kernel
theorem dX12_version_211 : decode cX12_version 211 = .ok (.invokevirtual 110, 3) := by decide +kernel
theorem dX12_version_214 : decode cX12_version 214 = .ok (.pop, 1) := by decide +kernel
theorem dX12_version_215 : decode cX12_version 215 = .ok (.aload_n 0, 1) := by decide +kernel
theorem dX12_version_216 : decode cX12_version 216 = .ok (.getfield 10, 3) := by decide +kernel
theorem dX12_version_219 : decode cX12_version 219 = .ok (.iload_n 1, 1) := by decide +kernel
theorem dX12_version_220 : decode cX12_version 220 = .ok (.invokevirtual 45, 3) := by decide +kernel
theorem dX12_version_223 : decode cX12_version 223 = .ok (.checkcast 49, 3) := by decide +kernel
theorem dX12_version_226 : decode cX12_version 226 = .ok (.invokevirtual 54, 3) := by decide +kernel
theorem dX12_version_229 : decode cX12_version 229 = .ok (.ireturn, 1) := by decide +kernel
set_option maxRecDepth 20000 in
theorem ggX12_missing_X12_isNoField : GoodIn wsX12_missing wsX12_isNoField := goodIn_r _ [16, 1, 2, 17, 18, 19, 20, 15, 21, 22, 23, 24, 25, 26, 27, 28, 29, 30, 31, 32, 33, 34, 35, 36, 37, 38, 39, 40, 41, 42, 43, 44, 45, 46, 47, 80, 81, 82, 83, 84, 85, 86, 87, 88, 89, 90, 96, 97, 98] (by decide +kernel) (by decide +kernel)
set_option maxRecDepth 20000 in
theorem gX12_missing_X12_isNoField : GoodIn wsX12_missing (wsV RX12 57 RX12 yX12_isNoField wsX12_isNoField) := goodIn_app (goodIn_of _ (by decide +kernel)) ggX12_missing_X12_isNoField
set_option maxRecDepth 20000 in
theorem ggX12_missing_X12_start : GoodIn wsX12_missing wsX12_start := goodIn_r _ [51, 52, 53, 54, 55, 15, 56, 80, 81, 82, 83, 84, 85] (by decide +kernel) (by decide +kernel)
set_option maxRecDepth 20000 in
theorem gX12_missing_X12_start : GoodIn wsX12_missing (wsV RX12 104 RX12 yX12_start wsX12_start) := goodIn_app (goodIn_of _ (by decide +kernel)) ggX12_missing_X12_start
set_option maxRecDepth 20000 in
theorem ggX12_missing_X12_isIn : GoodIn wsX12_missing wsX12_isIn := goodIn_r _ [30] (by decide +kernel) (by decide +kernel)
set_option maxRecDepth 20000 in
theorem gX12_missing_X12_isIn : GoodIn wsX12_missing (va_wsS RX12 37 yX12_isIn wsX12_isIn) := goodIn_app (goodIn_of _ (by decide +kernel)) ggX12_missing_X12_isIn
set_option maxRecDepth 20000 in
theorem ggX12_missing_X12_refuse : GoodIn wsX12_missing wsX12_refuse := goodIn_r _ [56, 52, 80, 81, 82, 83, 84, 85] (by decide +kernel) (by decide +kernel)
set_option maxRecDepth 20000 in
theorem gX12_missing_X12_refuse : GoodIn wsX12_missing (wsV RX12 29 RX12 yX12_refuse wsX12_refuse) := goodIn_app (goodIn_of _ (by decide +kernel)) ggX12_missing_X12_refuse
set_option maxRecDepth 20000 in
theorem ggX12_missing_Jx4a65c_get_915e3 : GoodIn wsX12_missing wsJx4a65c_get_915e3 := goodIn_r _ [34, 27, 35, 36, 37, 38, 39, 40, 41, 42, 43, 44, 45, 25, 46, 47, 96, 97, 98] (by decide +kernel) (by decide +kernel)
set_option maxRecDepth 20000 in
theorem gX12_missing_Jx4a65c_get_915e3 : GoodIn wsX12_missing (wsV RX12 45 RJx4a65c yJx4a65c_get_915e3 wsJx4a65c_get_915e3) := goodIn_app (goodIn_of _ (by decide +kernel)) ggX12_missing_Jx4a65c_get_915e3
set_option maxRecDepth 20000 in
theorem ggX12_missing_Jx4a65c_isEmpty_aae02 : GoodIn wsX12_missing wsJx4a65c_isEmpty_aae02 := goodIn_r _ [60, 27, 96, 97, 98] (by decide +kernel) (by decide +kernel)
set_option maxRecDepth 20000 in
theorem gX12_missing_Jx4a65c_isEmpty_aae02 : GoodIn wsX12_missing (wsV RX12 140 RJx4a65c yJx4a65c_isEmpty_aae02 wsJx4a65c_isEmpty_aae02) := goodIn_app (goodIn_of _ (by decide +kernel)) ggX12_missing_Jx4a65c_isEmpty_aae02
set_option maxRecDepth 20000 in
theorem ggX12_missing_X7_latest : GoodIn wsX12_missing wsX7_latest := goodIn_r _ [65, 66, 67, 23, 24, 25, 26, 27, 86, 87, 88, 89, 90, 96, 97, 98] (by decide +kernel) (by decide +kernel)
set_option maxRecDepth 20000 in
theorem gX12_missing_X7_latest : GoodIn wsX12_missing (wsV RX12 54 RX7 yX7_latest wsX7_latest) := goodIn_app (goodIn_of _ (by decide +kernel)) ggX12_missing_X7_latest
set_option maxRecDepth 20000 in
theorem ggX12_missing_X12_harms : GoodIn wsX12_missing wsX12_harms := goodIn_r _ [71, 1, 2, 3, 4, 72, 6, 8, 9, 10, 11, 73, 74, 75, 76, 77, 78, 79, 22, 23, 24, 25, 26, 27, 31, 32, 33, 34, 35, 36, 37, 38, 39, 40, 41, 42, 43, 44, 45, 46, 47, 80, 81, 82, 83, 84, 85, 86, 87, 88, 89, 90, 91, 92, 93, 94, 95, 99, 100, 101, 102, 96, 97, 98] (by decide +kernel) (by decide +kernel)
set_option maxRecDepth 20000 in
theorem gX12_missing_X12_harms : GoodIn wsX12_missing (wsV RX12 148 RX12 yX12_harms wsX12_harms) := goodIn_app (goodIn_of _ (by decide +kernel)) ggX12_missing_X12_harms
theorem dX12_missing_0 : decode cX12_missing 0 = .ok (.aload_n 0, 1) := by decide +kernel
theorem dX12_missing_1 : decode cX12_missing 1 = .ok (.aload_n 0, 1) := by decide +kernel
theorem dX12_missing_2 : decode cX12_missing 2 = .ok (.iload_n 1, 1) := by decide +kernel
theorem dX12_missing_3 : decode cX12_missing 3 = .ok (.iload_n 2, 1) := by decide +kernel
theorem dX12_missing_4 : decode cX12_missing 4 = .ok (.invokevirtual 57, 3) := by decide +kernel
theorem dX12_missing_7 : decode cX12_missing 7 = .ok (.iconst 1, 1) := by decide +kernel
theorem dX12_missing_8 : decode cX12_missing 8 = .ok (.invokevirtual 104, 3) := by decide +kernel
theorem dX12_missing_11 : decode cX12_missing 11 = .ok (.ifCond .ne 27, 3) := by decide +kernel
theorem dX12_missing_14 : decode cX12_missing 14 = .ok (.aload_n 0, 1) := by decide +kernel
theorem dX12_missing_15 : decode cX12_missing 15 = .ok (.iload_n 3, 1) := by decide +kernel
theorem dX12_missing_16 : decode cX12_missing 16 = .ok (.iconst 0, 1) := by decide +kernel
theorem dX12_missing_17 : decode cX12_missing 17 = .ok (.sipush 1000, 3) := by decide +kernel
theorem dX12_missing_20 : decode cX12_missing 20 = .ok (.invokestatic 37, 3) := by decide +kernel
theorem dX12_missing_23 : decode cX12_missing 23 = .ok (.ifCond .ne 7, 3) := by decide +kernel
theorem dX12_missing_26 : decode cX12_missing 26 = .ok (.iconst 1, 1) := by decide +kernel
theorem dX12_missing_27 : decode cX12_missing 27 = .ok (.goto 4, 3) := by decide +kernel
theorem dX12_missing_30 : decode cX12_missing 30 = .ok (.iconst 0, 1) := by decide +kernel
theorem dX12_missing_31 : decode cX12_missing 31 = .ok (.iconst 2, 1) := by decide +kernel
theorem dX12_missing_32 : decode cX12_missing 32 = .ok (.invokevirtual 29, 3) := by decide +kernel
theorem dX12_missing_35 : decode cX12_missing 35 = .ok (.ifCond .eq 5, 3) := by decide +kernel
theorem dX12_missing_38 : decode cX12_missing 38 = .ok (.iconst 0, 1) := by decide +kernel
theorem dX12_missing_39 : decode cX12_missing 39 = .ok (.ireturn, 1) := by decide +kernel
theorem dX12_missing_40 : decode cX12_missing 40 = .ok (.aload_n 0, 1) := by decide +kernel
theorem dX12_missing_41 : decode cX12_missing 41 = .ok (.getfield 10, 3) := by decide +kernel
theorem dX12_missing_44 : decode cX12_missing 44 = .ok (.iload_n 1, 1) := by decide +kernel
theorem dX12_missing_45 : decode cX12_missing 45 = .ok (.invokevirtual 45, 3) := by decide +kernel
theorem dX12_missing_48 : decode cX12_missing 48 = .ok (.checkcast 49, 3) := by decide +kernel
theorem dX12_missing_51 : decode cX12_missing 51 = .ok (.astore 4, 2) := by decide +kernel
theorem dX12_missing_53 : decode cX12_missing 53 = .ok (.aload_n 0, 1) := by decide +kernel
theorem dX12_missing_54 : decode cX12_missing 54 = .ok (.aload 4, 2) := by decide +kernel
theorem dX12_missing_56 : decode cX12_missing 56 = .ok (.getfield 69, 3) := by decide +kernel
theorem dX12_missing_59 : decode cX12_missing 59 = .ok (.invokevirtual 140, 3) := by decide +kernel
theorem dX12_missing_62 : decode cX12_missing 62 = .ok (.ifCond .ne 27, 3) := by decide +kernel
theorem dX12_missing_65 : decode cX12_missing 65 = .ok (.aload 4, 2) := by decide +kernel
theorem dX12_missing_67 : decode cX12_missing 67 = .ok (.getfield 69, 3) := by decide +kernel
theorem dX12_missing_70 : decode cX12_missing 70 = .ok (.aload 4, 2) := by decide +kernel
theorem dX12_missing_72 : decode cX12_missing 72 = .ok (.invokevirtual 54, 3) := by decide +kernel
theorem dX12_missing_75 : decode cX12_missing 75 = .ok (.invokevirtual 45, 3) := by decide +kernel
theorem dX12_missing_78 : decode cX12_missing 78 = .ok (.checkcast 72, 3) := by decide +kernel
theorem dX12_missing_81 : decode cX12_missing 81 = .ok (.getfield 144, 3) := by decide +kernel
theorem dX12_missing_84 : decode cX12_missing 84 = .ok (.iload_n 2, 1) := by decide +kernel
theorem dX12_missing_85 : decode cX12_missing 85 = .ok (.baload, 1) := by decide +kernel
theorem dX12_missing_86 : decode cX12_missing 86 = .ok (.ifCond .eq 7, 3) := by decide +kernel
theorem dX12_missing_89 : decode cX12_missing 89 = .ok (.iconst 1, 1) := by decide +kernel
theorem dX12_missing_90 : decode cX12_missing 90 = .ok (.goto 4, 3) := by decide +kernel
theorem dX12_missing_93 : decode cX12_missing 93 = .ok (.iconst 0, 1) := by decide +kernel
theorem dX12_missing_94 : decode cX12_missing 94 = .ok (.iconst 3, 1) := by decide +kernel
theorem dX12_missing_95 : decode cX12_missing 95 = .ok (.invokevirtual 29, 3) := by decide +kernel
theorem dX12_missing_98 : decode cX12_missing 98 = .ok (.ifCond .eq 5, 3) := by decide +kernel
theorem dX12_missing_101 : decode cX12_missing 101 = .ok (.iconst 0, 1) := by decide +kernel
theorem dX12_missing_102 : decode cX12_missing 102 = .ok (.ireturn, 1) := by decide +kernel
theorem dX12_missing_103 : decode cX12_missing 103 = .ok (.aload 4, 2) := by decide +kernel
theorem dX12_missing_105 : decode cX12_missing 105 = .ok (.getfield 69, 3) := by decide +kernel
theorem dX12_missing_108 : decode cX12_missing 108 = .ok (.aload 4, 2) := by decide +kernel
theorem dX12_missing_110 : decode cX12_missing 110 = .ok (.invokevirtual 54, 3) := by decide +kernel
theorem dX12_missing_113 : decode cX12_missing 113 = .ok (.invokevirtual 45, 3) := by decide +kernel
theorem dX12_missing_116 : decode cX12_missing 116 = .ok (.checkcast 72, 3) := by decide +kernel
theorem dX12_missing_119 : decode cX12_missing 119 = .ok (.astore 5, 2) := by decide +kernel
theorem dX12_missing_121 : decode cX12_missing 121 = .ok (.aload 5, 2) := by decide +kernel
theorem dX12_missing_123 : decode cX12_missing 123 = .ok (.getfield 144, 3) := by decide +kernel
theorem dX12_missing_126 : decode cX12_missing 126 = .ok (.iload_n 2, 1) := by decide +kernel
theorem dX12_missing_127 : decode cX12_missing 127 = .ok (.iconst 1, 1) := by decide +kernel
theorem dX12_missing_128 : decode cX12_missing 128 = .ok (.bastore, 1) := by decide +kernel
theorem dX12_missing_129 : decode cX12_missing 129 = .ok (.aload 5, 2) := by decide +kernel
theorem dX12_missing_131 : decode cX12_missing 131 = .ok (.getfield 78, 3) := by decide +kernel
theorem dX12_missing_134 : decode cX12_missing 134 = .ok (.iload_n 2, 1) := by decide +kernel
theorem dX12_missing_135 : decode cX12_missing 135 = .ok (.iconst 0, 1) := by decide +kernel
theorem dX12_missing_136 : decode cX12_missing 136 = .ok (.iload_n 3, 1) := by decide +kernel
theorem dX12_missing_137 : decode cX12_missing 137 = .ok (.aload 4, 2) := by decide +kernel
theorem dX12_missing_139 : decode cX12_missing 139 = .ok (.getfield 117, 3) := by decide +kernel
theorem dX12_missing_142 : decode cX12_missing 142 = .ok (.iload_n 2, 1) := by decide +kernel
theorem dX12_missing_143 : decode cX12_missing 143 = .ok (.iaload, 1) := by decide +kernel
theorem dX12_missing_144 : decode cX12_missing 144 = .ok (.isub, 1) := by decide +kernel
theorem dX12_missing_145 : decode cX12_missing 145 = .ok (.invokestatic 81, 3) := by decide +kernel
theorem dX12_missing_148 : decode cX12_missing 148 = .ok (.bipush 10, 2) := by decide +kernel
theorem dX12_missing_150 : decode cX12_missing 150 = .ok (.idiv, 1) := by decide +kernel
theorem dX12_missing_151 : decode cX12_missing 151 = .ok (.iastore, 1) := by decide +kernel
theorem dX12_missing_152 : decode cX12_missing 152 = .ok (.aload_n 0, 1) := by decide +kernel
theorem dX12_missing_153 : decode cX12_missing 153 = .ok (.invokevirtual 148, 3) := by decide +kernel
theorem dX12_missing_156 : decode cX12_missing 156 = .ok (.iload_n 1, 1) := by decide +kernel
theorem dX12_missing_157 : decode cX12_missing 157 = .ok (.aaload, 1) := by decide +kernel
theorem dX12_missing_158 : decode cX12_missing 158 = .ok (.aload 4, 2) := by decide +kernel
theorem dX12_missing_160 : decode cX12_missing 160 = .ok (.invokevirtual 54, 3) := by decide +kernel
theorem dX12_missing_163 : decode cX12_missing 163 = .ok (.aaload, 1) := by decide +kernel
theorem dX12_missing_164 : decode cX12_missing 164 = .ok (.iload_n 2, 1) := by decide +kernel
theorem dX12_missing_165 : decode cX12_missing 165 = .ok (.iaload, 1) := by decide +kernel
theorem dX12_missing_166 : decode cX12_missing 166 = .ok (.ireturn, 1) := by decide +kernel
set_option maxRecDepth 20000 in
theorem ggX12_credits_X12_harms : GoodIn wsX12_credits wsX12_harms := goodIn_r _ [7, 8, 9, 10, 11, 12, 13, 14, 15, 16, 17, 18, 19, 20, 21, 22, 23, 24, 25, 26, 27, 28, 29, 30, 31, 32, 33, 34, 35, 36, 37, 38, 39, 40, 41, 42, 43, 44, 45, 46, 47, 56, 57, 58, 59, 60, 61, 62, 63, 64, 65, 66, 67, 68, 69, 70, 71, 72, 73, 74, 75, 76, 77, 78] (by decide +kernel) (by decide +kernel)
set_option maxRecDepth 20000 in
theorem gX12_credits_X12_harms : GoodIn wsX12_credits (wsV RX12 148 RX12 yX12_harms wsX12_harms) := goodIn_app (goodIn_of _ (by decide +kernel)) ggX12_credits_X12_harms
set_option maxRecDepth 20000 in
theorem ggX12_credits_Jx4a65c_size_8abf5 : GoodIn wsX12_credits wsJx4a65c_size_8abf5 := goodIn_r _ [29, 30, 76, 77, 78] (by decide +kernel) (by decide +kernel)
set_option maxRecDepth 20000 in
theorem gX12_credits_Jx4a65c_size_8abf5 : GoodIn wsX12_credits (wsV RX12 33 RJx4a65c yJx4a65c_size_8abf5 wsJx4a65c_size_8abf5) := goodIn_app (goodIn_of _ (by decide +kernel)) ggX12_credits_Jx4a65c_size_8abf5
set_option maxRecDepth 20000 in
theorem ggX12_credits_Jx4a65c_get_915e3 : GoodIn wsX12_credits wsJx4a65c_get_915e3 := goodIn_r _ [34, 30, 35, 36, 37, 38, 39, 40, 41, 42, 43, 44, 45, 28, 46, 47, 76, 77, 78] (by decide +kernel) (by decide +kernel)
set_option maxRecDepth 20000 in
theorem gX12_credits_Jx4a65c_get_915e3 : GoodIn wsX12_credits (wsV RX12 45 RJx4a65c yJx4a65c_get_915e3 wsJx4a65c_get_915e3) := goodIn_app (goodIn_of _ (by decide +kernel)) ggX12_credits_Jx4a65c_get_915e3
set_option maxRecDepth 20000 in
theorem ggX12_credits_X9_credit : GoodIn wsX12_credits wsX9_credit := goodIn_r _ [52, 53, 54, 55, 79, 80, 81, 82, 83, 84, 85, 86, 87, 88] (by decide +kernel) (by decide +kernel)
set_option maxRecDepth 20000 in
theorem gX12_credits_X9_credit : GoodIn wsX12_credits (wsV RX12 154 RX9 yX9_credit wsX9_credit) := goodIn_app (goodIn_of _ (by decide +kernel)) ggX12_credits_X9_credit
theorem dX12_credits_0 : decode cX12_credits 0 = .ok (.aload_n 0, 1) := by decide +kernel
theorem dX12_credits_1 : decode cX12_credits 1 = .ok (.invokevirtual 148, 3) := by decide +kernel
theorem dX12_credits_4 : decode cX12_credits 4 = .ok (.astore_n 1, 1) := by decide +kernel
theorem dX12_credits_5 : decode cX12_credits 5 = .ok (.iconst 0, 1) := by decide +kernel
theorem dX12_credits_6 : decode cX12_credits 6 = .ok (.istore_n 2, 1) := by decide +kernel
theorem dX12_credits_7 : decode cX12_credits 7 = .ok (.iconst 0, 1) := by decide +kernel
theorem dX12_credits_8 : decode cX12_credits 8 = .ok (.istore_n 3, 1) := by decide +kernel
theorem dX12_credits_9 : decode cX12_credits 9 = .ok (.iload_n 3, 1) := by decide +kernel
theorem dX12_credits_10 : decode cX12_credits 10 = .ok (.aload_n 0, 1) := by decide +kernel
theorem dX12_credits_11 : decode cX12_credits 11 = .ok (.getfield 22, 3) := by decide +kernel
theorem dX12_credits_14 : decode cX12_credits 14 = .ok (.invokevirtual 33, 3) := by decide +kernel
theorem dX12_credits_17 : decode cX12_credits 17 = .ok (.if_icmp .ge 27, 3) := by decide +kernel
theorem dX12_credits_20 : decode cX12_credits 20 = .ok (.iload_n 2, 1) := by decide +kernel
theorem dX12_credits_21 : decode cX12_credits 21 = .ok (.aload_n 0, 1) := by decide +kernel
theorem dX12_credits_22 : decode cX12_credits 22 = .ok (.getfield 22, 3) := by decide +kernel
theorem dX12_credits_25 : decode cX12_credits 25 = .ok (.iload_n 3, 1) := by decide +kernel
theorem dX12_credits_26 : decode cX12_credits 26 = .ok (.invokevirtual 45, 3) := by decide +kernel
theorem dX12_credits_29 : decode cX12_credits 29 = .ok (.checkcast 152, 3) := by decide +kernel
theorem dX12_credits_32 : decode cX12_credits 32 = .ok (.aload_n 1, 1) := by decide +kernel
theorem dX12_credits_33 : decode cX12_credits 33 = .ok (.invokevirtual 154, 3) := by decide +kernel
theorem dX12_credits_36 : decode cX12_credits 36 = .ok (.iadd, 1) := by decide +kernel
theorem dX12_credits_37 : decode cX12_credits 37 = .ok (.istore_n 2, 1) := by decide +kernel
theorem dX12_credits_38 : decode cX12_credits 38 = .ok (.iinc 3 1, 3) := by decide +kernel
theorem dX12_credits_41 : decode cX12_credits 41 = .ok (.goto (-32), 3) := by decide +kernel
theorem dX12_credits_44 : decode cX12_credits 44 = .ok (.iload_n 2, 1) := by decide +kernel
theorem dX12_credits_45 : decode cX12_credits 45 = .ok (.ireturn, 1) := by decide +kernel
set_option maxRecDepth 20000 in
theorem ggX12_isNoHarm_X12_isNoValue : GoodIn wsX12_isNoHarm wsX12_isNoValue := goodIn_r _ [5, 6, 7, 8, 4, 9, 10, 11, 12, 13, 14, 15, 16, 17, 18, 19, 20, 21, 22, 23, 24, 25, 26, 27, 28, 29, 30, 31, 32, 33, 34, 35, 36, 37, 38, 39, 40, 41, 42, 43, 44, 45, 46, 47, 48, 49, 50, 51, 52, 53, 63, 64, 65, 66, 67, 68, 69, 70, 71, 72, 73, 74, 75, 76] (by decide +kernel) (by decide +kernel)
set_option maxRecDepth 20000 in
theorem gX12_isNoHarm_X12_isNoValue : GoodIn wsX12_isNoHarm (wsV RX12 158 RX12 yX12_isNoValue wsX12_isNoValue) := goodIn_app (goodIn_of _ (by decide +kernel)) ggX12_isNoHarm_X12_isNoValue
set_option maxRecDepth 20000 in
theorem ggX12_isNoHarm_X12_start : GoodIn wsX12_isNoHarm wsX12_start := goodIn_r _ [57, 58, 59, 60, 61, 4, 62, 63, 64, 65, 66, 67, 68] (by decide +kernel) (by decide +kernel)
set_option maxRecDepth 20000 in
theorem gX12_isNoHarm_X12_start : GoodIn wsX12_isNoHarm (wsV RX12 104 RX12 yX12_start wsX12_start) := goodIn_app (goodIn_of _ (by decide +kernel)) ggX12_isNoHarm_X12_start
set_option maxRecDepth 20000 in
theorem ggX12_isNoHarm_X12_isIn : GoodIn wsX12_isNoHarm wsX12_isIn := goodIn_r _ [25] (by decide +kernel) (by decide +kernel)
set_option maxRecDepth 20000 in
theorem gX12_isNoHarm_X12_isIn : GoodIn wsX12_isNoHarm (va_wsS RX12 37 yX12_isIn wsX12_isIn) := goodIn_app (goodIn_of _ (by decide +kernel)) ggX12_isNoHarm_X12_isIn
set_option maxRecDepth 20000 in
theorem ggX12_isNoHarm_X12_refuse : GoodIn wsX12_isNoHarm wsX12_refuse := goodIn_r _ [62, 58, 63, 64, 65, 66, 67, 68] (by decide +kernel) (by decide +kernel)
set_option maxRecDepth 20000 in
theorem gX12_isNoHarm_X12_refuse : GoodIn wsX12_isNoHarm (wsV RX12 29 RX12 yX12_refuse wsX12_refuse) := goodIn_app (goodIn_of _ (by decide +kernel)) ggX12_isNoHarm_X12_refuse
theorem dX12_isNoHarm_0 : decode cX12_isNoHarm 0 = .ok (.aload_n 0, 1) := by decide +kernel
theorem dX12_isNoHarm_1 : decode cX12_isNoHarm 1 = .ok (.aload_n 0, 1) := by decide +kernel
theorem dX12_isNoHarm_2 : decode cX12_isNoHarm 2 = .ok (.iload_n 1, 1) := by decide +kernel
theorem dX12_isNoHarm_3 : decode cX12_isNoHarm 3 = .ok (.iload_n 2, 1) := by decide +kernel
theorem dX12_isNoHarm_4 : decode cX12_isNoHarm 4 = .ok (.iload_n 3, 1) := by decide +kernel
theorem dX12_isNoHarm_5 : decode cX12_isNoHarm 5 = .ok (.invokevirtual 158, 3) := by decide +kernel
theorem dX12_isNoHarm_8 : decode cX12_isNoHarm 8 = .ok (.iconst 1, 1) := by decide +kernel
theorem dX12_isNoHarm_9 : decode cX12_isNoHarm 9 = .ok (.invokevirtual 104, 3) := by decide +kernel
theorem dX12_isNoHarm_12 : decode cX12_isNoHarm 12 = .ok (.ifCond .ne 27, 3) := by decide +kernel
theorem dX12_isNoHarm_15 : decode cX12_isNoHarm 15 = .ok (.aload_n 0, 1) := by decide +kernel
theorem dX12_isNoHarm_16 : decode cX12_isNoHarm 16 = .ok (.iload 4, 2) := by decide +kernel
theorem dX12_isNoHarm_18 : decode cX12_isNoHarm 18 = .ok (.iconst 1, 1) := by decide +kernel
theorem dX12_isNoHarm_19 : decode cX12_isNoHarm 19 = .ok (.bipush 100, 2) := by decide +kernel
theorem dX12_isNoHarm_21 : decode cX12_isNoHarm 21 = .ok (.invokestatic 37, 3) := by decide +kernel
theorem dX12_isNoHarm_24 : decode cX12_isNoHarm 24 = .ok (.ifCond .ne 7, 3) := by decide +kernel
theorem dX12_isNoHarm_27 : decode cX12_isNoHarm 27 = .ok (.iconst 1, 1) := by decide +kernel
theorem dX12_isNoHarm_28 : decode cX12_isNoHarm 28 = .ok (.goto 4, 3) := by decide +kernel
theorem dX12_isNoHarm_31 : decode cX12_isNoHarm 31 = .ok (.iconst 0, 1) := by decide +kernel
theorem dX12_isNoHarm_32 : decode cX12_isNoHarm 32 = .ok (.iconst 2, 1) := by decide +kernel
theorem dX12_isNoHarm_33 : decode cX12_isNoHarm 33 = .ok (.invokevirtual 29, 3) := by decide +kernel
theorem dX12_isNoHarm_36 : decode cX12_isNoHarm 36 = .ok (.ifCond .eq 7, 3) := by decide +kernel
theorem dX12_isNoHarm_39 : decode cX12_isNoHarm 39 = .ok (.iconst 1, 1) := by decide +kernel
theorem dX12_isNoHarm_40 : decode cX12_isNoHarm 40 = .ok (.goto 4, 3) := by decide +kernel
theorem dX12_isNoHarm_43 : decode cX12_isNoHarm 43 = .ok (.iconst 0, 1) := by decide +kernel
theorem dX12_isNoHarm_44 : decode cX12_isNoHarm 44 = .ok (.ireturn, 1) := by decide +kernel
set_option maxRecDepth 20000 in
theorem ggX12_reportNow_X12_credits : GoodIn wsX12_reportNow wsX12_credits := goodIn_r _ [14, 15, 16, 17, 18, 19, 13, 20, 1, 2, 3, 4, 5, 21, 6, 7, 8, 9, 22, 23, 24, 25, 26, 27, 28, 29, 30, 31, 32, 33, 34, 35, 36, 37, 38, 39, 40, 41, 42, 43, 44, 45, 46, 47, 48, 49, 50, 51, 52, 53, 54, 55, 56, 57, 58, 59, 60, 61, 62, 63, 64, 65, 66, 67, 68, 69, 70, 71, 72, 73, 74, 75, 76, 77, 78, 79, 80, 81, 82, 83, 84, 85, 86, 87, 88, 89, 90, 91, 92] (by decide +kernel) (by decide +kernel)
set_option maxRecDepth 20000 in
theorem gX12_reportNow_X12_credits : GoodIn wsX12_reportNow (wsV RX12 161 RX12 yX12_credits wsX12_credits) := goodIn_app (goodIn_of _ (by decide +kernel)) ggX12_reportNow_X12_credits
set_option maxRecDepth 20000 in
theorem ggX12_reportNow_Jx4a65c_get_915e3 : GoodIn wsX12_reportNow wsJx4a65c_get_915e3 := goodIn_r _ [38, 34, 39, 40, 41, 42, 43, 44, 45, 46, 47, 48, 49, 32, 50, 51, 80, 81, 82] (by decide +kernel) (by decide +kernel)
set_option maxRecDepth 20000 in
theorem gX12_reportNow_Jx4a65c_get_915e3 : GoodIn wsX12_reportNow (wsV RX12 45 RJx4a65c yJx4a65c_get_915e3 wsJx4a65c_get_915e3) := goodIn_app (goodIn_of _ (by decide +kernel)) ggX12_reportNow_Jx4a65c_get_915e3
theorem dX12_reportNow_0 : decode cX12_reportNow 0 = .ok (.aload_n 0, 1) := by decide +kernel
theorem dX12_reportNow_1 : decode cX12_reportNow 1 = .ok (.invokevirtual 161, 3) := by decide +kernel
theorem dX12_reportNow_4 : decode cX12_reportNow 4 = .ok (.istore 5, 2) := by decide +kernel
theorem dX12_reportNow_6 : decode cX12_reportNow 6 = .ok (.aload_n 0, 1) := by decide +kernel
theorem dX12_reportNow_7 : decode cX12_reportNow 7 = .ok (.getfield 10, 3) := by decide +kernel
theorem dX12_reportNow_10 : decode cX12_reportNow 10 = .ok (.iload_n 1, 1) := by decide +kernel
theorem dX12_reportNow_11 : decode cX12_reportNow 11 = .ok (.invokevirtual 45, 3) := by decide +kernel
theorem dX12_reportNow_14 : decode cX12_reportNow 14 = .ok (.checkcast 49, 3) := by decide +kernel
theorem dX12_reportNow_17 : decode cX12_reportNow 17 = .ok (.getfield 69, 3) := by decide +kernel
theorem dX12_reportNow_20 : decode cX12_reportNow 20 = .ok (.iload_n 2, 1) := by decide +kernel
theorem dX12_reportNow_21 : decode cX12_reportNow 21 = .ok (.invokevirtual 45, 3) := by decide +kernel
theorem dX12_reportNow_24 : decode cX12_reportNow 24 = .ok (.checkcast 72, 3) := by decide +kernel
theorem dX12_reportNow_27 : decode cX12_reportNow 27 = .ok (.getfield 74, 3) := by decide +kernel
theorem dX12_reportNow_30 : decode cX12_reportNow 30 = .ok (.astore 6, 2) := by decide +kernel
theorem dX12_reportNow_32 : decode cX12_reportNow 32 = .ok (.aload 6, 2) := by decide +kernel
theorem dX12_reportNow_34 : decode cX12_reportNow 34 = .ok (.iload_n 3, 1) := by decide +kernel
theorem dX12_reportNow_35 : decode cX12_reportNow 35 = .ok (.aload 6, 2) := by decide +kernel
theorem dX12_reportNow_37 : decode cX12_reportNow 37 = .ok (.iload_n 3, 1) := by decide +kernel
theorem dX12_reportNow_38 : decode cX12_reportNow 38 = .ok (.iaload, 1) := by decide +kernel
theorem dX12_reportNow_39 : decode cX12_reportNow 39 = .ok (.iload 4, 2) := by decide +kernel
theorem dX12_reportNow_41 : decode cX12_reportNow 41 = .ok (.invokestatic 81, 3) := by decide +kernel
theorem dX12_reportNow_44 : decode cX12_reportNow 44 = .ok (.iastore, 1) := by decide +kernel
theorem dX12_reportNow_45 : decode cX12_reportNow 45 = .ok (.aload_n 0, 1) := by decide +kernel
theorem dX12_reportNow_46 : decode cX12_reportNow 46 = .ok (.invokevirtual 161, 3) := by decide +kernel
theorem dX12_reportNow_49 : decode cX12_reportNow 49 = .ok (.iload 5, 2) := by decide +kernel
theorem dX12_reportNow_51 : decode cX12_reportNow 51 = .ok (.isub, 1) := by decide +kernel
theorem dX12_reportNow_52 : decode cX12_reportNow 52 = .ok (.ireturn, 1) := by decide +kernel
set_option maxRecDepth 20000 in
theorem ggX12_report_X12_isNoHarm : GoodIn wsX12_report wsX12_isNoHarm := goodIn_r _ [5, 6, 7, 8, 4, 9, 10, 11, 12, 13, 14, 15, 16, 17, 18, 19, 20, 21, 22, 23, 24, 25, 26, 27, 28, 29, 30, 31, 32, 33, 34, 35, 36, 37, 38, 39, 40, 41, 42, 43, 44, 45, 46, 47, 48, 49, 50, 51, 52, 53, 54, 55, 56, 57, 58, 59, 60, 61, 62, 63, 64, 65, 66, 104, 105, 106, 107, 108, 109, 110, 111, 112, 113, 114, 115, 116, 117] (by decide +kernel) (by decide +kernel)
set_option maxRecDepth 20000 in
theorem gX12_report_X12_isNoHarm : GoodIn wsX12_report (wsV RX12 164 RX12 yX12_isNoHarm wsX12_isNoHarm) := goodIn_app (goodIn_of _ (by decide +kernel)) ggX12_report_X12_isNoHarm
set_option maxRecDepth 20000 in
theorem ggX12_report_X12_reportNow : GoodIn wsX12_report wsX12_reportNow := goodIn_r _ [70, 14, 15, 71, 72, 73, 74, 75, 76, 77, 78, 79, 80, 4, 81, 82, 83, 84, 85, 86, 87, 88, 89, 90, 91, 92, 93, 94, 95, 21, 22, 23, 24, 25, 26, 30, 31, 32, 33, 34, 35, 36, 37, 38, 39, 40, 41, 42, 43, 44, 45, 46, 96, 97, 98, 99, 100, 101, 102, 103, 104, 105, 106, 107, 108, 109, 110, 111, 112, 113, 114, 118, 119, 120, 121, 122, 123, 124, 125, 126, 115, 116, 117, 127, 128, 129, 130, 131, 132, 133, 134, 135, 136] (by decide +kernel) (by decide +kernel)
set_option maxRecDepth 20000 in
theorem gX12_report_X12_reportNow : GoodIn wsX12_report (wsV RX12 168 RX12 yX12_reportNow wsX12_reportNow) := goodIn_app (goodIn_of _ (by decide +kernel)) ggX12_report_X12_reportNow
theorem dX12_report_0 : decode cX12_report 0 = .ok (.aload_n 0, 1) := by decide +kernel
theorem dX12_report_1 : decode cX12_report 1 = .ok (.iload_n 1, 1) := by decide +kernel
theorem dX12_report_2 : decode cX12_report 2 = .ok (.iload_n 2, 1) := by decide +kernel
theorem dX12_report_3 : decode cX12_report 3 = .ok (.iload_n 3, 1) := by decide +kernel
theorem dX12_report_4 : decode cX12_report 4 = .ok (.iload 4, 2) := by decide +kernel
theorem dX12_report_6 : decode cX12_report 6 = .ok (.invokevirtual 164, 3) := by decide +kernel
theorem dX12_report_9 : decode cX12_report 9 = .ok (.ifCond .eq 7, 3) := by decide +kernel
theorem dX12_report_12 : decode cX12_report 12 = .ok (.iconst 0, 1) := by decide +kernel
theorem dX12_report_13 : decode cX12_report 13 = .ok (.goto 12, 3) := by decide +kernel
theorem dX12_report_16 : decode cX12_report 16 = .ok (.aload_n 0, 1) := by decide +kernel
theorem dX12_report_17 : decode cX12_report 17 = .ok (.iload_n 1, 1) := by decide +kernel
theorem dX12_report_18 : decode cX12_report 18 = .ok (.iload_n 2, 1) := by decide +kernel
theorem dX12_report_19 : decode cX12_report 19 = .ok (.iload_n 3, 1) := by decide +kernel
theorem dX12_report_20 : decode cX12_report 20 = .ok (.iload 4, 2) := by decide +kernel
theorem dX12_report_22 : decode cX12_report 22 = .ok (.invokevirtual 168, 3) := by decide +kernel
theorem dX12_report_25 : decode cX12_report 25 = .ok (.ireturn, 1) := by decide +kernel
set_option maxRecDepth 20000 in
theorem ggX12_harm_X12_isNoValue : GoodIn wsX12_harm wsX12_isNoValue := goodIn_r _ [5, 6, 7, 8, 4, 9, 10, 11, 12, 13, 14, 15, 16, 17, 18, 19, 20, 21, 22, 23, 24, 25, 26, 27, 28, 29, 30, 31, 32, 33, 34, 35, 36, 37, 38, 39, 40, 41, 42, 43, 44, 45, 46, 47, 48, 49, 50, 51, 52, 53, 82, 83, 84, 85, 86, 87, 88, 89, 90, 91, 92, 93, 94, 95] (by decide +kernel) (by decide +kernel)
set_option maxRecDepth 20000 in
theorem gX12_harm_X12_isNoValue : GoodIn wsX12_harm (wsV RX12 158 RX12 yX12_isNoValue wsX12_isNoValue) := goodIn_app (goodIn_of _ (by decide +kernel)) ggX12_harm_X12_isNoValue
set_option maxRecDepth 20000 in
theorem ggX12_harm_X12_start : GoodIn wsX12_harm wsX12_start := goodIn_r _ [57, 58, 59, 60, 61, 4, 62, 82, 83, 84, 85, 86, 87] (by decide +kernel) (by decide +kernel)
set_option maxRecDepth 20000 in
theorem gX12_harm_X12_start : GoodIn wsX12_harm (wsV RX12 104 RX12 yX12_start wsX12_start) := goodIn_app (goodIn_of _ (by decide +kernel)) ggX12_harm_X12_start
set_option maxRecDepth 20000 in
theorem ggX12_harm_X12_harms : GoodIn wsX12_harm wsX12_harms := goodIn_r _ [66, 10, 11, 67, 68, 69, 70, 71, 72, 73, 74, 75, 76, 77, 78, 79, 80, 81, 17, 18, 19, 20, 21, 22, 26, 27, 28, 29, 30, 31, 32, 33, 34, 35, 36, 37, 38, 39, 40, 41, 42, 82, 83, 84, 85, 86, 87, 88, 89, 90, 91, 92, 96, 97, 98, 99, 100, 101, 102, 103, 104, 93, 94, 95] (by decide +kernel) (by decide +kernel)
set_option maxRecDepth 20000 in
theorem gX12_harm_X12_harms : GoodIn wsX12_harm (wsV RX12 148 RX12 yX12_harms wsX12_harms) := goodIn_app (goodIn_of _ (by decide +kernel)) ggX12_harm_X12_harms
theorem dX12_harm_0 : decode cX12_harm 0 = .ok (.aload_n 0, 1) := by decide +kernel
theorem dX12_harm_1 : decode cX12_harm 1 = .ok (.aload_n 0, 1) := by decide +kernel
theorem dX12_harm_2 : decode cX12_harm 2 = .ok (.iload_n 1, 1) := by decide +kernel
theorem dX12_harm_3 : decode cX12_harm 3 = .ok (.iload_n 2, 1) := by decide +kernel
theorem dX12_harm_4 : decode cX12_harm 4 = .ok (.iload_n 3, 1) := by decide +kernel
theorem dX12_harm_5 : decode cX12_harm 5 = .ok (.invokevirtual 158, 3) := by decide +kernel
theorem dX12_harm_8 : decode cX12_harm 8 = .ok (.iconst 1, 1) := by decide +kernel
theorem dX12_harm_9 : decode cX12_harm 9 = .ok (.invokevirtual 104, 3) := by decide +kernel
theorem dX12_harm_12 : decode cX12_harm 12 = .ok (.ifCond .eq 7, 3) := by decide +kernel
theorem dX12_harm_15 : decode cX12_harm 15 = .ok (.iconst 0, 1) := by decide +kernel
theorem dX12_harm_16 : decode cX12_harm 16 = .ok (.goto 13, 3) := by decide +kernel
theorem dX12_harm_19 : decode cX12_harm 19 = .ok (.aload_n 0, 1) := by decide +kernel
theorem dX12_harm_20 : decode cX12_harm 20 = .ok (.invokevirtual 148, 3) := by decide +kernel
theorem dX12_harm_23 : decode cX12_harm 23 = .ok (.iload_n 1, 1) := by decide +kernel
theorem dX12_harm_24 : decode cX12_harm 24 = .ok (.aaload, 1) := by decide +kernel
theorem dX12_harm_25 : decode cX12_harm 25 = .ok (.iload_n 2, 1) := by decide +kernel
theorem dX12_harm_26 : decode cX12_harm 26 = .ok (.aaload, 1) := by decide +kernel
theorem dX12_harm_27 : decode cX12_harm 27 = .ok (.iload_n 3, 1) := by decide +kernel
theorem dX12_harm_28 : decode cX12_harm 28 = .ok (.iaload, 1) := by decide +kernel
theorem dX12_harm_29 : decode cX12_harm 29 = .ok (.ireturn, 1) := by decide +kernel
set_option maxRecDepth 20000 in
theorem ggX12_ofSetNow_Jx4a65c_get_915e3 : GoodIn wsX12_ofSetNow wsJx4a65c_get_915e3 := goodIn_r _ [12, 13, 14, 15, 16, 17, 18, 19, 20, 21, 22, 23, 24, 11, 25, 26, 84, 85, 86] (by decide +kernel) (by decide +kernel)
set_option maxRecDepth 20000 in
theorem gX12_ofSetNow_Jx4a65c_get_915e3 : GoodIn wsX12_ofSetNow (wsV RX12 45 RJx4a65c yJx4a65c_get_915e3 wsJx4a65c_get_915e3) := goodIn_app (goodIn_of _ (by decide +kernel)) ggX12_ofSetNow_Jx4a65c_get_915e3
set_option maxRecDepth 20000 in
theorem ggX12_ofSetNow_Jx4a65c_size_8abf5 : GoodIn wsX12_ofSetNow wsJx4a65c_size_8abf5 := goodIn_r _ [30, 13, 84, 85, 86] (by decide +kernel) (by decide +kernel)
set_option maxRecDepth 20000 in
theorem gX12_ofSetNow_Jx4a65c_size_8abf5 : GoodIn wsX12_ofSetNow (wsV RX12 33 RJx4a65c yJx4a65c_size_8abf5 wsJx4a65c_size_8abf5) := goodIn_app (goodIn_of _ (by decide +kernel)) ggX12_ofSetNow_Jx4a65c_size_8abf5
set_option maxRecDepth 20000 in
theorem ggX12_ofSetNow_X7_rows : GoodIn wsX12_ofSetNow wsX7_rows := goodIn_r _ [35, 36, 37, 38, 39, 40, 41, 11, 42, 13, 43, 44, 45, 34, 46, 47, 28, 29, 30, 48, 9, 10, 12, 14, 15, 16, 17, 18, 19, 20, 21, 22, 23, 24, 25, 26, 69, 70, 71, 72, 73, 87, 88, 89, 90, 91, 84, 85, 86] (by decide +kernel) (by decide +kernel)
set_option maxRecDepth 20000 in
theorem gX12_ofSetNow_X7_rows : GoodIn wsX12_ofSetNow (wsV RX12 172 RX7 yX7_rows wsX7_rows) := goodIn_app (goodIn_of _ (by decide +kernel)) ggX12_ofSetNow_X7_rows
set_option maxRecDepth 20000 in
theorem ggX12_ofSetNow_Jx4a65c_isEmpty_aae02 : GoodIn wsX12_ofSetNow wsJx4a65c_isEmpty_aae02 := goodIn_r _ [42, 13, 84, 85, 86] (by decide +kernel) (by decide +kernel)
set_option maxRecDepth 20000 in
theorem gX12_ofSetNow_Jx4a65c_isEmpty_aae02 : GoodIn wsX12_ofSetNow (wsV RX12 140 RJx4a65c yJx4a65c_isEmpty_aae02 wsJx4a65c_isEmpty_aae02) := goodIn_app (goodIn_of _ (by decide +kernel)) ggX12_ofSetNow_Jx4a65c_isEmpty_aae02
set_option maxRecDepth 20000 in
theorem ggX12_ofSetNow_X7_latest : GoodIn wsX12_ofSetNow wsX7_latest := goodIn_r _ [46, 36, 47, 28, 29, 11, 30, 13, 69, 70, 71, 72, 73, 84, 85, 86] (by decide +kernel) (by decide +kernel)
set_option maxRecDepth 20000 in
theorem gX12_ofSetNow_X7_latest : GoodIn wsX12_ofSetNow (wsV RX12 54 RX7 yX7_latest wsX7_latest) := goodIn_app (goodIn_of _ (by decide +kernel)) ggX12_ofSetNow_X7_latest
set_option maxRecDepth 20000 in
theorem ggX12_ofSetNow_X9_charge : GoodIn wsX12_ofSetNow wsX9_charge := goodIn_r _ [55, 56, 74, 75, 76, 77, 78, 79, 80, 81, 82, 83] (by decide +kernel) (by decide +kernel)
set_option maxRecDepth 20000 in
theorem gX12_ofSetNow_X9_charge : GoodIn wsX12_ofSetNow (wsV RX12 176 RX9 yX9_charge wsX9_charge) := goodIn_app (goodIn_of _ (by decide +kernel)) ggX12_ofSetNow_X9_charge
set_option maxRecDepth 20000 in
theorem ggX12_ofSetNow_X9_credit : GoodIn wsX12_ofSetNow wsX9_credit := goodIn_r _ [60, 56, 61, 62, 74, 75, 76, 77, 78, 79, 80, 81, 82, 83] (by decide +kernel) (by decide +kernel)
set_option maxRecDepth 20000 in
theorem gX12_ofSetNow_X9_credit : GoodIn wsX12_ofSetNow (wsV RX12 154 RX9 yX9_credit wsX9_credit) := goodIn_app (goodIn_of _ (by decide +kernel)) ggX12_ofSetNow_X9_credit
theorem dX12_ofSetNow_0 : decode cX12_ofSetNow 0 = .ok (.aload_n 0, 1) := by decide +kernel
theorem dX12_ofSetNow_1 : decode cX12_ofSetNow 1 = .ok (.getfield 10, 3) := by decide +kernel
theorem dX12_ofSetNow_4 : decode cX12_ofSetNow 4 = .ok (.iload_n 2, 1) := by decide +kernel
theorem dX12_ofSetNow_5 : decode cX12_ofSetNow 5 = .ok (.invokevirtual 45, 3) := by decide +kernel
theorem dX12_ofSetNow_8 : decode cX12_ofSetNow 8 = .ok (.checkcast 49, 3) := by decide +kernel
theorem dX12_ofSetNow_11 : decode cX12_ofSetNow 11 = .ok (.astore 4, 2) := by decide +kernel
theorem dX12_ofSetNow_13 : decode cX12_ofSetNow 13 = .ok (.iload_n 3, 1) := by decide +kernel
theorem dX12_ofSetNow_14 : decode cX12_ofSetNow 14 = .ok (.ifCond .ne 9, 3) := by decide +kernel
theorem dX12_ofSetNow_17 : decode cX12_ofSetNow 17 = .ok (.aload 4, 2) := by decide +kernel
theorem dX12_ofSetNow_19 : decode cX12_ofSetNow 19 = .ok (.getfield 51, 3) := by decide +kernel
theorem dX12_ofSetNow_22 : decode cX12_ofSetNow 22 = .ok (.ireturn, 1) := by decide +kernel
theorem dX12_ofSetNow_23 : decode cX12_ofSetNow 23 = .ok (.iload_n 3, 1) := by decide +kernel
theorem dX12_ofSetNow_24 : decode cX12_ofSetNow 24 = .ok (.iconst 1, 1) := by decide +kernel
theorem dX12_ofSetNow_25 : decode cX12_ofSetNow 25 = .ok (.if_icmp .ne 12, 3) := by decide +kernel
theorem dX12_ofSetNow_28 : decode cX12_ofSetNow 28 = .ok (.aload 4, 2) := by decide +kernel
theorem dX12_ofSetNow_30 : decode cX12_ofSetNow 30 = .ok (.getfield 69, 3) := by decide +kernel
theorem dX12_ofSetNow_33 : decode cX12_ofSetNow 33 = .ok (.invokevirtual 33, 3) := by decide +kernel
theorem dX12_ofSetNow_36 : decode cX12_ofSetNow 36 = .ok (.ireturn, 1) := by decide +kernel
theorem dX12_ofSetNow_37 : decode cX12_ofSetNow 37 = .ok (.iload_n 3, 1) := by decide +kernel
theorem dX12_ofSetNow_38 : decode cX12_ofSetNow 38 = .ok (.iconst 2, 1) := by decide +kernel
theorem dX12_ofSetNow_39 : decode cX12_ofSetNow 39 = .ok (.if_icmp .ne 9, 3) := by decide +kernel
theorem dX12_ofSetNow_42 : decode cX12_ofSetNow 42 = .ok (.aload 4, 2) := by decide +kernel
theorem dX12_ofSetNow_44 : decode cX12_ofSetNow 44 = .ok (.invokevirtual 172, 3) := by decide +kernel
theorem dX12_ofSetNow_47 : decode cX12_ofSetNow 47 = .ok (.ireturn, 1) := by decide +kernel
theorem dX12_ofSetNow_48 : decode cX12_ofSetNow 48 = .ok (.iconst 0, 1) := by decide +kernel
theorem dX12_ofSetNow_49 : decode cX12_ofSetNow 49 = .ok (.istore 5, 2) := by decide +kernel
theorem dX12_ofSetNow_51 : decode cX12_ofSetNow 51 = .ok (.iload_n 3, 1) := by decide +kernel
theorem dX12_ofSetNow_52 : decode cX12_ofSetNow 52 = .ok (.iconst 3, 1) := by decide +kernel
theorem dX12_ofSetNow_53 : decode cX12_ofSetNow 53 = .ok (.if_icmp .ne 61, 3) := by decide +kernel
theorem dX12_ofSetNow_56 : decode cX12_ofSetNow 56 = .ok (.iconst 0, 1) := by decide +kernel
theorem dX12_ofSetNow_57 : decode cX12_ofSetNow 57 = .ok (.istore 6, 2) := by decide +kernel
theorem dX12_ofSetNow_59 : decode cX12_ofSetNow 59 = .ok (.aload 4, 2) := by decide +kernel
theorem dX12_ofSetNow_61 : decode cX12_ofSetNow 61 = .ok (.getfield 69, 3) := by decide +kernel
theorem dX12_ofSetNow_64 : decode cX12_ofSetNow 64 = .ok (.invokevirtual 140, 3) := by decide +kernel
theorem dX12_ofSetNow_67 : decode cX12_ofSetNow 67 = .ok (.ifCond .ne 44, 3) := by decide +kernel
theorem dX12_ofSetNow_70 : decode cX12_ofSetNow 70 = .ok (.iload 6, 2) := by decide +kernel
theorem dX12_ofSetNow_72 : decode cX12_ofSetNow 72 = .ok (.aload 4, 2) := by decide +kernel
theorem dX12_ofSetNow_74 : decode cX12_ofSetNow 74 = .ok (.getfield 51, 3) := by decide +kernel
theorem dX12_ofSetNow_77 : decode cX12_ofSetNow 77 = .ok (.if_icmp .ge 34, 3) := by decide +kernel
theorem dX12_ofSetNow_80 : decode cX12_ofSetNow 80 = .ok (.iload 5, 2) := by decide +kernel
theorem dX12_ofSetNow_82 : decode cX12_ofSetNow 82 = .ok (.aload_n 1, 1) := by decide +kernel
theorem dX12_ofSetNow_83 : decode cX12_ofSetNow 83 = .ok (.iload_n 2, 1) := by decide +kernel
theorem dX12_ofSetNow_84 : decode cX12_ofSetNow 84 = .ok (.aaload, 1) := by decide +kernel
theorem dX12_ofSetNow_85 : decode cX12_ofSetNow 85 = .ok (.aload 4, 2) := by decide +kernel
theorem dX12_ofSetNow_87 : decode cX12_ofSetNow 87 = .ok (.invokevirtual 54, 3) := by decide +kernel
theorem dX12_ofSetNow_90 : decode cX12_ofSetNow 90 = .ok (.aaload, 1) := by decide +kernel
theorem dX12_ofSetNow_91 : decode cX12_ofSetNow 91 = .ok (.iload 6, 2) := by decide +kernel
theorem dX12_ofSetNow_93 : decode cX12_ofSetNow 93 = .ok (.iaload, 1) := by decide +kernel
theorem dX12_ofSetNow_94 : decode cX12_ofSetNow 94 = .ok (.ifCond .le 7, 3) := by decide +kernel
theorem dX12_ofSetNow_97 : decode cX12_ofSetNow 97 = .ok (.iconst 1, 1) := by decide +kernel
theorem dX12_ofSetNow_98 : decode cX12_ofSetNow 98 = .ok (.goto 4, 3) := by decide +kernel
theorem dX12_ofSetNow_101 : decode cX12_ofSetNow 101 = .ok (.iconst 0, 1) := by decide +kernel
theorem dX12_ofSetNow_102 : decode cX12_ofSetNow 102 = .ok (.iadd, 1) := by decide +kernel
theorem dX12_ofSetNow_103 : decode cX12_ofSetNow 103 = .ok (.istore 5, 2) := by decide +kernel
theorem dX12_ofSetNow_105 : decode cX12_ofSetNow 105 = .ok (.iinc 6 1, 3) := by decide +kernel
theorem dX12_ofSetNow_108 : decode cX12_ofSetNow 108 = .ok (.goto (-49), 3) := by decide +kernel
theorem dX12_ofSetNow_111 : decode cX12_ofSetNow 111 = .ok (.iload 5, 2) := by decide +kernel
theorem dX12_ofSetNow_113 : decode cX12_ofSetNow 113 = .ok (.ireturn, 1) := by decide +kernel
theorem dX12_ofSetNow_114 : decode cX12_ofSetNow 114 = .ok (.iconst 0, 1) := by decide +kernel
theorem dX12_ofSetNow_115 : decode cX12_ofSetNow 115 = .ok (.istore 6, 2) := by decide +kernel
theorem dX12_ofSetNow_117 : decode cX12_ofSetNow 117 = .ok (.iload 6, 2) := by decide +kernel
theorem dX12_ofSetNow_119 : decode cX12_ofSetNow 119 = .ok (.aload_n 0, 1) := by decide +kernel
theorem dX12_ofSetNow_120 : decode cX12_ofSetNow 120 = .ok (.getfield 22, 3) := by decide +kernel
theorem dX12_ofSetNow_123 : decode cX12_ofSetNow 123 = .ok (.invokevirtual 33, 3) := by decide +kernel
theorem dX12_ofSetNow_126 : decode cX12_ofSetNow 126 = .ok (.if_icmp .ge 65, 3) := by decide +kernel
theorem dX12_ofSetNow_129 : decode cX12_ofSetNow 129 = .ok (.aload_n 0, 1) := by decide +kernel
theorem dX12_ofSetNow_130 : decode cX12_ofSetNow 130 = .ok (.getfield 22, 3) := by decide +kernel
theorem dX12_ofSetNow_133 : decode cX12_ofSetNow 133 = .ok (.iload 6, 2) := by decide +kernel
theorem dX12_ofSetNow_135 : decode cX12_ofSetNow 135 = .ok (.invokevirtual 45, 3) := by decide +kernel
theorem dX12_ofSetNow_138 : decode cX12_ofSetNow 138 = .ok (.checkcast 152, 3) := by decide +kernel
theorem dX12_ofSetNow_141 : decode cX12_ofSetNow 141 = .ok (.astore 7, 2) := by decide +kernel
theorem dX12_ofSetNow_143 : decode cX12_ofSetNow 143 = .ok (.aload 7, 2) := by decide +kernel
theorem dX12_ofSetNow_145 : decode cX12_ofSetNow 145 = .ok (.getfield 175, 3) := by decide +kernel
theorem dX12_ofSetNow_148 : decode cX12_ofSetNow 148 = .ok (.iload_n 2, 1) := by decide +kernel
theorem dX12_ofSetNow_149 : decode cX12_ofSetNow 149 = .ok (.if_icmp .ne 36, 3) := by decide +kernel
theorem dX12_ofSetNow_152 : decode cX12_ofSetNow 152 = .ok (.iload 5, 2) := by decide +kernel
theorem dX12_ofSetNow_154 : decode cX12_ofSetNow 154 = .ok (.iload_n 3, 1) := by decide +kernel
theorem dX12_ofSetNow_155 : decode cX12_ofSetNow 155 = .ok (.iconst 4, 1) := by decide +kernel
theorem dX12_ofSetNow_156 : decode cX12_ofSetNow 156 = .ok (.if_icmp .ne 7, 3) := by decide +kernel
theorem dX12_ofSetNow_159 : decode cX12_ofSetNow 159 = .ok (.iconst 1, 1) := by decide +kernel
theorem dX12_ofSetNow_160 : decode cX12_ofSetNow 160 = .ok (.goto 22, 3) := by decide +kernel
theorem dX12_ofSetNow_163 : decode cX12_ofSetNow 163 = .ok (.iload_n 3, 1) := by decide +kernel
theorem dX12_ofSetNow_164 : decode cX12_ofSetNow 164 = .ok (.iconst 5, 1) := by decide +kernel
theorem dX12_ofSetNow_165 : decode cX12_ofSetNow 165 = .ok (.if_icmp .ne 11, 3) := by decide +kernel
theorem dX12_ofSetNow_168 : decode cX12_ofSetNow 168 = .ok (.aload 7, 2) := by decide +kernel
theorem dX12_ofSetNow_170 : decode cX12_ofSetNow 170 = .ok (.invokevirtual 176, 3) := by decide +kernel
theorem dX12_ofSetNow_173 : decode cX12_ofSetNow 173 = .ok (.goto 9, 3) := by decide +kernel
theorem dX12_ofSetNow_176 : decode cX12_ofSetNow 176 = .ok (.aload 7, 2) := by decide +kernel
theorem dX12_ofSetNow_178 : decode cX12_ofSetNow 178 = .ok (.aload_n 1, 1) := by decide +kernel
theorem dX12_ofSetNow_179 : decode cX12_ofSetNow 179 = .ok (.invokevirtual 154, 3) := by decide +kernel
theorem dX12_ofSetNow_182 : decode cX12_ofSetNow 182 = .ok (.iadd, 1) := by decide +kernel
theorem dX12_ofSetNow_183 : decode cX12_ofSetNow 183 = .ok (.istore 5, 2) := by decide +kernel
theorem dX12_ofSetNow_185 : decode cX12_ofSetNow 185 = .ok (.iinc 6 1, 3) := by decide +kernel
theorem dX12_ofSetNow_188 : decode cX12_ofSetNow 188 = .ok (.goto (-71), 3) := by decide +kernel
theorem dX12_ofSetNow_191 : decode cX12_ofSetNow 191 = .ok (.iload 5, 2) := by decide +kernel
theorem dX12_ofSetNow_193 : decode cX12_ofSetNow 193 = .ok (.ireturn, 1) := by decide +kernel
set_option maxRecDepth 20000 in
theorem ggX12_ofSet_X12_isNo : GoodIn wsX12_ofSet wsX12_isNo := goodIn_r _ [5, 6, 7, 8, 9, 10, 11, 12, 13, 14, 4, 15, 102, 103, 104, 105, 106, 107, 108, 109, 110] (by decide +kernel) (by decide +kernel)
set_option maxRecDepth 20000 in
theorem gX12_ofSet_X12_isNo : GoodIn wsX12_ofSet (wsV RX12 41 RX12 yX12_isNo wsX12_isNo) := goodIn_app (goodIn_of _ (by decide +kernel)) ggX12_ofSet_X12_isNo
set_option maxRecDepth 20000 in
theorem ggX12_ofSet_X12_start : GoodIn wsX12_ofSet wsX12_start := goodIn_r _ [19, 20, 21, 22, 23, 4, 24, 102, 103, 104, 105, 106, 107] (by decide +kernel) (by decide +kernel)
set_option maxRecDepth 20000 in
theorem gX12_ofSet_X12_start : GoodIn wsX12_ofSet (wsV RX12 104 RX12 yX12_start wsX12_start) := goodIn_app (goodIn_of _ (by decide +kernel)) ggX12_ofSet_X12_start
set_option maxRecDepth 20000 in
theorem ggX12_ofSet_X12_isIn : GoodIn wsX12_ofSet wsX12_isIn := goodIn_r _ [15] (by decide +kernel) (by decide +kernel)
set_option maxRecDepth 20000 in
theorem gX12_ofSet_X12_isIn : GoodIn wsX12_ofSet (va_wsS RX12 37 yX12_isIn wsX12_isIn) := goodIn_app (goodIn_of _ (by decide +kernel)) ggX12_ofSet_X12_isIn
set_option maxRecDepth 20000 in
theorem ggX12_ofSet_X12_refuse : GoodIn wsX12_ofSet wsX12_refuse := goodIn_r _ [24, 20, 102, 103, 104, 105, 106, 107] (by decide +kernel) (by decide +kernel)
set_option maxRecDepth 20000 in
theorem gX12_ofSet_X12_refuse : GoodIn wsX12_ofSet (wsV RX12 29 RX12 yX12_refuse wsX12_refuse) := goodIn_app (goodIn_of _ (by decide +kernel)) ggX12_ofSet_X12_refuse
set_option maxRecDepth 20000 in
theorem ggX12_ofSet_X12_harms : GoodIn wsX12_ofSet wsX12_harms := goodIn_r _ [28, 6, 29, 30, 31, 32, 33, 34, 35, 36, 37, 38, 39, 40, 41, 42, 43, 44, 7, 8, 9, 10, 11, 12, 45, 46, 47, 48, 49, 50, 51, 52, 53, 54, 55, 56, 57, 58, 59, 60, 61, 102, 103, 104, 105, 106, 107, 111, 112, 113, 114, 115, 116, 117, 118, 119, 120, 121, 122, 123, 124, 108, 109, 110] (by decide +kernel) (by decide +kernel)
set_option maxRecDepth 20000 in
theorem gX12_ofSet_X12_harms : GoodIn wsX12_ofSet (wsV RX12 148 RX12 yX12_harms wsX12_harms) := goodIn_app (goodIn_of _ (by decide +kernel)) ggX12_ofSet_X12_harms
set_option maxRecDepth 20000 in
theorem ggX12_ofSet_X12_ofSetNow : GoodIn wsX12_ofSet wsX12_ofSetNow := goodIn_r _ [65, 6, 29, 66, 30, 67, 68, 69, 45, 46, 47, 10, 48, 12, 49, 50, 51, 52, 53, 54, 55, 56, 57, 58, 59, 60, 61, 7, 8, 9, 11, 70, 71, 72, 73, 74, 75, 76, 77, 78, 79, 80, 81, 82, 83, 84, 85, 86, 87, 88, 89, 90, 91, 92, 93, 94, 95, 96, 97, 98, 99, 100, 101, 102, 103, 104, 105, 106, 107, 111, 112, 113, 114, 115, 125, 126, 127, 128, 129, 130, 131, 132, 133, 134, 108, 109, 110, 116, 117, 118, 119, 120] (by decide +kernel) (by decide +kernel)
set_option maxRecDepth 20000 in
theorem gX12_ofSet_X12_ofSetNow : GoodIn wsX12_ofSet (wsV RX12 179 RX12 yX12_ofSetNow wsX12_ofSetNow) := goodIn_app (goodIn_of _ (by decide +kernel)) ggX12_ofSet_X12_ofSetNow
theorem dX12_ofSet_0 : decode cX12_ofSet 0 = .ok (.aload_n 0, 1) := by decide +kernel
theorem dX12_ofSet_1 : decode cX12_ofSet 1 = .ok (.aload_n 0, 1) := by decide +kernel
theorem dX12_ofSet_2 : decode cX12_ofSet 2 = .ok (.iload_n 1, 1) := by decide +kernel
theorem dX12_ofSet_3 : decode cX12_ofSet 3 = .ok (.invokevirtual 41, 3) := by decide +kernel
theorem dX12_ofSet_6 : decode cX12_ofSet 6 = .ok (.iconst 1, 1) := by decide +kernel
theorem dX12_ofSet_7 : decode cX12_ofSet 7 = .ok (.invokevirtual 104, 3) := by decide +kernel
theorem dX12_ofSet_10 : decode cX12_ofSet 10 = .ok (.ifCond .ne 26, 3) := by decide +kernel
theorem dX12_ofSet_13 : decode cX12_ofSet 13 = .ok (.aload_n 0, 1) := by decide +kernel
theorem dX12_ofSet_14 : decode cX12_ofSet 14 = .ok (.iload_n 2, 1) := by decide +kernel
theorem dX12_ofSet_15 : decode cX12_ofSet 15 = .ok (.iconst 0, 1) := by decide +kernel
theorem dX12_ofSet_16 : decode cX12_ofSet 16 = .ok (.bipush 6, 2) := by decide +kernel
theorem dX12_ofSet_18 : decode cX12_ofSet 18 = .ok (.invokestatic 37, 3) := by decide +kernel
theorem dX12_ofSet_21 : decode cX12_ofSet 21 = .ok (.ifCond .ne 7, 3) := by decide +kernel
theorem dX12_ofSet_24 : decode cX12_ofSet 24 = .ok (.iconst 1, 1) := by decide +kernel
theorem dX12_ofSet_25 : decode cX12_ofSet 25 = .ok (.goto 4, 3) := by decide +kernel
theorem dX12_ofSet_28 : decode cX12_ofSet 28 = .ok (.iconst 0, 1) := by decide +kernel
theorem dX12_ofSet_29 : decode cX12_ofSet 29 = .ok (.iconst 2, 1) := by decide +kernel
theorem dX12_ofSet_30 : decode cX12_ofSet 30 = .ok (.invokevirtual 29, 3) := by decide +kernel
theorem dX12_ofSet_33 : decode cX12_ofSet 33 = .ok (.ifCond .eq 7, 3) := by decide +kernel
theorem dX12_ofSet_36 : decode cX12_ofSet 36 = .ok (.iconst 0, 1) := by decide +kernel
theorem dX12_ofSet_37 : decode cX12_ofSet 37 = .ok (.goto 13, 3) := by decide +kernel
theorem dX12_ofSet_40 : decode cX12_ofSet 40 = .ok (.aload_n 0, 1) := by decide +kernel
theorem dX12_ofSet_41 : decode cX12_ofSet 41 = .ok (.aload_n 0, 1) := by decide +kernel
theorem dX12_ofSet_42 : decode cX12_ofSet 42 = .ok (.invokevirtual 148, 3) := by decide +kernel
theorem dX12_ofSet_45 : decode cX12_ofSet 45 = .ok (.iload_n 1, 1) := by decide +kernel
theorem dX12_ofSet_46 : decode cX12_ofSet 46 = .ok (.iload_n 2, 1) := by decide +kernel
theorem dX12_ofSet_47 : decode cX12_ofSet 47 = .ok (.invokevirtual 179, 3) := by decide +kernel
theorem dX12_ofSet_50 : decode cX12_ofSet 50 = .ok (.ireturn, 1) := by decide +kernel
set_option maxRecDepth 20000 in
theorem ggX12_isMade_Jx4a65c_get_915e3 : GoodIn wsX12_isMade wsJx4a65c_get_915e3 := goodIn_r _ [15, 16, 17, 18, 19, 20, 21, 22, 23, 24, 25, 26, 27, 14, 28, 29, 58, 59, 60] (by decide +kernel) (by decide +kernel)
set_option maxRecDepth 20000 in
theorem gX12_isMade_Jx4a65c_get_915e3 : GoodIn wsX12_isMade (wsV RX12 45 RJx4a65c yJx4a65c_get_915e3 wsJx4a65c_get_915e3) := goodIn_app (goodIn_of _ (by decide +kernel)) ggX12_isMade_Jx4a65c_get_915e3
set_option maxRecDepth 20000 in
theorem ggX12_isMade_Jx4a65c_size_8abf5 : GoodIn wsX12_isMade wsJx4a65c_size_8abf5 := goodIn_r _ [33, 16, 58, 59, 60] (by decide +kernel) (by decide +kernel)
set_option maxRecDepth 20000 in
theorem gX12_isMade_Jx4a65c_size_8abf5 : GoodIn wsX12_isMade (wsV RX12 33 RJx4a65c yJx4a65c_size_8abf5 wsJx4a65c_size_8abf5) := goodIn_app (goodIn_of _ (by decide +kernel)) ggX12_isMade_Jx4a65c_size_8abf5
set_option maxRecDepth 20000 in
theorem ggX12_isMade_X12_isMade : GoodIn wsX12_isMade wsX12_isMade := goodIn_r _ [0, 1, 2, 3, 4, 5, 6, 7, 8, 9, 10, 11, 12, 13, 14, 15, 16, 17, 18, 19, 20, 21, 22, 23, 24, 25, 26, 27, 28, 29, 30, 31, 32, 33, 34, 35, 36, 37, 38, 39, 40, 41, 42, 43, 44, 45, 46, 47, 48, 49, 50, 51, 52, 53, 54, 55, 56, 57, 58, 59, 60] (by decide +kernel) (by decide +kernel)
set_option maxRecDepth 20000 in
theorem gX12_isMade_X12_isMade : GoodIn wsX12_isMade (wsV RX12 183 RX12 yX12_isMade wsX12_isMade) := goodIn_app (goodIn_of _ (by decide +kernel)) ggX12_isMade_X12_isMade
theorem dX12_isMade_0 : decode cX12_isMade 0 = .ok (.aload_n 0, 1) := by decide +kernel
theorem dX12_isMade_1 : decode cX12_isMade 1 = .ok (.getfield 10, 3) := by decide +kernel
theorem dX12_isMade_4 : decode cX12_isMade 4 = .ok (.iload_n 1, 1) := by decide +kernel
theorem dX12_isMade_5 : decode cX12_isMade 5 = .ok (.invokevirtual 45, 3) := by decide +kernel
theorem dX12_isMade_8 : decode cX12_isMade 8 = .ok (.checkcast 49, 3) := by decide +kernel
theorem dX12_isMade_11 : decode cX12_isMade 11 = .ok (.getfield 69, 3) := by decide +kernel
theorem dX12_isMade_14 : decode cX12_isMade 14 = .ok (.iload_n 2, 1) := by decide +kernel
theorem dX12_isMade_15 : decode cX12_isMade 15 = .ok (.invokevirtual 45, 3) := by decide +kernel
theorem dX12_isMade_18 : decode cX12_isMade 18 = .ok (.checkcast 72, 3) := by decide +kernel
theorem dX12_isMade_21 : decode cX12_isMade 21 = .ok (.getfield 87, 3) := by decide +kernel
theorem dX12_isMade_24 : decode cX12_isMade 24 = .ok (.iload_n 3, 1) := by decide +kernel
theorem dX12_isMade_25 : decode cX12_isMade 25 = .ok (.invokevirtual 45, 3) := by decide +kernel
theorem dX12_isMade_28 : decode cX12_isMade 28 = .ok (.checkcast 7, 3) := by decide +kernel
theorem dX12_isMade_31 : decode cX12_isMade 31 = .ok (.astore 7, 2) := by decide +kernel
theorem dX12_isMade_33 : decode cX12_isMade 33 = .ok (.iconst 0, 1) := by decide +kernel
theorem dX12_isMade_34 : decode cX12_isMade 34 = .ok (.istore 8, 2) := by decide +kernel
theorem dX12_isMade_36 : decode cX12_isMade 36 = .ok (.iload 8, 2) := by decide +kernel
theorem dX12_isMade_38 : decode cX12_isMade 38 = .ok (.aload 7, 2) := by decide +kernel
theorem dX12_isMade_40 : decode cX12_isMade 40 = .ok (.invokevirtual 33, 3) := by decide +kernel
theorem dX12_isMade_43 : decode cX12_isMade 43 = .ok (.if_icmp .ge 81, 3) := by decide +kernel
theorem dX12_isMade_46 : decode cX12_isMade 46 = .ok (.aload 7, 2) := by decide +kernel
theorem dX12_isMade_48 : decode cX12_isMade 48 = .ok (.iload 8, 2) := by decide +kernel
theorem dX12_isMade_50 : decode cX12_isMade 50 = .ok (.invokevirtual 45, 3) := by decide +kernel
theorem dX12_isMade_53 : decode cX12_isMade 53 = .ok (.checkcast 90, 3) := by decide +kernel
theorem dX12_isMade_56 : decode cX12_isMade 56 = .ok (.astore 9, 2) := by decide +kernel
theorem dX12_isMade_58 : decode cX12_isMade 58 = .ok (.aload 9, 2) := by decide +kernel
theorem dX12_isMade_60 : decode cX12_isMade 60 = .ok (.getfield 92, 3) := by decide +kernel
theorem dX12_isMade_63 : decode cX12_isMade 63 = .ok (.iload 4, 2) := by decide +kernel
theorem dX12_isMade_65 : decode cX12_isMade 65 = .ok (.if_icmp .ne 23, 3) := by decide +kernel
theorem dX12_isMade_68 : decode cX12_isMade 68 = .ok (.aload 9, 2) := by decide +kernel
theorem dX12_isMade_70 : decode cX12_isMade 70 = .ok (.getfield 95, 3) := by decide +kernel
theorem dX12_isMade_73 : decode cX12_isMade 73 = .ok (.iload 5, 2) := by decide +kernel
theorem dX12_isMade_75 : decode cX12_isMade 75 = .ok (.if_icmp .ne 13, 3) := by decide +kernel
theorem dX12_isMade_78 : decode cX12_isMade 78 = .ok (.aload 9, 2) := by decide +kernel
theorem dX12_isMade_80 : decode cX12_isMade 80 = .ok (.getfield 98, 3) := by decide +kernel
theorem dX12_isMade_83 : decode cX12_isMade 83 = .ok (.iload 6, 2) := by decide +kernel
theorem dX12_isMade_85 : decode cX12_isMade 85 = .ok (.if_icmp .eq 31, 3) := by decide +kernel
theorem dX12_isMade_88 : decode cX12_isMade 88 = .ok (.aload_n 0, 1) := by decide +kernel
theorem dX12_isMade_89 : decode cX12_isMade 89 = .ok (.aload 9, 2) := by decide +kernel
theorem dX12_isMade_91 : decode cX12_isMade 91 = .ok (.getfield 92, 3) := by decide +kernel
theorem dX12_isMade_94 : decode cX12_isMade 94 = .ok (.aload 9, 2) := by decide +kernel
theorem dX12_isMade_96 : decode cX12_isMade 96 = .ok (.getfield 95, 3) := by decide +kernel
theorem dX12_isMade_99 : decode cX12_isMade 99 = .ok (.aload 9, 2) := by decide +kernel
theorem dX12_isMade_101 : decode cX12_isMade 101 = .ok (.getfield 98, 3) := by decide +kernel
theorem dX12_isMade_104 : decode cX12_isMade 104 = .ok (.iload 4, 2) := by decide +kernel
theorem dX12_isMade_106 : decode cX12_isMade 106 = .ok (.iload 5, 2) := by decide +kernel
theorem dX12_isMade_108 : decode cX12_isMade 108 = .ok (.iload 6, 2) := by decide +kernel
theorem dX12_isMade_110 : decode cX12_isMade 110 = .ok (.invokevirtual 183, 3) := by decide +kernel
theorem dX12_isMade_113 : decode cX12_isMade 113 = .ok (.ifCond .eq 5, 3) := by decide +kernel
theorem dX12_isMade_116 : decode cX12_isMade 116 = .ok (.iconst 1, 1) := by decide +kernel
theorem dX12_isMade_117 : decode cX12_isMade 117 = .ok (.ireturn, 1) := by decide +kernel
theorem dX12_isMade_118 : decode cX12_isMade 118 = .ok (.iinc 8 1, 3) := by decide +kernel
theorem dX12_isMade_121 : decode cX12_isMade 121 = .ok (.goto (-85), 3) := by decide +kernel
theorem dX12_isMade_124 : decode cX12_isMade 124 = .ok (.iconst 0, 1) := by decide +kernel
theorem dX12_isMade_125 : decode cX12_isMade 125 = .ok (.ireturn, 1) := by decide +kernel
set_option maxRecDepth 20000 in
theorem ggX12_isMadeOf_X12_isNoValue : GoodIn wsX12_isMadeOf wsX12_isNoValue := goodIn_r _ [5, 6, 7, 8, 4, 9, 10, 11, 12, 13, 14, 15, 16, 17, 18, 19, 20, 21, 22, 23, 24, 25, 26, 27, 28, 29, 30, 31, 32, 33, 34, 35, 36, 37, 38, 39, 40, 41, 42, 43, 44, 45, 46, 47, 48, 49, 50, 51, 52, 53, 75, 76, 77, 78, 79, 80, 81, 82, 83, 84, 85, 86, 87, 88] (by decide +kernel) (by decide +kernel)
set_option maxRecDepth 20000 in
theorem gX12_isMadeOf_X12_isNoValue : GoodIn wsX12_isMadeOf (wsV RX12 158 RX12 yX12_isNoValue wsX12_isNoValue) := goodIn_app (goodIn_of _ (by decide +kernel)) ggX12_isMadeOf_X12_isNoValue
set_option maxRecDepth 20000 in
theorem ggX12_isMadeOf_X12_start : GoodIn wsX12_isMadeOf wsX12_start := goodIn_r _ [57, 58, 59, 60, 61, 4, 62, 75, 76, 77, 78, 79, 80] (by decide +kernel) (by decide +kernel)
set_option maxRecDepth 20000 in
theorem gX12_isMadeOf_X12_start : GoodIn wsX12_isMadeOf (wsV RX12 104 RX12 yX12_start wsX12_start) := goodIn_app (goodIn_of _ (by decide +kernel)) ggX12_isMadeOf_X12_start
set_option maxRecDepth 20000 in
theorem ggX12_isMadeOf_X12_isMade : GoodIn wsX12_isMadeOf wsX12_isMade := goodIn_r _ [66, 10, 11, 67, 68, 69, 70, 71, 72, 73, 74, 26, 27, 28, 20, 29, 22, 30, 31, 32, 33, 34, 35, 36, 37, 38, 39, 40, 41, 42, 17, 18, 19, 21, 63, 64, 65, 4, 75, 76, 77, 78, 79, 80, 81, 82, 83, 84, 85, 89, 90, 91, 92, 93, 94, 95, 96, 97, 86, 87, 88] (by decide +kernel) (by decide +kernel)
set_option maxRecDepth 20000 in
theorem gX12_isMadeOf_X12_isMade : GoodIn wsX12_isMadeOf (wsV RX12 183 RX12 yX12_isMade wsX12_isMade) := goodIn_app (goodIn_of _ (by decide +kernel)) ggX12_isMadeOf_X12_isMade
theorem dX12_isMadeOf_0 : decode cX12_isMadeOf 0 = .ok (.aload_n 0, 1) := by decide +kernel
theorem dX12_isMadeOf_1 : decode cX12_isMadeOf 1 = .ok (.aload_n 0, 1) := by decide +kernel
theorem dX12_isMadeOf_2 : decode cX12_isMadeOf 2 = .ok (.iload_n 1, 1) := by decide +kernel
theorem dX12_isMadeOf_3 : decode cX12_isMadeOf 3 = .ok (.iload_n 2, 1) := by decide +kernel
theorem dX12_isMadeOf_4 : decode cX12_isMadeOf 4 = .ok (.iload_n 3, 1) := by decide +kernel
theorem dX12_isMadeOf_5 : decode cX12_isMadeOf 5 = .ok (.invokevirtual 158, 3) := by decide +kernel
theorem dX12_isMadeOf_8 : decode cX12_isMadeOf 8 = .ok (.ifCond .ne 16, 3) := by decide +kernel
theorem dX12_isMadeOf_11 : decode cX12_isMadeOf 11 = .ok (.aload_n 0, 1) := by decide +kernel
theorem dX12_isMadeOf_12 : decode cX12_isMadeOf 12 = .ok (.iload 4, 2) := by decide +kernel
theorem dX12_isMadeOf_14 : decode cX12_isMadeOf 14 = .ok (.iload 5, 2) := by decide +kernel
theorem dX12_isMadeOf_16 : decode cX12_isMadeOf 16 = .ok (.iload 6, 2) := by decide +kernel
theorem dX12_isMadeOf_18 : decode cX12_isMadeOf 18 = .ok (.invokevirtual 158, 3) := by decide +kernel
theorem dX12_isMadeOf_21 : decode cX12_isMadeOf 21 = .ok (.ifCond .eq 7, 3) := by decide +kernel
theorem dX12_isMadeOf_24 : decode cX12_isMadeOf 24 = .ok (.iconst 1, 1) := by decide +kernel
theorem dX12_isMadeOf_25 : decode cX12_isMadeOf 25 = .ok (.goto 4, 3) := by decide +kernel
theorem dX12_isMadeOf_28 : decode cX12_isMadeOf 28 = .ok (.iconst 0, 1) := by decide +kernel
theorem dX12_isMadeOf_29 : decode cX12_isMadeOf 29 = .ok (.iconst 1, 1) := by decide +kernel
theorem dX12_isMadeOf_30 : decode cX12_isMadeOf 30 = .ok (.invokevirtual 104, 3) := by decide +kernel
theorem dX12_isMadeOf_33 : decode cX12_isMadeOf 33 = .ok (.ifCond .ne 23, 3) := by decide +kernel
theorem dX12_isMadeOf_36 : decode cX12_isMadeOf 36 = .ok (.aload_n 0, 1) := by decide +kernel
theorem dX12_isMadeOf_37 : decode cX12_isMadeOf 37 = .ok (.iload_n 1, 1) := by decide +kernel
theorem dX12_isMadeOf_38 : decode cX12_isMadeOf 38 = .ok (.iload_n 2, 1) := by decide +kernel
theorem dX12_isMadeOf_39 : decode cX12_isMadeOf 39 = .ok (.iload_n 3, 1) := by decide +kernel
theorem dX12_isMadeOf_40 : decode cX12_isMadeOf 40 = .ok (.iload 4, 2) := by decide +kernel
theorem dX12_isMadeOf_42 : decode cX12_isMadeOf 42 = .ok (.iload 5, 2) := by decide +kernel
theorem dX12_isMadeOf_44 : decode cX12_isMadeOf 44 = .ok (.iload 6, 2) := by decide +kernel
theorem dX12_isMadeOf_46 : decode cX12_isMadeOf 46 = .ok (.invokevirtual 183, 3) := by decide +kernel
theorem dX12_isMadeOf_49 : decode cX12_isMadeOf 49 = .ok (.ifCond .eq 7, 3) := by decide +kernel
theorem dX12_isMadeOf_52 : decode cX12_isMadeOf 52 = .ok (.iconst 1, 1) := by decide +kernel
theorem dX12_isMadeOf_53 : decode cX12_isMadeOf 53 = .ok (.goto 4, 3) := by decide +kernel
theorem dX12_isMadeOf_56 : decode cX12_isMadeOf 56 = .ok (.iconst 0, 1) := by decide +kernel
theorem dX12_isMadeOf_57 : decode cX12_isMadeOf 57 = .ok (.ireturn, 1) := by decide +kernel
set_option maxRecDepth 20000 in
theorem ggX12_contract_X12_isNoReader : GoodIn wsX12_contract wsX12_isNoReader := goodIn_r _ [9, 10, 11, 8, 12] (by decide +kernel) (by decide +kernel)
set_option maxRecDepth 20000 in
theorem gX12_contract_X12_isNoReader : GoodIn wsX12_contract (va_wsS RX12 187 yX12_isNoReader wsX12_isNoReader) := goodIn_app (goodIn_of _ (by decide +kernel)) ggX12_contract_X12_isNoReader
set_option maxRecDepth 20000 in
theorem ggX12_contract_X12_isNo : GoodIn wsX12_contract wsX12_isNo := goodIn_r _ [16, 17, 18, 19, 20, 21, 22, 23, 10, 11, 8, 12, 126, 127, 128, 129, 130, 131, 138, 139, 140] (by decide +kernel) (by decide +kernel)
set_option maxRecDepth 20000 in
theorem gX12_contract_X12_isNo : GoodIn wsX12_contract (wsV RX12 41 RX12 yX12_isNo wsX12_isNo) := goodIn_app (goodIn_of _ (by decide +kernel)) ggX12_contract_X12_isNo
set_option maxRecDepth 20000 in
theorem ggX12_contract_X12_start : GoodIn wsX12_contract wsX12_start := goodIn_r _ [27, 28, 29, 30, 31, 8, 32, 126, 127, 128, 129, 130, 131] (by decide +kernel) (by decide +kernel)
set_option maxRecDepth 20000 in
theorem gX12_contract_X12_start : GoodIn wsX12_contract (wsV RX12 104 RX12 yX12_start wsX12_start) := goodIn_app (goodIn_of _ (by decide +kernel)) ggX12_contract_X12_start
set_option maxRecDepth 20000 in
theorem ggX12_contract_X12_isNoFields : GoodIn wsX12_contract wsX12_isNoFields := goodIn_r _ [36, 17, 37, 38, 39, 40, 21, 41, 23, 42, 43, 44, 45, 46, 47, 48, 49, 50, 51, 52, 53, 54, 55, 56, 57, 58, 59, 60, 126, 127, 128, 129, 130, 131, 138, 139, 140, 141, 142, 143, 144, 145] (by decide +kernel) (by decide +kernel)
set_option maxRecDepth 20000 in
theorem gX12_contract_X12_isNoFields : GoodIn wsX12_contract (wsV RX12 190 RX12 yX12_isNoFields wsX12_isNoFields) := goodIn_app (goodIn_of _ (by decide +kernel)) ggX12_contract_X12_isNoFields
set_option maxRecDepth 20000 in
theorem ggX12_contract_X12_isIn : GoodIn wsX12_contract wsX12_isIn := goodIn_r _ [12] (by decide +kernel) (by decide +kernel)
set_option maxRecDepth 20000 in
theorem gX12_contract_X12_isIn : GoodIn wsX12_contract (va_wsS RX12 37 yX12_isIn wsX12_isIn) := goodIn_app (goodIn_of _ (by decide +kernel)) ggX12_contract_X12_isIn
set_option maxRecDepth 20000 in
theorem ggX12_contract_X12_refuse : GoodIn wsX12_contract wsX12_refuse := goodIn_r _ [32, 28, 126, 127, 128, 129, 130, 131] (by decide +kernel) (by decide +kernel)
set_option maxRecDepth 20000 in
theorem gX12_contract_X12_refuse : GoodIn wsX12_contract (wsV RX12 29 RX12 yX12_refuse wsX12_refuse) := goodIn_app (goodIn_of _ (by decide +kernel)) ggX12_contract_X12_refuse
set_option maxRecDepth 20000 in
theorem ggX12_contract_Jx4a65c_size_8abf5 : GoodIn wsX12_contract wsJx4a65c_size_8abf5 := goodIn_r _ [22, 23, 138, 139, 140] (by decide +kernel) (by decide +kernel)
set_option maxRecDepth 20000 in
theorem gX12_contract_Jx4a65c_size_8abf5 : GoodIn wsX12_contract (wsV RX12 33 RJx4a65c yJx4a65c_size_8abf5 wsJx4a65c_size_8abf5) := goodIn_app (goodIn_of _ (by decide +kernel)) ggX12_contract_Jx4a65c_size_8abf5
set_option maxRecDepth 20000 in
theorem ggX12_contract_X6_init : GoodIn wsX12_contract wsX6_init := goodIn_r _ [63, 64, 65, 66, 67, 68, 69, 70, 71, 72, 132, 133, 134, 135, 136, 137] (by decide +kernel) (by decide +kernel)
set_option maxRecDepth 20000 in
theorem gX12_contract_X6_init : GoodIn wsX12_contract (wsX6_init) := ggX12_contract_X6_init
set_option maxRecDepth 20000 in
theorem ggX12_contract_Jx4a65c_add_9ea2d : GoodIn wsX12_contract wsJx4a65c_add_9ea2d := goodIn_r _ [76, 77, 78, 54, 23, 79, 80, 81, 21, 82, 83, 84, 85, 86, 87, 88, 89, 90, 91, 92, 93, 94, 95, 96, 97, 98, 99, 100, 101, 102, 103, 104, 105, 106, 107, 108, 109, 110, 111, 112, 113, 114, 115, 116, 117, 118, 119, 120, 121, 122, 123, 124, 125, 138, 139, 140] (by decide +kernel) (by decide +kernel)
set_option maxRecDepth 20000 in
theorem gX12_contract_Jx4a65c_add_9ea2d : GoodIn wsX12_contract (wsV RX12 110 RJx4a65c yJx4a65c_add_9ea2d wsJx4a65c_add_9ea2d) := goodIn_app (goodIn_of _ (by decide +kernel)) ggX12_contract_Jx4a65c_add_9ea2d
theorem dX12_contract_0 : decode cX12_contract 0 = .ok (.aload_n 0, 1) := by decide +kernel
theorem dX12_contract_1 : decode cX12_contract 1 = .ok (.iload_n 1, 1) := by decide +kernel
theorem dX12_contract_2 : decode cX12_contract 2 = .ok (.invokestatic 187, 3) := by decide +kernel
theorem dX12_contract_5 : decode cX12_contract 5 = .ok (.ifCond .ne 11, 3) := by decide +kernel
theorem dX12_contract_8 : decode cX12_contract 8 = .ok (.aload_n 0, 1) := by decide +kernel
theorem dX12_contract_9 : decode cX12_contract 9 = .ok (.iload_n 2, 1) := by decide +kernel
theorem dX12_contract_10 : decode cX12_contract 10 = .ok (.invokevirtual 41, 3) := by decide +kernel
theorem dX12_contract_13 : decode cX12_contract 13 = .ok (.ifCond .eq 7, 3) := by decide +kernel
theorem dX12_contract_16 : decode cX12_contract 16 = .ok (.iconst 1, 1) := by decide +kernel
theorem dX12_contract_17 : decode cX12_contract 17 = .ok (.goto 4, 3) := by decide +kernel
theorem dX12_contract_20 : decode cX12_contract 20 = .ok (.iconst 0, 1) := by decide +kernel
theorem dX12_contract_21 : decode cX12_contract 21 = .ok (.iconst 1, 1) := by decide +kernel
theorem dX12_contract_22 : decode cX12_contract 22 = .ok (.invokevirtual 104, 3) := by decide +kernel
theorem dX12_contract_25 : decode cX12_contract 25 = .ok (.ifCond .ne 85, 3) := by decide +kernel
theorem dX12_contract_28 : decode cX12_contract 28 = .ok (.aload_n 0, 1) := by decide +kernel
theorem dX12_contract_29 : decode cX12_contract 29 = .ok (.aload_n 0, 1) := by decide +kernel
theorem dX12_contract_30 : decode cX12_contract 30 = .ok (.iload_n 2, 1) := by decide +kernel
theorem dX12_contract_31 : decode cX12_contract 31 = .ok (.iload_n 3, 1) := by decide +kernel
theorem dX12_contract_32 : decode cX12_contract 32 = .ok (.invokevirtual 190, 3) := by decide +kernel
theorem dX12_contract_35 : decode cX12_contract 35 = .ok (.ifCond .ne 38, 3) := by decide +kernel
theorem dX12_contract_38 : decode cX12_contract 38 = .ok (.iload 4, 2) := by decide +kernel
theorem dX12_contract_40 : decode cX12_contract 40 = .ok (.iconst 1, 1) := by decide +kernel
theorem dX12_contract_41 : decode cX12_contract 41 = .ok (.bipush 15, 2) := by decide +kernel
theorem dX12_contract_43 : decode cX12_contract 43 = .ok (.invokestatic 37, 3) := by decide +kernel
theorem dX12_contract_46 : decode cX12_contract 46 = .ok (.ifCond .eq 27, 3) := by decide +kernel
theorem dX12_contract_49 : decode cX12_contract 49 = .ok (.iload 5, 2) := by decide +kernel
theorem dX12_contract_51 : decode cX12_contract 51 = .ok (.aload_n 0, 1) := by decide +kernel
theorem dX12_contract_52 : decode cX12_contract 52 = .ok (.getfield 193, 3) := by decide +kernel
theorem dX12_contract_55 : decode cX12_contract 55 = .ok (.if_icmp .lt 18, 3) := by decide +kernel
theorem dX12_contract_58 : decode cX12_contract 58 = .ok (.iload 6, 2) := by decide +kernel
theorem dX12_contract_60 : decode cX12_contract 60 = .ok (.iload 5, 2) := by decide +kernel
theorem dX12_contract_62 : decode cX12_contract 62 = .ok (.if_icmp .lt 11, 3) := by decide +kernel
theorem dX12_contract_65 : decode cX12_contract 65 = .ok (.iload 6, 2) := by decide +kernel
theorem dX12_contract_67 : decode cX12_contract 67 = .ok (.sipush 359, 3) := by decide +kernel
theorem dX12_contract_70 : decode cX12_contract 70 = .ok (.if_icmp .le 7, 3) := by decide +kernel
theorem dX12_contract_73 : decode cX12_contract 73 = .ok (.iconst 1, 1) := by decide +kernel
theorem dX12_contract_74 : decode cX12_contract 74 = .ok (.goto 4, 3) := by decide +kernel
theorem dX12_contract_77 : decode cX12_contract 77 = .ok (.iconst 0, 1) := by decide +kernel
theorem dX12_contract_78 : decode cX12_contract 78 = .ok (.iconst 2, 1) := by decide +kernel
theorem dX12_contract_79 : decode cX12_contract 79 = .ok (.invokevirtual 29, 3) := by decide +kernel
theorem dX12_contract_82 : decode cX12_contract 82 = .ok (.ifCond .ne 28, 3) := by decide +kernel
theorem dX12_contract_85 : decode cX12_contract 85 = .ok (.aload_n 0, 1) := by decide +kernel
theorem dX12_contract_86 : decode cX12_contract 86 = .ok (.aload_n 0, 1) := by decide +kernel
theorem dX12_contract_87 : decode cX12_contract 87 = .ok (.getfield 19, 3) := by decide +kernel
theorem dX12_contract_90 : decode cX12_contract 90 = .ok (.invokevirtual 33, 3) := by decide +kernel
theorem dX12_contract_93 : decode cX12_contract 93 = .ok (.bipush 16, 2) := by decide +kernel
theorem dX12_contract_95 : decode cX12_contract 95 = .ok (.if_icmp .ne 7, 3) := by decide +kernel
theorem dX12_contract_98 : decode cX12_contract 98 = .ok (.iconst 1, 1) := by decide +kernel
theorem dX12_contract_99 : decode cX12_contract 99 = .ok (.goto 4, 3) := by decide +kernel
theorem dX12_contract_102 : decode cX12_contract 102 = .ok (.iconst 0, 1) := by decide +kernel
theorem dX12_contract_103 : decode cX12_contract 103 = .ok (.iconst 3, 1) := by decide +kernel
theorem dX12_contract_104 : decode cX12_contract 104 = .ok (.invokevirtual 29, 3) := by decide +kernel
theorem dX12_contract_107 : decode cX12_contract 107 = .ok (.ifCond .eq 5, 3) := by decide +kernel
theorem dX12_contract_110 : decode cX12_contract 110 = .ok (.iconst 0, 1) := by decide +kernel
theorem dX12_contract_111 : decode cX12_contract 111 = .ok (.ireturn, 1) := by decide +kernel
theorem dX12_contract_112 : decode cX12_contract 112 = .ok (.aload_n 0, 1) := by decide +kernel
theorem dX12_contract_113 : decode cX12_contract 113 = .ok (.getfield 19, 3) := by decide +kernel
theorem dX12_contract_116 : decode cX12_contract 116 = .ok (.new 196, 3) := by decide +kernel
theorem dX12_contract_119 : decode cX12_contract 119 = .ok (.dup, 1) := by decide +kernel
theorem dX12_contract_120 : decode cX12_contract 120 = .ok (.iload_n 1, 1) := by decide +kernel
theorem dX12_contract_121 : decode cX12_contract 121 = .ok (.iload_n 2, 1) := by decide +kernel
theorem dX12_contract_122 : decode cX12_contract 122 = .ok (.iload_n 3, 1) := by decide +kernel
theorem dX12_contract_123 : decode cX12_contract 123 = .ok (.iload 4, 2) := by decide +kernel
theorem dX12_contract_125 : decode cX12_contract 125 = .ok (.iload 5, 2) := by decide +kernel
theorem dX12_contract_127 : decode cX12_contract 127 = .ok (.iload 6, 2) := by decide +kernel
theorem dX12_contract_129 : decode cX12_contract 129 = .ok (.invokespecial 198, 3) := by decide +kernel
theorem dX12_contract_132 : decode cX12_contract 132 = .ok (.invokevirtual 110, 3) := by decide +kernel
theorem dX12_contract_135 : decode cX12_contract 135 = .ok (.pop, 1) := by decide +kernel
theorem dX12_contract_136 : decode cX12_contract 136 = .ok (.aload_n 0, 1) := by decide +kernel
theorem dX12_contract_137 : decode cX12_contract 137 = .ok (.getfield 19, 3) := by decide +kernel
theorem dX12_contract_140 : decode cX12_contract 140 = .ok (.invokevirtual 33, 3) := by decide +kernel
theorem dX12_contract_143 : decode cX12_contract 143 = .ok (.iconst 1, 1) := by decide +kernel
theorem dX12_contract_144 : decode cX12_contract 144 = .ok (.isub, 1) := by decide +kernel
theorem dX12_contract_145 : decode cX12_contract 145 = .ok (.ireturn, 1) := by decide +kernel
