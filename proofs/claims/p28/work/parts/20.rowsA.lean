theorem dX0_init_0 : decode cX0_init 0 = .ok (.aload_n 0, 1) := by decide +kernel
theorem dX0_init_1 : decode cX0_init 1 = .ok (.invokespecial 3, 3) := by decide +kernel
theorem dX0_init_4 : decode cX0_init 4 = .ok (.aload_n 0, 1) := by decide +kernel
theorem dX0_init_5 : decode cX0_init 5 = .ok (.iconst 0, 1) := by decide +kernel
theorem dX0_init_6 : decode cX0_init 6 = .ok (.putfield 9, 3) := by decide +kernel
theorem dX0_init_9 : decode cX0_init 9 = .ok (.aload_n 0, 1) := by decide +kernel
theorem dX0_init_10 : decode cX0_init 10 = .ok (.bipush 16, 2) := by decide +kernel
theorem dX0_init_12 : decode cX0_init 12 = .ok (.newarray .int, 2) := by decide +kernel
theorem dX0_init_14 : decode cX0_init 14 = .ok (.putfield 15, 3) := by decide +kernel
theorem dX0_init_17 : decode cX0_init 17 = .ok (.aload_n 0, 1) := by decide +kernel
theorem dX0_init_18 : decode cX0_init 18 = .ok (.bipush 16, 2) := by decide +kernel
theorem dX0_init_20 : decode cX0_init 20 = .ok (.newarray .int, 2) := by decide +kernel
theorem dX0_init_22 : decode cX0_init 22 = .ok (.putfield 19, 3) := by decide +kernel
theorem dX0_init_25 : decode cX0_init 25 = .ok (.aload_n 0, 1) := by decide +kernel
theorem dX0_init_26 : decode cX0_init 26 = .ok (.bipush 16, 2) := by decide +kernel
theorem dX0_init_28 : decode cX0_init 28 = .ok (.newarray .int, 2) := by decide +kernel
theorem dX0_init_30 : decode cX0_init 30 = .ok (.putfield 22, 3) := by decide +kernel
theorem dX0_init_33 : decode cX0_init 33 = .ok (.aload_n 0, 1) := by decide +kernel
theorem dX0_init_34 : decode cX0_init 34 = .ok (.bipush 16, 2) := by decide +kernel
theorem dX0_init_36 : decode cX0_init 36 = .ok (.newarray .int, 2) := by decide +kernel
theorem dX0_init_38 : decode cX0_init 38 = .ok (.putfield 25, 3) := by decide +kernel
theorem dX0_init_41 : decode cX0_init 41 = .ok (.aload_n 0, 1) := by decide +kernel
theorem dX0_init_42 : decode cX0_init 42 = .ok (.bipush 16, 2) := by decide +kernel
theorem dX0_init_44 : decode cX0_init 44 = .ok (.newarray .int, 2) := by decide +kernel
theorem dX0_init_46 : decode cX0_init 46 = .ok (.putfield 28, 3) := by decide +kernel
theorem dX0_init_49 : decode cX0_init 49 = .ok (.aload_n 0, 1) := by decide +kernel
theorem dX0_init_50 : decode cX0_init 50 = .ok (.bipush 16, 2) := by decide +kernel
theorem dX0_init_52 : decode cX0_init 52 = .ok (.newarray .int, 2) := by decide +kernel
theorem dX0_init_54 : decode cX0_init 54 = .ok (.putfield 31, 3) := by decide +kernel
theorem dX0_init_57 : decode cX0_init 57 = .ok (.return_, 1) := by decide +kernel
theorem dX0_add_0 : decode cX0_add 0 = .ok (.aload_n 0, 1) := by decide +kernel
theorem dX0_add_1 : decode cX0_add 1 = .ok (.getfield 9, 3) := by decide +kernel
theorem dX0_add_4 : decode cX0_add 4 = .ok (.istore 7, 2) := by decide +kernel
theorem dX0_add_6 : decode cX0_add 6 = .ok (.aload_n 0, 1) := by decide +kernel
theorem dX0_add_7 : decode cX0_add 7 = .ok (.getfield 15, 3) := by decide +kernel
theorem dX0_add_10 : decode cX0_add 10 = .ok (.iload 7, 2) := by decide +kernel
theorem dX0_add_12 : decode cX0_add 12 = .ok (.iload_n 1, 1) := by decide +kernel
theorem dX0_add_13 : decode cX0_add 13 = .ok (.iastore, 1) := by decide +kernel
theorem dX0_add_14 : decode cX0_add 14 = .ok (.aload_n 0, 1) := by decide +kernel
theorem dX0_add_15 : decode cX0_add 15 = .ok (.getfield 19, 3) := by decide +kernel
theorem dX0_add_18 : decode cX0_add 18 = .ok (.iload 7, 2) := by decide +kernel
theorem dX0_add_20 : decode cX0_add 20 = .ok (.iload_n 2, 1) := by decide +kernel
theorem dX0_add_21 : decode cX0_add 21 = .ok (.iastore, 1) := by decide +kernel
theorem dX0_add_22 : decode cX0_add 22 = .ok (.aload_n 0, 1) := by decide +kernel
theorem dX0_add_23 : decode cX0_add 23 = .ok (.getfield 22, 3) := by decide +kernel
theorem dX0_add_26 : decode cX0_add 26 = .ok (.iload 7, 2) := by decide +kernel
theorem dX0_add_28 : decode cX0_add 28 = .ok (.iload_n 3, 1) := by decide +kernel
theorem dX0_add_29 : decode cX0_add 29 = .ok (.iastore, 1) := by decide +kernel
theorem dX0_add_30 : decode cX0_add 30 = .ok (.aload_n 0, 1) := by decide +kernel
theorem dX0_add_31 : decode cX0_add 31 = .ok (.getfield 25, 3) := by decide +kernel
theorem dX0_add_34 : decode cX0_add 34 = .ok (.iload 7, 2) := by decide +kernel
theorem dX0_add_36 : decode cX0_add 36 = .ok (.iload 4, 2) := by decide +kernel
theorem dX0_add_38 : decode cX0_add 38 = .ok (.iastore, 1) := by decide +kernel
theorem dX0_add_39 : decode cX0_add 39 = .ok (.aload_n 0, 1) := by decide +kernel
theorem dX0_add_40 : decode cX0_add 40 = .ok (.getfield 28, 3) := by decide +kernel
theorem dX0_add_43 : decode cX0_add 43 = .ok (.iload 7, 2) := by decide +kernel
theorem dX0_add_45 : decode cX0_add 45 = .ok (.iload 5, 2) := by decide +kernel
theorem dX0_add_47 : decode cX0_add 47 = .ok (.iastore, 1) := by decide +kernel
theorem dX0_add_48 : decode cX0_add 48 = .ok (.aload_n 0, 1) := by decide +kernel
theorem dX0_add_49 : decode cX0_add 49 = .ok (.getfield 31, 3) := by decide +kernel
theorem dX0_add_52 : decode cX0_add 52 = .ok (.iload 7, 2) := by decide +kernel
theorem dX0_add_54 : decode cX0_add 54 = .ok (.iload 6, 2) := by decide +kernel
theorem dX0_add_56 : decode cX0_add 56 = .ok (.iastore, 1) := by decide +kernel
theorem dX0_add_57 : decode cX0_add 57 = .ok (.aload_n 0, 1) := by decide +kernel
theorem dX0_add_58 : decode cX0_add 58 = .ok (.dup, 1) := by decide +kernel
theorem dX0_add_59 : decode cX0_add 59 = .ok (.getfield 9, 3) := by decide +kernel
theorem dX0_add_62 : decode cX0_add 62 = .ok (.iconst 1, 1) := by decide +kernel
theorem dX0_add_63 : decode cX0_add 63 = .ok (.iadd, 1) := by decide +kernel
theorem dX0_add_64 : decode cX0_add 64 = .ok (.putfield 9, 3) := by decide +kernel
theorem dX0_add_67 : decode cX0_add 67 = .ok (.iload 7, 2) := by decide +kernel
theorem dX0_add_69 : decode cX0_add 69 = .ok (.ireturn, 1) := by decide +kernel
theorem dX0_isOn_0 : decode cX0_isOn 0 = .ok (.aload_n 0, 1) := by decide +kernel
theorem dX0_isOn_1 : decode cX0_isOn 1 = .ok (.getfield 28, 3) := by decide +kernel
theorem dX0_isOn_4 : decode cX0_isOn 4 = .ok (.iload_n 1, 1) := by decide +kernel
theorem dX0_isOn_5 : decode cX0_isOn 5 = .ok (.iaload, 1) := by decide +kernel
theorem dX0_isOn_6 : decode cX0_isOn 6 = .ok (.iload_n 2, 1) := by decide +kernel
theorem dX0_isOn_7 : decode cX0_isOn 7 = .ok (.if_icmp .gt 17, 3) := by decide +kernel
theorem dX0_isOn_10 : decode cX0_isOn 10 = .ok (.iload_n 2, 1) := by decide +kernel
theorem dX0_isOn_11 : decode cX0_isOn 11 = .ok (.aload_n 0, 1) := by decide +kernel
theorem dX0_isOn_12 : decode cX0_isOn 12 = .ok (.getfield 31, 3) := by decide +kernel
theorem dX0_isOn_15 : decode cX0_isOn 15 = .ok (.iload_n 1, 1) := by decide +kernel
theorem dX0_isOn_16 : decode cX0_isOn 16 = .ok (.iaload, 1) := by decide +kernel
theorem dX0_isOn_17 : decode cX0_isOn 17 = .ok (.if_icmp .gt 7, 3) := by decide +kernel
theorem dX0_isOn_20 : decode cX0_isOn 20 = .ok (.iconst 1, 1) := by decide +kernel
theorem dX0_isOn_21 : decode cX0_isOn 21 = .ok (.goto 4, 3) := by decide +kernel
theorem dX0_isOn_24 : decode cX0_isOn 24 = .ok (.iconst 0, 1) := by decide +kernel
theorem dX0_isOn_25 : decode cX0_isOn 25 = .ok (.ireturn, 1) := by decide +kernel
set_option maxRecDepth 20000 in
theorem ggX0_isFor_X0_isOn : GoodIn wsX0_isFor wsX0_isOn := goodIn_r _ [8, 9, 10, 11, 12, 13, 14, 15, 16, 17] (by decide +kernel) (by decide +kernel)
set_option maxRecDepth 20000 in
theorem gX0_isFor_X0_isOn : GoodIn wsX0_isFor (wsV RX0 43 RX0 yX0_isOn wsX0_isOn) := goodIn_app (goodIn_of _ (by decide +kernel)) ggX0_isFor_X0_isOn
theorem dX0_isFor_0 : decode cX0_isFor 0 = .ok (.aload_n 0, 1) := by decide +kernel
theorem dX0_isFor_1 : decode cX0_isFor 1 = .ok (.getfield 15, 3) := by decide +kernel
theorem dX0_isFor_4 : decode cX0_isFor 4 = .ok (.iload_n 1, 1) := by decide +kernel
theorem dX0_isFor_5 : decode cX0_isFor 5 = .ok (.iaload, 1) := by decide +kernel
theorem dX0_isFor_6 : decode cX0_isFor 6 = .ok (.iload_n 2, 1) := by decide +kernel
theorem dX0_isFor_7 : decode cX0_isFor 7 = .ok (.if_icmp .ne 39, 3) := by decide +kernel
theorem dX0_isFor_10 : decode cX0_isFor 10 = .ok (.aload_n 0, 1) := by decide +kernel
theorem dX0_isFor_11 : decode cX0_isFor 11 = .ok (.getfield 19, 3) := by decide +kernel
theorem dX0_isFor_14 : decode cX0_isFor 14 = .ok (.iload_n 1, 1) := by decide +kernel
theorem dX0_isFor_15 : decode cX0_isFor 15 = .ok (.iaload, 1) := by decide +kernel
theorem dX0_isFor_16 : decode cX0_isFor 16 = .ok (.iload_n 3, 1) := by decide +kernel
theorem dX0_isFor_17 : decode cX0_isFor 17 = .ok (.if_icmp .ne 29, 3) := by decide +kernel
theorem dX0_isFor_20 : decode cX0_isFor 20 = .ok (.aload_n 0, 1) := by decide +kernel
theorem dX0_isFor_21 : decode cX0_isFor 21 = .ok (.getfield 25, 3) := by decide +kernel
theorem dX0_isFor_24 : decode cX0_isFor 24 = .ok (.iload_n 1, 1) := by decide +kernel
theorem dX0_isFor_25 : decode cX0_isFor 25 = .ok (.iaload, 1) := by decide +kernel
theorem dX0_isFor_26 : decode cX0_isFor 26 = .ok (.iload 4, 2) := by decide +kernel
theorem dX0_isFor_28 : decode cX0_isFor 28 = .ok (.iand, 1) := by decide +kernel
theorem dX0_isFor_29 : decode cX0_isFor 29 = .ok (.ifCond .eq 17, 3) := by decide +kernel
theorem dX0_isFor_32 : decode cX0_isFor 32 = .ok (.aload_n 0, 1) := by decide +kernel
theorem dX0_isFor_33 : decode cX0_isFor 33 = .ok (.iload_n 1, 1) := by decide +kernel
theorem dX0_isFor_34 : decode cX0_isFor 34 = .ok (.iload 5, 2) := by decide +kernel
theorem dX0_isFor_36 : decode cX0_isFor 36 = .ok (.invokevirtual 43, 3) := by decide +kernel
theorem dX0_isFor_39 : decode cX0_isFor 39 = .ok (.ifCond .eq 7, 3) := by decide +kernel
theorem dX0_isFor_42 : decode cX0_isFor 42 = .ok (.iconst 1, 1) := by decide +kernel
theorem dX0_isFor_43 : decode cX0_isFor 43 = .ok (.goto 4, 3) := by decide +kernel
theorem dX0_isFor_46 : decode cX0_isFor 46 = .ok (.iconst 0, 1) := by decide +kernel
theorem dX0_isFor_47 : decode cX0_isFor 47 = .ok (.ireturn, 1) := by decide +kernel
set_option maxRecDepth 20000 in
theorem ggX0_open_X0_isFor : GoodIn wsX0_open wsX0_isFor := goodIn_r _ [7, 8, 9, 10, 11, 12, 13, 6, 14, 15, 16, 17, 18, 19, 20, 21, 22, 23] (by decide +kernel) (by decide +kernel)
set_option maxRecDepth 20000 in
theorem gX0_open_X0_isFor : GoodIn wsX0_open (wsV RX0 47 RX0 yX0_isFor wsX0_isFor) := goodIn_app (goodIn_of _ (by decide +kernel)) ggX0_open_X0_isFor
theorem dX0_open_0 : decode cX0_open 0 = .ok (.iconst 0, 1) := by decide +kernel
theorem dX0_open_1 : decode cX0_open 1 = .ok (.istore 6, 2) := by decide +kernel
theorem dX0_open_3 : decode cX0_open 3 = .ok (.iconst 0, 1) := by decide +kernel
theorem dX0_open_4 : decode cX0_open 4 = .ok (.istore 7, 2) := by decide +kernel
theorem dX0_open_6 : decode cX0_open 6 = .ok (.iload 7, 2) := by decide +kernel
theorem dX0_open_8 : decode cX0_open 8 = .ok (.aload_n 0, 1) := by decide +kernel
theorem dX0_open_9 : decode cX0_open 9 = .ok (.getfield 9, 3) := by decide +kernel
theorem dX0_open_12 : decode cX0_open 12 = .ok (.if_icmp .ge 42, 3) := by decide +kernel
theorem dX0_open_15 : decode cX0_open 15 = .ok (.iload 7, 2) := by decide +kernel
theorem dX0_open_17 : decode cX0_open 17 = .ok (.iload 5, 2) := by decide +kernel
theorem dX0_open_19 : decode cX0_open 19 = .ok (.if_icmp .eq 29, 3) := by decide +kernel
theorem dX0_open_22 : decode cX0_open 22 = .ok (.aload_n 0, 1) := by decide +kernel
theorem dX0_open_23 : decode cX0_open 23 = .ok (.iload 7, 2) := by decide +kernel
theorem dX0_open_25 : decode cX0_open 25 = .ok (.iload_n 1, 1) := by decide +kernel
theorem dX0_open_26 : decode cX0_open 26 = .ok (.iload_n 2, 1) := by decide +kernel
theorem dX0_open_27 : decode cX0_open 27 = .ok (.iload_n 3, 1) := by decide +kernel
theorem dX0_open_28 : decode cX0_open 28 = .ok (.iload 4, 2) := by decide +kernel
theorem dX0_open_30 : decode cX0_open 30 = .ok (.invokevirtual 47, 3) := by decide +kernel
theorem dX0_open_33 : decode cX0_open 33 = .ok (.ifCond .eq 15, 3) := by decide +kernel
theorem dX0_open_36 : decode cX0_open 36 = .ok (.iload 6, 2) := by decide +kernel
theorem dX0_open_38 : decode cX0_open 38 = .ok (.aload_n 0, 1) := by decide +kernel
theorem dX0_open_39 : decode cX0_open 39 = .ok (.getfield 22, 3) := by decide +kernel
theorem dX0_open_42 : decode cX0_open 42 = .ok (.iload 7, 2) := by decide +kernel
theorem dX0_open_44 : decode cX0_open 44 = .ok (.iaload, 1) := by decide +kernel
theorem dX0_open_45 : decode cX0_open 45 = .ok (.ior, 1) := by decide +kernel
theorem dX0_open_46 : decode cX0_open 46 = .ok (.istore 6, 2) := by decide +kernel
theorem dX0_open_48 : decode cX0_open 48 = .ok (.iinc 7 1, 3) := by decide +kernel
theorem dX0_open_51 : decode cX0_open 51 = .ok (.goto (-45), 3) := by decide +kernel
theorem dX0_open_54 : decode cX0_open 54 = .ok (.iload 6, 2) := by decide +kernel
theorem dX0_open_56 : decode cX0_open 56 = .ok (.ireturn, 1) := by decide +kernel
set_option maxRecDepth 20000 in
theorem ggX0_countOpen_X0_isOn : GoodIn wsX0_countOpen wsX0_isOn := goodIn_r _ [7, 8, 9, 10, 11, 12, 13, 14, 15, 16] (by decide +kernel) (by decide +kernel)
set_option maxRecDepth 20000 in
theorem gX0_countOpen_X0_isOn : GoodIn wsX0_countOpen (wsV RX0 43 RX0 yX0_isOn wsX0_isOn) := goodIn_app (goodIn_of _ (by decide +kernel)) ggX0_countOpen_X0_isOn
theorem dX0_countOpen_0 : decode cX0_countOpen 0 = .ok (.iconst 0, 1) := by decide +kernel
theorem dX0_countOpen_1 : decode cX0_countOpen 1 = .ok (.istore_n 3, 1) := by decide +kernel
theorem dX0_countOpen_2 : decode cX0_countOpen 2 = .ok (.iconst 0, 1) := by decide +kernel
theorem dX0_countOpen_3 : decode cX0_countOpen 3 = .ok (.istore 4, 2) := by decide +kernel
theorem dX0_countOpen_5 : decode cX0_countOpen 5 = .ok (.iload 4, 2) := by decide +kernel
theorem dX0_countOpen_7 : decode cX0_countOpen 7 = .ok (.aload_n 0, 1) := by decide +kernel
theorem dX0_countOpen_8 : decode cX0_countOpen 8 = .ok (.getfield 9, 3) := by decide +kernel
theorem dX0_countOpen_11 : decode cX0_countOpen 11 = .ok (.if_icmp .ge 33, 3) := by decide +kernel
theorem dX0_countOpen_14 : decode cX0_countOpen 14 = .ok (.aload_n 0, 1) := by decide +kernel
theorem dX0_countOpen_15 : decode cX0_countOpen 15 = .ok (.getfield 15, 3) := by decide +kernel
theorem dX0_countOpen_18 : decode cX0_countOpen 18 = .ok (.iload 4, 2) := by decide +kernel
theorem dX0_countOpen_20 : decode cX0_countOpen 20 = .ok (.iaload, 1) := by decide +kernel
theorem dX0_countOpen_21 : decode cX0_countOpen 21 = .ok (.iload_n 1, 1) := by decide +kernel
theorem dX0_countOpen_22 : decode cX0_countOpen 22 = .ok (.if_icmp .ne 16, 3) := by decide +kernel
theorem dX0_countOpen_25 : decode cX0_countOpen 25 = .ok (.aload_n 0, 1) := by decide +kernel
theorem dX0_countOpen_26 : decode cX0_countOpen 26 = .ok (.iload 4, 2) := by decide +kernel
theorem dX0_countOpen_28 : decode cX0_countOpen 28 = .ok (.iload_n 2, 1) := by decide +kernel
theorem dX0_countOpen_29 : decode cX0_countOpen 29 = .ok (.invokevirtual 43, 3) := by decide +kernel
theorem dX0_countOpen_32 : decode cX0_countOpen 32 = .ok (.ifCond .eq 6, 3) := by decide +kernel
theorem dX0_countOpen_35 : decode cX0_countOpen 35 = .ok (.iinc 3 1, 3) := by decide +kernel
theorem dX0_countOpen_38 : decode cX0_countOpen 38 = .ok (.iinc 4 1, 3) := by decide +kernel
theorem dX0_countOpen_41 : decode cX0_countOpen 41 = .ok (.goto (-36), 3) := by decide +kernel
theorem dX0_countOpen_44 : decode cX0_countOpen 44 = .ok (.iload_n 3, 1) := by decide +kernel
theorem dX0_countOpen_45 : decode cX0_countOpen 45 = .ok (.ireturn, 1) := by decide +kernel
theorem dX1_init_0 : decode cX1_init 0 = .ok (.aload_n 0, 1) := by decide +kernel
theorem dX1_init_1 : decode cX1_init 1 = .ok (.invokespecial 3, 3) := by decide +kernel
theorem dX1_init_4 : decode cX1_init 4 = .ok (.aload_n 0, 1) := by decide +kernel
theorem dX1_init_5 : decode cX1_init 5 = .ok (.sipush 288, 3) := by decide +kernel
theorem dX1_init_8 : decode cX1_init 8 = .ok (.newarray .int, 2) := by decide +kernel
theorem dX1_init_10 : decode cX1_init 10 = .ok (.putfield 9, 3) := by decide +kernel
theorem dX1_init_13 : decode cX1_init 13 = .ok (.aload_n 0, 1) := by decide +kernel
theorem dX1_init_14 : decode cX1_init 14 = .ok (.sipush 288, 3) := by decide +kernel
theorem dX1_init_17 : decode cX1_init 17 = .ok (.newarray .boolean, 2) := by decide +kernel
theorem dX1_init_19 : decode cX1_init 19 = .ok (.putfield 15, 3) := by decide +kernel
theorem dX1_init_22 : decode cX1_init 22 = .ok (.aload_n 0, 1) := by decide +kernel
theorem dX1_init_23 : decode cX1_init 23 = .ok (.sipush 288, 3) := by decide +kernel
theorem dX1_init_26 : decode cX1_init 26 = .ok (.newarray .int, 2) := by decide +kernel
theorem dX1_init_28 : decode cX1_init 28 = .ok (.putfield 19, 3) := by decide +kernel
theorem dX1_init_31 : decode cX1_init 31 = .ok (.aload_n 0, 1) := by decide +kernel
theorem dX1_init_32 : decode cX1_init 32 = .ok (.sipush 288, 3) := by decide +kernel
theorem dX1_init_35 : decode cX1_init 35 = .ok (.newarray .int, 2) := by decide +kernel
theorem dX1_init_37 : decode cX1_init 37 = .ok (.putfield 22, 3) := by decide +kernel
theorem dX1_init_40 : decode cX1_init 40 = .ok (.return_, 1) := by decide +kernel
theorem dX1_raise_0 : decode cX1_raise 0 = .ok (.aload_n 0, 1) := by decide +kernel
theorem dX1_raise_1 : decode cX1_raise 1 = .ok (.getfield 9, 3) := by decide +kernel
theorem dX1_raise_4 : decode cX1_raise 4 = .ok (.iload_n 1, 1) := by decide +kernel
theorem dX1_raise_5 : decode cX1_raise 5 = .ok (.aload_n 0, 1) := by decide +kernel
theorem dX1_raise_6 : decode cX1_raise 6 = .ok (.getfield 9, 3) := by decide +kernel
theorem dX1_raise_9 : decode cX1_raise 9 = .ok (.iload_n 1, 1) := by decide +kernel
theorem dX1_raise_10 : decode cX1_raise 10 = .ok (.iaload, 1) := by decide +kernel
theorem dX1_raise_11 : decode cX1_raise 11 = .ok (.iload_n 2, 1) := by decide +kernel
theorem dX1_raise_12 : decode cX1_raise 12 = .ok (.invokestatic 25, 3) := by decide +kernel
theorem dX1_raise_15 : decode cX1_raise 15 = .ok (.iastore, 1) := by decide +kernel
theorem dX1_raise_16 : decode cX1_raise 16 = .ok (.return_, 1) := by decide +kernel
set_option maxRecDepth 20000 in
theorem ggX1_settle_X1_copyOwn : GoodIn wsX1_settle wsX1_copyOwn := goodIn_r _ [6, 7, 21, 22, 23, 24] (by decide +kernel) (by decide +kernel)
set_option maxRecDepth 20000 in
theorem gX1_settle_X1_copyOwn : GoodIn wsX1_settle (wsV RX1 31 RX1 yX1_copyOwn wsX1_copyOwn) := goodIn_app (goodIn_of _ (by decide +kernel)) ggX1_settle_X1_copyOwn
set_option maxRecDepth 20000 in
theorem ggX1_settle_X2_carry : GoodIn wsX1_settle wsX2_carry := goodIn_r _ [12, 13, 14, 15, 16, 17, 18, 19, 20, 25, 26, 27, 28, 29, 30, 31, 32, 33] (by decide +kernel) (by decide +kernel)
set_option maxRecDepth 20000 in
theorem gX1_settle_X2_carry : GoodIn wsX1_settle (wsV RX1 35 RX2 yX2_carry wsX2_carry) := goodIn_app (goodIn_of _ (by decide +kernel)) ggX1_settle_X2_carry
theorem dX1_settle_0 : decode cX1_settle 0 = .ok (.aload_n 0, 1) := by decide +kernel
theorem dX1_settle_1 : decode cX1_settle 1 = .ok (.aload_n 0, 1) := by decide +kernel
theorem dX1_settle_2 : decode cX1_settle 2 = .ok (.getfield 19, 3) := by decide +kernel
theorem dX1_settle_5 : decode cX1_settle 5 = .ok (.invokevirtual 31, 3) := by decide +kernel
theorem dX1_settle_8 : decode cX1_settle 8 = .ok (.aload_n 1, 1) := by decide +kernel
theorem dX1_settle_9 : decode cX1_settle 9 = .ok (.aload_n 0, 1) := by decide +kernel
theorem dX1_settle_10 : decode cX1_settle 10 = .ok (.getfield 19, 3) := by decide +kernel
theorem dX1_settle_13 : decode cX1_settle 13 = .ok (.invokevirtual 35, 3) := by decide +kernel
theorem dX1_settle_16 : decode cX1_settle 16 = .ok (.return_, 1) := by decide +kernel
set_option maxRecDepth 20000 in
theorem ggX1_tryRaise_X1_copyOwn : GoodIn wsX1_tryRaise wsX1_copyOwn := goodIn_r _ [10, 11, 22, 23, 24, 25] (by decide +kernel) (by decide +kernel)
set_option maxRecDepth 20000 in
theorem gX1_tryRaise_X1_copyOwn : GoodIn wsX1_tryRaise (wsV RX1 31 RX1 yX1_copyOwn wsX1_copyOwn) := goodIn_app (goodIn_of _ (by decide +kernel)) ggX1_tryRaise_X1_copyOwn
set_option maxRecDepth 20000 in
theorem ggX1_tryRaise_X2_carry : GoodIn wsX1_tryRaise wsX2_carry := goodIn_r _ [16, 17, 18, 19, 20, 21, 3, 4, 5, 26, 27, 28, 29, 30, 31, 32, 33, 34] (by decide +kernel) (by decide +kernel)
set_option maxRecDepth 20000 in
theorem gX1_tryRaise_X2_carry : GoodIn wsX1_tryRaise (wsV RX1 35 RX2 yX2_carry wsX2_carry) := goodIn_app (goodIn_of _ (by decide +kernel)) ggX1_tryRaise_X2_carry
theorem dX1_tryRaise_0 : decode cX1_tryRaise 0 = .ok (.aload_n 0, 1) := by decide +kernel
theorem dX1_tryRaise_1 : decode cX1_tryRaise 1 = .ok (.aload_n 0, 1) := by decide +kernel
theorem dX1_tryRaise_2 : decode cX1_tryRaise 2 = .ok (.getfield 22, 3) := by decide +kernel
theorem dX1_tryRaise_5 : decode cX1_tryRaise 5 = .ok (.invokevirtual 31, 3) := by decide +kernel
theorem dX1_tryRaise_8 : decode cX1_tryRaise 8 = .ok (.aload_n 0, 1) := by decide +kernel
theorem dX1_tryRaise_9 : decode cX1_tryRaise 9 = .ok (.getfield 22, 3) := by decide +kernel
theorem dX1_tryRaise_12 : decode cX1_tryRaise 12 = .ok (.iload_n 1, 1) := by decide +kernel
theorem dX1_tryRaise_13 : decode cX1_tryRaise 13 = .ok (.aload_n 0, 1) := by decide +kernel
theorem dX1_tryRaise_14 : decode cX1_tryRaise 14 = .ok (.getfield 22, 3) := by decide +kernel
theorem dX1_tryRaise_17 : decode cX1_tryRaise 17 = .ok (.iload_n 1, 1) := by decide +kernel
theorem dX1_tryRaise_18 : decode cX1_tryRaise 18 = .ok (.iaload, 1) := by decide +kernel
theorem dX1_tryRaise_19 : decode cX1_tryRaise 19 = .ok (.iload_n 2, 1) := by decide +kernel
theorem dX1_tryRaise_20 : decode cX1_tryRaise 20 = .ok (.invokestatic 25, 3) := by decide +kernel
theorem dX1_tryRaise_23 : decode cX1_tryRaise 23 = .ok (.iastore, 1) := by decide +kernel
theorem dX1_tryRaise_24 : decode cX1_tryRaise 24 = .ok (.aload_n 3, 1) := by decide +kernel
theorem dX1_tryRaise_25 : decode cX1_tryRaise 25 = .ok (.aload_n 0, 1) := by decide +kernel
theorem dX1_tryRaise_26 : decode cX1_tryRaise 26 = .ok (.getfield 22, 3) := by decide +kernel
theorem dX1_tryRaise_29 : decode cX1_tryRaise 29 = .ok (.invokevirtual 35, 3) := by decide +kernel
theorem dX1_tryRaise_32 : decode cX1_tryRaise 32 = .ok (.aload_n 0, 1) := by decide +kernel
theorem dX1_tryRaise_33 : decode cX1_tryRaise 33 = .ok (.getfield 22, 3) := by decide +kernel
theorem dX1_tryRaise_36 : decode cX1_tryRaise 36 = .ok (.areturn, 1) := by decide +kernel
theorem dX1_copyOwn_0 : decode cX1_copyOwn 0 = .ok (.iconst 0, 1) := by decide +kernel
theorem dX1_copyOwn_1 : decode cX1_copyOwn 1 = .ok (.istore_n 2, 1) := by decide +kernel
theorem dX1_copyOwn_2 : decode cX1_copyOwn 2 = .ok (.iload_n 2, 1) := by decide +kernel
theorem dX1_copyOwn_3 : decode cX1_copyOwn 3 = .ok (.sipush 288, 3) := by decide +kernel
theorem dX1_copyOwn_6 : decode cX1_copyOwn 6 = .ok (.if_icmp .ge 18, 3) := by decide +kernel
theorem dX1_copyOwn_9 : decode cX1_copyOwn 9 = .ok (.aload_n 1, 1) := by decide +kernel
theorem dX1_copyOwn_10 : decode cX1_copyOwn 10 = .ok (.iload_n 2, 1) := by decide +kernel
theorem dX1_copyOwn_11 : decode cX1_copyOwn 11 = .ok (.aload_n 0, 1) := by decide +kernel
theorem dX1_copyOwn_12 : decode cX1_copyOwn 12 = .ok (.getfield 9, 3) := by decide +kernel
theorem dX1_copyOwn_15 : decode cX1_copyOwn 15 = .ok (.iload_n 2, 1) := by decide +kernel
theorem dX1_copyOwn_16 : decode cX1_copyOwn 16 = .ok (.iaload, 1) := by decide +kernel
theorem dX1_copyOwn_17 : decode cX1_copyOwn 17 = .ok (.iastore, 1) := by decide +kernel
theorem dX1_copyOwn_18 : decode cX1_copyOwn 18 = .ok (.iinc 2 1, 3) := by decide +kernel
theorem dX1_copyOwn_21 : decode cX1_copyOwn 21 = .ok (.goto (-19), 3) := by decide +kernel
theorem dX1_copyOwn_24 : decode cX1_copyOwn 24 = .ok (.return_, 1) := by decide +kernel
theorem dX2_init_0 : decode cX2_init 0 = .ok (.aload_n 0, 1) := by decide +kernel
theorem dX2_init_1 : decode cX2_init 1 = .ok (.invokespecial 3, 3) := by decide +kernel
theorem dX2_init_4 : decode cX2_init 4 = .ok (.aload_n 0, 1) := by decide +kernel
theorem dX2_init_5 : decode cX2_init 5 = .ok (.iconst 0, 1) := by decide +kernel
theorem dX2_init_6 : decode cX2_init 6 = .ok (.putfield 9, 3) := by decide +kernel
theorem dX2_init_9 : decode cX2_init 9 = .ok (.aload_n 0, 1) := by decide +kernel
theorem dX2_init_10 : decode cX2_init 10 = .ok (.bipush 20, 2) := by decide +kernel
theorem dX2_init_12 : decode cX2_init 12 = .ok (.newarray .int, 2) := by decide +kernel
theorem dX2_init_14 : decode cX2_init 14 = .ok (.putfield 15, 3) := by decide +kernel
theorem dX2_init_17 : decode cX2_init 17 = .ok (.aload_n 0, 1) := by decide +kernel
theorem dX2_init_18 : decode cX2_init 18 = .ok (.bipush 20, 2) := by decide +kernel
theorem dX2_init_20 : decode cX2_init 20 = .ok (.newarray .int, 2) := by decide +kernel
theorem dX2_init_22 : decode cX2_init 22 = .ok (.putfield 19, 3) := by decide +kernel
theorem dX2_init_25 : decode cX2_init 25 = .ok (.aload_n 0, 1) := by decide +kernel
theorem dX2_init_26 : decode cX2_init 26 = .ok (.bipush 20, 2) := by decide +kernel
theorem dX2_init_28 : decode cX2_init 28 = .ok (.newarray .int, 2) := by decide +kernel
theorem dX2_init_30 : decode cX2_init 30 = .ok (.putfield 22, 3) := by decide +kernel
theorem dX2_init_33 : decode cX2_init 33 = .ok (.aload_n 0, 1) := by decide +kernel
theorem dX2_init_34 : decode cX2_init 34 = .ok (.iconst 0, 1) := by decide +kernel
theorem dX2_init_35 : decode cX2_init 35 = .ok (.putfield 25, 3) := by decide +kernel
theorem dX2_init_38 : decode cX2_init 38 = .ok (.aload_n 0, 1) := by decide +kernel
theorem dX2_init_39 : decode cX2_init 39 = .ok (.bipush 120, 2) := by decide +kernel
theorem dX2_init_41 : decode cX2_init 41 = .ok (.newarray .int, 2) := by decide +kernel
theorem dX2_init_43 : decode cX2_init 43 = .ok (.putfield 28, 3) := by decide +kernel
theorem dX2_init_46 : decode cX2_init 46 = .ok (.aload_n 0, 1) := by decide +kernel
theorem dX2_init_47 : decode cX2_init 47 = .ok (.bipush 120, 2) := by decide +kernel
theorem dX2_init_49 : decode cX2_init 49 = .ok (.newarray .int, 2) := by decide +kernel
theorem dX2_init_51 : decode cX2_init 51 = .ok (.putfield 31, 3) := by decide +kernel
theorem dX2_init_54 : decode cX2_init 54 = .ok (.aload_n 0, 1) := by decide +kernel
theorem dX2_init_55 : decode cX2_init 55 = .ok (.bipush 120, 2) := by decide +kernel
theorem dX2_init_57 : decode cX2_init 57 = .ok (.newarray .int, 2) := by decide +kernel
theorem dX2_init_59 : decode cX2_init 59 = .ok (.putfield 34, 3) := by decide +kernel
theorem dX2_init_62 : decode cX2_init 62 = .ok (.aload_n 0, 1) := by decide +kernel
theorem dX2_init_63 : decode cX2_init 63 = .ok (.sipush 288, 3) := by decide +kernel
theorem dX2_init_66 : decode cX2_init 66 = .ok (.newarray .boolean, 2) := by decide +kernel
theorem dX2_init_68 : decode cX2_init 68 = .ok (.putfield 37, 3) := by decide +kernel
theorem dX2_init_71 : decode cX2_init 71 = .ok (.return_, 1) := by decide +kernel
theorem dX2_findSource_0 : decode cX2_findSource 0 = .ok (.iconst 0, 1) := by decide +kernel
theorem dX2_findSource_1 : decode cX2_findSource 1 = .ok (.istore_n 3, 1) := by decide +kernel
theorem dX2_findSource_2 : decode cX2_findSource 2 = .ok (.iload_n 3, 1) := by decide +kernel
theorem dX2_findSource_3 : decode cX2_findSource 3 = .ok (.aload_n 0, 1) := by decide +kernel
theorem dX2_findSource_4 : decode cX2_findSource 4 = .ok (.getfield 9, 3) := by decide +kernel
theorem dX2_findSource_7 : decode cX2_findSource 7 = .ok (.if_icmp .ge 31, 3) := by decide +kernel
theorem dX2_findSource_10 : decode cX2_findSource 10 = .ok (.aload_n 0, 1) := by decide +kernel
theorem dX2_findSource_11 : decode cX2_findSource 11 = .ok (.getfield 15, 3) := by decide +kernel
theorem dX2_findSource_14 : decode cX2_findSource 14 = .ok (.iload_n 3, 1) := by decide +kernel
theorem dX2_findSource_15 : decode cX2_findSource 15 = .ok (.iaload, 1) := by decide +kernel
theorem dX2_findSource_16 : decode cX2_findSource 16 = .ok (.iload_n 1, 1) := by decide +kernel
theorem dX2_findSource_17 : decode cX2_findSource 17 = .ok (.if_icmp .ne 15, 3) := by decide +kernel
theorem dX2_findSource_20 : decode cX2_findSource 20 = .ok (.aload_n 0, 1) := by decide +kernel
theorem dX2_findSource_21 : decode cX2_findSource 21 = .ok (.getfield 19, 3) := by decide +kernel
theorem dX2_findSource_24 : decode cX2_findSource 24 = .ok (.iload_n 3, 1) := by decide +kernel
theorem dX2_findSource_25 : decode cX2_findSource 25 = .ok (.iaload, 1) := by decide +kernel
theorem dX2_findSource_26 : decode cX2_findSource 26 = .ok (.iload_n 2, 1) := by decide +kernel
theorem dX2_findSource_27 : decode cX2_findSource 27 = .ok (.if_icmp .ne 5, 3) := by decide +kernel
theorem dX2_findSource_30 : decode cX2_findSource 30 = .ok (.iload_n 3, 1) := by decide +kernel
theorem dX2_findSource_31 : decode cX2_findSource 31 = .ok (.ireturn, 1) := by decide +kernel
theorem dX2_findSource_32 : decode cX2_findSource 32 = .ok (.iinc 3 1, 3) := by decide +kernel
theorem dX2_findSource_35 : decode cX2_findSource 35 = .ok (.goto (-33), 3) := by decide +kernel
theorem dX2_findSource_38 : decode cX2_findSource 38 = .ok (.iconst (-1), 1) := by decide +kernel
theorem dX2_findSource_39 : decode cX2_findSource 39 = .ok (.ireturn, 1) := by decide +kernel
theorem dX2_addSource_0 : decode cX2_addSource 0 = .ok (.aload_n 0, 1) := by decide +kernel
theorem dX2_addSource_1 : decode cX2_addSource 1 = .ok (.getfield 15, 3) := by decide +kernel
theorem dX2_addSource_4 : decode cX2_addSource 4 = .ok (.aload_n 0, 1) := by decide +kernel
theorem dX2_addSource_5 : decode cX2_addSource 5 = .ok (.getfield 9, 3) := by decide +kernel
theorem dX2_addSource_8 : decode cX2_addSource 8 = .ok (.iload_n 1, 1) := by decide +kernel
theorem dX2_addSource_9 : decode cX2_addSource 9 = .ok (.iastore, 1) := by decide +kernel
theorem dX2_addSource_10 : decode cX2_addSource 10 = .ok (.aload_n 0, 1) := by decide +kernel
theorem dX2_addSource_11 : decode cX2_addSource 11 = .ok (.getfield 19, 3) := by decide +kernel
theorem dX2_addSource_14 : decode cX2_addSource 14 = .ok (.aload_n 0, 1) := by decide +kernel
theorem dX2_addSource_15 : decode cX2_addSource 15 = .ok (.getfield 9, 3) := by decide +kernel
theorem dX2_addSource_18 : decode cX2_addSource 18 = .ok (.iload_n 2, 1) := by decide +kernel
theorem dX2_addSource_19 : decode cX2_addSource 19 = .ok (.iastore, 1) := by decide +kernel
theorem dX2_addSource_20 : decode cX2_addSource 20 = .ok (.aload_n 0, 1) := by decide +kernel
theorem dX2_addSource_21 : decode cX2_addSource 21 = .ok (.getfield 22, 3) := by decide +kernel
theorem dX2_addSource_24 : decode cX2_addSource 24 = .ok (.aload_n 0, 1) := by decide +kernel
theorem dX2_addSource_25 : decode cX2_addSource 25 = .ok (.getfield 9, 3) := by decide +kernel
theorem dX2_addSource_28 : decode cX2_addSource 28 = .ok (.iload_n 3, 1) := by decide +kernel
theorem dX2_addSource_29 : decode cX2_addSource 29 = .ok (.iastore, 1) := by decide +kernel
theorem dX2_addSource_30 : decode cX2_addSource 30 = .ok (.aload_n 0, 1) := by decide +kernel
theorem dX2_addSource_31 : decode cX2_addSource 31 = .ok (.dup, 1) := by decide +kernel
theorem dX2_addSource_32 : decode cX2_addSource 32 = .ok (.getfield 9, 3) := by decide +kernel
theorem dX2_addSource_35 : decode cX2_addSource 35 = .ok (.iconst 1, 1) := by decide +kernel
theorem dX2_addSource_36 : decode cX2_addSource 36 = .ok (.iadd, 1) := by decide +kernel
theorem dX2_addSource_37 : decode cX2_addSource 37 = .ok (.putfield 9, 3) := by decide +kernel
theorem dX2_addSource_40 : decode cX2_addSource 40 = .ok (.return_, 1) := by decide +kernel
theorem dX2_countSources_0 : decode cX2_countSources 0 = .ok (.iconst 0, 1) := by decide +kernel
theorem dX2_countSources_1 : decode cX2_countSources 1 = .ok (.istore_n 2, 1) := by decide +kernel
theorem dX2_countSources_2 : decode cX2_countSources 2 = .ok (.iconst 0, 1) := by decide +kernel
theorem dX2_countSources_3 : decode cX2_countSources 3 = .ok (.istore_n 3, 1) := by decide +kernel
theorem dX2_countSources_4 : decode cX2_countSources 4 = .ok (.iload_n 3, 1) := by decide +kernel
theorem dX2_countSources_5 : decode cX2_countSources 5 = .ok (.aload_n 0, 1) := by decide +kernel
theorem dX2_countSources_6 : decode cX2_countSources 6 = .ok (.getfield 9, 3) := by decide +kernel
theorem dX2_countSources_9 : decode cX2_countSources 9 = .ok (.if_icmp .ge 22, 3) := by decide +kernel
theorem dX2_countSources_12 : decode cX2_countSources 12 = .ok (.aload_n 0, 1) := by decide +kernel
theorem dX2_countSources_13 : decode cX2_countSources 13 = .ok (.getfield 15, 3) := by decide +kernel
theorem dX2_countSources_16 : decode cX2_countSources 16 = .ok (.iload_n 3, 1) := by decide +kernel
theorem dX2_countSources_17 : decode cX2_countSources 17 = .ok (.iaload, 1) := by decide +kernel
theorem dX2_countSources_18 : decode cX2_countSources 18 = .ok (.iload_n 1, 1) := by decide +kernel
theorem dX2_countSources_19 : decode cX2_countSources 19 = .ok (.if_icmp .ne 6, 3) := by decide +kernel
theorem dX2_countSources_22 : decode cX2_countSources 22 = .ok (.iinc 2 1, 3) := by decide +kernel
theorem dX2_countSources_25 : decode cX2_countSources 25 = .ok (.iinc 3 1, 3) := by decide +kernel
theorem dX2_countSources_28 : decode cX2_countSources 28 = .ok (.goto (-24), 3) := by decide +kernel
theorem dX2_countSources_31 : decode cX2_countSources 31 = .ok (.iload_n 2, 1) := by decide +kernel
theorem dX2_countSources_32 : decode cX2_countSources 32 = .ok (.ireturn, 1) := by decide +kernel
set_option maxRecDepth 20000 in
theorem ggX2_linkVersion_X4_latestVersion : GoodIn wsX2_linkVersion wsX4_latestVersion := goodIn_r _ [9, 10, 32, 33, 34, 35, 36, 37] (by decide +kernel) (by decide +kernel)
set_option maxRecDepth 20000 in
theorem gX2_linkVersion_X4_latestVersion : GoodIn wsX2_linkVersion (wsV RX2 41 RX4 yX4_latestVersion wsX4_latestVersion) := goodIn_app (goodIn_of _ (by decide +kernel)) ggX2_linkVersion_X4_latestVersion
set_option maxRecDepth 20000 in
theorem ggX2_linkVersion_X5_placeAt : GoodIn wsX2_linkVersion wsX5_placeAt := goodIn_r _ [13] (by decide +kernel) (by decide +kernel)
set_option maxRecDepth 20000 in
theorem gX2_linkVersion_X5_placeAt_n47 : GoodIn wsX2_linkVersion (wsX5_placeAt) := ggX2_linkVersion_X5_placeAt
set_option maxRecDepth 20000 in
theorem ggX2_linkVersion_X2_addLink : GoodIn wsX2_linkVersion wsX2_addLink := goodIn_r _ [18, 19, 20, 21, 22, 23, 24, 25, 26, 27, 28, 29, 30, 31] (by decide +kernel) (by decide +kernel)
set_option maxRecDepth 20000 in
theorem gX2_linkVersion_X2_addLink : GoodIn wsX2_linkVersion (wsV RX2 51 RX2 yX2_addLink wsX2_addLink) := goodIn_app (goodIn_of _ (by decide +kernel)) ggX2_linkVersion_X2_addLink
theorem dX2_linkVersion_0 : decode cX2_linkVersion 0 = .ok (.iconst 0, 1) := by decide +kernel
theorem dX2_linkVersion_1 : decode cX2_linkVersion 1 = .ok (.istore 4, 2) := by decide +kernel
theorem dX2_linkVersion_3 : decode cX2_linkVersion 3 = .ok (.iload 4, 2) := by decide +kernel
theorem dX2_linkVersion_5 : decode cX2_linkVersion 5 = .ok (.aload_n 0, 1) := by decide +kernel
theorem dX2_linkVersion_6 : decode cX2_linkVersion 6 = .ok (.getfield 9, 3) := by decide +kernel
theorem dX2_linkVersion_9 : decode cX2_linkVersion 9 = .ok (.if_icmp .ge 90, 3) := by decide +kernel
theorem dX2_linkVersion_12 : decode cX2_linkVersion 12 = .ok (.aload_n 0, 1) := by decide +kernel
theorem dX2_linkVersion_13 : decode cX2_linkVersion 13 = .ok (.getfield 15, 3) := by decide +kernel
theorem dX2_linkVersion_16 : decode cX2_linkVersion 16 = .ok (.iload 4, 2) := by decide +kernel
theorem dX2_linkVersion_18 : decode cX2_linkVersion 18 = .ok (.iaload, 1) := by decide +kernel
theorem dX2_linkVersion_19 : decode cX2_linkVersion 19 = .ok (.istore 5, 2) := by decide +kernel
theorem dX2_linkVersion_21 : decode cX2_linkVersion 21 = .ok (.aload_n 0, 1) := by decide +kernel
theorem dX2_linkVersion_22 : decode cX2_linkVersion 22 = .ok (.getfield 19, 3) := by decide +kernel
theorem dX2_linkVersion_25 : decode cX2_linkVersion 25 = .ok (.iload 4, 2) := by decide +kernel
theorem dX2_linkVersion_27 : decode cX2_linkVersion 27 = .ok (.iaload, 1) := by decide +kernel
theorem dX2_linkVersion_28 : decode cX2_linkVersion 28 = .ok (.istore 6, 2) := by decide +kernel
theorem dX2_linkVersion_30 : decode cX2_linkVersion 30 = .ok (.iload 6, 2) := by decide +kernel
theorem dX2_linkVersion_32 : decode cX2_linkVersion 32 = .ok (.bipush 6, 2) := by decide +kernel
theorem dX2_linkVersion_34 : decode cX2_linkVersion 34 = .ok (.idiv, 1) := by decide +kernel
theorem dX2_linkVersion_35 : decode cX2_linkVersion 35 = .ok (.istore 7, 2) := by decide +kernel
theorem dX2_linkVersion_37 : decode cX2_linkVersion 37 = .ok (.aload_n 1, 1) := by decide +kernel
theorem dX2_linkVersion_38 : decode cX2_linkVersion 38 = .ok (.iload 7, 2) := by decide +kernel
theorem dX2_linkVersion_40 : decode cX2_linkVersion 40 = .ok (.invokevirtual 41, 3) := by decide +kernel
theorem dX2_linkVersion_43 : decode cX2_linkVersion 43 = .ok (.istore 8, 2) := by decide +kernel
theorem dX2_linkVersion_45 : decode cX2_linkVersion 45 = .ok (.iload 5, 2) := by decide +kernel
theorem dX2_linkVersion_47 : decode cX2_linkVersion 47 = .ok (.bipush 6, 2) := by decide +kernel
theorem dX2_linkVersion_49 : decode cX2_linkVersion 49 = .ok (.idiv, 1) := by decide +kernel
theorem dX2_linkVersion_50 : decode cX2_linkVersion 50 = .ok (.iload_n 2, 1) := by decide +kernel
theorem dX2_linkVersion_51 : decode cX2_linkVersion 51 = .ok (.if_icmp .ne 42, 3) := by decide +kernel
theorem dX2_linkVersion_54 : decode cX2_linkVersion 54 = .ok (.iload 8, 2) := by decide +kernel
theorem dX2_linkVersion_56 : decode cX2_linkVersion 56 = .ok (.iconst (-1), 1) := by decide +kernel
theorem dX2_linkVersion_57 : decode cX2_linkVersion 57 = .ok (.if_icmp .eq 36, 3) := by decide +kernel
theorem dX2_linkVersion_60 : decode cX2_linkVersion 60 = .ok (.aload_n 0, 1) := by decide +kernel
theorem dX2_linkVersion_61 : decode cX2_linkVersion 61 = .ok (.iload_n 2, 1) := by decide +kernel
theorem dX2_linkVersion_62 : decode cX2_linkVersion 62 = .ok (.iload_n 3, 1) := by decide +kernel
theorem dX2_linkVersion_63 : decode cX2_linkVersion 63 = .ok (.iload 5, 2) := by decide +kernel
theorem dX2_linkVersion_65 : decode cX2_linkVersion 65 = .ok (.bipush 6, 2) := by decide +kernel
theorem dX2_linkVersion_67 : decode cX2_linkVersion 67 = .ok (.irem, 1) := by decide +kernel
theorem dX2_linkVersion_68 : decode cX2_linkVersion 68 = .ok (.invokestatic 47, 3) := by decide +kernel
theorem dX2_linkVersion_71 : decode cX2_linkVersion 71 = .ok (.iload 7, 2) := by decide +kernel
theorem dX2_linkVersion_73 : decode cX2_linkVersion 73 = .ok (.iload 8, 2) := by decide +kernel
theorem dX2_linkVersion_75 : decode cX2_linkVersion 75 = .ok (.iload 6, 2) := by decide +kernel
theorem dX2_linkVersion_77 : decode cX2_linkVersion 77 = .ok (.bipush 6, 2) := by decide +kernel
theorem dX2_linkVersion_79 : decode cX2_linkVersion 79 = .ok (.irem, 1) := by decide +kernel
theorem dX2_linkVersion_80 : decode cX2_linkVersion 80 = .ok (.invokestatic 47, 3) := by decide +kernel
theorem dX2_linkVersion_83 : decode cX2_linkVersion 83 = .ok (.aload_n 0, 1) := by decide +kernel
theorem dX2_linkVersion_84 : decode cX2_linkVersion 84 = .ok (.getfield 22, 3) := by decide +kernel
theorem dX2_linkVersion_87 : decode cX2_linkVersion 87 = .ok (.iload 4, 2) := by decide +kernel
theorem dX2_linkVersion_89 : decode cX2_linkVersion 89 = .ok (.iaload, 1) := by decide +kernel
theorem dX2_linkVersion_90 : decode cX2_linkVersion 90 = .ok (.invokevirtual 51, 3) := by decide +kernel
theorem dX2_linkVersion_93 : decode cX2_linkVersion 93 = .ok (.iinc 4 1, 3) := by decide +kernel
theorem dX2_linkVersion_96 : decode cX2_linkVersion 96 = .ok (.goto (-93), 3) := by decide +kernel
theorem dX2_linkVersion_99 : decode cX2_linkVersion 99 = .ok (.return_, 1) := by decide +kernel
theorem dX2_addLink_0 : decode cX2_addLink 0 = .ok (.aload_n 0, 1) := by decide +kernel
theorem dX2_addLink_1 : decode cX2_addLink 1 = .ok (.getfield 25, 3) := by decide +kernel
theorem dX2_addLink_4 : decode cX2_addLink 4 = .ok (.bipush 120, 2) := by decide +kernel
theorem dX2_addLink_6 : decode cX2_addLink 6 = .ok (.if_icmp .ge 43, 3) := by decide +kernel
theorem dX2_addLink_9 : decode cX2_addLink 9 = .ok (.aload_n 0, 1) := by decide +kernel
theorem dX2_addLink_10 : decode cX2_addLink 10 = .ok (.getfield 28, 3) := by decide +kernel
theorem dX2_addLink_13 : decode cX2_addLink 13 = .ok (.aload_n 0, 1) := by decide +kernel
theorem dX2_addLink_14 : decode cX2_addLink 14 = .ok (.getfield 25, 3) := by decide +kernel
theorem dX2_addLink_17 : decode cX2_addLink 17 = .ok (.iload_n 1, 1) := by decide +kernel
theorem dX2_addLink_18 : decode cX2_addLink 18 = .ok (.iastore, 1) := by decide +kernel
theorem dX2_addLink_19 : decode cX2_addLink 19 = .ok (.aload_n 0, 1) := by decide +kernel
theorem dX2_addLink_20 : decode cX2_addLink 20 = .ok (.getfield 31, 3) := by decide +kernel
theorem dX2_addLink_23 : decode cX2_addLink 23 = .ok (.aload_n 0, 1) := by decide +kernel
theorem dX2_addLink_24 : decode cX2_addLink 24 = .ok (.getfield 25, 3) := by decide +kernel
theorem dX2_addLink_27 : decode cX2_addLink 27 = .ok (.iload_n 2, 1) := by decide +kernel
theorem dX2_addLink_28 : decode cX2_addLink 28 = .ok (.iastore, 1) := by decide +kernel
theorem dX2_addLink_29 : decode cX2_addLink 29 = .ok (.aload_n 0, 1) := by decide +kernel
theorem dX2_addLink_30 : decode cX2_addLink 30 = .ok (.getfield 34, 3) := by decide +kernel
theorem dX2_addLink_33 : decode cX2_addLink 33 = .ok (.aload_n 0, 1) := by decide +kernel
theorem dX2_addLink_34 : decode cX2_addLink 34 = .ok (.getfield 25, 3) := by decide +kernel
theorem dX2_addLink_37 : decode cX2_addLink 37 = .ok (.iload_n 3, 1) := by decide +kernel
theorem dX2_addLink_38 : decode cX2_addLink 38 = .ok (.iastore, 1) := by decide +kernel
theorem dX2_addLink_39 : decode cX2_addLink 39 = .ok (.aload_n 0, 1) := by decide +kernel
theorem dX2_addLink_40 : decode cX2_addLink 40 = .ok (.dup, 1) := by decide +kernel
theorem dX2_addLink_41 : decode cX2_addLink 41 = .ok (.getfield 25, 3) := by decide +kernel
theorem dX2_addLink_44 : decode cX2_addLink 44 = .ok (.iconst 1, 1) := by decide +kernel
theorem dX2_addLink_45 : decode cX2_addLink 45 = .ok (.iadd, 1) := by decide +kernel
theorem dX2_addLink_46 : decode cX2_addLink 46 = .ok (.putfield 25, 3) := by decide +kernel
theorem dX2_addLink_49 : decode cX2_addLink 49 = .ok (.return_, 1) := by decide +kernel
theorem dX2_carry_0 : decode cX2_carry 0 = .ok (.iconst 0, 1) := by decide +kernel
theorem dX2_carry_1 : decode cX2_carry 1 = .ok (.istore_n 2, 1) := by decide +kernel
theorem dX2_carry_2 : decode cX2_carry 2 = .ok (.iload_n 2, 1) := by decide +kernel
theorem dX2_carry_3 : decode cX2_carry 3 = .ok (.aload_n 0, 1) := by decide +kernel
theorem dX2_carry_4 : decode cX2_carry 4 = .ok (.getfield 25, 3) := by decide +kernel
theorem dX2_carry_7 : decode cX2_carry 7 = .ok (.if_icmp .ge 47, 3) := by decide +kernel
theorem dX2_carry_10 : decode cX2_carry 10 = .ok (.aload_n 0, 1) := by decide +kernel
theorem dX2_carry_11 : decode cX2_carry 11 = .ok (.getfield 28, 3) := by decide +kernel
theorem dX2_carry_14 : decode cX2_carry 14 = .ok (.iload_n 2, 1) := by decide +kernel
theorem dX2_carry_15 : decode cX2_carry 15 = .ok (.iaload, 1) := by decide +kernel
theorem dX2_carry_16 : decode cX2_carry 16 = .ok (.istore_n 3, 1) := by decide +kernel
theorem dX2_carry_17 : decode cX2_carry 17 = .ok (.aload_n 1, 1) := by decide +kernel
theorem dX2_carry_18 : decode cX2_carry 18 = .ok (.aload_n 0, 1) := by decide +kernel
theorem dX2_carry_19 : decode cX2_carry 19 = .ok (.getfield 31, 3) := by decide +kernel
theorem dX2_carry_22 : decode cX2_carry 22 = .ok (.iload_n 2, 1) := by decide +kernel
theorem dX2_carry_23 : decode cX2_carry 23 = .ok (.iaload, 1) := by decide +kernel
theorem dX2_carry_24 : decode cX2_carry 24 = .ok (.iaload, 1) := by decide +kernel
theorem dX2_carry_25 : decode cX2_carry 25 = .ok (.aload_n 0, 1) := by decide +kernel
theorem dX2_carry_26 : decode cX2_carry 26 = .ok (.getfield 34, 3) := by decide +kernel
theorem dX2_carry_29 : decode cX2_carry 29 = .ok (.iload_n 2, 1) := by decide +kernel
theorem dX2_carry_30 : decode cX2_carry 30 = .ok (.iaload, 1) := by decide +kernel
theorem dX2_carry_31 : decode cX2_carry 31 = .ok (.imul, 1) := by decide +kernel
theorem dX2_carry_32 : decode cX2_carry 32 = .ok (.bipush 100, 2) := by decide +kernel
theorem dX2_carry_34 : decode cX2_carry 34 = .ok (.idiv, 1) := by decide +kernel
theorem dX2_carry_35 : decode cX2_carry 35 = .ok (.istore 4, 2) := by decide +kernel
theorem dX2_carry_37 : decode cX2_carry 37 = .ok (.aload_n 1, 1) := by decide +kernel
theorem dX2_carry_38 : decode cX2_carry 38 = .ok (.iload_n 3, 1) := by decide +kernel
theorem dX2_carry_39 : decode cX2_carry 39 = .ok (.aload_n 1, 1) := by decide +kernel
theorem dX2_carry_40 : decode cX2_carry 40 = .ok (.iload_n 3, 1) := by decide +kernel
theorem dX2_carry_41 : decode cX2_carry 41 = .ok (.iaload, 1) := by decide +kernel
theorem dX2_carry_42 : decode cX2_carry 42 = .ok (.iload 4, 2) := by decide +kernel
theorem dX2_carry_44 : decode cX2_carry 44 = .ok (.invokestatic 55, 3) := by decide +kernel
theorem dX2_carry_47 : decode cX2_carry 47 = .ok (.iastore, 1) := by decide +kernel
theorem dX2_carry_48 : decode cX2_carry 48 = .ok (.iinc 2 1, 3) := by decide +kernel
theorem dX2_carry_51 : decode cX2_carry 51 = .ok (.goto (-49), 3) := by decide +kernel
theorem dX2_carry_54 : decode cX2_carry 54 = .ok (.return_, 1) := by decide +kernel
theorem dX3_init_0 : decode cX3_init 0 = .ok (.aload_n 0, 1) := by decide +kernel
theorem dX3_init_1 : decode cX3_init 1 = .ok (.invokespecial 3, 3) := by decide +kernel
theorem dX3_init_4 : decode cX3_init 4 = .ok (.aload_n 0, 1) := by decide +kernel
theorem dX3_init_5 : decode cX3_init 5 = .ok (.iconst 0, 1) := by decide +kernel
theorem dX3_init_6 : decode cX3_init 6 = .ok (.putfield 9, 3) := by decide +kernel
theorem dX3_init_9 : decode cX3_init 9 = .ok (.aload_n 0, 1) := by decide +kernel
theorem dX3_init_10 : decode cX3_init 10 = .ok (.bipush 40, 2) := by decide +kernel
theorem dX3_init_12 : decode cX3_init 12 = .ok (.newarray .int, 2) := by decide +kernel
theorem dX3_init_14 : decode cX3_init 14 = .ok (.putfield 15, 3) := by decide +kernel
theorem dX3_init_17 : decode cX3_init 17 = .ok (.aload_n 0, 1) := by decide +kernel
theorem dX3_init_18 : decode cX3_init 18 = .ok (.bipush 40, 2) := by decide +kernel
theorem dX3_init_20 : decode cX3_init 20 = .ok (.newarray .int, 2) := by decide +kernel
theorem dX3_init_22 : decode cX3_init 22 = .ok (.putfield 19, 3) := by decide +kernel
theorem dX3_init_25 : decode cX3_init 25 = .ok (.aload_n 0, 1) := by decide +kernel
theorem dX3_init_26 : decode cX3_init 26 = .ok (.bipush 40, 2) := by decide +kernel
theorem dX3_init_28 : decode cX3_init 28 = .ok (.newarray .int, 2) := by decide +kernel
theorem dX3_init_30 : decode cX3_init 30 = .ok (.putfield 22, 3) := by decide +kernel
theorem dX3_init_33 : decode cX3_init 33 = .ok (.aload_n 0, 1) := by decide +kernel
theorem dX3_init_34 : decode cX3_init 34 = .ok (.bipush 40, 2) := by decide +kernel
theorem dX3_init_36 : decode cX3_init 36 = .ok (.newarray .int, 2) := by decide +kernel
theorem dX3_init_38 : decode cX3_init 38 = .ok (.putfield 25, 3) := by decide +kernel
theorem dX3_init_41 : decode cX3_init 41 = .ok (.aload_n 0, 1) := by decide +kernel
theorem dX3_init_42 : decode cX3_init 42 = .ok (.bipush 40, 2) := by decide +kernel
theorem dX3_init_44 : decode cX3_init 44 = .ok (.newarray .int, 2) := by decide +kernel
theorem dX3_init_46 : decode cX3_init 46 = .ok (.putfield 28, 3) := by decide +kernel
theorem dX3_init_49 : decode cX3_init 49 = .ok (.aload_n 0, 1) := by decide +kernel
theorem dX3_init_50 : decode cX3_init 50 = .ok (.bipush 40, 2) := by decide +kernel
theorem dX3_init_52 : decode cX3_init 52 = .ok (.newarray .int, 2) := by decide +kernel
theorem dX3_init_54 : decode cX3_init 54 = .ok (.putfield 31, 3) := by decide +kernel
theorem dX3_init_57 : decode cX3_init 57 = .ok (.aload_n 0, 1) := by decide +kernel
theorem dX3_init_58 : decode cX3_init 58 = .ok (.bipush 40, 2) := by decide +kernel
theorem dX3_init_60 : decode cX3_init 60 = .ok (.newarray .int, 2) := by decide +kernel
theorem dX3_init_62 : decode cX3_init 62 = .ok (.putfield 34, 3) := by decide +kernel
theorem dX3_init_65 : decode cX3_init 65 = .ok (.aload_n 0, 1) := by decide +kernel
theorem dX3_init_66 : decode cX3_init 66 = .ok (.bipush 40, 2) := by decide +kernel
theorem dX3_init_68 : decode cX3_init 68 = .ok (.newarray .int, 2) := by decide +kernel
theorem dX3_init_70 : decode cX3_init 70 = .ok (.putfield 37, 3) := by decide +kernel
theorem dX3_init_73 : decode cX3_init 73 = .ok (.aload_n 0, 1) := by decide +kernel
theorem dX3_init_74 : decode cX3_init 74 = .ok (.bipush 40, 2) := by decide +kernel
theorem dX3_init_76 : decode cX3_init 76 = .ok (.newarray .int, 2) := by decide +kernel
theorem dX3_init_78 : decode cX3_init 78 = .ok (.putfield 40, 3) := by decide +kernel
theorem dX3_init_81 : decode cX3_init 81 = .ok (.aload_n 0, 1) := by decide +kernel
theorem dX3_init_82 : decode cX3_init 82 = .ok (.sipush 240, 3) := by decide +kernel
theorem dX3_init_85 : decode cX3_init 85 = .ok (.newarray .int, 2) := by decide +kernel
theorem dX3_init_87 : decode cX3_init 87 = .ok (.putfield 43, 3) := by decide +kernel
theorem dX3_init_90 : decode cX3_init 90 = .ok (.return_, 1) := by decide +kernel
set_option maxRecDepth 20000 in
theorem ggX3_add_X3_tier : GoodIn wsX3_add wsX3_tier := goodIn_r _ [14, 15, 16, 17, 13, 18, 1, 3, 9, 19, 20, 21, 22, 7, 6, 23, 24, 25, 26, 27, 28, 29, 30, 31, 32, 33, 34, 35, 36, 37, 38, 39, 40] (by decide +kernel) (by decide +kernel)
set_option maxRecDepth 20000 in
theorem gX3_add_X3_tier : GoodIn wsX3_add (wsV RX3 46 RX3 yX3_tier wsX3_tier) := goodIn_app (goodIn_of _ (by decide +kernel)) ggX3_add_X3_tier
theorem dX3_add_0 : decode cX3_add 0 = .ok (.aload_n 0, 1) := by decide +kernel
theorem dX3_add_1 : decode cX3_add 1 = .ok (.getfield 9, 3) := by decide +kernel
theorem dX3_add_4 : decode cX3_add 4 = .ok (.istore 8, 2) := by decide +kernel
theorem dX3_add_6 : decode cX3_add 6 = .ok (.aload_n 0, 1) := by decide +kernel
theorem dX3_add_7 : decode cX3_add 7 = .ok (.getfield 37, 3) := by decide +kernel
theorem dX3_add_10 : decode cX3_add 10 = .ok (.iload 8, 2) := by decide +kernel
theorem dX3_add_12 : decode cX3_add 12 = .ok (.aload_n 0, 1) := by decide +kernel
theorem dX3_add_13 : decode cX3_add 13 = .ok (.iload_n 1, 1) := by decide +kernel
theorem dX3_add_14 : decode cX3_add 14 = .ok (.iload 7, 2) := by decide +kernel
theorem dX3_add_16 : decode cX3_add 16 = .ok (.invokevirtual 46, 3) := by decide +kernel
theorem dX3_add_19 : decode cX3_add 19 = .ok (.iastore, 1) := by decide +kernel
theorem dX3_add_20 : decode cX3_add 20 = .ok (.aload_n 0, 1) := by decide +kernel
theorem dX3_add_21 : decode cX3_add 21 = .ok (.getfield 15, 3) := by decide +kernel
theorem dX3_add_24 : decode cX3_add 24 = .ok (.iload 8, 2) := by decide +kernel
theorem dX3_add_26 : decode cX3_add 26 = .ok (.iload_n 1, 1) := by decide +kernel
theorem dX3_add_27 : decode cX3_add 27 = .ok (.iastore, 1) := by decide +kernel
theorem dX3_add_28 : decode cX3_add 28 = .ok (.aload_n 0, 1) := by decide +kernel
theorem dX3_add_29 : decode cX3_add 29 = .ok (.getfield 19, 3) := by decide +kernel
theorem dX3_add_32 : decode cX3_add 32 = .ok (.iload 8, 2) := by decide +kernel
theorem dX3_add_34 : decode cX3_add 34 = .ok (.iload_n 2, 1) := by decide +kernel
theorem dX3_add_35 : decode cX3_add 35 = .ok (.iastore, 1) := by decide +kernel
theorem dX3_add_36 : decode cX3_add 36 = .ok (.aload_n 0, 1) := by decide +kernel
theorem dX3_add_37 : decode cX3_add 37 = .ok (.getfield 22, 3) := by decide +kernel
theorem dX3_add_40 : decode cX3_add 40 = .ok (.iload 8, 2) := by decide +kernel
theorem dX3_add_42 : decode cX3_add 42 = .ok (.iload_n 3, 1) := by decide +kernel
theorem dX3_add_43 : decode cX3_add 43 = .ok (.iastore, 1) := by decide +kernel
theorem dX3_add_44 : decode cX3_add 44 = .ok (.aload_n 0, 1) := by decide +kernel
theorem dX3_add_45 : decode cX3_add 45 = .ok (.getfield 25, 3) := by decide +kernel
theorem dX3_add_48 : decode cX3_add 48 = .ok (.iload 8, 2) := by decide +kernel
theorem dX3_add_50 : decode cX3_add 50 = .ok (.iload 4, 2) := by decide +kernel
theorem dX3_add_52 : decode cX3_add 52 = .ok (.iastore, 1) := by decide +kernel
theorem dX3_add_53 : decode cX3_add 53 = .ok (.aload_n 0, 1) := by decide +kernel
theorem dX3_add_54 : decode cX3_add 54 = .ok (.getfield 28, 3) := by decide +kernel
theorem dX3_add_57 : decode cX3_add 57 = .ok (.iload 8, 2) := by decide +kernel
theorem dX3_add_59 : decode cX3_add 59 = .ok (.iload 5, 2) := by decide +kernel
theorem dX3_add_61 : decode cX3_add 61 = .ok (.iastore, 1) := by decide +kernel
theorem dX3_add_62 : decode cX3_add 62 = .ok (.aload_n 0, 1) := by decide +kernel
theorem dX3_add_63 : decode cX3_add 63 = .ok (.getfield 31, 3) := by decide +kernel
theorem dX3_add_66 : decode cX3_add 66 = .ok (.iload 8, 2) := by decide +kernel
theorem dX3_add_68 : decode cX3_add 68 = .ok (.iload 6, 2) := by decide +kernel
theorem dX3_add_70 : decode cX3_add 70 = .ok (.iastore, 1) := by decide +kernel
theorem dX3_add_71 : decode cX3_add 71 = .ok (.aload_n 0, 1) := by decide +kernel
theorem dX3_add_72 : decode cX3_add 72 = .ok (.getfield 34, 3) := by decide +kernel
theorem dX3_add_75 : decode cX3_add 75 = .ok (.iload 8, 2) := by decide +kernel
theorem dX3_add_77 : decode cX3_add 77 = .ok (.iload 7, 2) := by decide +kernel
theorem dX3_add_79 : decode cX3_add 79 = .ok (.iastore, 1) := by decide +kernel
theorem dX3_add_80 : decode cX3_add 80 = .ok (.aload_n 0, 1) := by decide +kernel
theorem dX3_add_81 : decode cX3_add 81 = .ok (.dup, 1) := by decide +kernel
theorem dX3_add_82 : decode cX3_add 82 = .ok (.getfield 9, 3) := by decide +kernel
theorem dX3_add_85 : decode cX3_add 85 = .ok (.iconst 1, 1) := by decide +kernel
theorem dX3_add_86 : decode cX3_add 86 = .ok (.iadd, 1) := by decide +kernel
theorem dX3_add_87 : decode cX3_add 87 = .ok (.putfield 9, 3) := by decide +kernel
theorem dX3_add_90 : decode cX3_add 90 = .ok (.iload 8, 2) := by decide +kernel
theorem dX3_add_92 : decode cX3_add 92 = .ok (.ireturn, 1) := by decide +kernel
set_option maxRecDepth 20000 in
theorem ggX3_tier_X3_unitsInPeriod : GoodIn wsX3_tier wsX3_unitsInPeriod := goodIn_r _ [5, 6, 7, 8, 9, 10, 11, 4, 12, 13, 14, 15, 16, 17, 18, 19, 20, 21, 22, 23, 24, 25, 26, 27, 28, 29, 30, 31, 32] (by decide +kernel) (by decide +kernel)
set_option maxRecDepth 20000 in
theorem gX3_tier_X3_unitsInPeriod : GoodIn wsX3_tier (wsV RX3 50 RX3 yX3_unitsInPeriod wsX3_unitsInPeriod) := goodIn_app (goodIn_of _ (by decide +kernel)) ggX3_tier_X3_unitsInPeriod
theorem dX3_tier_0 : decode cX3_tier 0 = .ok (.aload_n 0, 1) := by decide +kernel
theorem dX3_tier_1 : decode cX3_tier 1 = .ok (.iload_n 1, 1) := by decide +kernel
theorem dX3_tier_2 : decode cX3_tier 2 = .ok (.iload_n 2, 1) := by decide +kernel
theorem dX3_tier_3 : decode cX3_tier 3 = .ok (.invokevirtual 50, 3) := by decide +kernel
theorem dX3_tier_6 : decode cX3_tier 6 = .ok (.istore_n 3, 1) := by decide +kernel
theorem dX3_tier_7 : decode cX3_tier 7 = .ok (.iload_n 3, 1) := by decide +kernel
theorem dX3_tier_8 : decode cX3_tier 8 = .ok (.sipush 20000, 3) := by decide +kernel
theorem dX3_tier_11 : decode cX3_tier 11 = .ok (.if_icmp .lt 5, 3) := by decide +kernel
theorem dX3_tier_14 : decode cX3_tier 14 = .ok (.iconst 2, 1) := by decide +kernel
theorem dX3_tier_15 : decode cX3_tier 15 = .ok (.ireturn, 1) := by decide +kernel
theorem dX3_tier_16 : decode cX3_tier 16 = .ok (.iload_n 3, 1) := by decide +kernel
theorem dX3_tier_17 : decode cX3_tier 17 = .ok (.sipush 5000, 3) := by decide +kernel
theorem dX3_tier_20 : decode cX3_tier 20 = .ok (.if_icmp .lt 7, 3) := by decide +kernel
theorem dX3_tier_23 : decode cX3_tier 23 = .ok (.iconst 3, 1) := by decide +kernel
theorem dX3_tier_24 : decode cX3_tier 24 = .ok (.goto 4, 3) := by decide +kernel
theorem dX3_tier_27 : decode cX3_tier 27 = .ok (.iconst 4, 1) := by decide +kernel
theorem dX3_tier_28 : decode cX3_tier 28 = .ok (.ireturn, 1) := by decide +kernel
set_option maxRecDepth 20000 in
theorem ggX3_unitsOf_J6_bitCount_0f7a4 : GoodIn wsX3_unitsOf wsJ6_bitCount_0f7a4 := goodIn_r _ [6, 7, 8, 9] (by decide +kernel) (by decide +kernel)
set_option maxRecDepth 20000 in
theorem gX3_unitsOf_J6_bitCount_0f7a4 : GoodIn wsX3_unitsOf (va_wsS RX3 53 yJ6_bitCount_0f7a4 wsJ6_bitCount_0f7a4) := goodIn_app (goodIn_of _ (by decide +kernel)) ggX3_unitsOf_J6_bitCount_0f7a4
theorem dX3_unitsOf_0 : decode cX3_unitsOf 0 = .ok (.aload_n 0, 1) := by decide +kernel
theorem dX3_unitsOf_1 : decode cX3_unitsOf 1 = .ok (.getfield 28, 3) := by decide +kernel
theorem dX3_unitsOf_4 : decode cX3_unitsOf 4 = .ok (.iload_n 1, 1) := by decide +kernel
theorem dX3_unitsOf_5 : decode cX3_unitsOf 5 = .ok (.iaload, 1) := by decide +kernel
theorem dX3_unitsOf_6 : decode cX3_unitsOf 6 = .ok (.aload_n 0, 1) := by decide +kernel
theorem dX3_unitsOf_7 : decode cX3_unitsOf 7 = .ok (.getfield 25, 3) := by decide +kernel
theorem dX3_unitsOf_10 : decode cX3_unitsOf 10 = .ok (.iload_n 1, 1) := by decide +kernel
theorem dX3_unitsOf_11 : decode cX3_unitsOf 11 = .ok (.iaload, 1) := by decide +kernel
theorem dX3_unitsOf_12 : decode cX3_unitsOf 12 = .ok (.invokestatic 53, 3) := by decide +kernel
theorem dX3_unitsOf_15 : decode cX3_unitsOf 15 = .ok (.imul, 1) := by decide +kernel
theorem dX3_unitsOf_16 : decode cX3_unitsOf 16 = .ok (.ireturn, 1) := by decide +kernel
set_option maxRecDepth 20000 in
theorem ggX3_unitsInPeriod_X3_unitsOf : GoodIn wsX3_unitsInPeriod wsX3_unitsOf := goodIn_r _ [8, 9, 10, 11, 12, 13, 14, 15, 16, 17, 18, 19, 20, 21, 22, 23, 24, 25, 26, 27, 28] (by decide +kernel) (by decide +kernel)
set_option maxRecDepth 20000 in
theorem gX3_unitsInPeriod_X3_unitsOf : GoodIn wsX3_unitsInPeriod (wsV RX3 59 RX3 yX3_unitsOf wsX3_unitsOf) := goodIn_app (goodIn_of _ (by decide +kernel)) ggX3_unitsInPeriod_X3_unitsOf
theorem dX3_unitsInPeriod_0 : decode cX3_unitsInPeriod 0 = .ok (.iconst 0, 1) := by decide +kernel
theorem dX3_unitsInPeriod_1 : decode cX3_unitsInPeriod 1 = .ok (.istore_n 3, 1) := by decide +kernel
theorem dX3_unitsInPeriod_2 : decode cX3_unitsInPeriod 2 = .ok (.iconst 0, 1) := by decide +kernel
theorem dX3_unitsInPeriod_3 : decode cX3_unitsInPeriod 3 = .ok (.istore 4, 2) := by decide +kernel
theorem dX3_unitsInPeriod_5 : decode cX3_unitsInPeriod 5 = .ok (.iload 4, 2) := by decide +kernel
theorem dX3_unitsInPeriod_7 : decode cX3_unitsInPeriod 7 = .ok (.aload_n 0, 1) := by decide +kernel
theorem dX3_unitsInPeriod_8 : decode cX3_unitsInPeriod 8 = .ok (.getfield 9, 3) := by decide +kernel
theorem dX3_unitsInPeriod_11 : decode cX3_unitsInPeriod 11 = .ok (.if_icmp .ge 46, 3) := by decide +kernel
theorem dX3_unitsInPeriod_14 : decode cX3_unitsInPeriod 14 = .ok (.aload_n 0, 1) := by decide +kernel
theorem dX3_unitsInPeriod_15 : decode cX3_unitsInPeriod 15 = .ok (.getfield 15, 3) := by decide +kernel
theorem dX3_unitsInPeriod_18 : decode cX3_unitsInPeriod 18 = .ok (.iload 4, 2) := by decide +kernel
theorem dX3_unitsInPeriod_20 : decode cX3_unitsInPeriod 20 = .ok (.iaload, 1) := by decide +kernel
theorem dX3_unitsInPeriod_21 : decode cX3_unitsInPeriod 21 = .ok (.iload_n 1, 1) := by decide +kernel
theorem dX3_unitsInPeriod_22 : decode cX3_unitsInPeriod 22 = .ok (.if_icmp .ne 29, 3) := by decide +kernel
theorem dX3_unitsInPeriod_25 : decode cX3_unitsInPeriod 25 = .ok (.aload_n 0, 1) := by decide +kernel
theorem dX3_unitsInPeriod_26 : decode cX3_unitsInPeriod 26 = .ok (.getfield 34, 3) := by decide +kernel
theorem dX3_unitsInPeriod_29 : decode cX3_unitsInPeriod 29 = .ok (.iload 4, 2) := by decide +kernel
theorem dX3_unitsInPeriod_31 : decode cX3_unitsInPeriod 31 = .ok (.iaload, 1) := by decide +kernel
theorem dX3_unitsInPeriod_32 : decode cX3_unitsInPeriod 32 = .ok (.bipush 30, 2) := by decide +kernel
theorem dX3_unitsInPeriod_34 : decode cX3_unitsInPeriod 34 = .ok (.idiv, 1) := by decide +kernel
theorem dX3_unitsInPeriod_35 : decode cX3_unitsInPeriod 35 = .ok (.iload_n 2, 1) := by decide +kernel
theorem dX3_unitsInPeriod_36 : decode cX3_unitsInPeriod 36 = .ok (.bipush 30, 2) := by decide +kernel
theorem dX3_unitsInPeriod_38 : decode cX3_unitsInPeriod 38 = .ok (.idiv, 1) := by decide +kernel
theorem dX3_unitsInPeriod_39 : decode cX3_unitsInPeriod 39 = .ok (.if_icmp .ne 12, 3) := by decide +kernel
theorem dX3_unitsInPeriod_42 : decode cX3_unitsInPeriod 42 = .ok (.iload_n 3, 1) := by decide +kernel
theorem dX3_unitsInPeriod_43 : decode cX3_unitsInPeriod 43 = .ok (.aload_n 0, 1) := by decide +kernel
theorem dX3_unitsInPeriod_44 : decode cX3_unitsInPeriod 44 = .ok (.iload 4, 2) := by decide +kernel
theorem dX3_unitsInPeriod_46 : decode cX3_unitsInPeriod 46 = .ok (.invokevirtual 59, 3) := by decide +kernel
theorem dX3_unitsInPeriod_49 : decode cX3_unitsInPeriod 49 = .ok (.iadd, 1) := by decide +kernel
theorem dX3_unitsInPeriod_50 : decode cX3_unitsInPeriod 50 = .ok (.istore_n 3, 1) := by decide +kernel
theorem dX3_unitsInPeriod_51 : decode cX3_unitsInPeriod 51 = .ok (.iinc 4 1, 3) := by decide +kernel
theorem dX3_unitsInPeriod_54 : decode cX3_unitsInPeriod 54 = .ok (.goto (-49), 3) := by decide +kernel
theorem dX3_unitsInPeriod_57 : decode cX3_unitsInPeriod 57 = .ok (.iload_n 3, 1) := by decide +kernel
theorem dX3_unitsInPeriod_58 : decode cX3_unitsInPeriod 58 = .ok (.ireturn, 1) := by decide +kernel
set_option maxRecDepth 20000 in
theorem ggX3_chargeOf_X5_chargeAt : GoodIn wsX3_chargeOf wsX5_chargeAt := goodIn_r _ [4] (by decide +kernel) (by decide +kernel)
set_option maxRecDepth 20000 in
theorem gX3_chargeOf_X5_chargeAt_n62 : GoodIn wsX3_chargeOf (wsX5_chargeAt) := ggX3_chargeOf_X5_chargeAt
theorem dX3_chargeOf_0 : decode cX3_chargeOf 0 = .ok (.iconst 0, 1) := by decide +kernel
theorem dX3_chargeOf_1 : decode cX3_chargeOf 1 = .ok (.istore_n 2, 1) := by decide +kernel
theorem dX3_chargeOf_2 : decode cX3_chargeOf 2 = .ok (.iconst 0, 1) := by decide +kernel
theorem dX3_chargeOf_3 : decode cX3_chargeOf 3 = .ok (.istore_n 3, 1) := by decide +kernel
theorem dX3_chargeOf_4 : decode cX3_chargeOf 4 = .ok (.iload_n 3, 1) := by decide +kernel
theorem dX3_chargeOf_5 : decode cX3_chargeOf 5 = .ok (.bipush 6, 2) := by decide +kernel
theorem dX3_chargeOf_7 : decode cX3_chargeOf 7 = .ok (.if_icmp .ge 22, 3) := by decide +kernel
theorem dX3_chargeOf_10 : decode cX3_chargeOf 10 = .ok (.iload_n 2, 1) := by decide +kernel
theorem dX3_chargeOf_11 : decode cX3_chargeOf 11 = .ok (.aload_n 0, 1) := by decide +kernel
theorem dX3_chargeOf_12 : decode cX3_chargeOf 12 = .ok (.getfield 43, 3) := by decide +kernel
theorem dX3_chargeOf_15 : decode cX3_chargeOf 15 = .ok (.iload_n 1, 1) := by decide +kernel
theorem dX3_chargeOf_16 : decode cX3_chargeOf 16 = .ok (.iload_n 3, 1) := by decide +kernel
theorem dX3_chargeOf_17 : decode cX3_chargeOf 17 = .ok (.invokestatic 62, 3) := by decide +kernel
theorem dX3_chargeOf_20 : decode cX3_chargeOf 20 = .ok (.iaload, 1) := by decide +kernel
theorem dX3_chargeOf_21 : decode cX3_chargeOf 21 = .ok (.iadd, 1) := by decide +kernel
theorem dX3_chargeOf_22 : decode cX3_chargeOf 22 = .ok (.istore_n 2, 1) := by decide +kernel
theorem dX3_chargeOf_23 : decode cX3_chargeOf 23 = .ok (.iinc 3 1, 3) := by decide +kernel
theorem dX3_chargeOf_26 : decode cX3_chargeOf 26 = .ok (.goto (-22), 3) := by decide +kernel
theorem dX3_chargeOf_29 : decode cX3_chargeOf 29 = .ok (.iload_n 2, 1) := by decide +kernel
theorem dX3_chargeOf_30 : decode cX3_chargeOf 30 = .ok (.ireturn, 1) := by decide +kernel
set_option maxRecDepth 20000 in
theorem ggX3_creditOf_X5_placeAt : GoodIn wsX3_creditOf wsX5_placeAt := goodIn_r _ [6] (by decide +kernel) (by decide +kernel)
set_option maxRecDepth 20000 in
theorem gX3_creditOf_X5_placeAt_n65 : GoodIn wsX3_creditOf (wsX5_placeAt) := ggX3_creditOf_X5_placeAt
set_option maxRecDepth 20000 in
theorem ggX3_creditOf_X5_chargeAt : GoodIn wsX3_creditOf wsX5_chargeAt := goodIn_r _ [8] (by decide +kernel) (by decide +kernel)
set_option maxRecDepth 20000 in
theorem gX3_creditOf_X5_chargeAt_n62 : GoodIn wsX3_creditOf (wsX5_chargeAt) := ggX3_creditOf_X5_chargeAt
theorem dX3_creditOf_0 : decode cX3_creditOf 0 = .ok (.iconst 0, 1) := by decide +kernel
theorem dX3_creditOf_1 : decode cX3_creditOf 1 = .ok (.istore_n 3, 1) := by decide +kernel
theorem dX3_creditOf_2 : decode cX3_creditOf 2 = .ok (.iconst 0, 1) := by decide +kernel
theorem dX3_creditOf_3 : decode cX3_creditOf 3 = .ok (.istore 4, 2) := by decide +kernel
theorem dX3_creditOf_5 : decode cX3_creditOf 5 = .ok (.iload 4, 2) := by decide +kernel
theorem dX3_creditOf_7 : decode cX3_creditOf 7 = .ok (.bipush 6, 2) := by decide +kernel
theorem dX3_creditOf_9 : decode cX3_creditOf 9 = .ok (.if_icmp .ge 50, 3) := by decide +kernel
theorem dX3_creditOf_12 : decode cX3_creditOf 12 = .ok (.aload_n 0, 1) := by decide +kernel
theorem dX3_creditOf_13 : decode cX3_creditOf 13 = .ok (.getfield 19, 3) := by decide +kernel
theorem dX3_creditOf_16 : decode cX3_creditOf 16 = .ok (.iload_n 1, 1) := by decide +kernel
theorem dX3_creditOf_17 : decode cX3_creditOf 17 = .ok (.iaload, 1) := by decide +kernel
theorem dX3_creditOf_18 : decode cX3_creditOf 18 = .ok (.aload_n 0, 1) := by decide +kernel
theorem dX3_creditOf_19 : decode cX3_creditOf 19 = .ok (.getfield 22, 3) := by decide +kernel
theorem dX3_creditOf_22 : decode cX3_creditOf 22 = .ok (.iload_n 1, 1) := by decide +kernel
theorem dX3_creditOf_23 : decode cX3_creditOf 23 = .ok (.iaload, 1) := by decide +kernel
theorem dX3_creditOf_24 : decode cX3_creditOf 24 = .ok (.iload 4, 2) := by decide +kernel
theorem dX3_creditOf_26 : decode cX3_creditOf 26 = .ok (.invokestatic 65, 3) := by decide +kernel
theorem dX3_creditOf_29 : decode cX3_creditOf 29 = .ok (.istore 5, 2) := by decide +kernel
theorem dX3_creditOf_31 : decode cX3_creditOf 31 = .ok (.iload_n 3, 1) := by decide +kernel
theorem dX3_creditOf_32 : decode cX3_creditOf 32 = .ok (.aload_n 0, 1) := by decide +kernel
theorem dX3_creditOf_33 : decode cX3_creditOf 33 = .ok (.getfield 43, 3) := by decide +kernel
theorem dX3_creditOf_36 : decode cX3_creditOf 36 = .ok (.iload_n 1, 1) := by decide +kernel
theorem dX3_creditOf_37 : decode cX3_creditOf 37 = .ok (.iload 4, 2) := by decide +kernel
theorem dX3_creditOf_39 : decode cX3_creditOf 39 = .ok (.invokestatic 62, 3) := by decide +kernel
theorem dX3_creditOf_42 : decode cX3_creditOf 42 = .ok (.iaload, 1) := by decide +kernel
theorem dX3_creditOf_43 : decode cX3_creditOf 43 = .ok (.aload_n 2, 1) := by decide +kernel
theorem dX3_creditOf_44 : decode cX3_creditOf 44 = .ok (.iload 5, 2) := by decide +kernel
theorem dX3_creditOf_46 : decode cX3_creditOf 46 = .ok (.iaload, 1) := by decide +kernel
theorem dX3_creditOf_47 : decode cX3_creditOf 47 = .ok (.imul, 1) := by decide +kernel
theorem dX3_creditOf_48 : decode cX3_creditOf 48 = .ok (.bipush 100, 2) := by decide +kernel
theorem dX3_creditOf_50 : decode cX3_creditOf 50 = .ok (.idiv, 1) := by decide +kernel
theorem dX3_creditOf_51 : decode cX3_creditOf 51 = .ok (.iadd, 1) := by decide +kernel
theorem dX3_creditOf_52 : decode cX3_creditOf 52 = .ok (.istore_n 3, 1) := by decide +kernel
theorem dX3_creditOf_53 : decode cX3_creditOf 53 = .ok (.iinc 4 1, 3) := by decide +kernel
theorem dX3_creditOf_56 : decode cX3_creditOf 56 = .ok (.goto (-51), 3) := by decide +kernel
theorem dX3_creditOf_59 : decode cX3_creditOf 59 = .ok (.iload_n 3, 1) := by decide +kernel
theorem dX3_creditOf_60 : decode cX3_creditOf 60 = .ok (.ireturn, 1) := by decide +kernel
set_option maxRecDepth 20000 in
theorem ggX3_worthOf_X3_chargeOf : GoodIn wsX3_worthOf wsX3_chargeOf := goodIn_r _ [5, 6, 7, 8, 9, 18, 19, 20, 21, 22, 23, 24, 25, 26, 27, 28] (by decide +kernel) (by decide +kernel)
set_option maxRecDepth 20000 in
theorem gX3_worthOf_X3_chargeOf : GoodIn wsX3_worthOf (wsV RX3 69 RX3 yX3_chargeOf wsX3_chargeOf) := goodIn_app (goodIn_of _ (by decide +kernel)) ggX3_worthOf_X3_chargeOf
set_option maxRecDepth 20000 in
theorem ggX3_worthOf_X3_creditOf : GoodIn wsX3_worthOf wsX3_creditOf := goodIn_r _ [13, 14, 15, 6, 16, 8, 17, 7, 9, 18, 19, 20, 21, 22, 23, 24, 25, 26, 27, 28] (by decide +kernel) (by decide +kernel)
set_option maxRecDepth 20000 in
theorem gX3_worthOf_X3_creditOf : GoodIn wsX3_worthOf (wsV RX3 72 RX3 yX3_creditOf wsX3_creditOf) := goodIn_app (goodIn_of _ (by decide +kernel)) ggX3_worthOf_X3_creditOf
theorem dX3_worthOf_0 : decode cX3_worthOf 0 = .ok (.aload_n 0, 1) := by decide +kernel
theorem dX3_worthOf_1 : decode cX3_worthOf 1 = .ok (.iload_n 1, 1) := by decide +kernel
theorem dX3_worthOf_2 : decode cX3_worthOf 2 = .ok (.invokevirtual 69, 3) := by decide +kernel
theorem dX3_worthOf_5 : decode cX3_worthOf 5 = .ok (.aload_n 0, 1) := by decide +kernel
theorem dX3_worthOf_6 : decode cX3_worthOf 6 = .ok (.iload_n 1, 1) := by decide +kernel
theorem dX3_worthOf_7 : decode cX3_worthOf 7 = .ok (.aload_n 2, 1) := by decide +kernel
theorem dX3_worthOf_8 : decode cX3_worthOf 8 = .ok (.invokevirtual 72, 3) := by decide +kernel
theorem dX3_worthOf_11 : decode cX3_worthOf 11 = .ok (.isub, 1) := by decide +kernel
theorem dX3_worthOf_12 : decode cX3_worthOf 12 = .ok (.ireturn, 1) := by decide +kernel
theorem dX3_isOf_0 : decode cX3_isOf 0 = .ok (.iload_n 2, 1) := by decide +kernel
theorem dX3_isOf_1 : decode cX3_isOf 1 = .ok (.iconst (-1), 1) := by decide +kernel
theorem dX3_isOf_2 : decode cX3_isOf 2 = .ok (.if_icmp .eq 13, 3) := by decide +kernel
theorem dX3_isOf_5 : decode cX3_isOf 5 = .ok (.aload_n 0, 1) := by decide +kernel
theorem dX3_isOf_6 : decode cX3_isOf 6 = .ok (.getfield 15, 3) := by decide +kernel
theorem dX3_isOf_9 : decode cX3_isOf 9 = .ok (.iload_n 1, 1) := by decide +kernel
theorem dX3_isOf_10 : decode cX3_isOf 10 = .ok (.iaload, 1) := by decide +kernel
theorem dX3_isOf_11 : decode cX3_isOf 11 = .ok (.iload_n 2, 1) := by decide +kernel
theorem dX3_isOf_12 : decode cX3_isOf 12 = .ok (.if_icmp .ne 22, 3) := by decide +kernel
theorem dX3_isOf_15 : decode cX3_isOf 15 = .ok (.iload_n 3, 1) := by decide +kernel
theorem dX3_isOf_16 : decode cX3_isOf 16 = .ok (.iconst (-1), 1) := by decide +kernel
theorem dX3_isOf_17 : decode cX3_isOf 17 = .ok (.if_icmp .eq 13, 3) := by decide +kernel
theorem dX3_isOf_20 : decode cX3_isOf 20 = .ok (.aload_n 0, 1) := by decide +kernel
theorem dX3_isOf_21 : decode cX3_isOf 21 = .ok (.getfield 19, 3) := by decide +kernel
theorem dX3_isOf_24 : decode cX3_isOf 24 = .ok (.iload_n 1, 1) := by decide +kernel
theorem dX3_isOf_25 : decode cX3_isOf 25 = .ok (.iaload, 1) := by decide +kernel
theorem dX3_isOf_26 : decode cX3_isOf 26 = .ok (.iload_n 3, 1) := by decide +kernel
theorem dX3_isOf_27 : decode cX3_isOf 27 = .ok (.if_icmp .ne 7, 3) := by decide +kernel
theorem dX3_isOf_30 : decode cX3_isOf 30 = .ok (.iconst 1, 1) := by decide +kernel
theorem dX3_isOf_31 : decode cX3_isOf 31 = .ok (.goto 4, 3) := by decide +kernel
theorem dX3_isOf_34 : decode cX3_isOf 34 = .ok (.iconst 0, 1) := by decide +kernel
theorem dX3_isOf_35 : decode cX3_isOf 35 = .ok (.ireturn, 1) := by decide +kernel
set_option maxRecDepth 20000 in
theorem ggX3_count_X3_isOf : GoodIn wsX3_count wsX3_isOf := goodIn_r _ [6, 7, 8, 9, 10, 11, 12, 13, 14, 15, 16, 17, 18, 19] (by decide +kernel) (by decide +kernel)
set_option maxRecDepth 20000 in
theorem gX3_count_X3_isOf : GoodIn wsX3_count (wsV RX3 76 RX3 yX3_isOf wsX3_isOf) := goodIn_app (goodIn_of _ (by decide +kernel)) ggX3_count_X3_isOf
theorem dX3_count_0 : decode cX3_count 0 = .ok (.iconst 0, 1) := by decide +kernel
theorem dX3_count_1 : decode cX3_count 1 = .ok (.istore_n 3, 1) := by decide +kernel
theorem dX3_count_2 : decode cX3_count 2 = .ok (.iconst 0, 1) := by decide +kernel
theorem dX3_count_3 : decode cX3_count 3 = .ok (.istore 4, 2) := by decide +kernel
theorem dX3_count_5 : decode cX3_count 5 = .ok (.iload 4, 2) := by decide +kernel
theorem dX3_count_7 : decode cX3_count 7 = .ok (.aload_n 0, 1) := by decide +kernel
theorem dX3_count_8 : decode cX3_count 8 = .ok (.getfield 9, 3) := by decide +kernel
theorem dX3_count_11 : decode cX3_count 11 = .ok (.if_icmp .ge 23, 3) := by decide +kernel
theorem dX3_count_14 : decode cX3_count 14 = .ok (.aload_n 0, 1) := by decide +kernel
theorem dX3_count_15 : decode cX3_count 15 = .ok (.iload 4, 2) := by decide +kernel
theorem dX3_count_17 : decode cX3_count 17 = .ok (.iload_n 1, 1) := by decide +kernel
theorem dX3_count_18 : decode cX3_count 18 = .ok (.iload_n 2, 1) := by decide +kernel
theorem dX3_count_19 : decode cX3_count 19 = .ok (.invokevirtual 76, 3) := by decide +kernel
theorem dX3_count_22 : decode cX3_count 22 = .ok (.ifCond .eq 6, 3) := by decide +kernel
theorem dX3_count_25 : decode cX3_count 25 = .ok (.iinc 3 1, 3) := by decide +kernel
theorem dX3_count_28 : decode cX3_count 28 = .ok (.iinc 4 1, 3) := by decide +kernel
theorem dX3_count_31 : decode cX3_count 31 = .ok (.goto (-26), 3) := by decide +kernel
theorem dX3_count_34 : decode cX3_count 34 = .ok (.iload_n 3, 1) := by decide +kernel
theorem dX3_count_35 : decode cX3_count 35 = .ok (.ireturn, 1) := by decide +kernel
set_option maxRecDepth 20000 in
theorem ggX3_charge_X3_isOf : GoodIn wsX3_charge wsX3_isOf := goodIn_r _ [6, 7, 8, 17, 18, 19, 20, 21, 22, 23, 24, 25, 26, 27] (by decide +kernel) (by decide +kernel)
set_option maxRecDepth 20000 in
theorem gX3_charge_X3_isOf : GoodIn wsX3_charge (wsV RX3 76 RX3 yX3_isOf wsX3_isOf) := goodIn_app (goodIn_of _ (by decide +kernel)) ggX3_charge_X3_isOf
set_option maxRecDepth 20000 in
theorem ggX3_charge_X3_chargeOf : GoodIn wsX3_charge wsX3_chargeOf := goodIn_r _ [12, 13, 14, 15, 16, 17, 18, 19, 20, 21, 22, 23, 24, 25, 26, 27] (by decide +kernel) (by decide +kernel)
set_option maxRecDepth 20000 in
theorem gX3_charge_X3_chargeOf : GoodIn wsX3_charge (wsV RX3 69 RX3 yX3_chargeOf wsX3_chargeOf) := goodIn_app (goodIn_of _ (by decide +kernel)) ggX3_charge_X3_chargeOf
theorem dX3_charge_0 : decode cX3_charge 0 = .ok (.iconst 0, 1) := by decide +kernel
theorem dX3_charge_1 : decode cX3_charge 1 = .ok (.istore_n 3, 1) := by decide +kernel
theorem dX3_charge_2 : decode cX3_charge 2 = .ok (.iconst 0, 1) := by decide +kernel
theorem dX3_charge_3 : decode cX3_charge 3 = .ok (.istore 4, 2) := by decide +kernel
theorem dX3_charge_5 : decode cX3_charge 5 = .ok (.iload 4, 2) := by decide +kernel
theorem dX3_charge_7 : decode cX3_charge 7 = .ok (.aload_n 0, 1) := by decide +kernel
theorem dX3_charge_8 : decode cX3_charge 8 = .ok (.getfield 9, 3) := by decide +kernel
theorem dX3_charge_11 : decode cX3_charge 11 = .ok (.if_icmp .ge 29, 3) := by decide +kernel
theorem dX3_charge_14 : decode cX3_charge 14 = .ok (.aload_n 0, 1) := by decide +kernel
theorem dX3_charge_15 : decode cX3_charge 15 = .ok (.iload 4, 2) := by decide +kernel
theorem dX3_charge_17 : decode cX3_charge 17 = .ok (.iload_n 1, 1) := by decide +kernel
theorem dX3_charge_18 : decode cX3_charge 18 = .ok (.iload_n 2, 1) := by decide +kernel
theorem dX3_charge_19 : decode cX3_charge 19 = .ok (.invokevirtual 76, 3) := by decide +kernel
theorem dX3_charge_22 : decode cX3_charge 22 = .ok (.ifCond .eq 12, 3) := by decide +kernel
theorem dX3_charge_25 : decode cX3_charge 25 = .ok (.iload_n 3, 1) := by decide +kernel
theorem dX3_charge_26 : decode cX3_charge 26 = .ok (.aload_n 0, 1) := by decide +kernel
theorem dX3_charge_27 : decode cX3_charge 27 = .ok (.iload 4, 2) := by decide +kernel
theorem dX3_charge_29 : decode cX3_charge 29 = .ok (.invokevirtual 69, 3) := by decide +kernel
theorem dX3_charge_32 : decode cX3_charge 32 = .ok (.iadd, 1) := by decide +kernel
theorem dX3_charge_33 : decode cX3_charge 33 = .ok (.istore_n 3, 1) := by decide +kernel
theorem dX3_charge_34 : decode cX3_charge 34 = .ok (.iinc 4 1, 3) := by decide +kernel
theorem dX3_charge_37 : decode cX3_charge 37 = .ok (.goto (-32), 3) := by decide +kernel
theorem dX3_charge_40 : decode cX3_charge 40 = .ok (.iload_n 3, 1) := by decide +kernel
theorem dX3_charge_41 : decode cX3_charge 41 = .ok (.ireturn, 1) := by decide +kernel
set_option maxRecDepth 20000 in
theorem ggX3_credit_X3_isOf : GoodIn wsX3_credit wsX3_isOf := goodIn_r _ [6, 7, 8, 20, 21, 22, 23, 24, 25, 26, 27, 28, 29, 30] (by decide +kernel) (by decide +kernel)
set_option maxRecDepth 20000 in
theorem gX3_credit_X3_isOf : GoodIn wsX3_credit (wsV RX3 76 RX3 yX3_isOf wsX3_isOf) := goodIn_app (goodIn_of _ (by decide +kernel)) ggX3_credit_X3_isOf
set_option maxRecDepth 20000 in
theorem ggX3_credit_X3_creditOf : GoodIn wsX3_credit wsX3_creditOf := goodIn_r _ [12, 8, 13, 14, 15, 16, 17, 18, 19, 20, 21, 22, 23, 24, 25, 26, 27, 28, 29, 30] (by decide +kernel) (by decide +kernel)
set_option maxRecDepth 20000 in
theorem gX3_credit_X3_creditOf : GoodIn wsX3_credit (wsV RX3 72 RX3 yX3_creditOf wsX3_creditOf) := goodIn_app (goodIn_of _ (by decide +kernel)) ggX3_credit_X3_creditOf
theorem dX3_credit_0 : decode cX3_credit 0 = .ok (.iconst 0, 1) := by decide +kernel
theorem dX3_credit_1 : decode cX3_credit 1 = .ok (.istore 4, 2) := by decide +kernel
theorem dX3_credit_3 : decode cX3_credit 3 = .ok (.iconst 0, 1) := by decide +kernel
theorem dX3_credit_4 : decode cX3_credit 4 = .ok (.istore 5, 2) := by decide +kernel
theorem dX3_credit_6 : decode cX3_credit 6 = .ok (.iload 5, 2) := by decide +kernel
theorem dX3_credit_8 : decode cX3_credit 8 = .ok (.aload_n 0, 1) := by decide +kernel
theorem dX3_credit_9 : decode cX3_credit 9 = .ok (.getfield 9, 3) := by decide +kernel
theorem dX3_credit_12 : decode cX3_credit 12 = .ok (.if_icmp .ge 32, 3) := by decide +kernel
theorem dX3_credit_15 : decode cX3_credit 15 = .ok (.aload_n 0, 1) := by decide +kernel
theorem dX3_credit_16 : decode cX3_credit 16 = .ok (.iload 5, 2) := by decide +kernel
theorem dX3_credit_18 : decode cX3_credit 18 = .ok (.iload_n 1, 1) := by decide +kernel
theorem dX3_credit_19 : decode cX3_credit 19 = .ok (.iload_n 2, 1) := by decide +kernel
theorem dX3_credit_20 : decode cX3_credit 20 = .ok (.invokevirtual 76, 3) := by decide +kernel
theorem dX3_credit_23 : decode cX3_credit 23 = .ok (.ifCond .eq 15, 3) := by decide +kernel
theorem dX3_credit_26 : decode cX3_credit 26 = .ok (.iload 4, 2) := by decide +kernel
theorem dX3_credit_28 : decode cX3_credit 28 = .ok (.aload_n 0, 1) := by decide +kernel
theorem dX3_credit_29 : decode cX3_credit 29 = .ok (.iload 5, 2) := by decide +kernel
theorem dX3_credit_31 : decode cX3_credit 31 = .ok (.aload_n 3, 1) := by decide +kernel
theorem dX3_credit_32 : decode cX3_credit 32 = .ok (.invokevirtual 72, 3) := by decide +kernel
theorem dX3_credit_35 : decode cX3_credit 35 = .ok (.iadd, 1) := by decide +kernel
theorem dX3_credit_36 : decode cX3_credit 36 = .ok (.istore 4, 2) := by decide +kernel
theorem dX3_credit_38 : decode cX3_credit 38 = .ok (.iinc 5 1, 3) := by decide +kernel
theorem dX3_credit_41 : decode cX3_credit 41 = .ok (.goto (-35), 3) := by decide +kernel
theorem dX3_credit_44 : decode cX3_credit 44 = .ok (.iload 4, 2) := by decide +kernel
theorem dX3_credit_46 : decode cX3_credit 46 = .ok (.ireturn, 1) := by decide +kernel
set_option maxRecDepth 20000 in
theorem ggX3_billedTo_X3_isOf : GoodIn wsX3_billedTo wsX3_isOf := goodIn_r _ [7, 8, 9, 10, 11, 12, 13, 14, 15, 16, 17, 18, 19, 20] (by decide +kernel) (by decide +kernel)
set_option maxRecDepth 20000 in
theorem gX3_billedTo_X3_isOf : GoodIn wsX3_billedTo (wsV RX3 76 RX3 yX3_isOf wsX3_isOf) := goodIn_app (goodIn_of _ (by decide +kernel)) ggX3_billedTo_X3_isOf
theorem dX3_billedTo_0 : decode cX3_billedTo 0 = .ok (.iconst 0, 1) := by decide +kernel
theorem dX3_billedTo_1 : decode cX3_billedTo 1 = .ok (.istore_n 2, 1) := by decide +kernel
theorem dX3_billedTo_2 : decode cX3_billedTo 2 = .ok (.iconst 0, 1) := by decide +kernel
theorem dX3_billedTo_3 : decode cX3_billedTo 3 = .ok (.istore_n 3, 1) := by decide +kernel
theorem dX3_billedTo_4 : decode cX3_billedTo 4 = .ok (.iload_n 3, 1) := by decide +kernel
theorem dX3_billedTo_5 : decode cX3_billedTo 5 = .ok (.aload_n 0, 1) := by decide +kernel
theorem dX3_billedTo_6 : decode cX3_billedTo 6 = .ok (.getfield 9, 3) := by decide +kernel
theorem dX3_billedTo_9 : decode cX3_billedTo 9 = .ok (.if_icmp .ge 28, 3) := by decide +kernel
theorem dX3_billedTo_12 : decode cX3_billedTo 12 = .ok (.aload_n 0, 1) := by decide +kernel
theorem dX3_billedTo_13 : decode cX3_billedTo 13 = .ok (.iload_n 3, 1) := by decide +kernel
theorem dX3_billedTo_14 : decode cX3_billedTo 14 = .ok (.iload_n 1, 1) := by decide +kernel
theorem dX3_billedTo_15 : decode cX3_billedTo 15 = .ok (.iconst (-1), 1) := by decide +kernel
theorem dX3_billedTo_16 : decode cX3_billedTo 16 = .ok (.invokevirtual 76, 3) := by decide +kernel
theorem dX3_billedTo_19 : decode cX3_billedTo 19 = .ok (.ifCond .eq 12, 3) := by decide +kernel
theorem dX3_billedTo_22 : decode cX3_billedTo 22 = .ok (.iload_n 2, 1) := by decide +kernel
theorem dX3_billedTo_23 : decode cX3_billedTo 23 = .ok (.aload_n 0, 1) := by decide +kernel
theorem dX3_billedTo_24 : decode cX3_billedTo 24 = .ok (.getfield 40, 3) := by decide +kernel
theorem dX3_billedTo_27 : decode cX3_billedTo 27 = .ok (.iload_n 3, 1) := by decide +kernel
theorem dX3_billedTo_28 : decode cX3_billedTo 28 = .ok (.iaload, 1) := by decide +kernel
theorem dX3_billedTo_29 : decode cX3_billedTo 29 = .ok (.iadd, 1) := by decide +kernel
theorem dX3_billedTo_30 : decode cX3_billedTo 30 = .ok (.istore_n 2, 1) := by decide +kernel
theorem dX3_billedTo_31 : decode cX3_billedTo 31 = .ok (.iinc 3 1, 3) := by decide +kernel
theorem dX3_billedTo_34 : decode cX3_billedTo 34 = .ok (.goto (-30), 3) := by decide +kernel
theorem dX3_billedTo_37 : decode cX3_billedTo 37 = .ok (.iload_n 2, 1) := by decide +kernel
theorem dX3_billedTo_38 : decode cX3_billedTo 38 = .ok (.ireturn, 1) := by decide +kernel
set_option maxRecDepth 20000 in
theorem ggX3_due_X3_isOf : GoodIn wsX3_due wsX3_isOf := goodIn_r _ [7, 8, 9, 29, 30, 31, 32, 33, 34, 35, 36, 37, 38, 39] (by decide +kernel) (by decide +kernel)
set_option maxRecDepth 20000 in
theorem gX3_due_X3_isOf : GoodIn wsX3_due (wsV RX3 76 RX3 yX3_isOf wsX3_isOf) := goodIn_app (goodIn_of _ (by decide +kernel)) ggX3_due_X3_isOf
set_option maxRecDepth 20000 in
theorem ggX3_due_X3_worthOf : GoodIn wsX3_due wsX3_worthOf := goodIn_r _ [13, 14, 15, 16, 6, 17, 18, 19, 20, 21, 22, 23, 24, 25, 9, 26, 27, 28, 29, 30, 31, 32, 33, 34, 35, 36, 37, 38, 39] (by decide +kernel) (by decide +kernel)
set_option maxRecDepth 20000 in
theorem gX3_due_X3_worthOf : GoodIn wsX3_due (wsV RX3 80 RX3 yX3_worthOf wsX3_worthOf) := goodIn_app (goodIn_of _ (by decide +kernel)) ggX3_due_X3_worthOf
theorem dX3_due_0 : decode cX3_due 0 = .ok (.iconst 0, 1) := by decide +kernel
theorem dX3_due_1 : decode cX3_due 1 = .ok (.istore_n 3, 1) := by decide +kernel
theorem dX3_due_2 : decode cX3_due 2 = .ok (.iconst 0, 1) := by decide +kernel
theorem dX3_due_3 : decode cX3_due 3 = .ok (.istore 4, 2) := by decide +kernel
theorem dX3_due_5 : decode cX3_due 5 = .ok (.iload 4, 2) := by decide +kernel
theorem dX3_due_7 : decode cX3_due 7 = .ok (.aload_n 0, 1) := by decide +kernel
theorem dX3_due_8 : decode cX3_due 8 = .ok (.getfield 9, 3) := by decide +kernel
theorem dX3_due_11 : decode cX3_due 11 = .ok (.if_icmp .ge 38, 3) := by decide +kernel
theorem dX3_due_14 : decode cX3_due 14 = .ok (.aload_n 0, 1) := by decide +kernel
theorem dX3_due_15 : decode cX3_due 15 = .ok (.iload 4, 2) := by decide +kernel
theorem dX3_due_17 : decode cX3_due 17 = .ok (.iload_n 1, 1) := by decide +kernel
theorem dX3_due_18 : decode cX3_due 18 = .ok (.iconst (-1), 1) := by decide +kernel
theorem dX3_due_19 : decode cX3_due 19 = .ok (.invokevirtual 76, 3) := by decide +kernel
theorem dX3_due_22 : decode cX3_due 22 = .ok (.ifCond .eq 21, 3) := by decide +kernel
theorem dX3_due_25 : decode cX3_due 25 = .ok (.iload_n 3, 1) := by decide +kernel
theorem dX3_due_26 : decode cX3_due 26 = .ok (.aload_n 0, 1) := by decide +kernel
theorem dX3_due_27 : decode cX3_due 27 = .ok (.iload 4, 2) := by decide +kernel
theorem dX3_due_29 : decode cX3_due 29 = .ok (.aload_n 2, 1) := by decide +kernel
theorem dX3_due_30 : decode cX3_due 30 = .ok (.invokevirtual 80, 3) := by decide +kernel
theorem dX3_due_33 : decode cX3_due 33 = .ok (.aload_n 0, 1) := by decide +kernel
theorem dX3_due_34 : decode cX3_due 34 = .ok (.getfield 40, 3) := by decide +kernel
theorem dX3_due_37 : decode cX3_due 37 = .ok (.iload 4, 2) := by decide +kernel
theorem dX3_due_39 : decode cX3_due 39 = .ok (.iaload, 1) := by decide +kernel
theorem dX3_due_40 : decode cX3_due 40 = .ok (.isub, 1) := by decide +kernel
theorem dX3_due_41 : decode cX3_due 41 = .ok (.iadd, 1) := by decide +kernel
theorem dX3_due_42 : decode cX3_due 42 = .ok (.istore_n 3, 1) := by decide +kernel
theorem dX3_due_43 : decode cX3_due 43 = .ok (.iinc 4 1, 3) := by decide +kernel
theorem dX3_due_46 : decode cX3_due 46 = .ok (.goto (-41), 3) := by decide +kernel
theorem dX3_due_49 : decode cX3_due 49 = .ok (.iload_n 3, 1) := by decide +kernel
theorem dX3_due_50 : decode cX3_due 50 = .ok (.ireturn, 1) := by decide +kernel
set_option maxRecDepth 20000 in
theorem ggX3_settle_X3_isOf : GoodIn wsX3_settle wsX3_isOf := goodIn_r _ [7, 8, 9, 29, 30, 31, 32, 33, 34, 35, 36, 37, 38, 39] (by decide +kernel) (by decide +kernel)
set_option maxRecDepth 20000 in
theorem gX3_settle_X3_isOf : GoodIn wsX3_settle (wsV RX3 76 RX3 yX3_isOf wsX3_isOf) := goodIn_app (goodIn_of _ (by decide +kernel)) ggX3_settle_X3_isOf
set_option maxRecDepth 20000 in
theorem ggX3_settle_X3_worthOf : GoodIn wsX3_settle wsX3_worthOf := goodIn_r _ [13, 14, 15, 16, 6, 17, 18, 19, 20, 21, 22, 23, 24, 25, 9, 26, 27, 28, 29, 30, 31, 32, 33, 34, 35, 36, 37, 38, 39] (by decide +kernel) (by decide +kernel)
set_option maxRecDepth 20000 in
theorem gX3_settle_X3_worthOf : GoodIn wsX3_settle (wsV RX3 80 RX3 yX3_worthOf wsX3_worthOf) := goodIn_app (goodIn_of _ (by decide +kernel)) ggX3_settle_X3_worthOf
theorem dX3_settle_0 : decode cX3_settle 0 = .ok (.iconst 0, 1) := by decide +kernel
theorem dX3_settle_1 : decode cX3_settle 1 = .ok (.istore_n 3, 1) := by decide +kernel
theorem dX3_settle_2 : decode cX3_settle 2 = .ok (.iload_n 3, 1) := by decide +kernel
theorem dX3_settle_3 : decode cX3_settle 3 = .ok (.aload_n 0, 1) := by decide +kernel
theorem dX3_settle_4 : decode cX3_settle 4 = .ok (.getfield 9, 3) := by decide +kernel
theorem dX3_settle_7 : decode cX3_settle 7 = .ok (.if_icmp .ge 31, 3) := by decide +kernel
theorem dX3_settle_10 : decode cX3_settle 10 = .ok (.aload_n 0, 1) := by decide +kernel
theorem dX3_settle_11 : decode cX3_settle 11 = .ok (.iload_n 3, 1) := by decide +kernel
theorem dX3_settle_12 : decode cX3_settle 12 = .ok (.iload_n 1, 1) := by decide +kernel
theorem dX3_settle_13 : decode cX3_settle 13 = .ok (.iconst (-1), 1) := by decide +kernel
theorem dX3_settle_14 : decode cX3_settle 14 = .ok (.invokevirtual 76, 3) := by decide +kernel
theorem dX3_settle_17 : decode cX3_settle 17 = .ok (.ifCond .eq 15, 3) := by decide +kernel
theorem dX3_settle_20 : decode cX3_settle 20 = .ok (.aload_n 0, 1) := by decide +kernel
theorem dX3_settle_21 : decode cX3_settle 21 = .ok (.getfield 40, 3) := by decide +kernel
theorem dX3_settle_24 : decode cX3_settle 24 = .ok (.iload_n 3, 1) := by decide +kernel
theorem dX3_settle_25 : decode cX3_settle 25 = .ok (.aload_n 0, 1) := by decide +kernel
theorem dX3_settle_26 : decode cX3_settle 26 = .ok (.iload_n 3, 1) := by decide +kernel
theorem dX3_settle_27 : decode cX3_settle 27 = .ok (.aload_n 2, 1) := by decide +kernel
theorem dX3_settle_28 : decode cX3_settle 28 = .ok (.invokevirtual 80, 3) := by decide +kernel
theorem dX3_settle_31 : decode cX3_settle 31 = .ok (.iastore, 1) := by decide +kernel
theorem dX3_settle_32 : decode cX3_settle 32 = .ok (.iinc 3 1, 3) := by decide +kernel
theorem dX3_settle_35 : decode cX3_settle 35 = .ok (.goto (-33), 3) := by decide +kernel
theorem dX3_settle_38 : decode cX3_settle 38 = .ok (.return_, 1) := by decide +kernel
theorem dX4_init_0 : decode cX4_init 0 = .ok (.aload_n 0, 1) := by decide +kernel
theorem dX4_init_1 : decode cX4_init 1 = .ok (.invokespecial 3, 3) := by decide +kernel
theorem dX4_init_4 : decode cX4_init 4 = .ok (.aload_n 0, 1) := by decide +kernel
theorem dX4_init_5 : decode cX4_init 5 = .ok (.iconst 0, 1) := by decide +kernel
theorem dX4_init_6 : decode cX4_init 6 = .ok (.putfield 9, 3) := by decide +kernel
theorem dX4_init_9 : decode cX4_init 9 = .ok (.aload_n 0, 1) := by decide +kernel
theorem dX4_init_10 : decode cX4_init 10 = .ok (.bipush 8, 2) := by decide +kernel
theorem dX4_init_12 : decode cX4_init 12 = .ok (.newarray .int, 2) := by decide +kernel
theorem dX4_init_14 : decode cX4_init 14 = .ok (.putfield 15, 3) := by decide +kernel
theorem dX4_init_17 : decode cX4_init 17 = .ok (.aload_n 0, 1) := by decide +kernel
theorem dX4_init_18 : decode cX4_init 18 = .ok (.bipush 8, 2) := by decide +kernel
theorem dX4_init_20 : decode cX4_init 20 = .ok (.newarray .int, 2) := by decide +kernel
theorem dX4_init_22 : decode cX4_init 22 = .ok (.putfield 19, 3) := by decide +kernel
theorem dX4_init_25 : decode cX4_init 25 = .ok (.aload_n 0, 1) := by decide +kernel
theorem dX4_init_26 : decode cX4_init 26 = .ok (.bipush 48, 2) := by decide +kernel
theorem dX4_init_28 : decode cX4_init 28 = .ok (.newarray .int, 2) := by decide +kernel
theorem dX4_init_30 : decode cX4_init 30 = .ok (.putfield 22, 3) := by decide +kernel
theorem dX4_init_33 : decode cX4_init 33 = .ok (.aload_n 0, 1) := by decide +kernel
theorem dX4_init_34 : decode cX4_init 34 = .ok (.bipush 48, 2) := by decide +kernel
theorem dX4_init_36 : decode cX4_init 36 = .ok (.newarray .int, 2) := by decide +kernel
theorem dX4_init_38 : decode cX4_init 38 = .ok (.putfield 25, 3) := by decide +kernel
theorem dX4_init_41 : decode cX4_init 41 = .ok (.aload_n 0, 1) := by decide +kernel
theorem dX4_init_42 : decode cX4_init 42 = .ok (.bipush 48, 2) := by decide +kernel
theorem dX4_init_44 : decode cX4_init 44 = .ok (.newarray .int, 2) := by decide +kernel
theorem dX4_init_46 : decode cX4_init 46 = .ok (.putfield 28, 3) := by decide +kernel
theorem dX4_init_49 : decode cX4_init 49 = .ok (.return_, 1) := by decide +kernel
set_option maxRecDepth 20000 in
theorem ggX4_addSet_X5_fieldAt : GoodIn wsX4_addSet wsX5_fieldAt := goodIn_r _ [7] (by decide +kernel) (by decide +kernel)
set_option maxRecDepth 20000 in
theorem gX4_addSet_X5_fieldAt_n31 : GoodIn wsX4_addSet (wsX5_fieldAt) := ggX4_addSet_X5_fieldAt
theorem dX4_addSet_0 : decode cX4_addSet 0 = .ok (.aload_n 0, 1) := by decide +kernel
theorem dX4_addSet_1 : decode cX4_addSet 1 = .ok (.getfield 9, 3) := by decide +kernel
theorem dX4_addSet_4 : decode cX4_addSet 4 = .ok (.istore_n 2, 1) := by decide +kernel
theorem dX4_addSet_5 : decode cX4_addSet 5 = .ok (.aload_n 0, 1) := by decide +kernel
theorem dX4_addSet_6 : decode cX4_addSet 6 = .ok (.getfield 15, 3) := by decide +kernel
theorem dX4_addSet_9 : decode cX4_addSet 9 = .ok (.iload_n 2, 1) := by decide +kernel
theorem dX4_addSet_10 : decode cX4_addSet 10 = .ok (.iload_n 1, 1) := by decide +kernel
theorem dX4_addSet_11 : decode cX4_addSet 11 = .ok (.iastore, 1) := by decide +kernel
theorem dX4_addSet_12 : decode cX4_addSet 12 = .ok (.iconst 0, 1) := by decide +kernel
theorem dX4_addSet_13 : decode cX4_addSet 13 = .ok (.istore_n 3, 1) := by decide +kernel
theorem dX4_addSet_14 : decode cX4_addSet 14 = .ok (.iload_n 3, 1) := by decide +kernel
theorem dX4_addSet_15 : decode cX4_addSet 15 = .ok (.iload_n 1, 1) := by decide +kernel
theorem dX4_addSet_16 : decode cX4_addSet 16 = .ok (.if_icmp .ge 34, 3) := by decide +kernel
theorem dX4_addSet_19 : decode cX4_addSet 19 = .ok (.aload_n 0, 1) := by decide +kernel
theorem dX4_addSet_20 : decode cX4_addSet 20 = .ok (.getfield 25, 3) := by decide +kernel
theorem dX4_addSet_23 : decode cX4_addSet 23 = .ok (.iload_n 2, 1) := by decide +kernel
theorem dX4_addSet_24 : decode cX4_addSet 24 = .ok (.iload_n 3, 1) := by decide +kernel
theorem dX4_addSet_25 : decode cX4_addSet 25 = .ok (.invokestatic 31, 3) := by decide +kernel
theorem dX4_addSet_28 : decode cX4_addSet 28 = .ok (.bipush 10, 2) := by decide +kernel
theorem dX4_addSet_30 : decode cX4_addSet 30 = .ok (.iastore, 1) := by decide +kernel
theorem dX4_addSet_31 : decode cX4_addSet 31 = .ok (.aload_n 0, 1) := by decide +kernel
theorem dX4_addSet_32 : decode cX4_addSet 32 = .ok (.getfield 28, 3) := by decide +kernel
theorem dX4_addSet_35 : decode cX4_addSet 35 = .ok (.iload_n 2, 1) := by decide +kernel
theorem dX4_addSet_36 : decode cX4_addSet 36 = .ok (.iload_n 3, 1) := by decide +kernel
theorem dX4_addSet_37 : decode cX4_addSet 37 = .ok (.invokestatic 31, 3) := by decide +kernel
theorem dX4_addSet_40 : decode cX4_addSet 40 = .ok (.sipush 1000, 3) := by decide +kernel
theorem dX4_addSet_43 : decode cX4_addSet 43 = .ok (.iastore, 1) := by decide +kernel
theorem dX4_addSet_44 : decode cX4_addSet 44 = .ok (.iinc 3 1, 3) := by decide +kernel
theorem dX4_addSet_47 : decode cX4_addSet 47 = .ok (.goto (-33), 3) := by decide +kernel
theorem dX4_addSet_50 : decode cX4_addSet 50 = .ok (.aload_n 0, 1) := by decide +kernel
theorem dX4_addSet_51 : decode cX4_addSet 51 = .ok (.dup, 1) := by decide +kernel
theorem dX4_addSet_52 : decode cX4_addSet 52 = .ok (.getfield 9, 3) := by decide +kernel
theorem dX4_addSet_55 : decode cX4_addSet 55 = .ok (.iconst 1, 1) := by decide +kernel
theorem dX4_addSet_56 : decode cX4_addSet 56 = .ok (.iadd, 1) := by decide +kernel
theorem dX4_addSet_57 : decode cX4_addSet 57 = .ok (.putfield 9, 3) := by decide +kernel
theorem dX4_addSet_60 : decode cX4_addSet 60 = .ok (.iload_n 2, 1) := by decide +kernel
theorem dX4_addSet_61 : decode cX4_addSet 61 = .ok (.ireturn, 1) := by decide +kernel
set_option maxRecDepth 20000 in
theorem ggX4_addVersion_X5_versionAt : GoodIn wsX4_addVersion wsX5_versionAt := goodIn_r _ [5] (by decide +kernel) (by decide +kernel)
set_option maxRecDepth 20000 in
theorem gX4_addVersion_X5_versionAt_n35 : GoodIn wsX4_addVersion (wsX5_versionAt) := ggX4_addVersion_X5_versionAt
theorem dX4_addVersion_0 : decode cX4_addVersion 0 = .ok (.aload_n 0, 1) := by decide +kernel
theorem dX4_addVersion_1 : decode cX4_addVersion 1 = .ok (.getfield 19, 3) := by decide +kernel
theorem dX4_addVersion_4 : decode cX4_addVersion 4 = .ok (.iload_n 1, 1) := by decide +kernel
theorem dX4_addVersion_5 : decode cX4_addVersion 5 = .ok (.iaload, 1) := by decide +kernel
theorem dX4_addVersion_6 : decode cX4_addVersion 6 = .ok (.istore_n 3, 1) := by decide +kernel
theorem dX4_addVersion_7 : decode cX4_addVersion 7 = .ok (.aload_n 0, 1) := by decide +kernel
theorem dX4_addVersion_8 : decode cX4_addVersion 8 = .ok (.getfield 22, 3) := by decide +kernel
theorem dX4_addVersion_11 : decode cX4_addVersion 11 = .ok (.iload_n 1, 1) := by decide +kernel
theorem dX4_addVersion_12 : decode cX4_addVersion 12 = .ok (.iload_n 3, 1) := by decide +kernel
theorem dX4_addVersion_13 : decode cX4_addVersion 13 = .ok (.invokestatic 35, 3) := by decide +kernel
theorem dX4_addVersion_16 : decode cX4_addVersion 16 = .ok (.iload_n 2, 1) := by decide +kernel
theorem dX4_addVersion_17 : decode cX4_addVersion 17 = .ok (.iastore, 1) := by decide +kernel
theorem dX4_addVersion_18 : decode cX4_addVersion 18 = .ok (.aload_n 0, 1) := by decide +kernel
theorem dX4_addVersion_19 : decode cX4_addVersion 19 = .ok (.getfield 19, 3) := by decide +kernel
theorem dX4_addVersion_22 : decode cX4_addVersion 22 = .ok (.iload_n 1, 1) := by decide +kernel
theorem dX4_addVersion_23 : decode cX4_addVersion 23 = .ok (.dup2, 1) := by decide +kernel
theorem dX4_addVersion_24 : decode cX4_addVersion 24 = .ok (.iaload, 1) := by decide +kernel
theorem dX4_addVersion_25 : decode cX4_addVersion 25 = .ok (.iconst 1, 1) := by decide +kernel
theorem dX4_addVersion_26 : decode cX4_addVersion 26 = .ok (.iadd, 1) := by decide +kernel
theorem dX4_addVersion_27 : decode cX4_addVersion 27 = .ok (.iastore, 1) := by decide +kernel
theorem dX4_addVersion_28 : decode cX4_addVersion 28 = .ok (.iload_n 3, 1) := by decide +kernel
theorem dX4_addVersion_29 : decode cX4_addVersion 29 = .ok (.ireturn, 1) := by decide +kernel
theorem dX4_hasSet_0 : decode cX4_hasSet 0 = .ok (.iload_n 1, 1) := by decide +kernel
theorem dX4_hasSet_1 : decode cX4_hasSet 1 = .ok (.ifCond .lt 15, 3) := by decide +kernel
theorem dX4_hasSet_4 : decode cX4_hasSet 4 = .ok (.iload_n 1, 1) := by decide +kernel
theorem dX4_hasSet_5 : decode cX4_hasSet 5 = .ok (.aload_n 0, 1) := by decide +kernel
theorem dX4_hasSet_6 : decode cX4_hasSet 6 = .ok (.getfield 9, 3) := by decide +kernel
theorem dX4_hasSet_9 : decode cX4_hasSet 9 = .ok (.if_icmp .ge 7, 3) := by decide +kernel
theorem dX4_hasSet_12 : decode cX4_hasSet 12 = .ok (.iconst 1, 1) := by decide +kernel
theorem dX4_hasSet_13 : decode cX4_hasSet 13 = .ok (.goto 4, 3) := by decide +kernel
theorem dX4_hasSet_16 : decode cX4_hasSet 16 = .ok (.iconst 0, 1) := by decide +kernel
theorem dX4_hasSet_17 : decode cX4_hasSet 17 = .ok (.ireturn, 1) := by decide +kernel
theorem dX4_allFields_0 : decode cX4_allFields 0 = .ok (.iconst 1, 1) := by decide +kernel
theorem dX4_allFields_1 : decode cX4_allFields 1 = .ok (.aload_n 0, 1) := by decide +kernel
theorem dX4_allFields_2 : decode cX4_allFields 2 = .ok (.getfield 15, 3) := by decide +kernel
theorem dX4_allFields_5 : decode cX4_allFields 5 = .ok (.iload_n 1, 1) := by decide +kernel
theorem dX4_allFields_6 : decode cX4_allFields 6 = .ok (.iaload, 1) := by decide +kernel
theorem dX4_allFields_7 : decode cX4_allFields 7 = .ok (.ishl, 1) := by decide +kernel
theorem dX4_allFields_8 : decode cX4_allFields 8 = .ok (.iconst 1, 1) := by decide +kernel
theorem dX4_allFields_9 : decode cX4_allFields 9 = .ok (.isub, 1) := by decide +kernel
theorem dX4_allFields_10 : decode cX4_allFields 10 = .ok (.ireturn, 1) := by decide +kernel
theorem dX4_latestVersion_0 : decode cX4_latestVersion 0 = .ok (.aload_n 0, 1) := by decide +kernel
theorem dX4_latestVersion_1 : decode cX4_latestVersion 1 = .ok (.getfield 19, 3) := by decide +kernel
theorem dX4_latestVersion_4 : decode cX4_latestVersion 4 = .ok (.iload_n 1, 1) := by decide +kernel
theorem dX4_latestVersion_5 : decode cX4_latestVersion 5 = .ok (.iaload, 1) := by decide +kernel
theorem dX4_latestVersion_6 : decode cX4_latestVersion 6 = .ok (.ifCond .le 14, 3) := by decide +kernel
theorem dX4_latestVersion_9 : decode cX4_latestVersion 9 = .ok (.aload_n 0, 1) := by decide +kernel
theorem dX4_latestVersion_10 : decode cX4_latestVersion 10 = .ok (.getfield 19, 3) := by decide +kernel
theorem dX4_latestVersion_13 : decode cX4_latestVersion 13 = .ok (.iload_n 1, 1) := by decide +kernel
theorem dX4_latestVersion_14 : decode cX4_latestVersion 14 = .ok (.iaload, 1) := by decide +kernel
theorem dX4_latestVersion_15 : decode cX4_latestVersion 15 = .ok (.iconst 1, 1) := by decide +kernel
theorem dX4_latestVersion_16 : decode cX4_latestVersion 16 = .ok (.isub, 1) := by decide +kernel
theorem dX4_latestVersion_17 : decode cX4_latestVersion 17 = .ok (.goto 4, 3) := by decide +kernel
theorem dX4_latestVersion_20 : decode cX4_latestVersion 20 = .ok (.iconst (-1), 1) := by decide +kernel
theorem dX4_latestVersion_21 : decode cX4_latestVersion 21 = .ok (.ireturn, 1) := by decide +kernel
set_option maxRecDepth 20000 in
theorem ggX4_latestRows_X4_latestVersion : GoodIn wsX4_latestRows wsX4_latestVersion := goodIn_r _ [6, 7, 11, 12, 13, 14, 15, 16] (by decide +kernel) (by decide +kernel)
set_option maxRecDepth 20000 in
theorem gX4_latestRows_X4_latestVersion : GoodIn wsX4_latestRows (wsV RX4 38 RX4 yX4_latestVersion wsX4_latestVersion) := goodIn_app (goodIn_of _ (by decide +kernel)) ggX4_latestRows_X4_latestVersion
set_option maxRecDepth 20000 in
theorem ggX4_latestRows_X5_versionAt : GoodIn wsX4_latestRows wsX5_versionAt := goodIn_r _ [10] (by decide +kernel) (by decide +kernel)
set_option maxRecDepth 20000 in
theorem gX4_latestRows_X5_versionAt_n35 : GoodIn wsX4_latestRows (wsX5_versionAt) := ggX4_latestRows_X5_versionAt
theorem dX4_latestRows_0 : decode cX4_latestRows 0 = .ok (.aload_n 0, 1) := by decide +kernel
theorem dX4_latestRows_1 : decode cX4_latestRows 1 = .ok (.iload_n 1, 1) := by decide +kernel
theorem dX4_latestRows_2 : decode cX4_latestRows 2 = .ok (.invokevirtual 38, 3) := by decide +kernel
theorem dX4_latestRows_5 : decode cX4_latestRows 5 = .ok (.istore_n 2, 1) := by decide +kernel
theorem dX4_latestRows_6 : decode cX4_latestRows 6 = .ok (.iload_n 2, 1) := by decide +kernel
theorem dX4_latestRows_7 : decode cX4_latestRows 7 = .ok (.iconst (-1), 1) := by decide +kernel
theorem dX4_latestRows_8 : decode cX4_latestRows 8 = .ok (.if_icmp .ne 7, 3) := by decide +kernel
theorem dX4_latestRows_11 : decode cX4_latestRows 11 = .ok (.iconst 0, 1) := by decide +kernel
theorem dX4_latestRows_12 : decode cX4_latestRows 12 = .ok (.goto 13, 3) := by decide +kernel
theorem dX4_latestRows_15 : decode cX4_latestRows 15 = .ok (.aload_n 0, 1) := by decide +kernel
theorem dX4_latestRows_16 : decode cX4_latestRows 16 = .ok (.getfield 22, 3) := by decide +kernel
theorem dX4_latestRows_19 : decode cX4_latestRows 19 = .ok (.iload_n 1, 1) := by decide +kernel
theorem dX4_latestRows_20 : decode cX4_latestRows 20 = .ok (.iload_n 2, 1) := by decide +kernel
theorem dX4_latestRows_21 : decode cX4_latestRows 21 = .ok (.invokestatic 35, 3) := by decide +kernel
theorem dX4_latestRows_24 : decode cX4_latestRows 24 = .ok (.iaload, 1) := by decide +kernel
theorem dX4_latestRows_25 : decode cX4_latestRows 25 = .ok (.ireturn, 1) := by decide +kernel
theorem dX4_allVersions_0 : decode cX4_allVersions 0 = .ok (.iconst 0, 1) := by decide +kernel
theorem dX4_allVersions_1 : decode cX4_allVersions 1 = .ok (.istore_n 1, 1) := by decide +kernel
theorem dX4_allVersions_2 : decode cX4_allVersions 2 = .ok (.iconst 0, 1) := by decide +kernel
theorem dX4_allVersions_3 : decode cX4_allVersions 3 = .ok (.istore_n 2, 1) := by decide +kernel
theorem dX4_allVersions_4 : decode cX4_allVersions 4 = .ok (.iload_n 2, 1) := by decide +kernel
theorem dX4_allVersions_5 : decode cX4_allVersions 5 = .ok (.aload_n 0, 1) := by decide +kernel
theorem dX4_allVersions_6 : decode cX4_allVersions 6 = .ok (.getfield 9, 3) := by decide +kernel
theorem dX4_allVersions_9 : decode cX4_allVersions 9 = .ok (.if_icmp .ge 18, 3) := by decide +kernel
theorem dX4_allVersions_12 : decode cX4_allVersions 12 = .ok (.iload_n 1, 1) := by decide +kernel
theorem dX4_allVersions_13 : decode cX4_allVersions 13 = .ok (.aload_n 0, 1) := by decide +kernel
theorem dX4_allVersions_14 : decode cX4_allVersions 14 = .ok (.getfield 19, 3) := by decide +kernel
theorem dX4_allVersions_17 : decode cX4_allVersions 17 = .ok (.iload_n 2, 1) := by decide +kernel
theorem dX4_allVersions_18 : decode cX4_allVersions 18 = .ok (.iaload, 1) := by decide +kernel
theorem dX4_allVersions_19 : decode cX4_allVersions 19 = .ok (.iadd, 1) := by decide +kernel
theorem dX4_allVersions_20 : decode cX4_allVersions 20 = .ok (.istore_n 1, 1) := by decide +kernel
theorem dX4_allVersions_21 : decode cX4_allVersions 21 = .ok (.iinc 2 1, 3) := by decide +kernel
theorem dX4_allVersions_24 : decode cX4_allVersions 24 = .ok (.goto (-20), 3) := by decide +kernel
theorem dX4_allVersions_27 : decode cX4_allVersions 27 = .ok (.iload_n 1, 1) := by decide +kernel
theorem dX4_allVersions_28 : decode cX4_allVersions 28 = .ok (.ireturn, 1) := by decide +kernel
set_option maxRecDepth 20000 in
theorem ggX4_fieldCharge_X5_fieldAt : GoodIn wsX4_fieldCharge wsX5_fieldAt := goodIn_r _ [4] (by decide +kernel) (by decide +kernel)
set_option maxRecDepth 20000 in
theorem gX4_fieldCharge_X5_fieldAt_n31 : GoodIn wsX4_fieldCharge (wsX5_fieldAt) := ggX4_fieldCharge_X5_fieldAt
theorem dX4_fieldCharge_0 : decode cX4_fieldCharge 0 = .ok (.iload_n 3, 1) := by decide +kernel
theorem dX4_fieldCharge_1 : decode cX4_fieldCharge 1 = .ok (.aload_n 0, 1) := by decide +kernel
theorem dX4_fieldCharge_2 : decode cX4_fieldCharge 2 = .ok (.getfield 25, 3) := by decide +kernel
theorem dX4_fieldCharge_5 : decode cX4_fieldCharge 5 = .ok (.iload_n 1, 1) := by decide +kernel
theorem dX4_fieldCharge_6 : decode cX4_fieldCharge 6 = .ok (.iload_n 2, 1) := by decide +kernel
theorem dX4_fieldCharge_7 : decode cX4_fieldCharge 7 = .ok (.invokestatic 31, 3) := by decide +kernel
theorem dX4_fieldCharge_10 : decode cX4_fieldCharge 10 = .ok (.iaload, 1) := by decide +kernel
theorem dX4_fieldCharge_11 : decode cX4_fieldCharge 11 = .ok (.imul, 1) := by decide +kernel
theorem dX4_fieldCharge_12 : decode cX4_fieldCharge 12 = .ok (.iload 4, 2) := by decide +kernel
theorem dX4_fieldCharge_14 : decode cX4_fieldCharge 14 = .ok (.imul, 1) := by decide +kernel
theorem dX4_fieldCharge_15 : decode cX4_fieldCharge 15 = .ok (.sipush 400, 3) := by decide +kernel
theorem dX4_fieldCharge_18 : decode cX4_fieldCharge 18 = .ok (.idiv, 1) := by decide +kernel
theorem dX4_fieldCharge_19 : decode cX4_fieldCharge 19 = .ok (.ireturn, 1) := by decide +kernel
