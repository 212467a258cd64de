theorem dX0_init_0 : decode cX0_init 0 = .ok (.aload_n 0, 1) := by decide +kernel
theorem dX0_init_1 : decode cX0_init 1 = .ok (.invokespecial 3, 3) := by decide +kernel
theorem dX0_init_4 : decode cX0_init 4 = .ok (.aload_n 0, 1) := by decide +kernel
theorem dX0_init_5 : decode cX0_init 5 = .ok (.iload_n 1, 1) := by decide +kernel
theorem dX0_init_6 : decode cX0_init 6 = .ok (.putfield 9, 3) := by decide +kernel
theorem dX0_init_9 : decode cX0_init 9 = .ok (.aload_n 0, 1) := by decide +kernel
theorem dX0_init_10 : decode cX0_init 10 = .ok (.iload_n 2, 1) := by decide +kernel
theorem dX0_init_11 : decode cX0_init 11 = .ok (.putfield 15, 3) := by decide +kernel
theorem dX0_init_14 : decode cX0_init 14 = .ok (.aload_n 0, 1) := by decide +kernel
theorem dX0_init_15 : decode cX0_init 15 = .ok (.iload_n 3, 1) := by decide +kernel
theorem dX0_init_16 : decode cX0_init 16 = .ok (.putfield 18, 3) := by decide +kernel
theorem dX0_init_19 : decode cX0_init 19 = .ok (.aload_n 0, 1) := by decide +kernel
theorem dX0_init_20 : decode cX0_init 20 = .ok (.iload 4, 2) := by decide +kernel
theorem dX0_init_22 : decode cX0_init 22 = .ok (.putfield 21, 3) := by decide +kernel
theorem dX0_init_25 : decode cX0_init 25 = .ok (.aload_n 0, 1) := by decide +kernel
theorem dX0_init_26 : decode cX0_init 26 = .ok (.iload 5, 2) := by decide +kernel
theorem dX0_init_28 : decode cX0_init 28 = .ok (.putfield 25, 3) := by decide +kernel
theorem dX0_init_31 : decode cX0_init 31 = .ok (.aload_n 0, 1) := by decide +kernel
theorem dX0_init_32 : decode cX0_init 32 = .ok (.aload 6, 2) := by decide +kernel
theorem dX0_init_34 : decode cX0_init 34 = .ok (.putfield 28, 3) := by decide +kernel
theorem dX0_init_37 : decode cX0_init 37 = .ok (.aload_n 0, 1) := by decide +kernel
theorem dX0_init_38 : decode cX0_init 38 = .ok (.aload 7, 2) := by decide +kernel
theorem dX0_init_40 : decode cX0_init 40 = .ok (.putfield 32, 3) := by decide +kernel
theorem dX0_init_43 : decode cX0_init 43 = .ok (.aload_n 0, 1) := by decide +kernel
theorem dX0_init_44 : decode cX0_init 44 = .ok (.iconst 0, 1) := by decide +kernel
theorem dX0_init_45 : decode cX0_init 45 = .ok (.putfield 35, 3) := by decide +kernel
theorem dX0_init_48 : decode cX0_init 48 = .ok (.return_, 1) := by decide +kernel
theorem dX0_unpaid_0 : decode cX0_unpaid 0 = .ok (.iconst 0, 1) := by decide +kernel
theorem dX0_unpaid_1 : decode cX0_unpaid 1 = .ok (.istore_n 1, 1) := by decide +kernel
theorem dX0_unpaid_2 : decode cX0_unpaid 2 = .ok (.aload_n 0, 1) := by decide +kernel
theorem dX0_unpaid_3 : decode cX0_unpaid 3 = .ok (.getfield 35, 3) := by decide +kernel
theorem dX0_unpaid_6 : decode cX0_unpaid 6 = .ok (.istore_n 2, 1) := by decide +kernel
theorem dX0_unpaid_7 : decode cX0_unpaid 7 = .ok (.iload_n 2, 1) := by decide +kernel
theorem dX0_unpaid_8 : decode cX0_unpaid 8 = .ok (.bipush 6, 2) := by decide +kernel
theorem dX0_unpaid_10 : decode cX0_unpaid 10 = .ok (.if_icmp .ge 18, 3) := by decide +kernel
theorem dX0_unpaid_13 : decode cX0_unpaid 13 = .ok (.iload_n 1, 1) := by decide +kernel
theorem dX0_unpaid_14 : decode cX0_unpaid 14 = .ok (.aload_n 0, 1) := by decide +kernel
theorem dX0_unpaid_15 : decode cX0_unpaid 15 = .ok (.getfield 28, 3) := by decide +kernel
theorem dX0_unpaid_18 : decode cX0_unpaid 18 = .ok (.iload_n 2, 1) := by decide +kernel
theorem dX0_unpaid_19 : decode cX0_unpaid 19 = .ok (.iaload, 1) := by decide +kernel
theorem dX0_unpaid_20 : decode cX0_unpaid 20 = .ok (.iadd, 1) := by decide +kernel
theorem dX0_unpaid_21 : decode cX0_unpaid 21 = .ok (.istore_n 1, 1) := by decide +kernel
theorem dX0_unpaid_22 : decode cX0_unpaid 22 = .ok (.iinc 2 1, 3) := by decide +kernel
theorem dX0_unpaid_25 : decode cX0_unpaid 25 = .ok (.goto (-18), 3) := by decide +kernel
theorem dX0_unpaid_28 : decode cX0_unpaid 28 = .ok (.iload_n 1, 1) := by decide +kernel
theorem dX0_unpaid_29 : decode cX0_unpaid 29 = .ok (.ireturn, 1) := by decide +kernel
theorem dX0_partAhead_0 : decode cX0_partAhead 0 = .ok (.aload_n 0, 1) := by decide +kernel
theorem dX0_partAhead_1 : decode cX0_partAhead 1 = .ok (.getfield 35, 3) := by decide +kernel
theorem dX0_partAhead_4 : decode cX0_partAhead 4 = .ok (.iload_n 1, 1) := by decide +kernel
theorem dX0_partAhead_5 : decode cX0_partAhead 5 = .ok (.iadd, 1) := by decide +kernel
theorem dX0_partAhead_6 : decode cX0_partAhead 6 = .ok (.istore_n 2, 1) := by decide +kernel
theorem dX0_partAhead_7 : decode cX0_partAhead 7 = .ok (.iload_n 2, 1) := by decide +kernel
theorem dX0_partAhead_8 : decode cX0_partAhead 8 = .ok (.bipush 6, 2) := by decide +kernel
theorem dX0_partAhead_10 : decode cX0_partAhead 10 = .ok (.if_icmp .ge 12, 3) := by decide +kernel
theorem dX0_partAhead_13 : decode cX0_partAhead 13 = .ok (.aload_n 0, 1) := by decide +kernel
theorem dX0_partAhead_14 : decode cX0_partAhead 14 = .ok (.getfield 28, 3) := by decide +kernel
theorem dX0_partAhead_17 : decode cX0_partAhead 17 = .ok (.iload_n 2, 1) := by decide +kernel
theorem dX0_partAhead_18 : decode cX0_partAhead 18 = .ok (.iaload, 1) := by decide +kernel
theorem dX0_partAhead_19 : decode cX0_partAhead 19 = .ok (.goto 4, 3) := by decide +kernel
theorem dX0_partAhead_22 : decode cX0_partAhead 22 = .ok (.iconst 0, 1) := by decide +kernel
theorem dX0_partAhead_23 : decode cX0_partAhead 23 = .ok (.ireturn, 1) := by decide +kernel
set_option maxRecDepth 20000 in
theorem ggX0_customerInterest_X0_unpaid : GoodIn wsX0_customerInterest wsX0_unpaid := goodIn_r _ [6, 7, 8, 13, 14, 15, 16, 17, 18, 19, 20] (by decide +kernel) (by decide +kernel)
set_option maxRecDepth 20000 in
theorem gX0_customerInterest_X0_unpaid : GoodIn wsX0_customerInterest (wsV RX0 38 RX0 yX0_unpaid wsX0_unpaid) := goodIn_app (goodIn_of _ (by decide +kernel)) ggX0_customerInterest_X0_unpaid
set_option maxRecDepth 20000 in
theorem ggX0_customerInterest_X2_forOneMonth : GoodIn wsX0_customerInterest wsX2_forOneMonth := goodIn_r _ [11, 12] (by decide +kernel) (by decide +kernel)
set_option maxRecDepth 20000 in
theorem gX0_customerInterest_X2_forOneMonth_n42 : GoodIn wsX0_customerInterest (wsX2_forOneMonth) := ggX0_customerInterest_X2_forOneMonth
theorem dX0_customerInterest_0 : decode cX0_customerInterest 0 = .ok (.aload_n 0, 1) := by decide +kernel
theorem dX0_customerInterest_1 : decode cX0_customerInterest 1 = .ok (.invokevirtual 38, 3) := by decide +kernel
theorem dX0_customerInterest_4 : decode cX0_customerInterest 4 = .ok (.i2l, 1) := by decide +kernel
theorem dX0_customerInterest_5 : decode cX0_customerInterest 5 = .ok (.aload_n 0, 1) := by decide +kernel
theorem dX0_customerInterest_6 : decode cX0_customerInterest 6 = .ok (.getfield 18, 3) := by decide +kernel
theorem dX0_customerInterest_9 : decode cX0_customerInterest 9 = .ok (.i2l, 1) := by decide +kernel
theorem dX0_customerInterest_10 : decode cX0_customerInterest 10 = .ok (.lmul, 1) := by decide +kernel
theorem dX0_customerInterest_11 : decode cX0_customerInterest 11 = .ok (.invokestatic 42, 3) := by decide +kernel
theorem dX0_customerInterest_14 : decode cX0_customerInterest 14 = .ok (.ireturn, 1) := by decide +kernel
set_option maxRecDepth 20000 in
theorem ggX0_funding_X2_forOneMonth : GoodIn wsX0_funding wsX2_forOneMonth := goodIn_r _ [6, 7] (by decide +kernel) (by decide +kernel)
set_option maxRecDepth 20000 in
theorem gX0_funding_X2_forOneMonth_n42 : GoodIn wsX0_funding (wsX2_forOneMonth) := ggX0_funding_X2_forOneMonth
theorem dX0_funding_0 : decode cX0_funding 0 = .ok (.lconst 0, 1) := by decide +kernel
theorem dX0_funding_1 : decode cX0_funding 1 = .ok (.lstore_n 1, 1) := by decide +kernel
theorem dX0_funding_2 : decode cX0_funding 2 = .ok (.aload_n 0, 1) := by decide +kernel
theorem dX0_funding_3 : decode cX0_funding 3 = .ok (.getfield 35, 3) := by decide +kernel
theorem dX0_funding_6 : decode cX0_funding 6 = .ok (.istore_n 3, 1) := by decide +kernel
theorem dX0_funding_7 : decode cX0_funding 7 = .ok (.iload_n 3, 1) := by decide +kernel
theorem dX0_funding_8 : decode cX0_funding 8 = .ok (.bipush 6, 2) := by decide +kernel
theorem dX0_funding_10 : decode cX0_funding 10 = .ok (.if_icmp .ge 27, 3) := by decide +kernel
theorem dX0_funding_13 : decode cX0_funding 13 = .ok (.lload_n 1, 1) := by decide +kernel
theorem dX0_funding_14 : decode cX0_funding 14 = .ok (.aload_n 0, 1) := by decide +kernel
theorem dX0_funding_15 : decode cX0_funding 15 = .ok (.getfield 28, 3) := by decide +kernel
theorem dX0_funding_18 : decode cX0_funding 18 = .ok (.iload_n 3, 1) := by decide +kernel
theorem dX0_funding_19 : decode cX0_funding 19 = .ok (.iaload, 1) := by decide +kernel
theorem dX0_funding_20 : decode cX0_funding 20 = .ok (.i2l, 1) := by decide +kernel
theorem dX0_funding_21 : decode cX0_funding 21 = .ok (.aload_n 0, 1) := by decide +kernel
theorem dX0_funding_22 : decode cX0_funding 22 = .ok (.getfield 32, 3) := by decide +kernel
theorem dX0_funding_25 : decode cX0_funding 25 = .ok (.iload_n 3, 1) := by decide +kernel
theorem dX0_funding_26 : decode cX0_funding 26 = .ok (.iaload, 1) := by decide +kernel
theorem dX0_funding_27 : decode cX0_funding 27 = .ok (.i2l, 1) := by decide +kernel
theorem dX0_funding_28 : decode cX0_funding 28 = .ok (.lmul, 1) := by decide +kernel
theorem dX0_funding_29 : decode cX0_funding 29 = .ok (.ladd, 1) := by decide +kernel
theorem dX0_funding_30 : decode cX0_funding 30 = .ok (.lstore_n 1, 1) := by decide +kernel
theorem dX0_funding_31 : decode cX0_funding 31 = .ok (.iinc 3 1, 3) := by decide +kernel
theorem dX0_funding_34 : decode cX0_funding 34 = .ok (.goto (-27), 3) := by decide +kernel
theorem dX0_funding_37 : decode cX0_funding 37 = .ok (.lload_n 1, 1) := by decide +kernel
theorem dX0_funding_38 : decode cX0_funding 38 = .ok (.invokestatic 42, 3) := by decide +kernel
theorem dX0_funding_41 : decode cX0_funding 41 = .ok (.ireturn, 1) := by decide +kernel
set_option maxRecDepth 20000 in
theorem ggX0_optionCharge_X0_unpaid : GoodIn wsX0_optionCharge wsX0_unpaid := goodIn_r _ [6, 7, 8, 13, 14, 15, 16, 17, 18, 19, 20] (by decide +kernel) (by decide +kernel)
set_option maxRecDepth 20000 in
theorem gX0_optionCharge_X0_unpaid : GoodIn wsX0_optionCharge (wsV RX0 38 RX0 yX0_unpaid wsX0_unpaid) := goodIn_app (goodIn_of _ (by decide +kernel)) ggX0_optionCharge_X0_unpaid
set_option maxRecDepth 20000 in
theorem ggX0_optionCharge_X2_forOneMonth : GoodIn wsX0_optionCharge wsX2_forOneMonth := goodIn_r _ [11, 12] (by decide +kernel) (by decide +kernel)
set_option maxRecDepth 20000 in
theorem gX0_optionCharge_X2_forOneMonth_n42 : GoodIn wsX0_optionCharge (wsX2_forOneMonth) := ggX0_optionCharge_X2_forOneMonth
theorem dX0_optionCharge_0 : decode cX0_optionCharge 0 = .ok (.aload_n 0, 1) := by decide +kernel
theorem dX0_optionCharge_1 : decode cX0_optionCharge 1 = .ok (.invokevirtual 38, 3) := by decide +kernel
theorem dX0_optionCharge_4 : decode cX0_optionCharge 4 = .ok (.i2l, 1) := by decide +kernel
theorem dX0_optionCharge_5 : decode cX0_optionCharge 5 = .ok (.aload_n 0, 1) := by decide +kernel
theorem dX0_optionCharge_6 : decode cX0_optionCharge 6 = .ok (.getfield 25, 3) := by decide +kernel
theorem dX0_optionCharge_9 : decode cX0_optionCharge 9 = .ok (.i2l, 1) := by decide +kernel
theorem dX0_optionCharge_10 : decode cX0_optionCharge 10 = .ok (.lmul, 1) := by decide +kernel
theorem dX0_optionCharge_11 : decode cX0_optionCharge 11 = .ok (.invokestatic 42, 3) := by decide +kernel
theorem dX0_optionCharge_14 : decode cX0_optionCharge 14 = .ok (.ireturn, 1) := by decide +kernel
set_option maxRecDepth 20000 in
theorem ggX0_ownMargin_X0_customerInterest : GoodIn wsX0_ownMargin wsX0_customerInterest := goodIn_r _ [5, 6, 7, 8, 9, 4, 10, 11, 12, 13, 14, 15, 16, 27, 28, 29, 30, 31, 32, 33, 34] (by decide +kernel) (by decide +kernel)
set_option maxRecDepth 20000 in
theorem gX0_ownMargin_X0_customerInterest : GoodIn wsX0_ownMargin (wsV RX0 46 RX0 yX0_customerInterest wsX0_customerInterest) := goodIn_app (goodIn_of _ (by decide +kernel)) ggX0_ownMargin_X0_customerInterest
set_option maxRecDepth 20000 in
theorem ggX0_ownMargin_X0_funding : GoodIn wsX0_ownMargin wsX0_funding := goodIn_r _ [20, 11, 12, 21, 13, 14, 15, 16, 27, 28, 29, 30, 31, 32, 33, 34] (by decide +kernel) (by decide +kernel)
set_option maxRecDepth 20000 in
theorem gX0_ownMargin_X0_funding : GoodIn wsX0_ownMargin (wsV RX0 49 RX0 yX0_funding wsX0_funding) := goodIn_app (goodIn_of _ (by decide +kernel)) ggX0_ownMargin_X0_funding
set_option maxRecDepth 20000 in
theorem ggX0_ownMargin_X0_optionCharge : GoodIn wsX0_ownMargin wsX0_optionCharge := goodIn_r _ [25, 26, 7, 8, 9, 4, 10, 11, 12, 13, 14, 15, 16, 27, 28, 29, 30, 31, 32, 33, 34] (by decide +kernel) (by decide +kernel)
set_option maxRecDepth 20000 in
theorem gX0_ownMargin_X0_optionCharge : GoodIn wsX0_ownMargin (wsV RX0 52 RX0 yX0_optionCharge wsX0_optionCharge) := goodIn_app (goodIn_of _ (by decide +kernel)) ggX0_ownMargin_X0_optionCharge
theorem dX0_ownMargin_0 : decode cX0_ownMargin 0 = .ok (.aload_n 0, 1) := by decide +kernel
theorem dX0_ownMargin_1 : decode cX0_ownMargin 1 = .ok (.invokevirtual 46, 3) := by decide +kernel
theorem dX0_ownMargin_4 : decode cX0_ownMargin 4 = .ok (.aload_n 0, 1) := by decide +kernel
theorem dX0_ownMargin_5 : decode cX0_ownMargin 5 = .ok (.invokevirtual 49, 3) := by decide +kernel
theorem dX0_ownMargin_8 : decode cX0_ownMargin 8 = .ok (.isub, 1) := by decide +kernel
theorem dX0_ownMargin_9 : decode cX0_ownMargin 9 = .ok (.aload_n 0, 1) := by decide +kernel
theorem dX0_ownMargin_10 : decode cX0_ownMargin 10 = .ok (.invokevirtual 52, 3) := by decide +kernel
theorem dX0_ownMargin_13 : decode cX0_ownMargin 13 = .ok (.isub, 1) := by decide +kernel
theorem dX0_ownMargin_14 : decode cX0_ownMargin 14 = .ok (.ireturn, 1) := by decide +kernel
theorem dX0_payPart_0 : decode cX0_payPart 0 = .ok (.aload_n 0, 1) := by decide +kernel
theorem dX0_payPart_1 : decode cX0_payPart 1 = .ok (.getfield 35, 3) := by decide +kernel
theorem dX0_payPart_4 : decode cX0_payPart 4 = .ok (.bipush 6, 2) := by decide +kernel
theorem dX0_payPart_6 : decode cX0_payPart 6 = .ok (.if_icmp .ge 13, 3) := by decide +kernel
theorem dX0_payPart_9 : decode cX0_payPart 9 = .ok (.aload_n 0, 1) := by decide +kernel
theorem dX0_payPart_10 : decode cX0_payPart 10 = .ok (.aload_n 0, 1) := by decide +kernel
theorem dX0_payPart_11 : decode cX0_payPart 11 = .ok (.getfield 35, 3) := by decide +kernel
theorem dX0_payPart_14 : decode cX0_payPart 14 = .ok (.iconst 1, 1) := by decide +kernel
theorem dX0_payPart_15 : decode cX0_payPart 15 = .ok (.iadd, 1) := by decide +kernel
theorem dX0_payPart_16 : decode cX0_payPart 16 = .ok (.putfield 35, 3) := by decide +kernel
theorem dX0_payPart_19 : decode cX0_payPart 19 = .ok (.return_, 1) := by decide +kernel
theorem dX0_settle_0 : decode cX0_settle 0 = .ok (.aload_n 0, 1) := by decide +kernel
theorem dX0_settle_1 : decode cX0_settle 1 = .ok (.bipush 6, 2) := by decide +kernel
theorem dX0_settle_3 : decode cX0_settle 3 = .ok (.putfield 35, 3) := by decide +kernel
theorem dX0_settle_6 : decode cX0_settle 6 = .ok (.return_, 1) := by decide +kernel
theorem dX1_init_0 : decode cX1_init 0 = .ok (.aload_n 0, 1) := by decide +kernel
theorem dX1_init_1 : decode cX1_init 1 = .ok (.invokespecial 3, 3) := by decide +kernel
theorem dX1_init_4 : decode cX1_init 4 = .ok (.aload_n 0, 1) := by decide +kernel
theorem dX1_init_5 : decode cX1_init 5 = .ok (.bipush 6, 2) := by decide +kernel
theorem dX1_init_7 : decode cX1_init 7 = .ok (.newarray .int, 2) := by decide +kernel
theorem dX1_init_9 : decode cX1_init 9 = .ok (.putfield 9, 3) := by decide +kernel
theorem dX1_init_12 : decode cX1_init 12 = .ok (.aload_n 0, 1) := by decide +kernel
theorem dX1_init_13 : decode cX1_init 13 = .ok (.bipush 6, 2) := by decide +kernel
theorem dX1_init_15 : decode cX1_init 15 = .ok (.newarray .int, 2) := by decide +kernel
theorem dX1_init_17 : decode cX1_init 17 = .ok (.putfield 15, 3) := by decide +kernel
theorem dX1_init_20 : decode cX1_init 20 = .ok (.return_, 1) := by decide +kernel
theorem dX1_lay_0 : decode cX1_lay 0 = .ok (.iload_n 1, 1) := by decide +kernel
theorem dX1_lay_1 : decode cX1_lay 1 = .ok (.ifCond .lt 23, 3) := by decide +kernel
theorem dX1_lay_4 : decode cX1_lay 4 = .ok (.iload_n 1, 1) := by decide +kernel
theorem dX1_lay_5 : decode cX1_lay 5 = .ok (.bipush 6, 2) := by decide +kernel
theorem dX1_lay_7 : decode cX1_lay 7 = .ok (.if_icmp .ge 17, 3) := by decide +kernel
theorem dX1_lay_10 : decode cX1_lay 10 = .ok (.aload_n 0, 1) := by decide +kernel
theorem dX1_lay_11 : decode cX1_lay 11 = .ok (.getfield 9, 3) := by decide +kernel
theorem dX1_lay_14 : decode cX1_lay 14 = .ok (.iload_n 1, 1) := by decide +kernel
theorem dX1_lay_15 : decode cX1_lay 15 = .ok (.iload_n 2, 1) := by decide +kernel
theorem dX1_lay_16 : decode cX1_lay 16 = .ok (.iastore, 1) := by decide +kernel
theorem dX1_lay_17 : decode cX1_lay 17 = .ok (.aload_n 0, 1) := by decide +kernel
theorem dX1_lay_18 : decode cX1_lay 18 = .ok (.getfield 15, 3) := by decide +kernel
theorem dX1_lay_21 : decode cX1_lay 21 = .ok (.iload_n 1, 1) := by decide +kernel
theorem dX1_lay_22 : decode cX1_lay 22 = .ok (.iload_n 3, 1) := by decide +kernel
theorem dX1_lay_23 : decode cX1_lay 23 = .ok (.iastore, 1) := by decide +kernel
theorem dX1_lay_24 : decode cX1_lay 24 = .ok (.return_, 1) := by decide +kernel
set_option maxRecDepth 20000 in
theorem ggX1_layAll_X1_lay : GoodIn wsX1_layAll wsX1_lay := goodIn_r _ [5, 6, 7, 8, 9] (by decide +kernel) (by decide +kernel)
set_option maxRecDepth 20000 in
theorem gX1_layAll_X1_lay : GoodIn wsX1_layAll (wsV RX1 18 RX1 yX1_lay wsX1_lay) := goodIn_app (goodIn_of _ (by decide +kernel)) ggX1_layAll_X1_lay
theorem dX1_layAll_0 : decode cX1_layAll 0 = .ok (.iconst 0, 1) := by decide +kernel
theorem dX1_layAll_1 : decode cX1_layAll 1 = .ok (.istore_n 3, 1) := by decide +kernel
theorem dX1_layAll_2 : decode cX1_layAll 2 = .ok (.iload_n 3, 1) := by decide +kernel
theorem dX1_layAll_3 : decode cX1_layAll 3 = .ok (.bipush 6, 2) := by decide +kernel
theorem dX1_layAll_5 : decode cX1_layAll 5 = .ok (.if_icmp .ge 16, 3) := by decide +kernel
theorem dX1_layAll_8 : decode cX1_layAll 8 = .ok (.aload_n 0, 1) := by decide +kernel
theorem dX1_layAll_9 : decode cX1_layAll 9 = .ok (.iload_n 3, 1) := by decide +kernel
theorem dX1_layAll_10 : decode cX1_layAll 10 = .ok (.iload_n 1, 1) := by decide +kernel
theorem dX1_layAll_11 : decode cX1_layAll 11 = .ok (.iload_n 2, 1) := by decide +kernel
theorem dX1_layAll_12 : decode cX1_layAll 12 = .ok (.invokevirtual 18, 3) := by decide +kernel
theorem dX1_layAll_15 : decode cX1_layAll 15 = .ok (.iinc 3 1, 3) := by decide +kernel
theorem dX1_layAll_18 : decode cX1_layAll 18 = .ok (.goto (-16), 3) := by decide +kernel
theorem dX1_layAll_21 : decode cX1_layAll 21 = .ok (.return_, 1) := by decide +kernel
theorem dX1_averageRate_0 : decode cX1_averageRate 0 = .ok (.lconst 0, 1) := by decide +kernel
theorem dX1_averageRate_1 : decode cX1_averageRate 1 = .ok (.lstore_n 1, 1) := by decide +kernel
theorem dX1_averageRate_2 : decode cX1_averageRate 2 = .ok (.lconst 0, 1) := by decide +kernel
theorem dX1_averageRate_3 : decode cX1_averageRate 3 = .ok (.lstore_n 3, 1) := by decide +kernel
theorem dX1_averageRate_4 : decode cX1_averageRate 4 = .ok (.iconst 0, 1) := by decide +kernel
theorem dX1_averageRate_5 : decode cX1_averageRate 5 = .ok (.istore 5, 2) := by decide +kernel
theorem dX1_averageRate_7 : decode cX1_averageRate 7 = .ok (.iload 5, 2) := by decide +kernel
theorem dX1_averageRate_9 : decode cX1_averageRate 9 = .ok (.bipush 6, 2) := by decide +kernel
theorem dX1_averageRate_11 : decode cX1_averageRate 11 = .ok (.if_icmp .ge 40, 3) := by decide +kernel
theorem dX1_averageRate_14 : decode cX1_averageRate 14 = .ok (.lload_n 1, 1) := by decide +kernel
theorem dX1_averageRate_15 : decode cX1_averageRate 15 = .ok (.aload_n 0, 1) := by decide +kernel
theorem dX1_averageRate_16 : decode cX1_averageRate 16 = .ok (.getfield 9, 3) := by decide +kernel
theorem dX1_averageRate_19 : decode cX1_averageRate 19 = .ok (.iload 5, 2) := by decide +kernel
theorem dX1_averageRate_21 : decode cX1_averageRate 21 = .ok (.iaload, 1) := by decide +kernel
theorem dX1_averageRate_22 : decode cX1_averageRate 22 = .ok (.i2l, 1) := by decide +kernel
theorem dX1_averageRate_23 : decode cX1_averageRate 23 = .ok (.ladd, 1) := by decide +kernel
theorem dX1_averageRate_24 : decode cX1_averageRate 24 = .ok (.lstore_n 1, 1) := by decide +kernel
theorem dX1_averageRate_25 : decode cX1_averageRate 25 = .ok (.lload_n 3, 1) := by decide +kernel
theorem dX1_averageRate_26 : decode cX1_averageRate 26 = .ok (.aload_n 0, 1) := by decide +kernel
theorem dX1_averageRate_27 : decode cX1_averageRate 27 = .ok (.getfield 9, 3) := by decide +kernel
theorem dX1_averageRate_30 : decode cX1_averageRate 30 = .ok (.iload 5, 2) := by decide +kernel
theorem dX1_averageRate_32 : decode cX1_averageRate 32 = .ok (.iaload, 1) := by decide +kernel
theorem dX1_averageRate_33 : decode cX1_averageRate 33 = .ok (.i2l, 1) := by decide +kernel
theorem dX1_averageRate_34 : decode cX1_averageRate 34 = .ok (.aload_n 0, 1) := by decide +kernel
theorem dX1_averageRate_35 : decode cX1_averageRate 35 = .ok (.getfield 15, 3) := by decide +kernel
theorem dX1_averageRate_38 : decode cX1_averageRate 38 = .ok (.iload 5, 2) := by decide +kernel
theorem dX1_averageRate_40 : decode cX1_averageRate 40 = .ok (.iaload, 1) := by decide +kernel
theorem dX1_averageRate_41 : decode cX1_averageRate 41 = .ok (.i2l, 1) := by decide +kernel
theorem dX1_averageRate_42 : decode cX1_averageRate 42 = .ok (.lmul, 1) := by decide +kernel
theorem dX1_averageRate_43 : decode cX1_averageRate 43 = .ok (.ladd, 1) := by decide +kernel
theorem dX1_averageRate_44 : decode cX1_averageRate 44 = .ok (.lstore_n 3, 1) := by decide +kernel
theorem dX1_averageRate_45 : decode cX1_averageRate 45 = .ok (.iinc 5 1, 3) := by decide +kernel
theorem dX1_averageRate_48 : decode cX1_averageRate 48 = .ok (.goto (-41), 3) := by decide +kernel
theorem dX1_averageRate_51 : decode cX1_averageRate 51 = .ok (.lload_n 1, 1) := by decide +kernel
theorem dX1_averageRate_52 : decode cX1_averageRate 52 = .ok (.lconst 0, 1) := by decide +kernel
theorem dX1_averageRate_53 : decode cX1_averageRate 53 = .ok (.lcmp, 1) := by decide +kernel
theorem dX1_averageRate_54 : decode cX1_averageRate 54 = .ok (.ifCond .le 10, 3) := by decide +kernel
theorem dX1_averageRate_57 : decode cX1_averageRate 57 = .ok (.lload_n 3, 1) := by decide +kernel
theorem dX1_averageRate_58 : decode cX1_averageRate 58 = .ok (.lload_n 1, 1) := by decide +kernel
theorem dX1_averageRate_59 : decode cX1_averageRate 59 = .ok (.ldiv, 1) := by decide +kernel
theorem dX1_averageRate_60 : decode cX1_averageRate 60 = .ok (.l2i, 1) := by decide +kernel
theorem dX1_averageRate_61 : decode cX1_averageRate 61 = .ok (.goto 4, 3) := by decide +kernel
theorem dX1_averageRate_64 : decode cX1_averageRate 64 = .ok (.iconst 0, 1) := by decide +kernel
theorem dX1_averageRate_65 : decode cX1_averageRate 65 = .ok (.ireturn, 1) := by decide +kernel
