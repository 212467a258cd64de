theorem dX3_init_0 : decode cX3_init 0 = .ok (.aload_n 0, 1) := by decide +kernel
theorem dX3_init_1 : decode cX3_init 1 = .ok (.invokespecial 1, 3) := by decide +kernel
theorem dX3_init_4 : decode cX3_init 4 = .ok (.aload_n 0, 1) := by decide +kernel
theorem dX3_init_5 : decode cX3_init 5 = .ok (.bipush 7, 2) := by decide +kernel
theorem dX3_init_7 : decode cX3_init 7 = .ok (.newarray .int, 2) := by decide +kernel
theorem dX3_init_9 : decode cX3_init 9 = .ok (.putfield 7, 3) := by decide +kernel
theorem dX3_init_12 : decode cX3_init 12 = .ok (.aload_n 0, 1) := by decide +kernel
theorem dX3_init_13 : decode cX3_init 13 = .ok (.bipush 50, 2) := by decide +kernel
theorem dX3_init_15 : decode cX3_init 15 = .ok (.putfield 13, 3) := by decide +kernel
theorem dX3_init_18 : decode cX3_init 18 = .ok (.aload_n 0, 1) := by decide +kernel
theorem dX3_init_19 : decode cX3_init 19 = .ok (.bipush 24, 2) := by decide +kernel
theorem dX3_init_21 : decode cX3_init 21 = .ok (.newarray .int, 2) := by decide +kernel
theorem dX3_init_23 : decode cX3_init 23 = .ok (.putfield 17, 3) := by decide +kernel
theorem dX3_init_26 : decode cX3_init 26 = .ok (.aload_n 0, 1) := by decide +kernel
theorem dX3_init_27 : decode cX3_init 27 = .ok (.bipush 24, 2) := by decide +kernel
theorem dX3_init_29 : decode cX3_init 29 = .ok (.newarray .int, 2) := by decide +kernel
theorem dX3_init_31 : decode cX3_init 31 = .ok (.putfield 20, 3) := by decide +kernel
theorem dX3_init_34 : decode cX3_init 34 = .ok (.aload_n 0, 1) := by decide +kernel
theorem dX3_init_35 : decode cX3_init 35 = .ok (.bipush 24, 2) := by decide +kernel
theorem dX3_init_37 : decode cX3_init 37 = .ok (.newarray .int, 2) := by decide +kernel
theorem dX3_init_39 : decode cX3_init 39 = .ok (.putfield 23, 3) := by decide +kernel
theorem dX3_init_42 : decode cX3_init 42 = .ok (.aload_n 0, 1) := by decide +kernel
theorem dX3_init_43 : decode cX3_init 43 = .ok (.bipush 24, 2) := by decide +kernel
theorem dX3_init_45 : decode cX3_init 45 = .ok (.newarray .int, 2) := by decide +kernel
theorem dX3_init_47 : decode cX3_init 47 = .ok (.putfield 26, 3) := by decide +kernel
theorem dX3_init_50 : decode cX3_init 50 = .ok (.aload_n 0, 1) := by decide +kernel
theorem dX3_init_51 : decode cX3_init 51 = .ok (.bipush 24, 2) := by decide +kernel
theorem dX3_init_53 : decode cX3_init 53 = .ok (.newarray .boolean, 2) := by decide +kernel
theorem dX3_init_55 : decode cX3_init 55 = .ok (.putfield 29, 3) := by decide +kernel
theorem dX3_init_58 : decode cX3_init 58 = .ok (.aload_n 0, 1) := by decide +kernel
theorem dX3_init_59 : decode cX3_init 59 = .ok (.bipush 24, 2) := by decide +kernel
theorem dX3_init_61 : decode cX3_init 61 = .ok (.newarray .int, 2) := by decide +kernel
theorem dX3_init_63 : decode cX3_init 63 = .ok (.putfield 33, 3) := by decide +kernel
theorem dX3_init_66 : decode cX3_init 66 = .ok (.aload_n 0, 1) := by decide +kernel
theorem dX3_init_67 : decode cX3_init 67 = .ok (.sipush 144, 3) := by decide +kernel
theorem dX3_init_70 : decode cX3_init 70 = .ok (.newarray .int, 2) := by decide +kernel
theorem dX3_init_72 : decode cX3_init 72 = .ok (.putfield 36, 3) := by decide +kernel
theorem dX3_init_75 : decode cX3_init 75 = .ok (.aload_n 0, 1) := by decide +kernel
theorem dX3_init_76 : decode cX3_init 76 = .ok (.sipush 144, 3) := by decide +kernel
theorem dX3_init_79 : decode cX3_init 79 = .ok (.newarray .int, 2) := by decide +kernel
theorem dX3_init_81 : decode cX3_init 81 = .ok (.putfield 39, 3) := by decide +kernel
theorem dX3_init_84 : decode cX3_init 84 = .ok (.aload_n 0, 1) := by decide +kernel
theorem dX3_init_85 : decode cX3_init 85 = .ok (.iconst 3, 1) := by decide +kernel
theorem dX3_init_86 : decode cX3_init 86 = .ok (.newarray .int, 2) := by decide +kernel
theorem dX3_init_88 : decode cX3_init 88 = .ok (.putfield 42, 3) := by decide +kernel
theorem dX3_init_91 : decode cX3_init 91 = .ok (.aload_n 0, 1) := by decide +kernel
theorem dX3_init_92 : decode cX3_init 92 = .ok (.bipush 6, 2) := by decide +kernel
theorem dX3_init_94 : decode cX3_init 94 = .ok (.newarray .int, 2) := by decide +kernel
theorem dX3_init_96 : decode cX3_init 96 = .ok (.putfield 45, 3) := by decide +kernel
theorem dX3_init_99 : decode cX3_init 99 = .ok (.aload_n 0, 1) := by decide +kernel
theorem dX3_init_100 : decode cX3_init 100 = .ok (.bipush 6, 2) := by decide +kernel
theorem dX3_init_102 : decode cX3_init 102 = .ok (.newarray .int, 2) := by decide +kernel
theorem dX3_init_104 : decode cX3_init 104 = .ok (.putfield 48, 3) := by decide +kernel
theorem dX3_init_107 : decode cX3_init 107 = .ok (.aload_n 0, 1) := by decide +kernel
theorem dX3_init_108 : decode cX3_init 108 = .ok (.sipush 144, 3) := by decide +kernel
theorem dX3_init_111 : decode cX3_init 111 = .ok (.newarray .int, 2) := by decide +kernel
theorem dX3_init_113 : decode cX3_init 113 = .ok (.putfield 51, 3) := by decide +kernel
theorem dX3_init_116 : decode cX3_init 116 = .ok (.aload_n 0, 1) := by decide +kernel
theorem dX3_init_117 : decode cX3_init 117 = .ok (.sipush 144, 3) := by decide +kernel
theorem dX3_init_120 : decode cX3_init 120 = .ok (.newarray .int, 2) := by decide +kernel
theorem dX3_init_122 : decode cX3_init 122 = .ok (.putfield 54, 3) := by decide +kernel
theorem dX3_init_125 : decode cX3_init 125 = .ok (.aload_n 0, 1) := by decide +kernel
theorem dX3_init_126 : decode cX3_init 126 = .ok (.bipush 48, 2) := by decide +kernel
theorem dX3_init_128 : decode cX3_init 128 = .ok (.newarray .int, 2) := by decide +kernel
theorem dX3_init_130 : decode cX3_init 130 = .ok (.putfield 57, 3) := by decide +kernel
theorem dX3_init_133 : decode cX3_init 133 = .ok (.aload_n 0, 1) := by decide +kernel
theorem dX3_init_134 : decode cX3_init 134 = .ok (.bipush 48, 2) := by decide +kernel
theorem dX3_init_136 : decode cX3_init 136 = .ok (.newarray .int, 2) := by decide +kernel
theorem dX3_init_138 : decode cX3_init 138 = .ok (.putfield 60, 3) := by decide +kernel
theorem dX3_init_141 : decode cX3_init 141 = .ok (.return_, 1) := by decide +kernel
theorem dX3_thrown_0 : decode cX3_thrown 0 = .ok (.aload_n 0, 1) := by decide +kernel
theorem dX3_thrown_1 : decode cX3_thrown 1 = .ok (.getfield 63, 3) := by decide +kernel
theorem dX3_thrown_4 : decode cX3_thrown 4 = .ok (.ireturn, 1) := by decide +kernel
theorem dX3_fails_0 : decode cX3_fails 0 = .ok (.aload_n 0, 1) := by decide +kernel
theorem dX3_fails_1 : decode cX3_fails 1 = .ok (.iload_n 1, 1) := by decide +kernel
theorem dX3_fails_2 : decode cX3_fails 2 = .ok (.putfield 63, 3) := by decide +kernel
theorem dX3_fails_5 : decode cX3_fails 5 = .ok (.iconst 0, 1) := by decide +kernel
theorem dX3_fails_6 : decode cX3_fails 6 = .ok (.ireturn, 1) := by decide +kernel
theorem dX3_in_0 : decode cX3_in 0 = .ok (.iload_n 0, 1) := by decide +kernel
theorem dX3_in_1 : decode cX3_in 1 = .ok (.iload_n 1, 1) := by decide +kernel
theorem dX3_in_2 : decode cX3_in 2 = .ok (.if_icmp .lt 12, 3) := by decide +kernel
theorem dX3_in_5 : decode cX3_in 5 = .ok (.iload_n 0, 1) := by decide +kernel
theorem dX3_in_6 : decode cX3_in 6 = .ok (.iload_n 2, 1) := by decide +kernel
theorem dX3_in_7 : decode cX3_in 7 = .ok (.if_icmp .gt 7, 3) := by decide +kernel
theorem dX3_in_10 : decode cX3_in 10 = .ok (.iconst 1, 1) := by decide +kernel
theorem dX3_in_11 : decode cX3_in 11 = .ok (.goto 4, 3) := by decide +kernel
theorem dX3_in_14 : decode cX3_in 14 = .ok (.iconst 0, 1) := by decide +kernel
theorem dX3_in_15 : decode cX3_in 15 = .ok (.ireturn, 1) := by decide +kernel
set_option maxRecDepth 20000 in
theorem ggX3_isLoan_X3_in : GoodIn wsX3_isLoan wsX3_in := goodIn_r _ [5] (by decide +kernel) (by decide +kernel)
set_option maxRecDepth 20000 in
theorem gX3_isLoan_X3_in : GoodIn wsX3_isLoan (va_wsS RX3 69 yX3_in wsX3_in) := goodIn_app (goodIn_of _ (by decide +kernel)) ggX3_isLoan_X3_in
theorem dX3_isLoan_0 : decode cX3_isLoan 0 = .ok (.iload_n 1, 1) := by decide +kernel
theorem dX3_isLoan_1 : decode cX3_isLoan 1 = .ok (.iconst 0, 1) := by decide +kernel
theorem dX3_isLoan_2 : decode cX3_isLoan 2 = .ok (.aload_n 0, 1) := by decide +kernel
theorem dX3_isLoan_3 : decode cX3_isLoan 3 = .ok (.getfield 66, 3) := by decide +kernel
theorem dX3_isLoan_6 : decode cX3_isLoan 6 = .ok (.iconst 1, 1) := by decide +kernel
theorem dX3_isLoan_7 : decode cX3_isLoan 7 = .ok (.isub, 1) := by decide +kernel
theorem dX3_isLoan_8 : decode cX3_isLoan 8 = .ok (.invokestatic 69, 3) := by decide +kernel
theorem dX3_isLoan_11 : decode cX3_isLoan 11 = .ok (.ireturn, 1) := by decide +kernel
set_option maxRecDepth 20000 in
theorem ggX3_isBranch_X3_in : GoodIn wsX3_isBranch wsX3_in := goodIn_r _ [4] (by decide +kernel) (by decide +kernel)
set_option maxRecDepth 20000 in
theorem gX3_isBranch_X3_in : GoodIn wsX3_isBranch (va_wsS RX3 69 yX3_in wsX3_in) := goodIn_app (goodIn_of _ (by decide +kernel)) ggX3_isBranch_X3_in
theorem dX3_isBranch_0 : decode cX3_isBranch 0 = .ok (.iload_n 0, 1) := by decide +kernel
theorem dX3_isBranch_1 : decode cX3_isBranch 1 = .ok (.iconst 0, 1) := by decide +kernel
theorem dX3_isBranch_2 : decode cX3_isBranch 2 = .ok (.iconst 2, 1) := by decide +kernel
theorem dX3_isBranch_3 : decode cX3_isBranch 3 = .ok (.invokestatic 69, 3) := by decide +kernel
theorem dX3_isBranch_6 : decode cX3_isBranch 6 = .ok (.ireturn, 1) := by decide +kernel
set_option maxRecDepth 20000 in
theorem ggX3_isEnded_X3_in : GoodIn wsX3_isEnded wsX3_in := goodIn_r _ [5] (by decide +kernel) (by decide +kernel)
set_option maxRecDepth 20000 in
theorem gX3_isEnded_X3_in : GoodIn wsX3_isEnded (va_wsS RX3 69 yX3_in wsX3_in) := goodIn_app (goodIn_of _ (by decide +kernel)) ggX3_isEnded_X3_in
theorem dX3_isEnded_0 : decode cX3_isEnded 0 = .ok (.iload_n 1, 1) := by decide +kernel
theorem dX3_isEnded_1 : decode cX3_isEnded 1 = .ok (.iconst 0, 1) := by decide +kernel
theorem dX3_isEnded_2 : decode cX3_isEnded 2 = .ok (.aload_n 0, 1) := by decide +kernel
theorem dX3_isEnded_3 : decode cX3_isEnded 3 = .ok (.getfield 73, 3) := by decide +kernel
theorem dX3_isEnded_6 : decode cX3_isEnded 6 = .ok (.iconst 1, 1) := by decide +kernel
theorem dX3_isEnded_7 : decode cX3_isEnded 7 = .ok (.isub, 1) := by decide +kernel
theorem dX3_isEnded_8 : decode cX3_isEnded 8 = .ok (.invokestatic 69, 3) := by decide +kernel
theorem dX3_isEnded_11 : decode cX3_isEnded 11 = .ok (.ireturn, 1) := by decide +kernel
set_option maxRecDepth 20000 in
theorem ggX3_setCurve_X3_in : GoodIn wsX3_setCurve wsX3_in := goodIn_r _ [6] (by decide +kernel) (by decide +kernel)
set_option maxRecDepth 20000 in
theorem gX3_setCurve_X3_in : GoodIn wsX3_setCurve (va_wsS RX3 69 yX3_in wsX3_in) := goodIn_app (goodIn_of _ (by decide +kernel)) ggX3_setCurve_X3_in
set_option maxRecDepth 20000 in
theorem ggX3_setCurve_X3_fails : GoodIn wsX3_setCurve wsX3_fails := goodIn_r _ [10, 1, 11, 12, 13, 14, 15, 16, 17, 18, 19, 20, 21, 22, 23, 24, 25, 26, 27, 28, 29, 30, 31, 32] (by decide +kernel) (by decide +kernel)
set_option maxRecDepth 20000 in
theorem gX3_setCurve_X3_fails : GoodIn wsX3_setCurve (wsV RX3 76 RX3 yX3_fails wsX3_fails) := goodIn_app (goodIn_of _ (by decide +kernel)) ggX3_setCurve_X3_fails
theorem dX3_setCurve_0 : decode cX3_setCurve 0 = .ok (.aload_n 0, 1) := by decide +kernel
theorem dX3_setCurve_1 : decode cX3_setCurve 1 = .ok (.iconst 0, 1) := by decide +kernel
theorem dX3_setCurve_2 : decode cX3_setCurve 2 = .ok (.putfield 63, 3) := by decide +kernel
theorem dX3_setCurve_5 : decode cX3_setCurve 5 = .ok (.iload_n 1, 1) := by decide +kernel
theorem dX3_setCurve_6 : decode cX3_setCurve 6 = .ok (.iconst 1, 1) := by decide +kernel
theorem dX3_setCurve_7 : decode cX3_setCurve 7 = .ok (.bipush 6, 2) := by decide +kernel
theorem dX3_setCurve_9 : decode cX3_setCurve 9 = .ok (.invokestatic 69, 3) := by decide +kernel
theorem dX3_setCurve_12 : decode cX3_setCurve 12 = .ok (.ifCond .ne 9, 3) := by decide +kernel
theorem dX3_setCurve_15 : decode cX3_setCurve 15 = .ok (.aload_n 0, 1) := by decide +kernel
theorem dX3_setCurve_16 : decode cX3_setCurve 16 = .ok (.iconst 1, 1) := by decide +kernel
theorem dX3_setCurve_17 : decode cX3_setCurve 17 = .ok (.invokevirtual 76, 3) := by decide +kernel
theorem dX3_setCurve_20 : decode cX3_setCurve 20 = .ok (.ireturn, 1) := by decide +kernel
theorem dX3_setCurve_21 : decode cX3_setCurve 21 = .ok (.iload_n 2, 1) := by decide +kernel
theorem dX3_setCurve_22 : decode cX3_setCurve 22 = .ok (.iconst 0, 1) := by decide +kernel
theorem dX3_setCurve_23 : decode cX3_setCurve 23 = .ok (.sipush 5000, 3) := by decide +kernel
theorem dX3_setCurve_26 : decode cX3_setCurve 26 = .ok (.invokestatic 69, 3) := by decide +kernel
theorem dX3_setCurve_29 : decode cX3_setCurve 29 = .ok (.ifCond .ne 9, 3) := by decide +kernel
theorem dX3_setCurve_32 : decode cX3_setCurve 32 = .ok (.aload_n 0, 1) := by decide +kernel
theorem dX3_setCurve_33 : decode cX3_setCurve 33 = .ok (.iconst 2, 1) := by decide +kernel
theorem dX3_setCurve_34 : decode cX3_setCurve 34 = .ok (.invokevirtual 76, 3) := by decide +kernel
theorem dX3_setCurve_37 : decode cX3_setCurve 37 = .ok (.ireturn, 1) := by decide +kernel
theorem dX3_setCurve_38 : decode cX3_setCurve 38 = .ok (.aload_n 0, 1) := by decide +kernel
theorem dX3_setCurve_39 : decode cX3_setCurve 39 = .ok (.getfield 7, 3) := by decide +kernel
theorem dX3_setCurve_42 : decode cX3_setCurve 42 = .ok (.iload_n 1, 1) := by decide +kernel
theorem dX3_setCurve_43 : decode cX3_setCurve 43 = .ok (.iaload, 1) := by decide +kernel
theorem dX3_setCurve_44 : decode cX3_setCurve 44 = .ok (.istore_n 3, 1) := by decide +kernel
theorem dX3_setCurve_45 : decode cX3_setCurve 45 = .ok (.aload_n 0, 1) := by decide +kernel
theorem dX3_setCurve_46 : decode cX3_setCurve 46 = .ok (.getfield 7, 3) := by decide +kernel
theorem dX3_setCurve_49 : decode cX3_setCurve 49 = .ok (.iload_n 1, 1) := by decide +kernel
theorem dX3_setCurve_50 : decode cX3_setCurve 50 = .ok (.iload_n 2, 1) := by decide +kernel
theorem dX3_setCurve_51 : decode cX3_setCurve 51 = .ok (.iastore, 1) := by decide +kernel
theorem dX3_setCurve_52 : decode cX3_setCurve 52 = .ok (.iload_n 3, 1) := by decide +kernel
theorem dX3_setCurve_53 : decode cX3_setCurve 53 = .ok (.ireturn, 1) := by decide +kernel
set_option maxRecDepth 20000 in
theorem ggX3_setRates_X3_in : GoodIn wsX3_setRates wsX3_in := goodIn_r _ [8] (by decide +kernel) (by decide +kernel)
set_option maxRecDepth 20000 in
theorem gX3_setRates_X3_in : GoodIn wsX3_setRates (va_wsS RX3 69 yX3_in wsX3_in) := goodIn_app (goodIn_of _ (by decide +kernel)) ggX3_setRates_X3_in
theorem dX3_setRates_0 : decode cX3_setRates 0 = .ok (.aload_n 0, 1) := by decide +kernel
theorem dX3_setRates_1 : decode cX3_setRates 1 = .ok (.iload_n 1, 1) := by decide +kernel
theorem dX3_setRates_2 : decode cX3_setRates 2 = .ok (.iconst 0, 1) := by decide +kernel
theorem dX3_setRates_3 : decode cX3_setRates 3 = .ok (.sipush 5000, 3) := by decide +kernel
theorem dX3_setRates_6 : decode cX3_setRates 6 = .ok (.invokestatic 69, 3) := by decide +kernel
theorem dX3_setRates_9 : decode cX3_setRates 9 = .ok (.ifCond .eq 28, 3) := by decide +kernel
theorem dX3_setRates_12 : decode cX3_setRates 12 = .ok (.iload_n 2, 1) := by decide +kernel
theorem dX3_setRates_13 : decode cX3_setRates 13 = .ok (.iconst 0, 1) := by decide +kernel
theorem dX3_setRates_14 : decode cX3_setRates 14 = .ok (.sipush 5000, 3) := by decide +kernel
theorem dX3_setRates_17 : decode cX3_setRates 17 = .ok (.invokestatic 69, 3) := by decide +kernel
theorem dX3_setRates_20 : decode cX3_setRates 20 = .ok (.ifCond .eq 17, 3) := by decide +kernel
theorem dX3_setRates_23 : decode cX3_setRates 23 = .ok (.iload_n 3, 1) := by decide +kernel
theorem dX3_setRates_24 : decode cX3_setRates 24 = .ok (.iconst 0, 1) := by decide +kernel
theorem dX3_setRates_25 : decode cX3_setRates 25 = .ok (.bipush 100, 2) := by decide +kernel
theorem dX3_setRates_27 : decode cX3_setRates 27 = .ok (.invokestatic 69, 3) := by decide +kernel
theorem dX3_setRates_30 : decode cX3_setRates 30 = .ok (.ifCond .eq 7, 3) := by decide +kernel
theorem dX3_setRates_33 : decode cX3_setRates 33 = .ok (.iconst 0, 1) := by decide +kernel
theorem dX3_setRates_34 : decode cX3_setRates 34 = .ok (.goto 4, 3) := by decide +kernel
theorem dX3_setRates_37 : decode cX3_setRates 37 = .ok (.iconst 1, 1) := by decide +kernel
theorem dX3_setRates_38 : decode cX3_setRates 38 = .ok (.putfield 63, 3) := by decide +kernel
theorem dX3_setRates_41 : decode cX3_setRates 41 = .ok (.aload_n 0, 1) := by decide +kernel
theorem dX3_setRates_42 : decode cX3_setRates 42 = .ok (.getfield 63, 3) := by decide +kernel
theorem dX3_setRates_45 : decode cX3_setRates 45 = .ok (.ifCond .ne 18, 3) := by decide +kernel
theorem dX3_setRates_48 : decode cX3_setRates 48 = .ok (.aload_n 0, 1) := by decide +kernel
theorem dX3_setRates_49 : decode cX3_setRates 49 = .ok (.iload_n 1, 1) := by decide +kernel
theorem dX3_setRates_50 : decode cX3_setRates 50 = .ok (.putfield 80, 3) := by decide +kernel
theorem dX3_setRates_53 : decode cX3_setRates 53 = .ok (.aload_n 0, 1) := by decide +kernel
theorem dX3_setRates_54 : decode cX3_setRates 54 = .ok (.iload_n 2, 1) := by decide +kernel
theorem dX3_setRates_55 : decode cX3_setRates 55 = .ok (.putfield 83, 3) := by decide +kernel
theorem dX3_setRates_58 : decode cX3_setRates 58 = .ok (.aload_n 0, 1) := by decide +kernel
theorem dX3_setRates_59 : decode cX3_setRates 59 = .ok (.iload_n 3, 1) := by decide +kernel
theorem dX3_setRates_60 : decode cX3_setRates 60 = .ok (.putfield 13, 3) := by decide +kernel
theorem dX3_setRates_63 : decode cX3_setRates 63 = .ok (.return_, 1) := by decide +kernel
theorem dX3_leftOf_0 : decode cX3_leftOf 0 = .ok (.iconst 0, 1) := by decide +kernel
theorem dX3_leftOf_1 : decode cX3_leftOf 1 = .ok (.istore_n 2, 1) := by decide +kernel
theorem dX3_leftOf_2 : decode cX3_leftOf 2 = .ok (.iconst 0, 1) := by decide +kernel
theorem dX3_leftOf_3 : decode cX3_leftOf 3 = .ok (.istore_n 3, 1) := by decide +kernel
theorem dX3_leftOf_4 : decode cX3_leftOf 4 = .ok (.iload_n 3, 1) := by decide +kernel
theorem dX3_leftOf_5 : decode cX3_leftOf 5 = .ok (.bipush 6, 2) := by decide +kernel
theorem dX3_leftOf_7 : decode cX3_leftOf 7 = .ok (.if_icmp .ge 23, 3) := by decide +kernel
theorem dX3_leftOf_10 : decode cX3_leftOf 10 = .ok (.iload_n 2, 1) := by decide +kernel
theorem dX3_leftOf_11 : decode cX3_leftOf 11 = .ok (.aload_n 0, 1) := by decide +kernel
theorem dX3_leftOf_12 : decode cX3_leftOf 12 = .ok (.getfield 36, 3) := by decide +kernel
theorem dX3_leftOf_15 : decode cX3_leftOf 15 = .ok (.bipush 6, 2) := by decide +kernel
theorem dX3_leftOf_17 : decode cX3_leftOf 17 = .ok (.iload_n 1, 1) := by decide +kernel
theorem dX3_leftOf_18 : decode cX3_leftOf 18 = .ok (.imul, 1) := by decide +kernel
theorem dX3_leftOf_19 : decode cX3_leftOf 19 = .ok (.iload_n 3, 1) := by decide +kernel
theorem dX3_leftOf_20 : decode cX3_leftOf 20 = .ok (.iadd, 1) := by decide +kernel
theorem dX3_leftOf_21 : decode cX3_leftOf 21 = .ok (.iaload, 1) := by decide +kernel
theorem dX3_leftOf_22 : decode cX3_leftOf 22 = .ok (.iadd, 1) := by decide +kernel
theorem dX3_leftOf_23 : decode cX3_leftOf 23 = .ok (.istore_n 2, 1) := by decide +kernel
theorem dX3_leftOf_24 : decode cX3_leftOf 24 = .ok (.iinc 3 1, 3) := by decide +kernel
theorem dX3_leftOf_27 : decode cX3_leftOf 27 = .ok (.goto (-23), 3) := by decide +kernel
theorem dX3_leftOf_30 : decode cX3_leftOf 30 = .ok (.iload_n 2, 1) := by decide +kernel
theorem dX3_leftOf_31 : decode cX3_leftOf 31 = .ok (.ireturn, 1) := by decide +kernel
set_option maxRecDepth 20000 in
theorem ggX3_bear_X3_leftOf : GoodIn wsX3_bear wsX3_leftOf := goodIn_r _ [11, 1, 12, 13, 14, 15, 16, 17, 18, 19, 20, 21, 22, 23, 24, 25, 26, 27, 28, 29, 30, 31, 32, 33] (by decide +kernel) (by decide +kernel)
set_option maxRecDepth 20000 in
theorem gX3_bear_X3_leftOf : GoodIn wsX3_bear (wsV RX3 86 RX3 yX3_leftOf wsX3_leftOf) := goodIn_app (goodIn_of _ (by decide +kernel)) ggX3_bear_X3_leftOf
theorem dX3_bear_0 : decode cX3_bear 0 = .ok (.aload_n 0, 1) := by decide +kernel
theorem dX3_bear_1 : decode cX3_bear 1 = .ok (.iload_n 1, 1) := by decide +kernel
theorem dX3_bear_2 : decode cX3_bear 2 = .ok (.invokevirtual 86, 3) := by decide +kernel
theorem dX3_bear_5 : decode cX3_bear 5 = .ok (.i2l, 1) := by decide +kernel
theorem dX3_bear_6 : decode cX3_bear 6 = .ok (.lstore_n 3, 1) := by decide +kernel
theorem dX3_bear_7 : decode cX3_bear 7 = .ok (.lconst 0, 1) := by decide +kernel
theorem dX3_bear_8 : decode cX3_bear 8 = .ok (.lstore 5, 2) := by decide +kernel
theorem dX3_bear_10 : decode cX3_bear 10 = .ok (.iconst 0, 1) := by decide +kernel
theorem dX3_bear_11 : decode cX3_bear 11 = .ok (.istore 7, 2) := by decide +kernel
theorem dX3_bear_13 : decode cX3_bear 13 = .ok (.iload 7, 2) := by decide +kernel
theorem dX3_bear_15 : decode cX3_bear 15 = .ok (.bipush 6, 2) := by decide +kernel
theorem dX3_bear_17 : decode cX3_bear 17 = .ok (.if_icmp .ge 41, 3) := by decide +kernel
theorem dX3_bear_20 : decode cX3_bear 20 = .ok (.lload 5, 2) := by decide +kernel
theorem dX3_bear_22 : decode cX3_bear 22 = .ok (.aload_n 0, 1) := by decide +kernel
theorem dX3_bear_23 : decode cX3_bear 23 = .ok (.getfield 36, 3) := by decide +kernel
theorem dX3_bear_26 : decode cX3_bear 26 = .ok (.bipush 6, 2) := by decide +kernel
theorem dX3_bear_28 : decode cX3_bear 28 = .ok (.iload_n 1, 1) := by decide +kernel
theorem dX3_bear_29 : decode cX3_bear 29 = .ok (.imul, 1) := by decide +kernel
theorem dX3_bear_30 : decode cX3_bear 30 = .ok (.iload 7, 2) := by decide +kernel
theorem dX3_bear_32 : decode cX3_bear 32 = .ok (.iadd, 1) := by decide +kernel
theorem dX3_bear_33 : decode cX3_bear 33 = .ok (.iaload, 1) := by decide +kernel
theorem dX3_bear_34 : decode cX3_bear 34 = .ok (.i2l, 1) := by decide +kernel
theorem dX3_bear_35 : decode cX3_bear 35 = .ok (.aload_n 0, 1) := by decide +kernel
theorem dX3_bear_36 : decode cX3_bear 36 = .ok (.getfield 39, 3) := by decide +kernel
theorem dX3_bear_39 : decode cX3_bear 39 = .ok (.bipush 6, 2) := by decide +kernel
theorem dX3_bear_41 : decode cX3_bear 41 = .ok (.iload_n 1, 1) := by decide +kernel
theorem dX3_bear_42 : decode cX3_bear 42 = .ok (.imul, 1) := by decide +kernel
theorem dX3_bear_43 : decode cX3_bear 43 = .ok (.iload 7, 2) := by decide +kernel
theorem dX3_bear_45 : decode cX3_bear 45 = .ok (.iadd, 1) := by decide +kernel
theorem dX3_bear_46 : decode cX3_bear 46 = .ok (.iaload, 1) := by decide +kernel
theorem dX3_bear_47 : decode cX3_bear 47 = .ok (.i2l, 1) := by decide +kernel
theorem dX3_bear_48 : decode cX3_bear 48 = .ok (.lmul, 1) := by decide +kernel
theorem dX3_bear_49 : decode cX3_bear 49 = .ok (.ladd, 1) := by decide +kernel
theorem dX3_bear_50 : decode cX3_bear 50 = .ok (.lstore 5, 2) := by decide +kernel
theorem dX3_bear_52 : decode cX3_bear 52 = .ok (.iinc 7 1, 3) := by decide +kernel
theorem dX3_bear_55 : decode cX3_bear 55 = .ok (.goto (-42), 3) := by decide +kernel
theorem dX3_bear_58 : decode cX3_bear 58 = .ok (.lload_n 3, 1) := by decide +kernel
theorem dX3_bear_59 : decode cX3_bear 59 = .ok (.aload_n 0, 1) := by decide +kernel
theorem dX3_bear_60 : decode cX3_bear 60 = .ok (.getfield 23, 3) := by decide +kernel
theorem dX3_bear_63 : decode cX3_bear 63 = .ok (.iload_n 1, 1) := by decide +kernel
theorem dX3_bear_64 : decode cX3_bear 64 = .ok (.iaload, 1) := by decide +kernel
theorem dX3_bear_65 : decode cX3_bear 65 = .ok (.i2l, 1) := by decide +kernel
theorem dX3_bear_66 : decode cX3_bear 66 = .ok (.lmul, 1) := by decide +kernel
theorem dX3_bear_67 : decode cX3_bear 67 = .ok (.ldc2_w 89, 3) := by decide +kernel
theorem dX3_bear_70 : decode cX3_bear 70 = .ok (.ldiv, 1) := by decide +kernel
theorem dX3_bear_71 : decode cX3_bear 71 = .ok (.l2i, 1) := by decide +kernel
theorem dX3_bear_72 : decode cX3_bear 72 = .ok (.istore 7, 2) := by decide +kernel
theorem dX3_bear_74 : decode cX3_bear 74 = .ok (.lload 5, 2) := by decide +kernel
theorem dX3_bear_76 : decode cX3_bear 76 = .ok (.ldc2_w 89, 3) := by decide +kernel
theorem dX3_bear_79 : decode cX3_bear 79 = .ok (.ldiv, 1) := by decide +kernel
theorem dX3_bear_80 : decode cX3_bear 80 = .ok (.l2i, 1) := by decide +kernel
theorem dX3_bear_81 : decode cX3_bear 81 = .ok (.istore 8, 2) := by decide +kernel
theorem dX3_bear_83 : decode cX3_bear 83 = .ok (.aload_n 0, 1) := by decide +kernel
theorem dX3_bear_84 : decode cX3_bear 84 = .ok (.getfield 29, 3) := by decide +kernel
theorem dX3_bear_87 : decode cX3_bear 87 = .ok (.iload_n 1, 1) := by decide +kernel
theorem dX3_bear_88 : decode cX3_bear 88 = .ok (.baload, 1) := by decide +kernel
theorem dX3_bear_89 : decode cX3_bear 89 = .ok (.ifCond .eq 20, 3) := by decide +kernel
theorem dX3_bear_92 : decode cX3_bear 92 = .ok (.lload_n 3, 1) := by decide +kernel
theorem dX3_bear_93 : decode cX3_bear 93 = .ok (.aload_n 0, 1) := by decide +kernel
theorem dX3_bear_94 : decode cX3_bear 94 = .ok (.getfield 26, 3) := by decide +kernel
theorem dX3_bear_97 : decode cX3_bear 97 = .ok (.iload_n 1, 1) := by decide +kernel
theorem dX3_bear_98 : decode cX3_bear 98 = .ok (.iaload, 1) := by decide +kernel
theorem dX3_bear_99 : decode cX3_bear 99 = .ok (.i2l, 1) := by decide +kernel
theorem dX3_bear_100 : decode cX3_bear 100 = .ok (.lmul, 1) := by decide +kernel
theorem dX3_bear_101 : decode cX3_bear 101 = .ok (.ldc2_w 89, 3) := by decide +kernel
theorem dX3_bear_104 : decode cX3_bear 104 = .ok (.ldiv, 1) := by decide +kernel
theorem dX3_bear_105 : decode cX3_bear 105 = .ok (.l2i, 1) := by decide +kernel
theorem dX3_bear_106 : decode cX3_bear 106 = .ok (.goto 4, 3) := by decide +kernel
theorem dX3_bear_109 : decode cX3_bear 109 = .ok (.iconst 0, 1) := by decide +kernel
theorem dX3_bear_110 : decode cX3_bear 110 = .ok (.istore 9, 2) := by decide +kernel
theorem dX3_bear_112 : decode cX3_bear 112 = .ok (.iload_n 2, 1) := by decide +kernel
theorem dX3_bear_113 : decode cX3_bear 113 = .ok (.ifCond .ne 8, 3) := by decide +kernel
theorem dX3_bear_116 : decode cX3_bear 116 = .ok (.iload 7, 2) := by decide +kernel
theorem dX3_bear_118 : decode cX3_bear 118 = .ok (.goto 31, 3) := by decide +kernel
theorem dX3_bear_121 : decode cX3_bear 121 = .ok (.iload_n 2, 1) := by decide +kernel
theorem dX3_bear_122 : decode cX3_bear 122 = .ok (.iconst 1, 1) := by decide +kernel
theorem dX3_bear_123 : decode cX3_bear 123 = .ok (.if_icmp .ne 8, 3) := by decide +kernel
theorem dX3_bear_126 : decode cX3_bear 126 = .ok (.iload 8, 2) := by decide +kernel
theorem dX3_bear_128 : decode cX3_bear 128 = .ok (.goto 21, 3) := by decide +kernel
theorem dX3_bear_131 : decode cX3_bear 131 = .ok (.iload_n 2, 1) := by decide +kernel
theorem dX3_bear_132 : decode cX3_bear 132 = .ok (.iconst 2, 1) := by decide +kernel
theorem dX3_bear_133 : decode cX3_bear 133 = .ok (.if_icmp .ne 8, 3) := by decide +kernel
theorem dX3_bear_136 : decode cX3_bear 136 = .ok (.iload 9, 2) := by decide +kernel
theorem dX3_bear_138 : decode cX3_bear 138 = .ok (.goto 11, 3) := by decide +kernel
theorem dX3_bear_141 : decode cX3_bear 141 = .ok (.iload 7, 2) := by decide +kernel
theorem dX3_bear_143 : decode cX3_bear 143 = .ok (.iload 8, 2) := by decide +kernel
theorem dX3_bear_145 : decode cX3_bear 145 = .ok (.isub, 1) := by decide +kernel
theorem dX3_bear_146 : decode cX3_bear 146 = .ok (.iload 9, 2) := by decide +kernel
theorem dX3_bear_148 : decode cX3_bear 148 = .ok (.isub, 1) := by decide +kernel
theorem dX3_bear_149 : decode cX3_bear 149 = .ok (.ireturn, 1) := by decide +kernel
set_option maxRecDepth 20000 in
theorem ggX3_lend_X3_isBranch : GoodIn wsX3_lend wsX3_isBranch := goodIn_r _ [18, 19, 20, 17, 21] (by decide +kernel) (by decide +kernel)
set_option maxRecDepth 20000 in
theorem gX3_lend_X3_isBranch : GoodIn wsX3_lend (va_wsS RX3 91 yX3_isBranch wsX3_isBranch) := goodIn_app (goodIn_of _ (by decide +kernel)) ggX3_lend_X3_isBranch
set_option maxRecDepth 20000 in
theorem ggX3_lend_X3_in : GoodIn wsX3_lend wsX3_in := goodIn_r _ [21] (by decide +kernel) (by decide +kernel)
set_option maxRecDepth 20000 in
theorem gX3_lend_X3_in : GoodIn wsX3_lend (va_wsS RX3 69 yX3_in wsX3_in) := goodIn_app (goodIn_of _ (by decide +kernel)) ggX3_lend_X3_in
set_option maxRecDepth 20000 in
theorem ggX3_lend_X3_fails : GoodIn wsX3_lend wsX3_fails := goodIn_r _ [25, 1, 26, 27, 28, 29, 30, 31, 32, 33, 34, 35, 36, 37, 38, 39, 40, 41, 42, 43, 44, 45, 46, 47] (by decide +kernel) (by decide +kernel)
set_option maxRecDepth 20000 in
theorem gX3_lend_X3_fails : GoodIn wsX3_lend (wsV RX3 76 RX3 yX3_fails wsX3_fails) := goodIn_app (goodIn_of _ (by decide +kernel)) ggX3_lend_X3_fails
theorem dX3_lend_0 : decode cX3_lend 0 = .ok (.aload_n 0, 1) := by decide +kernel
theorem dX3_lend_1 : decode cX3_lend 1 = .ok (.iconst 0, 1) := by decide +kernel
theorem dX3_lend_2 : decode cX3_lend 2 = .ok (.putfield 63, 3) := by decide +kernel
theorem dX3_lend_5 : decode cX3_lend 5 = .ok (.iload_n 1, 1) := by decide +kernel
theorem dX3_lend_6 : decode cX3_lend 6 = .ok (.invokestatic 91, 3) := by decide +kernel
theorem dX3_lend_9 : decode cX3_lend 9 = .ok (.ifCond .eq 12, 3) := by decide +kernel
theorem dX3_lend_12 : decode cX3_lend 12 = .ok (.iload_n 2, 1) := by decide +kernel
theorem dX3_lend_13 : decode cX3_lend 13 = .ok (.iconst 0, 1) := by decide +kernel
theorem dX3_lend_14 : decode cX3_lend 14 = .ok (.iconst 2, 1) := by decide +kernel
theorem dX3_lend_15 : decode cX3_lend 15 = .ok (.invokestatic 69, 3) := by decide +kernel
theorem dX3_lend_18 : decode cX3_lend 18 = .ok (.ifCond .ne 9, 3) := by decide +kernel
theorem dX3_lend_21 : decode cX3_lend 21 = .ok (.aload_n 0, 1) := by decide +kernel
theorem dX3_lend_22 : decode cX3_lend 22 = .ok (.iconst 1, 1) := by decide +kernel
theorem dX3_lend_23 : decode cX3_lend 23 = .ok (.invokevirtual 76, 3) := by decide +kernel
theorem dX3_lend_26 : decode cX3_lend 26 = .ok (.ireturn, 1) := by decide +kernel
theorem dX3_lend_27 : decode cX3_lend 27 = .ok (.iload_n 3, 1) := by decide +kernel
theorem dX3_lend_28 : decode cX3_lend 28 = .ok (.iconst 1, 1) := by decide +kernel
theorem dX3_lend_29 : decode cX3_lend 29 = .ok (.ldc 95, 2) := by decide +kernel
theorem dX3_lend_31 : decode cX3_lend 31 = .ok (.invokestatic 69, 3) := by decide +kernel
theorem dX3_lend_34 : decode cX3_lend 34 = .ok (.ifCond .eq 26, 3) := by decide +kernel
theorem dX3_lend_37 : decode cX3_lend 37 = .ok (.iload 4, 2) := by decide +kernel
theorem dX3_lend_39 : decode cX3_lend 39 = .ok (.iconst 0, 1) := by decide +kernel
theorem dX3_lend_40 : decode cX3_lend 40 = .ok (.sipush 5000, 3) := by decide +kernel
theorem dX3_lend_43 : decode cX3_lend 43 = .ok (.invokestatic 69, 3) := by decide +kernel
theorem dX3_lend_46 : decode cX3_lend 46 = .ok (.ifCond .eq 14, 3) := by decide +kernel
theorem dX3_lend_49 : decode cX3_lend 49 = .ok (.iload 5, 2) := by decide +kernel
theorem dX3_lend_51 : decode cX3_lend 51 = .ok (.iconst 1, 1) := by decide +kernel
theorem dX3_lend_52 : decode cX3_lend 52 = .ok (.bipush 6, 2) := by decide +kernel
theorem dX3_lend_54 : decode cX3_lend 54 = .ok (.invokestatic 69, 3) := by decide +kernel
theorem dX3_lend_57 : decode cX3_lend 57 = .ok (.ifCond .ne 9, 3) := by decide +kernel
theorem dX3_lend_60 : decode cX3_lend 60 = .ok (.aload_n 0, 1) := by decide +kernel
theorem dX3_lend_61 : decode cX3_lend 61 = .ok (.iconst 2, 1) := by decide +kernel
theorem dX3_lend_62 : decode cX3_lend 62 = .ok (.invokevirtual 76, 3) := by decide +kernel
theorem dX3_lend_65 : decode cX3_lend 65 = .ok (.ireturn, 1) := by decide +kernel
theorem dX3_lend_66 : decode cX3_lend 66 = .ok (.aload_n 0, 1) := by decide +kernel
theorem dX3_lend_67 : decode cX3_lend 67 = .ok (.getfield 66, 3) := by decide +kernel
theorem dX3_lend_70 : decode cX3_lend 70 = .ok (.bipush 24, 2) := by decide +kernel
theorem dX3_lend_72 : decode cX3_lend 72 = .ok (.if_icmp .ne 9, 3) := by decide +kernel
theorem dX3_lend_75 : decode cX3_lend 75 = .ok (.aload_n 0, 1) := by decide +kernel
theorem dX3_lend_76 : decode cX3_lend 76 = .ok (.iconst 3, 1) := by decide +kernel
theorem dX3_lend_77 : decode cX3_lend 77 = .ok (.invokevirtual 76, 3) := by decide +kernel
theorem dX3_lend_80 : decode cX3_lend 80 = .ok (.ireturn, 1) := by decide +kernel
theorem dX3_lend_81 : decode cX3_lend 81 = .ok (.aload_n 0, 1) := by decide +kernel
theorem dX3_lend_82 : decode cX3_lend 82 = .ok (.getfield 17, 3) := by decide +kernel
theorem dX3_lend_85 : decode cX3_lend 85 = .ok (.aload_n 0, 1) := by decide +kernel
theorem dX3_lend_86 : decode cX3_lend 86 = .ok (.getfield 66, 3) := by decide +kernel
theorem dX3_lend_89 : decode cX3_lend 89 = .ok (.iload_n 1, 1) := by decide +kernel
theorem dX3_lend_90 : decode cX3_lend 90 = .ok (.iastore, 1) := by decide +kernel
theorem dX3_lend_91 : decode cX3_lend 91 = .ok (.aload_n 0, 1) := by decide +kernel
theorem dX3_lend_92 : decode cX3_lend 92 = .ok (.getfield 20, 3) := by decide +kernel
theorem dX3_lend_95 : decode cX3_lend 95 = .ok (.aload_n 0, 1) := by decide +kernel
theorem dX3_lend_96 : decode cX3_lend 96 = .ok (.getfield 66, 3) := by decide +kernel
theorem dX3_lend_99 : decode cX3_lend 99 = .ok (.iload_n 2, 1) := by decide +kernel
theorem dX3_lend_100 : decode cX3_lend 100 = .ok (.iastore, 1) := by decide +kernel
theorem dX3_lend_101 : decode cX3_lend 101 = .ok (.aload_n 0, 1) := by decide +kernel
theorem dX3_lend_102 : decode cX3_lend 102 = .ok (.getfield 23, 3) := by decide +kernel
theorem dX3_lend_105 : decode cX3_lend 105 = .ok (.aload_n 0, 1) := by decide +kernel
theorem dX3_lend_106 : decode cX3_lend 106 = .ok (.getfield 66, 3) := by decide +kernel
theorem dX3_lend_109 : decode cX3_lend 109 = .ok (.iload 4, 2) := by decide +kernel
theorem dX3_lend_111 : decode cX3_lend 111 = .ok (.iastore, 1) := by decide +kernel
theorem dX3_lend_112 : decode cX3_lend 112 = .ok (.aload_n 0, 1) := by decide +kernel
theorem dX3_lend_113 : decode cX3_lend 113 = .ok (.getfield 26, 3) := by decide +kernel
theorem dX3_lend_116 : decode cX3_lend 116 = .ok (.aload_n 0, 1) := by decide +kernel
theorem dX3_lend_117 : decode cX3_lend 117 = .ok (.getfield 66, 3) := by decide +kernel
theorem dX3_lend_120 : decode cX3_lend 120 = .ok (.aload_n 0, 1) := by decide +kernel
theorem dX3_lend_121 : decode cX3_lend 121 = .ok (.getfield 83, 3) := by decide +kernel
theorem dX3_lend_124 : decode cX3_lend 124 = .ok (.iastore, 1) := by decide +kernel
theorem dX3_lend_125 : decode cX3_lend 125 = .ok (.aload_n 0, 1) := by decide +kernel
theorem dX3_lend_126 : decode cX3_lend 126 = .ok (.getfield 29, 3) := by decide +kernel
theorem dX3_lend_129 : decode cX3_lend 129 = .ok (.aload_n 0, 1) := by decide +kernel
theorem dX3_lend_130 : decode cX3_lend 130 = .ok (.getfield 66, 3) := by decide +kernel
theorem dX3_lend_133 : decode cX3_lend 133 = .ok (.iload 6, 2) := by decide +kernel
theorem dX3_lend_135 : decode cX3_lend 135 = .ok (.bastore, 1) := by decide +kernel
theorem dX3_lend_136 : decode cX3_lend 136 = .ok (.aload_n 0, 1) := by decide +kernel
theorem dX3_lend_137 : decode cX3_lend 137 = .ok (.getfield 33, 3) := by decide +kernel
theorem dX3_lend_140 : decode cX3_lend 140 = .ok (.aload_n 0, 1) := by decide +kernel
theorem dX3_lend_141 : decode cX3_lend 141 = .ok (.getfield 66, 3) := by decide +kernel
theorem dX3_lend_144 : decode cX3_lend 144 = .ok (.aload_n 0, 1) := by decide +kernel
theorem dX3_lend_145 : decode cX3_lend 145 = .ok (.getfield 73, 3) := by decide +kernel
theorem dX3_lend_148 : decode cX3_lend 148 = .ok (.iastore, 1) := by decide +kernel
theorem dX3_lend_149 : decode cX3_lend 149 = .ok (.iconst 0, 1) := by decide +kernel
theorem dX3_lend_150 : decode cX3_lend 150 = .ok (.istore 7, 2) := by decide +kernel
theorem dX3_lend_152 : decode cX3_lend 152 = .ok (.iload 7, 2) := by decide +kernel
theorem dX3_lend_154 : decode cX3_lend 154 = .ok (.iload 5, 2) := by decide +kernel
theorem dX3_lend_156 : decode cX3_lend 156 = .ok (.if_icmp .ge 75, 3) := by decide +kernel
theorem dX3_lend_159 : decode cX3_lend 159 = .ok (.aload_n 0, 1) := by decide +kernel
theorem dX3_lend_160 : decode cX3_lend 160 = .ok (.getfield 36, 3) := by decide +kernel
theorem dX3_lend_163 : decode cX3_lend 163 = .ok (.bipush 6, 2) := by decide +kernel
theorem dX3_lend_165 : decode cX3_lend 165 = .ok (.aload_n 0, 1) := by decide +kernel
theorem dX3_lend_166 : decode cX3_lend 166 = .ok (.getfield 66, 3) := by decide +kernel
theorem dX3_lend_169 : decode cX3_lend 169 = .ok (.imul, 1) := by decide +kernel
theorem dX3_lend_170 : decode cX3_lend 170 = .ok (.iload 7, 2) := by decide +kernel
theorem dX3_lend_172 : decode cX3_lend 172 = .ok (.iadd, 1) := by decide +kernel
theorem dX3_lend_173 : decode cX3_lend 173 = .ok (.iload 7, 2) := by decide +kernel
theorem dX3_lend_175 : decode cX3_lend 175 = .ok (.iload 5, 2) := by decide +kernel
theorem dX3_lend_177 : decode cX3_lend 177 = .ok (.iconst 1, 1) := by decide +kernel
theorem dX3_lend_178 : decode cX3_lend 178 = .ok (.isub, 1) := by decide +kernel
theorem dX3_lend_179 : decode cX3_lend 179 = .ok (.if_icmp .ge 10, 3) := by decide +kernel
theorem dX3_lend_182 : decode cX3_lend 182 = .ok (.iload_n 3, 1) := by decide +kernel
theorem dX3_lend_183 : decode cX3_lend 183 = .ok (.iload 5, 2) := by decide +kernel
theorem dX3_lend_185 : decode cX3_lend 185 = .ok (.idiv, 1) := by decide +kernel
theorem dX3_lend_186 : decode cX3_lend 186 = .ok (.goto 14, 3) := by decide +kernel
theorem dX3_lend_189 : decode cX3_lend 189 = .ok (.iload_n 3, 1) := by decide +kernel
theorem dX3_lend_190 : decode cX3_lend 190 = .ok (.iload_n 3, 1) := by decide +kernel
theorem dX3_lend_191 : decode cX3_lend 191 = .ok (.iload 5, 2) := by decide +kernel
theorem dX3_lend_193 : decode cX3_lend 193 = .ok (.idiv, 1) := by decide +kernel
theorem dX3_lend_194 : decode cX3_lend 194 = .ok (.iload 5, 2) := by decide +kernel
theorem dX3_lend_196 : decode cX3_lend 196 = .ok (.iconst 1, 1) := by decide +kernel
theorem dX3_lend_197 : decode cX3_lend 197 = .ok (.isub, 1) := by decide +kernel
theorem dX3_lend_198 : decode cX3_lend 198 = .ok (.imul, 1) := by decide +kernel
theorem dX3_lend_199 : decode cX3_lend 199 = .ok (.isub, 1) := by decide +kernel
theorem dX3_lend_200 : decode cX3_lend 200 = .ok (.iastore, 1) := by decide +kernel
theorem dX3_lend_201 : decode cX3_lend 201 = .ok (.aload_n 0, 1) := by decide +kernel
theorem dX3_lend_202 : decode cX3_lend 202 = .ok (.getfield 39, 3) := by decide +kernel
theorem dX3_lend_205 : decode cX3_lend 205 = .ok (.bipush 6, 2) := by decide +kernel
theorem dX3_lend_207 : decode cX3_lend 207 = .ok (.aload_n 0, 1) := by decide +kernel
theorem dX3_lend_208 : decode cX3_lend 208 = .ok (.getfield 66, 3) := by decide +kernel
theorem dX3_lend_211 : decode cX3_lend 211 = .ok (.imul, 1) := by decide +kernel
theorem dX3_lend_212 : decode cX3_lend 212 = .ok (.iload 7, 2) := by decide +kernel
theorem dX3_lend_214 : decode cX3_lend 214 = .ok (.iadd, 1) := by decide +kernel
theorem dX3_lend_215 : decode cX3_lend 215 = .ok (.aload_n 0, 1) := by decide +kernel
theorem dX3_lend_216 : decode cX3_lend 216 = .ok (.getfield 7, 3) := by decide +kernel
theorem dX3_lend_219 : decode cX3_lend 219 = .ok (.iload 7, 2) := by decide +kernel
theorem dX3_lend_221 : decode cX3_lend 221 = .ok (.iconst 1, 1) := by decide +kernel
theorem dX3_lend_222 : decode cX3_lend 222 = .ok (.iadd, 1) := by decide +kernel
theorem dX3_lend_223 : decode cX3_lend 223 = .ok (.iaload, 1) := by decide +kernel
theorem dX3_lend_224 : decode cX3_lend 224 = .ok (.iastore, 1) := by decide +kernel
theorem dX3_lend_225 : decode cX3_lend 225 = .ok (.iinc 7 1, 3) := by decide +kernel
theorem dX3_lend_228 : decode cX3_lend 228 = .ok (.goto (-76), 3) := by decide +kernel
theorem dX3_lend_231 : decode cX3_lend 231 = .ok (.aload_n 0, 1) := by decide +kernel
theorem dX3_lend_232 : decode cX3_lend 232 = .ok (.dup, 1) := by decide +kernel
theorem dX3_lend_233 : decode cX3_lend 233 = .ok (.getfield 66, 3) := by decide +kernel
theorem dX3_lend_236 : decode cX3_lend 236 = .ok (.iconst 1, 1) := by decide +kernel
theorem dX3_lend_237 : decode cX3_lend 237 = .ok (.iadd, 1) := by decide +kernel
theorem dX3_lend_238 : decode cX3_lend 238 = .ok (.putfield 66, 3) := by decide +kernel
theorem dX3_lend_241 : decode cX3_lend 241 = .ok (.aload_n 0, 1) := by decide +kernel
theorem dX3_lend_242 : decode cX3_lend 242 = .ok (.getfield 66, 3) := by decide +kernel
theorem dX3_lend_245 : decode cX3_lend 245 = .ok (.iconst 1, 1) := by decide +kernel
theorem dX3_lend_246 : decode cX3_lend 246 = .ok (.isub, 1) := by decide +kernel
theorem dX3_lend_247 : decode cX3_lend 247 = .ok (.ireturn, 1) := by decide +kernel
set_option maxRecDepth 20000 in
theorem ggX3_repay_X3_isLoan : GoodIn wsX3_repay wsX3_isLoan := goodIn_r _ [8, 9, 10, 11, 7, 12, 21, 22, 23, 24, 25, 26, 27, 28, 29, 30, 31, 32, 33, 34, 35, 36, 37, 38, 39, 40, 41, 42] (by decide +kernel) (by decide +kernel)
set_option maxRecDepth 20000 in
theorem gX3_repay_X3_isLoan : GoodIn wsX3_repay (wsV RX3 96 RX3 yX3_isLoan wsX3_isLoan) := goodIn_app (goodIn_of _ (by decide +kernel)) ggX3_repay_X3_isLoan
set_option maxRecDepth 20000 in
theorem ggX3_repay_X3_fails : GoodIn wsX3_repay wsX3_fails := goodIn_r _ [16, 1, 21, 22, 23, 24, 25, 26, 27, 28, 29, 30, 31, 32, 33, 34, 35, 36, 37, 38, 39, 40, 41, 42] (by decide +kernel) (by decide +kernel)
set_option maxRecDepth 20000 in
theorem gX3_repay_X3_fails : GoodIn wsX3_repay (wsV RX3 76 RX3 yX3_fails wsX3_fails) := goodIn_app (goodIn_of _ (by decide +kernel)) ggX3_repay_X3_fails
set_option maxRecDepth 20000 in
theorem ggX3_repay_X3_leftOf : GoodIn wsX3_repay wsX3_leftOf := goodIn_r _ [20, 3, 21, 22, 23, 24, 25, 26, 27, 28, 29, 30, 31, 32, 33, 34, 35, 36, 37, 38, 39, 40, 41, 42] (by decide +kernel) (by decide +kernel)
set_option maxRecDepth 20000 in
theorem gX3_repay_X3_leftOf : GoodIn wsX3_repay (wsV RX3 86 RX3 yX3_leftOf wsX3_leftOf) := goodIn_app (goodIn_of _ (by decide +kernel)) ggX3_repay_X3_leftOf
theorem dX3_repay_0 : decode cX3_repay 0 = .ok (.aload_n 0, 1) := by decide +kernel
theorem dX3_repay_1 : decode cX3_repay 1 = .ok (.iconst 0, 1) := by decide +kernel
theorem dX3_repay_2 : decode cX3_repay 2 = .ok (.putfield 63, 3) := by decide +kernel
theorem dX3_repay_5 : decode cX3_repay 5 = .ok (.aload_n 0, 1) := by decide +kernel
theorem dX3_repay_6 : decode cX3_repay 6 = .ok (.iload_n 1, 1) := by decide +kernel
theorem dX3_repay_7 : decode cX3_repay 7 = .ok (.invokevirtual 96, 3) := by decide +kernel
theorem dX3_repay_10 : decode cX3_repay 10 = .ok (.ifCond .ne 9, 3) := by decide +kernel
theorem dX3_repay_13 : decode cX3_repay 13 = .ok (.aload_n 0, 1) := by decide +kernel
theorem dX3_repay_14 : decode cX3_repay 14 = .ok (.iconst 1, 1) := by decide +kernel
theorem dX3_repay_15 : decode cX3_repay 15 = .ok (.invokevirtual 76, 3) := by decide +kernel
theorem dX3_repay_18 : decode cX3_repay 18 = .ok (.ireturn, 1) := by decide +kernel
theorem dX3_repay_19 : decode cX3_repay 19 = .ok (.aload_n 0, 1) := by decide +kernel
theorem dX3_repay_20 : decode cX3_repay 20 = .ok (.iload_n 1, 1) := by decide +kernel
theorem dX3_repay_21 : decode cX3_repay 21 = .ok (.invokevirtual 86, 3) := by decide +kernel
theorem dX3_repay_24 : decode cX3_repay 24 = .ok (.istore_n 2, 1) := by decide +kernel
theorem dX3_repay_25 : decode cX3_repay 25 = .ok (.aload_n 0, 1) := by decide +kernel
theorem dX3_repay_26 : decode cX3_repay 26 = .ok (.getfield 29, 3) := by decide +kernel
theorem dX3_repay_29 : decode cX3_repay 29 = .ok (.iload_n 1, 1) := by decide +kernel
theorem dX3_repay_30 : decode cX3_repay 30 = .ok (.baload, 1) := by decide +kernel
theorem dX3_repay_31 : decode cX3_repay 31 = .ok (.ifCond .eq 7, 3) := by decide +kernel
theorem dX3_repay_34 : decode cX3_repay 34 = .ok (.iload_n 2, 1) := by decide +kernel
theorem dX3_repay_35 : decode cX3_repay 35 = .ok (.ifCond .ne 9, 3) := by decide +kernel
theorem dX3_repay_38 : decode cX3_repay 38 = .ok (.aload_n 0, 1) := by decide +kernel
theorem dX3_repay_39 : decode cX3_repay 39 = .ok (.iconst 2, 1) := by decide +kernel
theorem dX3_repay_40 : decode cX3_repay 40 = .ok (.invokevirtual 76, 3) := by decide +kernel
theorem dX3_repay_43 : decode cX3_repay 43 = .ok (.ireturn, 1) := by decide +kernel
theorem dX3_repay_44 : decode cX3_repay 44 = .ok (.iconst 0, 1) := by decide +kernel
theorem dX3_repay_45 : decode cX3_repay 45 = .ok (.istore_n 3, 1) := by decide +kernel
theorem dX3_repay_46 : decode cX3_repay 46 = .ok (.iload_n 3, 1) := by decide +kernel
theorem dX3_repay_47 : decode cX3_repay 47 = .ok (.bipush 6, 2) := by decide +kernel
theorem dX3_repay_49 : decode cX3_repay 49 = .ok (.if_icmp .ge 21, 3) := by decide +kernel
theorem dX3_repay_52 : decode cX3_repay 52 = .ok (.aload_n 0, 1) := by decide +kernel
theorem dX3_repay_53 : decode cX3_repay 53 = .ok (.getfield 36, 3) := by decide +kernel
theorem dX3_repay_56 : decode cX3_repay 56 = .ok (.bipush 6, 2) := by decide +kernel
theorem dX3_repay_58 : decode cX3_repay 58 = .ok (.iload_n 1, 1) := by decide +kernel
theorem dX3_repay_59 : decode cX3_repay 59 = .ok (.imul, 1) := by decide +kernel
theorem dX3_repay_60 : decode cX3_repay 60 = .ok (.iload_n 3, 1) := by decide +kernel
theorem dX3_repay_61 : decode cX3_repay 61 = .ok (.iadd, 1) := by decide +kernel
theorem dX3_repay_62 : decode cX3_repay 62 = .ok (.iconst 0, 1) := by decide +kernel
theorem dX3_repay_63 : decode cX3_repay 63 = .ok (.iastore, 1) := by decide +kernel
theorem dX3_repay_64 : decode cX3_repay 64 = .ok (.iinc 3 1, 3) := by decide +kernel
theorem dX3_repay_67 : decode cX3_repay 67 = .ok (.goto (-21), 3) := by decide +kernel
theorem dX3_repay_70 : decode cX3_repay 70 = .ok (.iload_n 2, 1) := by decide +kernel
theorem dX3_repay_71 : decode cX3_repay 71 = .ok (.ireturn, 1) := by decide +kernel
theorem dX3_core_0 : decode cX3_core 0 = .ok (.lconst 0, 1) := by decide +kernel
theorem dX3_core_1 : decode cX3_core 1 = .ok (.lstore_n 1, 1) := by decide +kernel
theorem dX3_core_2 : decode cX3_core 2 = .ok (.iconst 0, 1) := by decide +kernel
theorem dX3_core_3 : decode cX3_core 3 = .ok (.istore_n 3, 1) := by decide +kernel
theorem dX3_core_4 : decode cX3_core 4 = .ok (.iload_n 3, 1) := by decide +kernel
theorem dX3_core_5 : decode cX3_core 5 = .ok (.iconst 3, 1) := by decide +kernel
theorem dX3_core_6 : decode cX3_core 6 = .ok (.if_icmp .ge 19, 3) := by decide +kernel
theorem dX3_core_9 : decode cX3_core 9 = .ok (.lload_n 1, 1) := by decide +kernel
theorem dX3_core_10 : decode cX3_core 10 = .ok (.aload_n 0, 1) := by decide +kernel
theorem dX3_core_11 : decode cX3_core 11 = .ok (.getfield 42, 3) := by decide +kernel
theorem dX3_core_14 : decode cX3_core 14 = .ok (.iload_n 3, 1) := by decide +kernel
theorem dX3_core_15 : decode cX3_core 15 = .ok (.iaload, 1) := by decide +kernel
theorem dX3_core_16 : decode cX3_core 16 = .ok (.i2l, 1) := by decide +kernel
theorem dX3_core_17 : decode cX3_core 17 = .ok (.ladd, 1) := by decide +kernel
theorem dX3_core_18 : decode cX3_core 18 = .ok (.lstore_n 1, 1) := by decide +kernel
theorem dX3_core_19 : decode cX3_core 19 = .ok (.iinc 3 1, 3) := by decide +kernel
theorem dX3_core_22 : decode cX3_core 22 = .ok (.goto (-18), 3) := by decide +kernel
theorem dX3_core_25 : decode cX3_core 25 = .ok (.lload_n 1, 1) := by decide +kernel
theorem dX3_core_26 : decode cX3_core 26 = .ok (.aload_n 0, 1) := by decide +kernel
theorem dX3_core_27 : decode cX3_core 27 = .ok (.getfield 13, 3) := by decide +kernel
theorem dX3_core_30 : decode cX3_core 30 = .ok (.i2l, 1) := by decide +kernel
theorem dX3_core_31 : decode cX3_core 31 = .ok (.lmul, 1) := by decide +kernel
theorem dX3_core_32 : decode cX3_core 32 = .ok (.ldc2_w 99, 3) := by decide +kernel
theorem dX3_core_35 : decode cX3_core 35 = .ok (.ldiv, 1) := by decide +kernel
theorem dX3_core_36 : decode cX3_core 36 = .ok (.l2i, 1) := by decide +kernel
theorem dX3_core_37 : decode cX3_core 37 = .ok (.ireturn, 1) := by decide +kernel
set_option maxRecDepth 20000 in
theorem ggX3_lays_X3_core : GoodIn wsX3_lays wsX3_core := goodIn_r _ [8, 9, 10, 11, 12, 13, 14, 15, 16, 17, 18, 19, 20, 21, 22, 23, 24, 25, 26, 27, 28, 29, 30, 31, 32, 33] (by decide +kernel) (by decide +kernel)
set_option maxRecDepth 20000 in
theorem gX3_lays_X3_core : GoodIn wsX3_lays (wsV RX3 101 RX3 yX3_core wsX3_core) := goodIn_app (goodIn_of _ (by decide +kernel)) ggX3_lays_X3_core
theorem dX3_lays_0 : decode cX3_lays 0 = .ok (.aload_n 0, 1) := by decide +kernel
theorem dX3_lays_1 : decode cX3_lays 1 = .ok (.getfield 45, 3) := by decide +kernel
theorem dX3_lays_4 : decode cX3_lays 4 = .ok (.iload_n 1, 1) := by decide +kernel
theorem dX3_lays_5 : decode cX3_lays 5 = .ok (.aload_n 0, 1) := by decide +kernel
theorem dX3_lays_6 : decode cX3_lays 6 = .ok (.invokevirtual 101, 3) := by decide +kernel
theorem dX3_lays_9 : decode cX3_lays 9 = .ok (.bipush 6, 2) := by decide +kernel
theorem dX3_lays_11 : decode cX3_lays 11 = .ok (.idiv, 1) := by decide +kernel
theorem dX3_lays_12 : decode cX3_lays 12 = .ok (.iastore, 1) := by decide +kernel
theorem dX3_lays_13 : decode cX3_lays 13 = .ok (.aload_n 0, 1) := by decide +kernel
theorem dX3_lays_14 : decode cX3_lays 14 = .ok (.getfield 48, 3) := by decide +kernel
theorem dX3_lays_17 : decode cX3_lays 17 = .ok (.iload_n 1, 1) := by decide +kernel
theorem dX3_lays_18 : decode cX3_lays 18 = .ok (.aload_n 0, 1) := by decide +kernel
theorem dX3_lays_19 : decode cX3_lays 19 = .ok (.getfield 7, 3) := by decide +kernel
theorem dX3_lays_22 : decode cX3_lays 22 = .ok (.bipush 6, 2) := by decide +kernel
theorem dX3_lays_24 : decode cX3_lays 24 = .ok (.iaload, 1) := by decide +kernel
theorem dX3_lays_25 : decode cX3_lays 25 = .ok (.iastore, 1) := by decide +kernel
theorem dX3_lays_26 : decode cX3_lays 26 = .ok (.return_, 1) := by decide +kernel
theorem dX3_replica_0 : decode cX3_replica 0 = .ok (.lconst 0, 1) := by decide +kernel
theorem dX3_replica_1 : decode cX3_replica 1 = .ok (.lstore_n 1, 1) := by decide +kernel
theorem dX3_replica_2 : decode cX3_replica 2 = .ok (.lconst 0, 1) := by decide +kernel
theorem dX3_replica_3 : decode cX3_replica 3 = .ok (.lstore_n 3, 1) := by decide +kernel
theorem dX3_replica_4 : decode cX3_replica 4 = .ok (.iconst 0, 1) := by decide +kernel
theorem dX3_replica_5 : decode cX3_replica 5 = .ok (.istore 5, 2) := by decide +kernel
theorem dX3_replica_7 : decode cX3_replica 7 = .ok (.iload 5, 2) := by decide +kernel
theorem dX3_replica_9 : decode cX3_replica 9 = .ok (.bipush 6, 2) := by decide +kernel
theorem dX3_replica_11 : decode cX3_replica 11 = .ok (.if_icmp .ge 40, 3) := by decide +kernel
theorem dX3_replica_14 : decode cX3_replica 14 = .ok (.lload_n 1, 1) := by decide +kernel
theorem dX3_replica_15 : decode cX3_replica 15 = .ok (.aload_n 0, 1) := by decide +kernel
theorem dX3_replica_16 : decode cX3_replica 16 = .ok (.getfield 45, 3) := by decide +kernel
theorem dX3_replica_19 : decode cX3_replica 19 = .ok (.iload 5, 2) := by decide +kernel
theorem dX3_replica_21 : decode cX3_replica 21 = .ok (.iaload, 1) := by decide +kernel
theorem dX3_replica_22 : decode cX3_replica 22 = .ok (.i2l, 1) := by decide +kernel
theorem dX3_replica_23 : decode cX3_replica 23 = .ok (.aload_n 0, 1) := by decide +kernel
theorem dX3_replica_24 : decode cX3_replica 24 = .ok (.getfield 48, 3) := by decide +kernel
theorem dX3_replica_27 : decode cX3_replica 27 = .ok (.iload 5, 2) := by decide +kernel
theorem dX3_replica_29 : decode cX3_replica 29 = .ok (.iaload, 1) := by decide +kernel
theorem dX3_replica_30 : decode cX3_replica 30 = .ok (.i2l, 1) := by decide +kernel
theorem dX3_replica_31 : decode cX3_replica 31 = .ok (.lmul, 1) := by decide +kernel
theorem dX3_replica_32 : decode cX3_replica 32 = .ok (.ladd, 1) := by decide +kernel
theorem dX3_replica_33 : decode cX3_replica 33 = .ok (.lstore_n 1, 1) := by decide +kernel
theorem dX3_replica_34 : decode cX3_replica 34 = .ok (.lload_n 3, 1) := by decide +kernel
theorem dX3_replica_35 : decode cX3_replica 35 = .ok (.aload_n 0, 1) := by decide +kernel
theorem dX3_replica_36 : decode cX3_replica 36 = .ok (.getfield 45, 3) := by decide +kernel
theorem dX3_replica_39 : decode cX3_replica 39 = .ok (.iload 5, 2) := by decide +kernel
theorem dX3_replica_41 : decode cX3_replica 41 = .ok (.iaload, 1) := by decide +kernel
theorem dX3_replica_42 : decode cX3_replica 42 = .ok (.i2l, 1) := by decide +kernel
theorem dX3_replica_43 : decode cX3_replica 43 = .ok (.ladd, 1) := by decide +kernel
theorem dX3_replica_44 : decode cX3_replica 44 = .ok (.lstore_n 3, 1) := by decide +kernel
theorem dX3_replica_45 : decode cX3_replica 45 = .ok (.iinc 5 1, 3) := by decide +kernel
theorem dX3_replica_48 : decode cX3_replica 48 = .ok (.goto (-41), 3) := by decide +kernel
theorem dX3_replica_51 : decode cX3_replica 51 = .ok (.lload_n 3, 1) := by decide +kernel
theorem dX3_replica_52 : decode cX3_replica 52 = .ok (.lconst 0, 1) := by decide +kernel
theorem dX3_replica_53 : decode cX3_replica 53 = .ok (.lcmp, 1) := by decide +kernel
theorem dX3_replica_54 : decode cX3_replica 54 = .ok (.ifCond .ne 7, 3) := by decide +kernel
theorem dX3_replica_57 : decode cX3_replica 57 = .ok (.iconst 0, 1) := by decide +kernel
theorem dX3_replica_58 : decode cX3_replica 58 = .ok (.goto 7, 3) := by decide +kernel
theorem dX3_replica_61 : decode cX3_replica 61 = .ok (.lload_n 1, 1) := by decide +kernel
theorem dX3_replica_62 : decode cX3_replica 62 = .ok (.lload_n 3, 1) := by decide +kernel
theorem dX3_replica_63 : decode cX3_replica 63 = .ok (.ldiv, 1) := by decide +kernel
theorem dX3_replica_64 : decode cX3_replica 64 = .ok (.l2i, 1) := by decide +kernel
theorem dX3_replica_65 : decode cX3_replica 65 = .ok (.ireturn, 1) := by decide +kernel
set_option maxRecDepth 20000 in
theorem ggX3_deposit_X3_isBranch : GoodIn wsX3_deposit wsX3_isBranch := goodIn_r _ [9, 10, 11, 8, 12] (by decide +kernel) (by decide +kernel)
set_option maxRecDepth 20000 in
theorem gX3_deposit_X3_isBranch : GoodIn wsX3_deposit (va_wsS RX3 91 yX3_isBranch wsX3_isBranch) := goodIn_app (goodIn_of _ (by decide +kernel)) ggX3_deposit_X3_isBranch
set_option maxRecDepth 20000 in
theorem ggX3_deposit_X3_fails : GoodIn wsX3_deposit wsX3_fails := goodIn_r _ [16, 1, 30, 31, 32, 33, 34, 35, 36, 37, 38, 39, 40, 41, 42, 43, 44, 45, 46, 47, 48, 49, 50, 51] (by decide +kernel) (by decide +kernel)
set_option maxRecDepth 20000 in
theorem gX3_deposit_X3_fails : GoodIn wsX3_deposit (wsV RX3 76 RX3 yX3_fails wsX3_fails) := goodIn_app (goodIn_of _ (by decide +kernel)) ggX3_deposit_X3_fails
set_option maxRecDepth 20000 in
theorem ggX3_deposit_X3_in : GoodIn wsX3_deposit wsX3_in := goodIn_r _ [12] (by decide +kernel) (by decide +kernel)
set_option maxRecDepth 20000 in
theorem gX3_deposit_X3_in : GoodIn wsX3_deposit (va_wsS RX3 69 yX3_in wsX3_in) := goodIn_app (goodIn_of _ (by decide +kernel)) ggX3_deposit_X3_in
set_option maxRecDepth 20000 in
theorem ggX3_deposit_X3_lays : GoodIn wsX3_deposit wsX3_lays := goodIn_r _ [20, 21, 22, 23, 24, 25, 26, 8, 27, 4, 28, 29, 30, 31, 32, 33, 34, 35, 36, 37, 38, 39, 40, 41, 42, 43, 44, 45, 46, 47, 48, 49, 50, 51] (by decide +kernel) (by decide +kernel)
set_option maxRecDepth 20000 in
theorem gX3_deposit_X3_lays : GoodIn wsX3_deposit (wsV RX3 106 RX3 yX3_lays wsX3_lays) := goodIn_app (goodIn_of _ (by decide +kernel)) ggX3_deposit_X3_lays
theorem dX3_deposit_0 : decode cX3_deposit 0 = .ok (.aload_n 0, 1) := by decide +kernel
theorem dX3_deposit_1 : decode cX3_deposit 1 = .ok (.iconst 0, 1) := by decide +kernel
theorem dX3_deposit_2 : decode cX3_deposit 2 = .ok (.putfield 63, 3) := by decide +kernel
theorem dX3_deposit_5 : decode cX3_deposit 5 = .ok (.iload_n 1, 1) := by decide +kernel
theorem dX3_deposit_6 : decode cX3_deposit 6 = .ok (.invokestatic 91, 3) := by decide +kernel
theorem dX3_deposit_9 : decode cX3_deposit 9 = .ok (.ifCond .ne 9, 3) := by decide +kernel
theorem dX3_deposit_12 : decode cX3_deposit 12 = .ok (.aload_n 0, 1) := by decide +kernel
theorem dX3_deposit_13 : decode cX3_deposit 13 = .ok (.iconst 1, 1) := by decide +kernel
theorem dX3_deposit_14 : decode cX3_deposit 14 = .ok (.invokevirtual 76, 3) := by decide +kernel
theorem dX3_deposit_17 : decode cX3_deposit 17 = .ok (.ireturn, 1) := by decide +kernel
theorem dX3_deposit_18 : decode cX3_deposit 18 = .ok (.iload_n 2, 1) := by decide +kernel
theorem dX3_deposit_19 : decode cX3_deposit 19 = .ok (.ldc 105, 2) := by decide +kernel
theorem dX3_deposit_21 : decode cX3_deposit 21 = .ok (.ldc 95, 2) := by decide +kernel
theorem dX3_deposit_23 : decode cX3_deposit 23 = .ok (.invokestatic 69, 3) := by decide +kernel
theorem dX3_deposit_26 : decode cX3_deposit 26 = .ok (.ifCond .ne 9, 3) := by decide +kernel
theorem dX3_deposit_29 : decode cX3_deposit 29 = .ok (.aload_n 0, 1) := by decide +kernel
theorem dX3_deposit_30 : decode cX3_deposit 30 = .ok (.iconst 2, 1) := by decide +kernel
theorem dX3_deposit_31 : decode cX3_deposit 31 = .ok (.invokevirtual 76, 3) := by decide +kernel
theorem dX3_deposit_34 : decode cX3_deposit 34 = .ok (.ireturn, 1) := by decide +kernel
theorem dX3_deposit_35 : decode cX3_deposit 35 = .ok (.aload_n 0, 1) := by decide +kernel
theorem dX3_deposit_36 : decode cX3_deposit 36 = .ok (.getfield 42, 3) := by decide +kernel
theorem dX3_deposit_39 : decode cX3_deposit 39 = .ok (.iload_n 1, 1) := by decide +kernel
theorem dX3_deposit_40 : decode cX3_deposit 40 = .ok (.iaload, 1) := by decide +kernel
theorem dX3_deposit_41 : decode cX3_deposit 41 = .ok (.iload_n 2, 1) := by decide +kernel
theorem dX3_deposit_42 : decode cX3_deposit 42 = .ok (.iadd, 1) := by decide +kernel
theorem dX3_deposit_43 : decode cX3_deposit 43 = .ok (.iconst 0, 1) := by decide +kernel
theorem dX3_deposit_44 : decode cX3_deposit 44 = .ok (.ldc 95, 2) := by decide +kernel
theorem dX3_deposit_46 : decode cX3_deposit 46 = .ok (.invokestatic 69, 3) := by decide +kernel
theorem dX3_deposit_49 : decode cX3_deposit 49 = .ok (.ifCond .ne 9, 3) := by decide +kernel
theorem dX3_deposit_52 : decode cX3_deposit 52 = .ok (.aload_n 0, 1) := by decide +kernel
theorem dX3_deposit_53 : decode cX3_deposit 53 = .ok (.iconst 3, 1) := by decide +kernel
theorem dX3_deposit_54 : decode cX3_deposit 54 = .ok (.invokevirtual 76, 3) := by decide +kernel
theorem dX3_deposit_57 : decode cX3_deposit 57 = .ok (.ireturn, 1) := by decide +kernel
theorem dX3_deposit_58 : decode cX3_deposit 58 = .ok (.aload_n 0, 1) := by decide +kernel
theorem dX3_deposit_59 : decode cX3_deposit 59 = .ok (.getfield 42, 3) := by decide +kernel
theorem dX3_deposit_62 : decode cX3_deposit 62 = .ok (.iload_n 1, 1) := by decide +kernel
theorem dX3_deposit_63 : decode cX3_deposit 63 = .ok (.dup2, 1) := by decide +kernel
theorem dX3_deposit_64 : decode cX3_deposit 64 = .ok (.iaload, 1) := by decide +kernel
theorem dX3_deposit_65 : decode cX3_deposit 65 = .ok (.iload_n 2, 1) := by decide +kernel
theorem dX3_deposit_66 : decode cX3_deposit 66 = .ok (.iadd, 1) := by decide +kernel
theorem dX3_deposit_67 : decode cX3_deposit 67 = .ok (.iastore, 1) := by decide +kernel
theorem dX3_deposit_68 : decode cX3_deposit 68 = .ok (.iconst 0, 1) := by decide +kernel
theorem dX3_deposit_69 : decode cX3_deposit 69 = .ok (.istore_n 3, 1) := by decide +kernel
theorem dX3_deposit_70 : decode cX3_deposit 70 = .ok (.iload_n 3, 1) := by decide +kernel
theorem dX3_deposit_71 : decode cX3_deposit 71 = .ok (.bipush 6, 2) := by decide +kernel
theorem dX3_deposit_73 : decode cX3_deposit 73 = .ok (.if_icmp .ge 25, 3) := by decide +kernel
theorem dX3_deposit_76 : decode cX3_deposit 76 = .ok (.aload_n 0, 1) := by decide +kernel
theorem dX3_deposit_77 : decode cX3_deposit 77 = .ok (.getfield 73, 3) := by decide +kernel
theorem dX3_deposit_80 : decode cX3_deposit 80 = .ok (.ifCond .ne 18, 3) := by decide +kernel
theorem dX3_deposit_83 : decode cX3_deposit 83 = .ok (.iload_n 2, 1) := by decide +kernel
theorem dX3_deposit_84 : decode cX3_deposit 84 = .ok (.ifCond .eq 14, 3) := by decide +kernel
theorem dX3_deposit_87 : decode cX3_deposit 87 = .ok (.aload_n 0, 1) := by decide +kernel
theorem dX3_deposit_88 : decode cX3_deposit 88 = .ok (.iload_n 3, 1) := by decide +kernel
theorem dX3_deposit_89 : decode cX3_deposit 89 = .ok (.invokevirtual 106, 3) := by decide +kernel
theorem dX3_deposit_92 : decode cX3_deposit 92 = .ok (.iinc 3 1, 3) := by decide +kernel
theorem dX3_deposit_95 : decode cX3_deposit 95 = .ok (.goto (-25), 3) := by decide +kernel
theorem dX3_deposit_98 : decode cX3_deposit 98 = .ok (.aload_n 0, 1) := by decide +kernel
theorem dX3_deposit_99 : decode cX3_deposit 99 = .ok (.getfield 42, 3) := by decide +kernel
theorem dX3_deposit_102 : decode cX3_deposit 102 = .ok (.iload_n 1, 1) := by decide +kernel
theorem dX3_deposit_103 : decode cX3_deposit 103 = .ok (.iaload, 1) := by decide +kernel
theorem dX3_deposit_104 : decode cX3_deposit 104 = .ok (.ireturn, 1) := by decide +kernel
set_option maxRecDepth 20000 in
theorem ggX3_isPaid_X3_replica : GoodIn wsX3_isPaid wsX3_replica := goodIn_r _ [10, 11, 12, 13, 14, 15, 16, 17, 18, 19, 20, 21, 22, 23, 24, 25, 26, 27, 28, 29, 30, 31, 32, 33, 34] (by decide +kernel) (by decide +kernel)
set_option maxRecDepth 20000 in
theorem gX3_isPaid_X3_replica : GoodIn wsX3_isPaid (wsV RX3 110 RX3 yX3_replica wsX3_replica) := goodIn_app (goodIn_of _ (by decide +kernel)) ggX3_isPaid_X3_replica
theorem dX3_isPaid_0 : decode cX3_isPaid 0 = .ok (.aload_n 0, 1) := by decide +kernel
theorem dX3_isPaid_1 : decode cX3_isPaid 1 = .ok (.getfield 42, 3) := by decide +kernel
theorem dX3_isPaid_4 : decode cX3_isPaid 4 = .ok (.iload_n 1, 1) := by decide +kernel
theorem dX3_isPaid_5 : decode cX3_isPaid 5 = .ok (.iaload, 1) := by decide +kernel
theorem dX3_isPaid_6 : decode cX3_isPaid 6 = .ok (.i2l, 1) := by decide +kernel
theorem dX3_isPaid_7 : decode cX3_isPaid 7 = .ok (.aload_n 0, 1) := by decide +kernel
theorem dX3_isPaid_8 : decode cX3_isPaid 8 = .ok (.getfield 13, 3) := by decide +kernel
theorem dX3_isPaid_11 : decode cX3_isPaid 11 = .ok (.i2l, 1) := by decide +kernel
theorem dX3_isPaid_12 : decode cX3_isPaid 12 = .ok (.lmul, 1) := by decide +kernel
theorem dX3_isPaid_13 : decode cX3_isPaid 13 = .ok (.ldc2_w 99, 3) := by decide +kernel
theorem dX3_isPaid_16 : decode cX3_isPaid 16 = .ok (.ldiv, 1) := by decide +kernel
theorem dX3_isPaid_17 : decode cX3_isPaid 17 = .ok (.lstore_n 2, 1) := by decide +kernel
theorem dX3_isPaid_18 : decode cX3_isPaid 18 = .ok (.lload_n 2, 1) := by decide +kernel
theorem dX3_isPaid_19 : decode cX3_isPaid 19 = .ok (.aload_n 0, 1) := by decide +kernel
theorem dX3_isPaid_20 : decode cX3_isPaid 20 = .ok (.invokevirtual 110, 3) := by decide +kernel
theorem dX3_isPaid_23 : decode cX3_isPaid 23 = .ok (.i2l, 1) := by decide +kernel
theorem dX3_isPaid_24 : decode cX3_isPaid 24 = .ok (.lmul, 1) := by decide +kernel
theorem dX3_isPaid_25 : decode cX3_isPaid 25 = .ok (.aload_n 0, 1) := by decide +kernel
theorem dX3_isPaid_26 : decode cX3_isPaid 26 = .ok (.getfield 42, 3) := by decide +kernel
theorem dX3_isPaid_29 : decode cX3_isPaid 29 = .ok (.iload_n 1, 1) := by decide +kernel
theorem dX3_isPaid_30 : decode cX3_isPaid 30 = .ok (.iaload, 1) := by decide +kernel
theorem dX3_isPaid_31 : decode cX3_isPaid 31 = .ok (.i2l, 1) := by decide +kernel
theorem dX3_isPaid_32 : decode cX3_isPaid 32 = .ok (.lload_n 2, 1) := by decide +kernel
theorem dX3_isPaid_33 : decode cX3_isPaid 33 = .ok (.lsub, 1) := by decide +kernel
theorem dX3_isPaid_34 : decode cX3_isPaid 34 = .ok (.aload_n 0, 1) := by decide +kernel
theorem dX3_isPaid_35 : decode cX3_isPaid 35 = .ok (.getfield 7, 3) := by decide +kernel
theorem dX3_isPaid_38 : decode cX3_isPaid 38 = .ok (.iconst 1, 1) := by decide +kernel
theorem dX3_isPaid_39 : decode cX3_isPaid 39 = .ok (.iaload, 1) := by decide +kernel
theorem dX3_isPaid_40 : decode cX3_isPaid 40 = .ok (.i2l, 1) := by decide +kernel
theorem dX3_isPaid_41 : decode cX3_isPaid 41 = .ok (.lmul, 1) := by decide +kernel
theorem dX3_isPaid_42 : decode cX3_isPaid 42 = .ok (.ladd, 1) := by decide +kernel
theorem dX3_isPaid_43 : decode cX3_isPaid 43 = .ok (.ldc2_w 89, 3) := by decide +kernel
theorem dX3_isPaid_46 : decode cX3_isPaid 46 = .ok (.ldiv, 1) := by decide +kernel
theorem dX3_isPaid_47 : decode cX3_isPaid 47 = .ok (.l2i, 1) := by decide +kernel
theorem dX3_isPaid_48 : decode cX3_isPaid 48 = .ok (.ireturn, 1) := by decide +kernel
theorem dX3_pays_0 : decode cX3_pays 0 = .ok (.aload_n 0, 1) := by decide +kernel
theorem dX3_pays_1 : decode cX3_pays 1 = .ok (.getfield 42, 3) := by decide +kernel
theorem dX3_pays_4 : decode cX3_pays 4 = .ok (.iload_n 1, 1) := by decide +kernel
theorem dX3_pays_5 : decode cX3_pays 5 = .ok (.iaload, 1) := by decide +kernel
theorem dX3_pays_6 : decode cX3_pays 6 = .ok (.i2l, 1) := by decide +kernel
theorem dX3_pays_7 : decode cX3_pays 7 = .ok (.aload_n 0, 1) := by decide +kernel
theorem dX3_pays_8 : decode cX3_pays 8 = .ok (.getfield 80, 3) := by decide +kernel
theorem dX3_pays_11 : decode cX3_pays 11 = .ok (.i2l, 1) := by decide +kernel
theorem dX3_pays_12 : decode cX3_pays 12 = .ok (.lmul, 1) := by decide +kernel
theorem dX3_pays_13 : decode cX3_pays 13 = .ok (.ldc2_w 89, 3) := by decide +kernel
theorem dX3_pays_16 : decode cX3_pays 16 = .ok (.ldiv, 1) := by decide +kernel
theorem dX3_pays_17 : decode cX3_pays 17 = .ok (.l2i, 1) := by decide +kernel
theorem dX3_pays_18 : decode cX3_pays 18 = .ok (.ireturn, 1) := by decide +kernel
set_option maxRecDepth 20000 in
theorem ggX3_closeMonth_X3_fails : GoodIn wsX3_closeMonth wsX3_fails := goodIn_r _ [16, 1, 57, 58, 59, 60, 61, 62, 63, 64, 65, 66, 67, 68, 69, 70, 71, 72, 73, 74, 75, 76, 77, 78] (by decide +kernel) (by decide +kernel)
set_option maxRecDepth 20000 in
theorem gX3_closeMonth_X3_fails : GoodIn wsX3_closeMonth (wsV RX3 76 RX3 yX3_fails wsX3_fails) := goodIn_app (goodIn_of _ (by decide +kernel)) ggX3_closeMonth_X3_fails
set_option maxRecDepth 20000 in
theorem ggX3_closeMonth_X3_bear : GoodIn wsX3_closeMonth wsX3_bear := goodIn_r _ [20, 11, 21, 22, 23, 24, 25, 26, 27, 28, 15, 29, 57, 58, 59, 60, 61, 62, 63, 64, 65, 66, 67, 68, 69, 70, 71, 72, 73, 74, 75, 76, 77, 78] (by decide +kernel) (by decide +kernel)
set_option maxRecDepth 20000 in
theorem gX3_closeMonth_X3_bear : GoodIn wsX3_closeMonth (wsV RX3 113 RX3 yX3_bear wsX3_bear) := goodIn_app (goodIn_of _ (by decide +kernel)) ggX3_closeMonth_X3_bear
set_option maxRecDepth 20000 in
theorem ggX3_closeMonth_X3_isPaid : GoodIn wsX3_closeMonth wsX3_isPaid := goodIn_r _ [33, 34, 35, 36, 37, 23, 38, 39, 40, 15, 41, 42, 43, 57, 58, 59, 60, 61, 62, 63, 64, 65, 66, 67, 68, 69, 70, 71, 72, 73, 74, 75, 76, 77, 78] (by decide +kernel) (by decide +kernel)
set_option maxRecDepth 20000 in
theorem gX3_closeMonth_X3_isPaid : GoodIn wsX3_closeMonth (wsV RX3 117 RX3 yX3_isPaid wsX3_isPaid) := goodIn_app (goodIn_of _ (by decide +kernel)) ggX3_closeMonth_X3_isPaid
set_option maxRecDepth 20000 in
theorem ggX3_closeMonth_X3_pays : GoodIn wsX3_closeMonth wsX3_pays := goodIn_r _ [47, 34, 48, 23, 57, 58, 59, 60, 61, 62, 63, 64, 65, 66, 67, 68, 69, 70, 71, 72, 73, 74, 75, 76, 77, 78] (by decide +kernel) (by decide +kernel)
set_option maxRecDepth 20000 in
theorem gX3_closeMonth_X3_pays : GoodIn wsX3_closeMonth (wsV RX3 120 RX3 yX3_pays wsX3_pays) := goodIn_app (goodIn_of _ (by decide +kernel)) ggX3_closeMonth_X3_pays
set_option maxRecDepth 20000 in
theorem ggX3_closeMonth_X3_lays : GoodIn wsX3_closeMonth wsX3_lays := goodIn_r _ [52, 42, 43, 37, 53, 54, 55, 15, 56, 34, 35, 36, 57, 58, 59, 60, 61, 62, 63, 64, 65, 66, 67, 68, 69, 70, 71, 72, 73, 74, 75, 76, 77, 78] (by decide +kernel) (by decide +kernel)
set_option maxRecDepth 20000 in
theorem gX3_closeMonth_X3_lays : GoodIn wsX3_closeMonth (wsV RX3 106 RX3 yX3_lays wsX3_lays) := goodIn_app (goodIn_of _ (by decide +kernel)) ggX3_closeMonth_X3_lays
theorem dX3_closeMonth_0 : decode cX3_closeMonth 0 = .ok (.aload_n 0, 1) := by decide +kernel
theorem dX3_closeMonth_1 : decode cX3_closeMonth 1 = .ok (.iconst 0, 1) := by decide +kernel
theorem dX3_closeMonth_2 : decode cX3_closeMonth 2 = .ok (.putfield 63, 3) := by decide +kernel
theorem dX3_closeMonth_5 : decode cX3_closeMonth 5 = .ok (.aload_n 0, 1) := by decide +kernel
theorem dX3_closeMonth_6 : decode cX3_closeMonth 6 = .ok (.getfield 73, 3) := by decide +kernel
theorem dX3_closeMonth_9 : decode cX3_closeMonth 9 = .ok (.bipush 47, 2) := by decide +kernel
theorem dX3_closeMonth_11 : decode cX3_closeMonth 11 = .ok (.if_icmp .ne 9, 3) := by decide +kernel
theorem dX3_closeMonth_14 : decode cX3_closeMonth 14 = .ok (.aload_n 0, 1) := by decide +kernel
theorem dX3_closeMonth_15 : decode cX3_closeMonth 15 = .ok (.iconst 1, 1) := by decide +kernel
theorem dX3_closeMonth_16 : decode cX3_closeMonth 16 = .ok (.invokevirtual 76, 3) := by decide +kernel
theorem dX3_closeMonth_19 : decode cX3_closeMonth 19 = .ok (.ireturn, 1) := by decide +kernel
theorem dX3_closeMonth_20 : decode cX3_closeMonth 20 = .ok (.iconst 0, 1) := by decide +kernel
theorem dX3_closeMonth_21 : decode cX3_closeMonth 21 = .ok (.istore_n 1, 1) := by decide +kernel
theorem dX3_closeMonth_22 : decode cX3_closeMonth 22 = .ok (.iconst 0, 1) := by decide +kernel
theorem dX3_closeMonth_23 : decode cX3_closeMonth 23 = .ok (.istore_n 2, 1) := by decide +kernel
theorem dX3_closeMonth_24 : decode cX3_closeMonth 24 = .ok (.iconst 0, 1) := by decide +kernel
theorem dX3_closeMonth_25 : decode cX3_closeMonth 25 = .ok (.istore_n 3, 1) := by decide +kernel
theorem dX3_closeMonth_26 : decode cX3_closeMonth 26 = .ok (.iload_n 3, 1) := by decide +kernel
theorem dX3_closeMonth_27 : decode cX3_closeMonth 27 = .ok (.aload_n 0, 1) := by decide +kernel
theorem dX3_closeMonth_28 : decode cX3_closeMonth 28 = .ok (.getfield 66, 3) := by decide +kernel
theorem dX3_closeMonth_31 : decode cX3_closeMonth 31 = .ok (.if_icmp .ge 88, 3) := by decide +kernel
theorem dX3_closeMonth_34 : decode cX3_closeMonth 34 = .ok (.aload_n 0, 1) := by decide +kernel
theorem dX3_closeMonth_35 : decode cX3_closeMonth 35 = .ok (.getfield 51, 3) := by decide +kernel
theorem dX3_closeMonth_38 : decode cX3_closeMonth 38 = .ok (.iconst 3, 1) := by decide +kernel
theorem dX3_closeMonth_39 : decode cX3_closeMonth 39 = .ok (.aload_n 0, 1) := by decide +kernel
theorem dX3_closeMonth_40 : decode cX3_closeMonth 40 = .ok (.getfield 73, 3) := by decide +kernel
theorem dX3_closeMonth_43 : decode cX3_closeMonth 43 = .ok (.imul, 1) := by decide +kernel
theorem dX3_closeMonth_44 : decode cX3_closeMonth 44 = .ok (.aload_n 0, 1) := by decide +kernel
theorem dX3_closeMonth_45 : decode cX3_closeMonth 45 = .ok (.getfield 17, 3) := by decide +kernel
theorem dX3_closeMonth_48 : decode cX3_closeMonth 48 = .ok (.iload_n 3, 1) := by decide +kernel
theorem dX3_closeMonth_49 : decode cX3_closeMonth 49 = .ok (.iaload, 1) := by decide +kernel
theorem dX3_closeMonth_50 : decode cX3_closeMonth 50 = .ok (.iadd, 1) := by decide +kernel
theorem dX3_closeMonth_51 : decode cX3_closeMonth 51 = .ok (.dup2, 1) := by decide +kernel
theorem dX3_closeMonth_52 : decode cX3_closeMonth 52 = .ok (.iaload, 1) := by decide +kernel
theorem dX3_closeMonth_53 : decode cX3_closeMonth 53 = .ok (.aload_n 0, 1) := by decide +kernel
theorem dX3_closeMonth_54 : decode cX3_closeMonth 54 = .ok (.iload_n 3, 1) := by decide +kernel
theorem dX3_closeMonth_55 : decode cX3_closeMonth 55 = .ok (.iconst 3, 1) := by decide +kernel
theorem dX3_closeMonth_56 : decode cX3_closeMonth 56 = .ok (.invokevirtual 113, 3) := by decide +kernel
theorem dX3_closeMonth_59 : decode cX3_closeMonth 59 = .ok (.iadd, 1) := by decide +kernel
theorem dX3_closeMonth_60 : decode cX3_closeMonth 60 = .ok (.iastore, 1) := by decide +kernel
theorem dX3_closeMonth_61 : decode cX3_closeMonth 61 = .ok (.aload_n 0, 1) := by decide +kernel
theorem dX3_closeMonth_62 : decode cX3_closeMonth 62 = .ok (.getfield 54, 3) := by decide +kernel
theorem dX3_closeMonth_65 : decode cX3_closeMonth 65 = .ok (.iconst 3, 1) := by decide +kernel
theorem dX3_closeMonth_66 : decode cX3_closeMonth 66 = .ok (.aload_n 0, 1) := by decide +kernel
theorem dX3_closeMonth_67 : decode cX3_closeMonth 67 = .ok (.getfield 73, 3) := by decide +kernel
theorem dX3_closeMonth_70 : decode cX3_closeMonth 70 = .ok (.imul, 1) := by decide +kernel
theorem dX3_closeMonth_71 : decode cX3_closeMonth 71 = .ok (.aload_n 0, 1) := by decide +kernel
theorem dX3_closeMonth_72 : decode cX3_closeMonth 72 = .ok (.getfield 20, 3) := by decide +kernel
theorem dX3_closeMonth_75 : decode cX3_closeMonth 75 = .ok (.iload_n 3, 1) := by decide +kernel
theorem dX3_closeMonth_76 : decode cX3_closeMonth 76 = .ok (.iaload, 1) := by decide +kernel
theorem dX3_closeMonth_77 : decode cX3_closeMonth 77 = .ok (.iadd, 1) := by decide +kernel
theorem dX3_closeMonth_78 : decode cX3_closeMonth 78 = .ok (.dup2, 1) := by decide +kernel
theorem dX3_closeMonth_79 : decode cX3_closeMonth 79 = .ok (.iaload, 1) := by decide +kernel
theorem dX3_closeMonth_80 : decode cX3_closeMonth 80 = .ok (.aload_n 0, 1) := by decide +kernel
theorem dX3_closeMonth_81 : decode cX3_closeMonth 81 = .ok (.iload_n 3, 1) := by decide +kernel
theorem dX3_closeMonth_82 : decode cX3_closeMonth 82 = .ok (.iconst 3, 1) := by decide +kernel
theorem dX3_closeMonth_83 : decode cX3_closeMonth 83 = .ok (.invokevirtual 113, 3) := by decide +kernel
theorem dX3_closeMonth_86 : decode cX3_closeMonth 86 = .ok (.iadd, 1) := by decide +kernel
theorem dX3_closeMonth_87 : decode cX3_closeMonth 87 = .ok (.iastore, 1) := by decide +kernel
theorem dX3_closeMonth_88 : decode cX3_closeMonth 88 = .ok (.iload_n 1, 1) := by decide +kernel
theorem dX3_closeMonth_89 : decode cX3_closeMonth 89 = .ok (.aload_n 0, 1) := by decide +kernel
theorem dX3_closeMonth_90 : decode cX3_closeMonth 90 = .ok (.iload_n 3, 1) := by decide +kernel
theorem dX3_closeMonth_91 : decode cX3_closeMonth 91 = .ok (.iconst 1, 1) := by decide +kernel
theorem dX3_closeMonth_92 : decode cX3_closeMonth 92 = .ok (.invokevirtual 113, 3) := by decide +kernel
theorem dX3_closeMonth_95 : decode cX3_closeMonth 95 = .ok (.aload_n 0, 1) := by decide +kernel
theorem dX3_closeMonth_96 : decode cX3_closeMonth 96 = .ok (.iload_n 3, 1) := by decide +kernel
theorem dX3_closeMonth_97 : decode cX3_closeMonth 97 = .ok (.iconst 2, 1) := by decide +kernel
theorem dX3_closeMonth_98 : decode cX3_closeMonth 98 = .ok (.invokevirtual 113, 3) := by decide +kernel
theorem dX3_closeMonth_101 : decode cX3_closeMonth 101 = .ok (.iadd, 1) := by decide +kernel
theorem dX3_closeMonth_102 : decode cX3_closeMonth 102 = .ok (.iadd, 1) := by decide +kernel
theorem dX3_closeMonth_103 : decode cX3_closeMonth 103 = .ok (.istore_n 1, 1) := by decide +kernel
theorem dX3_closeMonth_104 : decode cX3_closeMonth 104 = .ok (.iload_n 2, 1) := by decide +kernel
theorem dX3_closeMonth_105 : decode cX3_closeMonth 105 = .ok (.aload_n 0, 1) := by decide +kernel
theorem dX3_closeMonth_106 : decode cX3_closeMonth 106 = .ok (.iload_n 3, 1) := by decide +kernel
theorem dX3_closeMonth_107 : decode cX3_closeMonth 107 = .ok (.iconst 0, 1) := by decide +kernel
theorem dX3_closeMonth_108 : decode cX3_closeMonth 108 = .ok (.invokevirtual 113, 3) := by decide +kernel
theorem dX3_closeMonth_111 : decode cX3_closeMonth 111 = .ok (.iadd, 1) := by decide +kernel
theorem dX3_closeMonth_112 : decode cX3_closeMonth 112 = .ok (.istore_n 2, 1) := by decide +kernel
theorem dX3_closeMonth_113 : decode cX3_closeMonth 113 = .ok (.iinc 3 1, 3) := by decide +kernel
theorem dX3_closeMonth_116 : decode cX3_closeMonth 116 = .ok (.goto (-90), 3) := by decide +kernel
theorem dX3_closeMonth_119 : decode cX3_closeMonth 119 = .ok (.iconst 0, 1) := by decide +kernel
theorem dX3_closeMonth_120 : decode cX3_closeMonth 120 = .ok (.istore_n 3, 1) := by decide +kernel
theorem dX3_closeMonth_121 : decode cX3_closeMonth 121 = .ok (.iload_n 3, 1) := by decide +kernel
theorem dX3_closeMonth_122 : decode cX3_closeMonth 122 = .ok (.iconst 3, 1) := by decide +kernel
theorem dX3_closeMonth_123 : decode cX3_closeMonth 123 = .ok (.if_icmp .ge 52, 3) := by decide +kernel
theorem dX3_closeMonth_126 : decode cX3_closeMonth 126 = .ok (.aload_n 0, 1) := by decide +kernel
theorem dX3_closeMonth_127 : decode cX3_closeMonth 127 = .ok (.getfield 51, 3) := by decide +kernel
theorem dX3_closeMonth_130 : decode cX3_closeMonth 130 = .ok (.iconst 3, 1) := by decide +kernel
theorem dX3_closeMonth_131 : decode cX3_closeMonth 131 = .ok (.aload_n 0, 1) := by decide +kernel
theorem dX3_closeMonth_132 : decode cX3_closeMonth 132 = .ok (.getfield 73, 3) := by decide +kernel
theorem dX3_closeMonth_135 : decode cX3_closeMonth 135 = .ok (.imul, 1) := by decide +kernel
theorem dX3_closeMonth_136 : decode cX3_closeMonth 136 = .ok (.iload_n 3, 1) := by decide +kernel
theorem dX3_closeMonth_137 : decode cX3_closeMonth 137 = .ok (.iadd, 1) := by decide +kernel
theorem dX3_closeMonth_138 : decode cX3_closeMonth 138 = .ok (.dup2, 1) := by decide +kernel
theorem dX3_closeMonth_139 : decode cX3_closeMonth 139 = .ok (.iaload, 1) := by decide +kernel
theorem dX3_closeMonth_140 : decode cX3_closeMonth 140 = .ok (.aload_n 0, 1) := by decide +kernel
theorem dX3_closeMonth_141 : decode cX3_closeMonth 141 = .ok (.iload_n 3, 1) := by decide +kernel
theorem dX3_closeMonth_142 : decode cX3_closeMonth 142 = .ok (.invokevirtual 117, 3) := by decide +kernel
theorem dX3_closeMonth_145 : decode cX3_closeMonth 145 = .ok (.aload_n 0, 1) := by decide +kernel
theorem dX3_closeMonth_146 : decode cX3_closeMonth 146 = .ok (.iload_n 3, 1) := by decide +kernel
theorem dX3_closeMonth_147 : decode cX3_closeMonth 147 = .ok (.invokevirtual 120, 3) := by decide +kernel
theorem dX3_closeMonth_150 : decode cX3_closeMonth 150 = .ok (.isub, 1) := by decide +kernel
theorem dX3_closeMonth_151 : decode cX3_closeMonth 151 = .ok (.iadd, 1) := by decide +kernel
theorem dX3_closeMonth_152 : decode cX3_closeMonth 152 = .ok (.iastore, 1) := by decide +kernel
theorem dX3_closeMonth_153 : decode cX3_closeMonth 153 = .ok (.iload_n 1, 1) := by decide +kernel
theorem dX3_closeMonth_154 : decode cX3_closeMonth 154 = .ok (.aload_n 0, 1) := by decide +kernel
theorem dX3_closeMonth_155 : decode cX3_closeMonth 155 = .ok (.iload_n 3, 1) := by decide +kernel
theorem dX3_closeMonth_156 : decode cX3_closeMonth 156 = .ok (.invokevirtual 117, 3) := by decide +kernel
theorem dX3_closeMonth_159 : decode cX3_closeMonth 159 = .ok (.isub, 1) := by decide +kernel
theorem dX3_closeMonth_160 : decode cX3_closeMonth 160 = .ok (.istore_n 1, 1) := by decide +kernel
theorem dX3_closeMonth_161 : decode cX3_closeMonth 161 = .ok (.iload_n 2, 1) := by decide +kernel
theorem dX3_closeMonth_162 : decode cX3_closeMonth 162 = .ok (.aload_n 0, 1) := by decide +kernel
theorem dX3_closeMonth_163 : decode cX3_closeMonth 163 = .ok (.iload_n 3, 1) := by decide +kernel
theorem dX3_closeMonth_164 : decode cX3_closeMonth 164 = .ok (.invokevirtual 120, 3) := by decide +kernel
theorem dX3_closeMonth_167 : decode cX3_closeMonth 167 = .ok (.isub, 1) := by decide +kernel
theorem dX3_closeMonth_168 : decode cX3_closeMonth 168 = .ok (.istore_n 2, 1) := by decide +kernel
theorem dX3_closeMonth_169 : decode cX3_closeMonth 169 = .ok (.iinc 3 1, 3) := by decide +kernel
theorem dX3_closeMonth_172 : decode cX3_closeMonth 172 = .ok (.goto (-51), 3) := by decide +kernel
theorem dX3_closeMonth_175 : decode cX3_closeMonth 175 = .ok (.aload_n 0, 1) := by decide +kernel
theorem dX3_closeMonth_176 : decode cX3_closeMonth 176 = .ok (.getfield 57, 3) := by decide +kernel
theorem dX3_closeMonth_179 : decode cX3_closeMonth 179 = .ok (.aload_n 0, 1) := by decide +kernel
theorem dX3_closeMonth_180 : decode cX3_closeMonth 180 = .ok (.getfield 73, 3) := by decide +kernel
theorem dX3_closeMonth_183 : decode cX3_closeMonth 183 = .ok (.iload_n 1, 1) := by decide +kernel
theorem dX3_closeMonth_184 : decode cX3_closeMonth 184 = .ok (.iastore, 1) := by decide +kernel
theorem dX3_closeMonth_185 : decode cX3_closeMonth 185 = .ok (.aload_n 0, 1) := by decide +kernel
theorem dX3_closeMonth_186 : decode cX3_closeMonth 186 = .ok (.getfield 60, 3) := by decide +kernel
theorem dX3_closeMonth_189 : decode cX3_closeMonth 189 = .ok (.aload_n 0, 1) := by decide +kernel
theorem dX3_closeMonth_190 : decode cX3_closeMonth 190 = .ok (.getfield 73, 3) := by decide +kernel
theorem dX3_closeMonth_193 : decode cX3_closeMonth 193 = .ok (.iload_n 2, 1) := by decide +kernel
theorem dX3_closeMonth_194 : decode cX3_closeMonth 194 = .ok (.iastore, 1) := by decide +kernel
theorem dX3_closeMonth_195 : decode cX3_closeMonth 195 = .ok (.iconst 0, 1) := by decide +kernel
theorem dX3_closeMonth_196 : decode cX3_closeMonth 196 = .ok (.istore_n 3, 1) := by decide +kernel
theorem dX3_closeMonth_197 : decode cX3_closeMonth 197 = .ok (.iload_n 3, 1) := by decide +kernel
theorem dX3_closeMonth_198 : decode cX3_closeMonth 198 = .ok (.aload_n 0, 1) := by decide +kernel
theorem dX3_closeMonth_199 : decode cX3_closeMonth 199 = .ok (.getfield 66, 3) := by decide +kernel
theorem dX3_closeMonth_202 : decode cX3_closeMonth 202 = .ok (.if_icmp .ge 47, 3) := by decide +kernel
theorem dX3_closeMonth_205 : decode cX3_closeMonth 205 = .ok (.aload_n 0, 1) := by decide +kernel
theorem dX3_closeMonth_206 : decode cX3_closeMonth 206 = .ok (.getfield 73, 3) := by decide +kernel
theorem dX3_closeMonth_209 : decode cX3_closeMonth 209 = .ok (.aload_n 0, 1) := by decide +kernel
theorem dX3_closeMonth_210 : decode cX3_closeMonth 210 = .ok (.getfield 33, 3) := by decide +kernel
theorem dX3_closeMonth_213 : decode cX3_closeMonth 213 = .ok (.iload_n 3, 1) := by decide +kernel
theorem dX3_closeMonth_214 : decode cX3_closeMonth 214 = .ok (.iaload, 1) := by decide +kernel
theorem dX3_closeMonth_215 : decode cX3_closeMonth 215 = .ok (.isub, 1) := by decide +kernel
theorem dX3_closeMonth_216 : decode cX3_closeMonth 216 = .ok (.bipush 6, 2) := by decide +kernel
theorem dX3_closeMonth_218 : decode cX3_closeMonth 218 = .ok (.if_icmp .ge 25, 3) := by decide +kernel
theorem dX3_closeMonth_221 : decode cX3_closeMonth 221 = .ok (.aload_n 0, 1) := by decide +kernel
theorem dX3_closeMonth_222 : decode cX3_closeMonth 222 = .ok (.getfield 36, 3) := by decide +kernel
theorem dX3_closeMonth_225 : decode cX3_closeMonth 225 = .ok (.bipush 6, 2) := by decide +kernel
theorem dX3_closeMonth_227 : decode cX3_closeMonth 227 = .ok (.iload_n 3, 1) := by decide +kernel
theorem dX3_closeMonth_228 : decode cX3_closeMonth 228 = .ok (.imul, 1) := by decide +kernel
theorem dX3_closeMonth_229 : decode cX3_closeMonth 229 = .ok (.aload_n 0, 1) := by decide +kernel
theorem dX3_closeMonth_230 : decode cX3_closeMonth 230 = .ok (.getfield 73, 3) := by decide +kernel
theorem dX3_closeMonth_233 : decode cX3_closeMonth 233 = .ok (.iadd, 1) := by decide +kernel
theorem dX3_closeMonth_234 : decode cX3_closeMonth 234 = .ok (.aload_n 0, 1) := by decide +kernel
theorem dX3_closeMonth_235 : decode cX3_closeMonth 235 = .ok (.getfield 33, 3) := by decide +kernel
theorem dX3_closeMonth_238 : decode cX3_closeMonth 238 = .ok (.iload_n 3, 1) := by decide +kernel
theorem dX3_closeMonth_239 : decode cX3_closeMonth 239 = .ok (.iaload, 1) := by decide +kernel
theorem dX3_closeMonth_240 : decode cX3_closeMonth 240 = .ok (.isub, 1) := by decide +kernel
theorem dX3_closeMonth_241 : decode cX3_closeMonth 241 = .ok (.iconst 0, 1) := by decide +kernel
theorem dX3_closeMonth_242 : decode cX3_closeMonth 242 = .ok (.iastore, 1) := by decide +kernel
theorem dX3_closeMonth_243 : decode cX3_closeMonth 243 = .ok (.iinc 3 1, 3) := by decide +kernel
theorem dX3_closeMonth_246 : decode cX3_closeMonth 246 = .ok (.goto (-49), 3) := by decide +kernel
theorem dX3_closeMonth_249 : decode cX3_closeMonth 249 = .ok (.aload_n 0, 1) := by decide +kernel
theorem dX3_closeMonth_250 : decode cX3_closeMonth 250 = .ok (.dup, 1) := by decide +kernel
theorem dX3_closeMonth_251 : decode cX3_closeMonth 251 = .ok (.getfield 73, 3) := by decide +kernel
theorem dX3_closeMonth_254 : decode cX3_closeMonth 254 = .ok (.iconst 1, 1) := by decide +kernel
theorem dX3_closeMonth_255 : decode cX3_closeMonth 255 = .ok (.iadd, 1) := by decide +kernel
theorem dX3_closeMonth_256 : decode cX3_closeMonth 256 = .ok (.putfield 73, 3) := by decide +kernel
theorem dX3_closeMonth_259 : decode cX3_closeMonth 259 = .ok (.aload_n 0, 1) := by decide +kernel
theorem dX3_closeMonth_260 : decode cX3_closeMonth 260 = .ok (.aload_n 0, 1) := by decide +kernel
theorem dX3_closeMonth_261 : decode cX3_closeMonth 261 = .ok (.getfield 73, 3) := by decide +kernel
theorem dX3_closeMonth_264 : decode cX3_closeMonth 264 = .ok (.bipush 6, 2) := by decide +kernel
theorem dX3_closeMonth_266 : decode cX3_closeMonth 266 = .ok (.irem, 1) := by decide +kernel
theorem dX3_closeMonth_267 : decode cX3_closeMonth 267 = .ok (.invokevirtual 106, 3) := by decide +kernel
theorem dX3_closeMonth_270 : decode cX3_closeMonth 270 = .ok (.aload_n 0, 1) := by decide +kernel
theorem dX3_closeMonth_271 : decode cX3_closeMonth 271 = .ok (.getfield 73, 3) := by decide +kernel
theorem dX3_closeMonth_274 : decode cX3_closeMonth 274 = .ok (.ireturn, 1) := by decide +kernel
theorem dX3_month_0 : decode cX3_month 0 = .ok (.aload_n 0, 1) := by decide +kernel
theorem dX3_month_1 : decode cX3_month 1 = .ok (.iconst 0, 1) := by decide +kernel
theorem dX3_month_2 : decode cX3_month 2 = .ok (.putfield 63, 3) := by decide +kernel
theorem dX3_month_5 : decode cX3_month 5 = .ok (.aload_n 0, 1) := by decide +kernel
theorem dX3_month_6 : decode cX3_month 6 = .ok (.getfield 73, 3) := by decide +kernel
theorem dX3_month_9 : decode cX3_month 9 = .ok (.ireturn, 1) := by decide +kernel
theorem dX3_loans_0 : decode cX3_loans 0 = .ok (.aload_n 0, 1) := by decide +kernel
theorem dX3_loans_1 : decode cX3_loans 1 = .ok (.iconst 0, 1) := by decide +kernel
theorem dX3_loans_2 : decode cX3_loans 2 = .ok (.putfield 63, 3) := by decide +kernel
theorem dX3_loans_5 : decode cX3_loans 5 = .ok (.aload_n 0, 1) := by decide +kernel
theorem dX3_loans_6 : decode cX3_loans 6 = .ok (.getfield 66, 3) := by decide +kernel
theorem dX3_loans_9 : decode cX3_loans 9 = .ok (.ireturn, 1) := by decide +kernel
set_option maxRecDepth 20000 in
theorem ggX3_left_X3_isLoan : GoodIn wsX3_left wsX3_isLoan := goodIn_r _ [6, 7, 8, 9, 5, 10, 20, 21, 22, 23, 24, 25, 26, 27, 28, 29, 30, 31, 32, 33, 34, 35, 36, 37, 38, 39, 40, 41] (by decide +kernel) (by decide +kernel)
set_option maxRecDepth 20000 in
theorem gX3_left_X3_isLoan : GoodIn wsX3_left (wsV RX3 96 RX3 yX3_isLoan wsX3_isLoan) := goodIn_app (goodIn_of _ (by decide +kernel)) ggX3_left_X3_isLoan
set_option maxRecDepth 20000 in
theorem ggX3_left_X3_leftOf : GoodIn wsX3_left wsX3_leftOf := goodIn_r _ [14, 15, 20, 21, 22, 23, 24, 25, 26, 27, 28, 29, 30, 31, 32, 33, 34, 35, 36, 37, 38, 39, 40, 41] (by decide +kernel) (by decide +kernel)
set_option maxRecDepth 20000 in
theorem gX3_left_X3_leftOf : GoodIn wsX3_left (wsV RX3 86 RX3 yX3_leftOf wsX3_leftOf) := goodIn_app (goodIn_of _ (by decide +kernel)) ggX3_left_X3_leftOf
set_option maxRecDepth 20000 in
theorem ggX3_left_X3_fails : GoodIn wsX3_left wsX3_fails := goodIn_r _ [19, 1, 20, 21, 22, 23, 24, 25, 26, 27, 28, 29, 30, 31, 32, 33, 34, 35, 36, 37, 38, 39, 40, 41] (by decide +kernel) (by decide +kernel)
set_option maxRecDepth 20000 in
theorem gX3_left_X3_fails : GoodIn wsX3_left (wsV RX3 76 RX3 yX3_fails wsX3_fails) := goodIn_app (goodIn_of _ (by decide +kernel)) ggX3_left_X3_fails
theorem dX3_left_0 : decode cX3_left 0 = .ok (.aload_n 0, 1) := by decide +kernel
theorem dX3_left_1 : decode cX3_left 1 = .ok (.iconst 0, 1) := by decide +kernel
theorem dX3_left_2 : decode cX3_left 2 = .ok (.putfield 63, 3) := by decide +kernel
theorem dX3_left_5 : decode cX3_left 5 = .ok (.aload_n 0, 1) := by decide +kernel
theorem dX3_left_6 : decode cX3_left 6 = .ok (.iload_n 1, 1) := by decide +kernel
theorem dX3_left_7 : decode cX3_left 7 = .ok (.invokevirtual 96, 3) := by decide +kernel
theorem dX3_left_10 : decode cX3_left 10 = .ok (.ifCond .eq 11, 3) := by decide +kernel
theorem dX3_left_13 : decode cX3_left 13 = .ok (.aload_n 0, 1) := by decide +kernel
theorem dX3_left_14 : decode cX3_left 14 = .ok (.iload_n 1, 1) := by decide +kernel
theorem dX3_left_15 : decode cX3_left 15 = .ok (.invokevirtual 86, 3) := by decide +kernel
theorem dX3_left_18 : decode cX3_left 18 = .ok (.goto 8, 3) := by decide +kernel
theorem dX3_left_21 : decode cX3_left 21 = .ok (.aload_n 0, 1) := by decide +kernel
theorem dX3_left_22 : decode cX3_left 22 = .ok (.iconst 1, 1) := by decide +kernel
theorem dX3_left_23 : decode cX3_left 23 = .ok (.invokevirtual 76, 3) := by decide +kernel
theorem dX3_left_26 : decode cX3_left 26 = .ok (.ireturn, 1) := by decide +kernel
set_option maxRecDepth 20000 in
theorem ggX3_bears_X3_isLoan : GoodIn wsX3_bears wsX3_isLoan := goodIn_r _ [6, 7, 8, 9, 5, 10, 29, 30, 31, 32, 33, 34, 35, 36, 37, 38, 39, 40, 41, 42, 43, 44, 45, 46, 47, 48, 49, 50] (by decide +kernel) (by decide +kernel)
set_option maxRecDepth 20000 in
theorem gX3_bears_X3_isLoan : GoodIn wsX3_bears (wsV RX3 96 RX3 yX3_isLoan wsX3_isLoan) := goodIn_app (goodIn_of _ (by decide +kernel)) ggX3_bears_X3_isLoan
set_option maxRecDepth 20000 in
theorem ggX3_bears_X3_fails : GoodIn wsX3_bears wsX3_fails := goodIn_r _ [14, 1, 29, 30, 31, 32, 33, 34, 35, 36, 37, 38, 39, 40, 41, 42, 43, 44, 45, 46, 47, 48, 49, 50] (by decide +kernel) (by decide +kernel)
set_option maxRecDepth 20000 in
theorem gX3_bears_X3_fails : GoodIn wsX3_bears (wsV RX3 76 RX3 yX3_fails wsX3_fails) := goodIn_app (goodIn_of _ (by decide +kernel)) ggX3_bears_X3_fails
set_option maxRecDepth 20000 in
theorem ggX3_bears_X3_in : GoodIn wsX3_bears wsX3_in := goodIn_r _ [10] (by decide +kernel) (by decide +kernel)
set_option maxRecDepth 20000 in
theorem gX3_bears_X3_in : GoodIn wsX3_bears (va_wsS RX3 69 yX3_in wsX3_in) := goodIn_app (goodIn_of _ (by decide +kernel)) ggX3_bears_X3_in
set_option maxRecDepth 20000 in
theorem ggX3_bears_X3_bear : GoodIn wsX3_bears wsX3_bear := goodIn_r _ [18, 19, 20, 21, 22, 23, 24, 25, 26, 27, 5, 28, 29, 30, 31, 32, 33, 34, 35, 36, 37, 38, 39, 40, 41, 42, 43, 44, 45, 46, 47, 48, 49, 50] (by decide +kernel) (by decide +kernel)
set_option maxRecDepth 20000 in
theorem gX3_bears_X3_bear : GoodIn wsX3_bears (wsV RX3 113 RX3 yX3_bear wsX3_bear) := goodIn_app (goodIn_of _ (by decide +kernel)) ggX3_bears_X3_bear
theorem dX3_bears_0 : decode cX3_bears 0 = .ok (.aload_n 0, 1) := by decide +kernel
theorem dX3_bears_1 : decode cX3_bears 1 = .ok (.iconst 0, 1) := by decide +kernel
theorem dX3_bears_2 : decode cX3_bears 2 = .ok (.putfield 63, 3) := by decide +kernel
theorem dX3_bears_5 : decode cX3_bears 5 = .ok (.aload_n 0, 1) := by decide +kernel
theorem dX3_bears_6 : decode cX3_bears 6 = .ok (.iload_n 1, 1) := by decide +kernel
theorem dX3_bears_7 : decode cX3_bears 7 = .ok (.invokevirtual 96, 3) := by decide +kernel
theorem dX3_bears_10 : decode cX3_bears 10 = .ok (.ifCond .ne 9, 3) := by decide +kernel
theorem dX3_bears_13 : decode cX3_bears 13 = .ok (.aload_n 0, 1) := by decide +kernel
theorem dX3_bears_14 : decode cX3_bears 14 = .ok (.iconst 1, 1) := by decide +kernel
theorem dX3_bears_15 : decode cX3_bears 15 = .ok (.invokevirtual 76, 3) := by decide +kernel
theorem dX3_bears_18 : decode cX3_bears 18 = .ok (.ireturn, 1) := by decide +kernel
theorem dX3_bears_19 : decode cX3_bears 19 = .ok (.iload_n 2, 1) := by decide +kernel
theorem dX3_bears_20 : decode cX3_bears 20 = .ok (.iconst 0, 1) := by decide +kernel
theorem dX3_bears_21 : decode cX3_bears 21 = .ok (.iconst 3, 1) := by decide +kernel
theorem dX3_bears_22 : decode cX3_bears 22 = .ok (.invokestatic 69, 3) := by decide +kernel
theorem dX3_bears_25 : decode cX3_bears 25 = .ok (.ifCond .eq 12, 3) := by decide +kernel
theorem dX3_bears_28 : decode cX3_bears 28 = .ok (.aload_n 0, 1) := by decide +kernel
theorem dX3_bears_29 : decode cX3_bears 29 = .ok (.iload_n 1, 1) := by decide +kernel
theorem dX3_bears_30 : decode cX3_bears 30 = .ok (.iload_n 2, 1) := by decide +kernel
theorem dX3_bears_31 : decode cX3_bears 31 = .ok (.invokevirtual 113, 3) := by decide +kernel
theorem dX3_bears_34 : decode cX3_bears 34 = .ok (.goto 8, 3) := by decide +kernel
theorem dX3_bears_37 : decode cX3_bears 37 = .ok (.aload_n 0, 1) := by decide +kernel
theorem dX3_bears_38 : decode cX3_bears 38 = .ok (.iconst 2, 1) := by decide +kernel
theorem dX3_bears_39 : decode cX3_bears 39 = .ok (.invokevirtual 76, 3) := by decide +kernel
theorem dX3_bears_42 : decode cX3_bears 42 = .ok (.ireturn, 1) := by decide +kernel
set_option maxRecDepth 20000 in
theorem ggX3_due_X3_in : GoodIn wsX3_due wsX3_in := goodIn_r _ [9] (by decide +kernel) (by decide +kernel)
set_option maxRecDepth 20000 in
theorem gX3_due_X3_in : GoodIn wsX3_due (va_wsS RX3 69 yX3_in wsX3_in) := goodIn_app (goodIn_of _ (by decide +kernel)) ggX3_due_X3_in
set_option maxRecDepth 20000 in
theorem ggX3_due_X3_fails : GoodIn wsX3_due wsX3_fails := goodIn_r _ [13, 1, 14, 15, 16, 17, 18, 19, 20, 21, 22, 23, 24, 25, 26, 27, 28, 29, 30, 31, 32, 33, 34, 35] (by decide +kernel) (by decide +kernel)
set_option maxRecDepth 20000 in
theorem gX3_due_X3_fails : GoodIn wsX3_due (wsV RX3 76 RX3 yX3_fails wsX3_fails) := goodIn_app (goodIn_of _ (by decide +kernel)) ggX3_due_X3_fails
theorem dX3_due_0 : decode cX3_due 0 = .ok (.aload_n 0, 1) := by decide +kernel
theorem dX3_due_1 : decode cX3_due 1 = .ok (.iconst 0, 1) := by decide +kernel
theorem dX3_due_2 : decode cX3_due 2 = .ok (.putfield 63, 3) := by decide +kernel
theorem dX3_due_5 : decode cX3_due 5 = .ok (.iload_n 1, 1) := by decide +kernel
theorem dX3_due_6 : decode cX3_due 6 = .ok (.iconst 0, 1) := by decide +kernel
theorem dX3_due_7 : decode cX3_due 7 = .ok (.iconst 5, 1) := by decide +kernel
theorem dX3_due_8 : decode cX3_due 8 = .ok (.invokestatic 69, 3) := by decide +kernel
theorem dX3_due_11 : decode cX3_due 11 = .ok (.ifCond .ne 9, 3) := by decide +kernel
theorem dX3_due_14 : decode cX3_due 14 = .ok (.aload_n 0, 1) := by decide +kernel
theorem dX3_due_15 : decode cX3_due 15 = .ok (.iconst 1, 1) := by decide +kernel
theorem dX3_due_16 : decode cX3_due 16 = .ok (.invokevirtual 76, 3) := by decide +kernel
theorem dX3_due_19 : decode cX3_due 19 = .ok (.ireturn, 1) := by decide +kernel
theorem dX3_due_20 : decode cX3_due 20 = .ok (.iconst 0, 1) := by decide +kernel
theorem dX3_due_21 : decode cX3_due 21 = .ok (.istore_n 2, 1) := by decide +kernel
theorem dX3_due_22 : decode cX3_due 22 = .ok (.iconst 0, 1) := by decide +kernel
theorem dX3_due_23 : decode cX3_due 23 = .ok (.istore_n 3, 1) := by decide +kernel
theorem dX3_due_24 : decode cX3_due 24 = .ok (.iload_n 3, 1) := by decide +kernel
theorem dX3_due_25 : decode cX3_due 25 = .ok (.aload_n 0, 1) := by decide +kernel
theorem dX3_due_26 : decode cX3_due 26 = .ok (.getfield 66, 3) := by decide +kernel
theorem dX3_due_29 : decode cX3_due 29 = .ok (.if_icmp .ge 50, 3) := by decide +kernel
theorem dX3_due_32 : decode cX3_due 32 = .ok (.aload_n 0, 1) := by decide +kernel
theorem dX3_due_33 : decode cX3_due 33 = .ok (.getfield 73, 3) := by decide +kernel
theorem dX3_due_36 : decode cX3_due 36 = .ok (.iload_n 1, 1) := by decide +kernel
theorem dX3_due_37 : decode cX3_due 37 = .ok (.iadd, 1) := by decide +kernel
theorem dX3_due_38 : decode cX3_due 38 = .ok (.aload_n 0, 1) := by decide +kernel
theorem dX3_due_39 : decode cX3_due 39 = .ok (.getfield 33, 3) := by decide +kernel
theorem dX3_due_42 : decode cX3_due 42 = .ok (.iload_n 3, 1) := by decide +kernel
theorem dX3_due_43 : decode cX3_due 43 = .ok (.iaload, 1) := by decide +kernel
theorem dX3_due_44 : decode cX3_due 44 = .ok (.isub, 1) := by decide +kernel
theorem dX3_due_45 : decode cX3_due 45 = .ok (.istore 4, 2) := by decide +kernel
theorem dX3_due_47 : decode cX3_due 47 = .ok (.iload_n 2, 1) := by decide +kernel
theorem dX3_due_48 : decode cX3_due 48 = .ok (.iload 4, 2) := by decide +kernel
theorem dX3_due_50 : decode cX3_due 50 = .ok (.bipush 6, 2) := by decide +kernel
theorem dX3_due_52 : decode cX3_due 52 = .ok (.if_icmp .ge 18, 3) := by decide +kernel
theorem dX3_due_55 : decode cX3_due 55 = .ok (.aload_n 0, 1) := by decide +kernel
theorem dX3_due_56 : decode cX3_due 56 = .ok (.getfield 36, 3) := by decide +kernel
theorem dX3_due_59 : decode cX3_due 59 = .ok (.bipush 6, 2) := by decide +kernel
theorem dX3_due_61 : decode cX3_due 61 = .ok (.iload_n 3, 1) := by decide +kernel
theorem dX3_due_62 : decode cX3_due 62 = .ok (.imul, 1) := by decide +kernel
theorem dX3_due_63 : decode cX3_due 63 = .ok (.iload 4, 2) := by decide +kernel
theorem dX3_due_65 : decode cX3_due 65 = .ok (.iadd, 1) := by decide +kernel
theorem dX3_due_66 : decode cX3_due 66 = .ok (.iaload, 1) := by decide +kernel
theorem dX3_due_67 : decode cX3_due 67 = .ok (.goto 4, 3) := by decide +kernel
theorem dX3_due_70 : decode cX3_due 70 = .ok (.iconst 0, 1) := by decide +kernel
theorem dX3_due_71 : decode cX3_due 71 = .ok (.iadd, 1) := by decide +kernel
theorem dX3_due_72 : decode cX3_due 72 = .ok (.istore_n 2, 1) := by decide +kernel
theorem dX3_due_73 : decode cX3_due 73 = .ok (.iinc 3 1, 3) := by decide +kernel
theorem dX3_due_76 : decode cX3_due 76 = .ok (.goto (-52), 3) := by decide +kernel
theorem dX3_due_79 : decode cX3_due 79 = .ok (.iload_n 2, 1) := by decide +kernel
theorem dX3_due_80 : decode cX3_due 80 = .ok (.ireturn, 1) := by decide +kernel
set_option maxRecDepth 20000 in
theorem ggX3_balance_X3_isBranch : GoodIn wsX3_balance wsX3_isBranch := goodIn_r _ [6, 7, 8, 5, 9] (by decide +kernel) (by decide +kernel)
set_option maxRecDepth 20000 in
theorem gX3_balance_X3_isBranch : GoodIn wsX3_balance (va_wsS RX3 91 yX3_isBranch wsX3_isBranch) := goodIn_app (goodIn_of _ (by decide +kernel)) ggX3_balance_X3_isBranch
set_option maxRecDepth 20000 in
theorem ggX3_balance_X3_fails : GoodIn wsX3_balance wsX3_fails := goodIn_r _ [13, 1, 14, 15, 16, 17, 18, 19, 20, 21, 22, 23, 24, 25, 26, 27, 28, 29, 30, 31, 32, 33, 34, 35] (by decide +kernel) (by decide +kernel)
set_option maxRecDepth 20000 in
theorem gX3_balance_X3_fails : GoodIn wsX3_balance (wsV RX3 76 RX3 yX3_fails wsX3_fails) := goodIn_app (goodIn_of _ (by decide +kernel)) ggX3_balance_X3_fails
theorem dX3_balance_0 : decode cX3_balance 0 = .ok (.aload_n 0, 1) := by decide +kernel
theorem dX3_balance_1 : decode cX3_balance 1 = .ok (.iconst 0, 1) := by decide +kernel
theorem dX3_balance_2 : decode cX3_balance 2 = .ok (.putfield 63, 3) := by decide +kernel
theorem dX3_balance_5 : decode cX3_balance 5 = .ok (.iload_n 1, 1) := by decide +kernel
theorem dX3_balance_6 : decode cX3_balance 6 = .ok (.invokestatic 91, 3) := by decide +kernel
theorem dX3_balance_9 : decode cX3_balance 9 = .ok (.ifCond .eq 12, 3) := by decide +kernel
theorem dX3_balance_12 : decode cX3_balance 12 = .ok (.aload_n 0, 1) := by decide +kernel
theorem dX3_balance_13 : decode cX3_balance 13 = .ok (.getfield 42, 3) := by decide +kernel
theorem dX3_balance_16 : decode cX3_balance 16 = .ok (.iload_n 1, 1) := by decide +kernel
theorem dX3_balance_17 : decode cX3_balance 17 = .ok (.iaload, 1) := by decide +kernel
theorem dX3_balance_18 : decode cX3_balance 18 = .ok (.goto 8, 3) := by decide +kernel
theorem dX3_balance_21 : decode cX3_balance 21 = .ok (.aload_n 0, 1) := by decide +kernel
theorem dX3_balance_22 : decode cX3_balance 22 = .ok (.iconst 1, 1) := by decide +kernel
theorem dX3_balance_23 : decode cX3_balance 23 = .ok (.invokevirtual 76, 3) := by decide +kernel
theorem dX3_balance_26 : decode cX3_balance 26 = .ok (.ireturn, 1) := by decide +kernel
set_option maxRecDepth 20000 in
theorem ggX3_tranche_X3_in : GoodIn wsX3_tranche wsX3_in := goodIn_r _ [6] (by decide +kernel) (by decide +kernel)
set_option maxRecDepth 20000 in
theorem gX3_tranche_X3_in : GoodIn wsX3_tranche (va_wsS RX3 69 yX3_in wsX3_in) := goodIn_app (goodIn_of _ (by decide +kernel)) ggX3_tranche_X3_in
set_option maxRecDepth 20000 in
theorem ggX3_tranche_X3_fails : GoodIn wsX3_tranche wsX3_fails := goodIn_r _ [10, 1, 11, 12, 13, 14, 15, 16, 17, 18, 19, 20, 21, 22, 23, 24, 25, 26, 27, 28, 29, 30, 31, 32] (by decide +kernel) (by decide +kernel)
set_option maxRecDepth 20000 in
theorem gX3_tranche_X3_fails : GoodIn wsX3_tranche (wsV RX3 76 RX3 yX3_fails wsX3_fails) := goodIn_app (goodIn_of _ (by decide +kernel)) ggX3_tranche_X3_fails
theorem dX3_tranche_0 : decode cX3_tranche 0 = .ok (.aload_n 0, 1) := by decide +kernel
theorem dX3_tranche_1 : decode cX3_tranche 1 = .ok (.iconst 0, 1) := by decide +kernel
theorem dX3_tranche_2 : decode cX3_tranche 2 = .ok (.putfield 63, 3) := by decide +kernel
theorem dX3_tranche_5 : decode cX3_tranche 5 = .ok (.iload_n 1, 1) := by decide +kernel
theorem dX3_tranche_6 : decode cX3_tranche 6 = .ok (.iconst 0, 1) := by decide +kernel
theorem dX3_tranche_7 : decode cX3_tranche 7 = .ok (.iconst 5, 1) := by decide +kernel
theorem dX3_tranche_8 : decode cX3_tranche 8 = .ok (.invokestatic 69, 3) := by decide +kernel
theorem dX3_tranche_11 : decode cX3_tranche 11 = .ok (.ifCond .eq 12, 3) := by decide +kernel
theorem dX3_tranche_14 : decode cX3_tranche 14 = .ok (.aload_n 0, 1) := by decide +kernel
theorem dX3_tranche_15 : decode cX3_tranche 15 = .ok (.getfield 45, 3) := by decide +kernel
theorem dX3_tranche_18 : decode cX3_tranche 18 = .ok (.iload_n 1, 1) := by decide +kernel
theorem dX3_tranche_19 : decode cX3_tranche 19 = .ok (.iaload, 1) := by decide +kernel
theorem dX3_tranche_20 : decode cX3_tranche 20 = .ok (.goto 8, 3) := by decide +kernel
theorem dX3_tranche_23 : decode cX3_tranche 23 = .ok (.aload_n 0, 1) := by decide +kernel
theorem dX3_tranche_24 : decode cX3_tranche 24 = .ok (.iconst 1, 1) := by decide +kernel
theorem dX3_tranche_25 : decode cX3_tranche 25 = .ok (.invokevirtual 76, 3) := by decide +kernel
theorem dX3_tranche_28 : decode cX3_tranche 28 = .ok (.ireturn, 1) := by decide +kernel
set_option maxRecDepth 20000 in
theorem ggX3_replicaRate_X3_replica : GoodIn wsX3_replicaRate wsX3_replica := goodIn_r _ [6, 7, 8, 9, 10, 11, 12, 13, 14, 15, 16, 17, 18, 19, 20, 21, 22, 23, 24, 25, 26, 27, 28, 29, 30] (by decide +kernel) (by decide +kernel)
set_option maxRecDepth 20000 in
theorem gX3_replicaRate_X3_replica : GoodIn wsX3_replicaRate (wsV RX3 110 RX3 yX3_replica wsX3_replica) := goodIn_app (goodIn_of _ (by decide +kernel)) ggX3_replicaRate_X3_replica
theorem dX3_replicaRate_0 : decode cX3_replicaRate 0 = .ok (.aload_n 0, 1) := by decide +kernel
theorem dX3_replicaRate_1 : decode cX3_replicaRate 1 = .ok (.iconst 0, 1) := by decide +kernel
theorem dX3_replicaRate_2 : decode cX3_replicaRate 2 = .ok (.putfield 63, 3) := by decide +kernel
theorem dX3_replicaRate_5 : decode cX3_replicaRate 5 = .ok (.aload_n 0, 1) := by decide +kernel
theorem dX3_replicaRate_6 : decode cX3_replicaRate 6 = .ok (.invokevirtual 110, 3) := by decide +kernel
theorem dX3_replicaRate_9 : decode cX3_replicaRate 9 = .ok (.ireturn, 1) := by decide +kernel
set_option maxRecDepth 20000 in
theorem ggX3_margin_X3_isBranch : GoodIn wsX3_margin wsX3_isBranch := goodIn_r _ [6, 7, 8, 5, 9] (by decide +kernel) (by decide +kernel)
set_option maxRecDepth 20000 in
theorem gX3_margin_X3_isBranch : GoodIn wsX3_margin (va_wsS RX3 91 yX3_isBranch wsX3_isBranch) := goodIn_app (goodIn_of _ (by decide +kernel)) ggX3_margin_X3_isBranch
set_option maxRecDepth 20000 in
theorem ggX3_margin_X3_isEnded : GoodIn wsX3_margin wsX3_isEnded := goodIn_r _ [13, 14, 7, 8, 5, 9, 19, 20, 21, 22, 23, 24, 25, 26, 27, 28, 29, 30, 31, 32, 33, 34, 35, 36, 37, 38, 39, 40] (by decide +kernel) (by decide +kernel)
set_option maxRecDepth 20000 in
theorem gX3_margin_X3_isEnded : GoodIn wsX3_margin (wsV RX3 123 RX3 yX3_isEnded wsX3_isEnded) := goodIn_app (goodIn_of _ (by decide +kernel)) ggX3_margin_X3_isEnded
set_option maxRecDepth 20000 in
theorem ggX3_margin_X3_fails : GoodIn wsX3_margin wsX3_fails := goodIn_r _ [18, 1, 19, 20, 21, 22, 23, 24, 25, 26, 27, 28, 29, 30, 31, 32, 33, 34, 35, 36, 37, 38, 39, 40] (by decide +kernel) (by decide +kernel)
set_option maxRecDepth 20000 in
theorem gX3_margin_X3_fails : GoodIn wsX3_margin (wsV RX3 76 RX3 yX3_fails wsX3_fails) := goodIn_app (goodIn_of _ (by decide +kernel)) ggX3_margin_X3_fails
theorem dX3_margin_0 : decode cX3_margin 0 = .ok (.aload_n 0, 1) := by decide +kernel
theorem dX3_margin_1 : decode cX3_margin 1 = .ok (.iconst 0, 1) := by decide +kernel
theorem dX3_margin_2 : decode cX3_margin 2 = .ok (.putfield 63, 3) := by decide +kernel
theorem dX3_margin_5 : decode cX3_margin 5 = .ok (.iload_n 1, 1) := by decide +kernel
theorem dX3_margin_6 : decode cX3_margin 6 = .ok (.invokestatic 91, 3) := by decide +kernel
theorem dX3_margin_9 : decode cX3_margin 9 = .ok (.ifCond .eq 24, 3) := by decide +kernel
theorem dX3_margin_12 : decode cX3_margin 12 = .ok (.aload_n 0, 1) := by decide +kernel
theorem dX3_margin_13 : decode cX3_margin 13 = .ok (.iload_n 2, 1) := by decide +kernel
theorem dX3_margin_14 : decode cX3_margin 14 = .ok (.invokevirtual 123, 3) := by decide +kernel
theorem dX3_margin_17 : decode cX3_margin 17 = .ok (.ifCond .eq 16, 3) := by decide +kernel
theorem dX3_margin_20 : decode cX3_margin 20 = .ok (.aload_n 0, 1) := by decide +kernel
theorem dX3_margin_21 : decode cX3_margin 21 = .ok (.getfield 51, 3) := by decide +kernel
theorem dX3_margin_24 : decode cX3_margin 24 = .ok (.iconst 3, 1) := by decide +kernel
theorem dX3_margin_25 : decode cX3_margin 25 = .ok (.iload_n 2, 1) := by decide +kernel
theorem dX3_margin_26 : decode cX3_margin 26 = .ok (.imul, 1) := by decide +kernel
theorem dX3_margin_27 : decode cX3_margin 27 = .ok (.iload_n 1, 1) := by decide +kernel
theorem dX3_margin_28 : decode cX3_margin 28 = .ok (.iadd, 1) := by decide +kernel
theorem dX3_margin_29 : decode cX3_margin 29 = .ok (.iaload, 1) := by decide +kernel
theorem dX3_margin_30 : decode cX3_margin 30 = .ok (.goto 8, 3) := by decide +kernel
theorem dX3_margin_33 : decode cX3_margin 33 = .ok (.aload_n 0, 1) := by decide +kernel
theorem dX3_margin_34 : decode cX3_margin 34 = .ok (.iconst 1, 1) := by decide +kernel
theorem dX3_margin_35 : decode cX3_margin 35 = .ok (.invokevirtual 76, 3) := by decide +kernel
theorem dX3_margin_38 : decode cX3_margin 38 = .ok (.ireturn, 1) := by decide +kernel
set_option maxRecDepth 20000 in
theorem ggX3_byProduct_X3_in : GoodIn wsX3_byProduct wsX3_in := goodIn_r _ [6] (by decide +kernel) (by decide +kernel)
set_option maxRecDepth 20000 in
theorem gX3_byProduct_X3_in : GoodIn wsX3_byProduct (va_wsS RX3 69 yX3_in wsX3_in) := goodIn_app (goodIn_of _ (by decide +kernel)) ggX3_byProduct_X3_in
set_option maxRecDepth 20000 in
theorem ggX3_byProduct_X3_isEnded : GoodIn wsX3_byProduct wsX3_isEnded := goodIn_r _ [10, 11, 3, 4, 5, 6, 16, 17, 18, 19, 20, 21, 22, 23, 24, 25, 26, 27, 28, 29, 30, 31, 32, 33, 34, 35, 36, 37] (by decide +kernel) (by decide +kernel)
set_option maxRecDepth 20000 in
theorem gX3_byProduct_X3_isEnded : GoodIn wsX3_byProduct (wsV RX3 123 RX3 yX3_isEnded wsX3_isEnded) := goodIn_app (goodIn_of _ (by decide +kernel)) ggX3_byProduct_X3_isEnded
set_option maxRecDepth 20000 in
theorem ggX3_byProduct_X3_fails : GoodIn wsX3_byProduct wsX3_fails := goodIn_r _ [15, 1, 16, 17, 18, 19, 20, 21, 22, 23, 24, 25, 26, 27, 28, 29, 30, 31, 32, 33, 34, 35, 36, 37] (by decide +kernel) (by decide +kernel)
set_option maxRecDepth 20000 in
theorem gX3_byProduct_X3_fails : GoodIn wsX3_byProduct (wsV RX3 76 RX3 yX3_fails wsX3_fails) := goodIn_app (goodIn_of _ (by decide +kernel)) ggX3_byProduct_X3_fails
theorem dX3_byProduct_0 : decode cX3_byProduct 0 = .ok (.aload_n 0, 1) := by decide +kernel
theorem dX3_byProduct_1 : decode cX3_byProduct 1 = .ok (.iconst 0, 1) := by decide +kernel
theorem dX3_byProduct_2 : decode cX3_byProduct 2 = .ok (.putfield 63, 3) := by decide +kernel
theorem dX3_byProduct_5 : decode cX3_byProduct 5 = .ok (.iload_n 1, 1) := by decide +kernel
theorem dX3_byProduct_6 : decode cX3_byProduct 6 = .ok (.iconst 0, 1) := by decide +kernel
theorem dX3_byProduct_7 : decode cX3_byProduct 7 = .ok (.iconst 2, 1) := by decide +kernel
theorem dX3_byProduct_8 : decode cX3_byProduct 8 = .ok (.invokestatic 69, 3) := by decide +kernel
theorem dX3_byProduct_11 : decode cX3_byProduct 11 = .ok (.ifCond .eq 24, 3) := by decide +kernel
theorem dX3_byProduct_14 : decode cX3_byProduct 14 = .ok (.aload_n 0, 1) := by decide +kernel
theorem dX3_byProduct_15 : decode cX3_byProduct 15 = .ok (.iload_n 2, 1) := by decide +kernel
theorem dX3_byProduct_16 : decode cX3_byProduct 16 = .ok (.invokevirtual 123, 3) := by decide +kernel
theorem dX3_byProduct_19 : decode cX3_byProduct 19 = .ok (.ifCond .eq 16, 3) := by decide +kernel
theorem dX3_byProduct_22 : decode cX3_byProduct 22 = .ok (.aload_n 0, 1) := by decide +kernel
theorem dX3_byProduct_23 : decode cX3_byProduct 23 = .ok (.getfield 54, 3) := by decide +kernel
theorem dX3_byProduct_26 : decode cX3_byProduct 26 = .ok (.iconst 3, 1) := by decide +kernel
theorem dX3_byProduct_27 : decode cX3_byProduct 27 = .ok (.iload_n 2, 1) := by decide +kernel
theorem dX3_byProduct_28 : decode cX3_byProduct 28 = .ok (.imul, 1) := by decide +kernel
theorem dX3_byProduct_29 : decode cX3_byProduct 29 = .ok (.iload_n 1, 1) := by decide +kernel
theorem dX3_byProduct_30 : decode cX3_byProduct 30 = .ok (.iadd, 1) := by decide +kernel
theorem dX3_byProduct_31 : decode cX3_byProduct 31 = .ok (.iaload, 1) := by decide +kernel
theorem dX3_byProduct_32 : decode cX3_byProduct 32 = .ok (.goto 8, 3) := by decide +kernel
theorem dX3_byProduct_35 : decode cX3_byProduct 35 = .ok (.aload_n 0, 1) := by decide +kernel
theorem dX3_byProduct_36 : decode cX3_byProduct 36 = .ok (.iconst 1, 1) := by decide +kernel
theorem dX3_byProduct_37 : decode cX3_byProduct 37 = .ok (.invokevirtual 76, 3) := by decide +kernel
theorem dX3_byProduct_40 : decode cX3_byProduct 40 = .ok (.ireturn, 1) := by decide +kernel
set_option maxRecDepth 20000 in
theorem ggX3_treasury_X3_isEnded : GoodIn wsX3_treasury wsX3_isEnded := goodIn_r _ [7, 8, 9, 10, 6, 11, 16, 17, 18, 19, 20, 21, 22, 23, 24, 25, 26, 27, 28, 29, 30, 31, 32, 33, 34, 35, 36, 37] (by decide +kernel) (by decide +kernel)
set_option maxRecDepth 20000 in
theorem gX3_treasury_X3_isEnded : GoodIn wsX3_treasury (wsV RX3 123 RX3 yX3_isEnded wsX3_isEnded) := goodIn_app (goodIn_of _ (by decide +kernel)) ggX3_treasury_X3_isEnded
set_option maxRecDepth 20000 in
theorem ggX3_treasury_X3_fails : GoodIn wsX3_treasury wsX3_fails := goodIn_r _ [15, 1, 16, 17, 18, 19, 20, 21, 22, 23, 24, 25, 26, 27, 28, 29, 30, 31, 32, 33, 34, 35, 36, 37] (by decide +kernel) (by decide +kernel)
set_option maxRecDepth 20000 in
theorem gX3_treasury_X3_fails : GoodIn wsX3_treasury (wsV RX3 76 RX3 yX3_fails wsX3_fails) := goodIn_app (goodIn_of _ (by decide +kernel)) ggX3_treasury_X3_fails
theorem dX3_treasury_0 : decode cX3_treasury 0 = .ok (.aload_n 0, 1) := by decide +kernel
theorem dX3_treasury_1 : decode cX3_treasury 1 = .ok (.iconst 0, 1) := by decide +kernel
theorem dX3_treasury_2 : decode cX3_treasury 2 = .ok (.putfield 63, 3) := by decide +kernel
theorem dX3_treasury_5 : decode cX3_treasury 5 = .ok (.aload_n 0, 1) := by decide +kernel
theorem dX3_treasury_6 : decode cX3_treasury 6 = .ok (.iload_n 1, 1) := by decide +kernel
theorem dX3_treasury_7 : decode cX3_treasury 7 = .ok (.invokevirtual 123, 3) := by decide +kernel
theorem dX3_treasury_10 : decode cX3_treasury 10 = .ok (.ifCond .eq 12, 3) := by decide +kernel
theorem dX3_treasury_13 : decode cX3_treasury 13 = .ok (.aload_n 0, 1) := by decide +kernel
theorem dX3_treasury_14 : decode cX3_treasury 14 = .ok (.getfield 57, 3) := by decide +kernel
theorem dX3_treasury_17 : decode cX3_treasury 17 = .ok (.iload_n 1, 1) := by decide +kernel
theorem dX3_treasury_18 : decode cX3_treasury 18 = .ok (.iaload, 1) := by decide +kernel
theorem dX3_treasury_19 : decode cX3_treasury 19 = .ok (.goto 8, 3) := by decide +kernel
theorem dX3_treasury_22 : decode cX3_treasury 22 = .ok (.aload_n 0, 1) := by decide +kernel
theorem dX3_treasury_23 : decode cX3_treasury 23 = .ok (.iconst 1, 1) := by decide +kernel
theorem dX3_treasury_24 : decode cX3_treasury 24 = .ok (.invokevirtual 76, 3) := by decide +kernel
theorem dX3_treasury_27 : decode cX3_treasury 27 = .ok (.ireturn, 1) := by decide +kernel
set_option maxRecDepth 20000 in
theorem ggX3_interest_X3_isEnded : GoodIn wsX3_interest wsX3_isEnded := goodIn_r _ [7, 8, 9, 10, 6, 11, 16, 17, 18, 19, 20, 21, 22, 23, 24, 25, 26, 27, 28, 29, 30, 31, 32, 33, 34, 35, 36, 37] (by decide +kernel) (by decide +kernel)
set_option maxRecDepth 20000 in
theorem gX3_interest_X3_isEnded : GoodIn wsX3_interest (wsV RX3 123 RX3 yX3_isEnded wsX3_isEnded) := goodIn_app (goodIn_of _ (by decide +kernel)) ggX3_interest_X3_isEnded
set_option maxRecDepth 20000 in
theorem ggX3_interest_X3_fails : GoodIn wsX3_interest wsX3_fails := goodIn_r _ [15, 1, 16, 17, 18, 19, 20, 21, 22, 23, 24, 25, 26, 27, 28, 29, 30, 31, 32, 33, 34, 35, 36, 37] (by decide +kernel) (by decide +kernel)
set_option maxRecDepth 20000 in
theorem gX3_interest_X3_fails : GoodIn wsX3_interest (wsV RX3 76 RX3 yX3_fails wsX3_fails) := goodIn_app (goodIn_of _ (by decide +kernel)) ggX3_interest_X3_fails
theorem dX3_interest_0 : decode cX3_interest 0 = .ok (.aload_n 0, 1) := by decide +kernel
theorem dX3_interest_1 : decode cX3_interest 1 = .ok (.iconst 0, 1) := by decide +kernel
theorem dX3_interest_2 : decode cX3_interest 2 = .ok (.putfield 63, 3) := by decide +kernel
theorem dX3_interest_5 : decode cX3_interest 5 = .ok (.aload_n 0, 1) := by decide +kernel
theorem dX3_interest_6 : decode cX3_interest 6 = .ok (.iload_n 1, 1) := by decide +kernel
theorem dX3_interest_7 : decode cX3_interest 7 = .ok (.invokevirtual 123, 3) := by decide +kernel
theorem dX3_interest_10 : decode cX3_interest 10 = .ok (.ifCond .eq 12, 3) := by decide +kernel
theorem dX3_interest_13 : decode cX3_interest 13 = .ok (.aload_n 0, 1) := by decide +kernel
theorem dX3_interest_14 : decode cX3_interest 14 = .ok (.getfield 60, 3) := by decide +kernel
theorem dX3_interest_17 : decode cX3_interest 17 = .ok (.iload_n 1, 1) := by decide +kernel
theorem dX3_interest_18 : decode cX3_interest 18 = .ok (.iaload, 1) := by decide +kernel
theorem dX3_interest_19 : decode cX3_interest 19 = .ok (.goto 8, 3) := by decide +kernel
theorem dX3_interest_22 : decode cX3_interest 22 = .ok (.aload_n 0, 1) := by decide +kernel
theorem dX3_interest_23 : decode cX3_interest 23 = .ok (.iconst 1, 1) := by decide +kernel
theorem dX3_interest_24 : decode cX3_interest 24 = .ok (.invokevirtual 76, 3) := by decide +kernel
theorem dX3_interest_27 : decode cX3_interest 27 = .ok (.ireturn, 1) := by decide +kernel
