set_option maxRecDepth 20000 in
theorem ggX2_init_X1_init : GoodIn wsX2_init wsX1_init := goodIn_r _ [24, 25, 2, 3, 4, 26, 27, 41, 42] (by decide +kernel) (by decide +kernel)
set_option maxRecDepth 20000 in
theorem gX2_init_X1_init_n40 : GoodIn wsX2_init (wsX1_init) := ggX2_init_X1_init
theorem dX2_init_0 : decode cX2_init 0 = .ok (.aload_n 0, 1) := by decide +kernel
theorem dX2_init_1 : decode cX2_init 1 = .ok (.invokespecial 1, 3) := by decide +kernel
theorem dX2_init_4 : decode cX2_init 4 = .ok (.aload_n 0, 1) := by decide +kernel
theorem dX2_init_5 : decode cX2_init 5 = .ok (.bipush 6, 2) := by decide +kernel
theorem dX2_init_7 : decode cX2_init 7 = .ok (.newarray .int, 2) := by decide +kernel
theorem dX2_init_9 : decode cX2_init 9 = .ok (.putfield 9, 3) := by decide +kernel
theorem dX2_init_12 : decode cX2_init 12 = .ok (.aload_n 0, 1) := by decide +kernel
theorem dX2_init_13 : decode cX2_init 13 = .ok (.iconst 0, 1) := by decide +kernel
theorem dX2_init_14 : decode cX2_init 14 = .ok (.putfield 13, 3) := by decide +kernel
theorem dX2_init_17 : decode cX2_init 17 = .ok (.aload_n 0, 1) := by decide +kernel
theorem dX2_init_18 : decode cX2_init 18 = .ok (.iconst 0, 1) := by decide +kernel
theorem dX2_init_19 : decode cX2_init 19 = .ok (.putfield 17, 3) := by decide +kernel
theorem dX2_init_22 : decode cX2_init 22 = .ok (.aload_n 0, 1) := by decide +kernel
theorem dX2_init_23 : decode cX2_init 23 = .ok (.bipush 50, 2) := by decide +kernel
theorem dX2_init_25 : decode cX2_init 25 = .ok (.putfield 20, 3) := by decide +kernel
theorem dX2_init_28 : decode cX2_init 28 = .ok (.aload_n 0, 1) := by decide +kernel
theorem dX2_init_29 : decode cX2_init 29 = .ok (.iconst 0, 1) := by decide +kernel
theorem dX2_init_30 : decode cX2_init 30 = .ok (.putfield 23, 3) := by decide +kernel
theorem dX2_init_33 : decode cX2_init 33 = .ok (.aload_n 0, 1) := by decide +kernel
theorem dX2_init_34 : decode cX2_init 34 = .ok (.bipush 24, 2) := by decide +kernel
theorem dX2_init_36 : decode cX2_init 36 = .ok (.anewarray 26, 3) := by decide +kernel
theorem dX2_init_39 : decode cX2_init 39 = .ok (.putfield 28, 3) := by decide +kernel
theorem dX2_init_42 : decode cX2_init 42 = .ok (.aload_n 0, 1) := by decide +kernel
theorem dX2_init_43 : decode cX2_init 43 = .ok (.iconst 0, 1) := by decide +kernel
theorem dX2_init_44 : decode cX2_init 44 = .ok (.putfield 32, 3) := by decide +kernel
theorem dX2_init_47 : decode cX2_init 47 = .ok (.aload_n 0, 1) := by decide +kernel
theorem dX2_init_48 : decode cX2_init 48 = .ok (.iconst 3, 1) := by decide +kernel
theorem dX2_init_49 : decode cX2_init 49 = .ok (.newarray .int, 2) := by decide +kernel
theorem dX2_init_51 : decode cX2_init 51 = .ok (.putfield 35, 3) := by decide +kernel
theorem dX2_init_54 : decode cX2_init 54 = .ok (.aload_n 0, 1) := by decide +kernel
theorem dX2_init_55 : decode cX2_init 55 = .ok (.new 38, 3) := by decide +kernel
theorem dX2_init_58 : decode cX2_init 58 = .ok (.dup, 1) := by decide +kernel
theorem dX2_init_59 : decode cX2_init 59 = .ok (.invokespecial 40, 3) := by decide +kernel
theorem dX2_init_62 : decode cX2_init 62 = .ok (.putfield 41, 3) := by decide +kernel
theorem dX2_init_65 : decode cX2_init 65 = .ok (.aload_n 0, 1) := by decide +kernel
theorem dX2_init_66 : decode cX2_init 66 = .ok (.iconst 3, 1) := by decide +kernel
theorem dX2_init_67 : decode cX2_init 67 = .ok (.bipush 47, 2) := by decide +kernel
theorem dX2_init_69 : decode cX2_init 69 = .ok (.multianewarray 45 2, 4) := by decide +kernel
theorem dX2_init_73 : decode cX2_init 73 = .ok (.putfield 47, 3) := by decide +kernel
theorem dX2_init_76 : decode cX2_init 76 = .ok (.aload_n 0, 1) := by decide +kernel
theorem dX2_init_77 : decode cX2_init 77 = .ok (.iconst 3, 1) := by decide +kernel
theorem dX2_init_78 : decode cX2_init 78 = .ok (.bipush 47, 2) := by decide +kernel
theorem dX2_init_80 : decode cX2_init 80 = .ok (.multianewarray 45 2, 4) := by decide +kernel
theorem dX2_init_84 : decode cX2_init 84 = .ok (.putfield 50, 3) := by decide +kernel
theorem dX2_init_87 : decode cX2_init 87 = .ok (.aload_n 0, 1) := by decide +kernel
theorem dX2_init_88 : decode cX2_init 88 = .ok (.bipush 47, 2) := by decide +kernel
theorem dX2_init_90 : decode cX2_init 90 = .ok (.newarray .int, 2) := by decide +kernel
theorem dX2_init_92 : decode cX2_init 92 = .ok (.putfield 53, 3) := by decide +kernel
theorem dX2_init_95 : decode cX2_init 95 = .ok (.aload_n 0, 1) := by decide +kernel
theorem dX2_init_96 : decode cX2_init 96 = .ok (.bipush 47, 2) := by decide +kernel
theorem dX2_init_98 : decode cX2_init 98 = .ok (.newarray .int, 2) := by decide +kernel
theorem dX2_init_100 : decode cX2_init 100 = .ok (.putfield 56, 3) := by decide +kernel
theorem dX2_init_103 : decode cX2_init 103 = .ok (.return_, 1) := by decide +kernel
theorem dX2_setCurve_0 : decode cX2_setCurve 0 = .ok (.iload_n 1, 1) := by decide +kernel
theorem dX2_setCurve_1 : decode cX2_setCurve 1 = .ok (.iconst 1, 1) := by decide +kernel
theorem dX2_setCurve_2 : decode cX2_setCurve 2 = .ok (.if_icmp .lt 9, 3) := by decide +kernel
theorem dX2_setCurve_5 : decode cX2_setCurve 5 = .ok (.iload_n 1, 1) := by decide +kernel
theorem dX2_setCurve_6 : decode cX2_setCurve 6 = .ok (.bipush 6, 2) := by decide +kernel
theorem dX2_setCurve_8 : decode cX2_setCurve 8 = .ok (.if_icmp .le 13, 3) := by decide +kernel
theorem dX2_setCurve_11 : decode cX2_setCurve 11 = .ok (.new 59, 3) := by decide +kernel
theorem dX2_setCurve_14 : decode cX2_setCurve 14 = .ok (.dup, 1) := by decide +kernel
theorem dX2_setCurve_15 : decode cX2_setCurve 15 = .ok (.ldc 61, 2) := by decide +kernel
theorem dX2_setCurve_17 : decode cX2_setCurve 17 = .ok (.invokespecial 63, 3) := by decide +kernel
theorem dX2_setCurve_20 : decode cX2_setCurve 20 = .ok (.athrow, 1) := by decide +kernel
theorem dX2_setCurve_21 : decode cX2_setCurve 21 = .ok (.iload_n 2, 1) := by decide +kernel
theorem dX2_setCurve_22 : decode cX2_setCurve 22 = .ok (.ifCond .lt 10, 3) := by decide +kernel
theorem dX2_setCurve_25 : decode cX2_setCurve 25 = .ok (.iload_n 2, 1) := by decide +kernel
theorem dX2_setCurve_26 : decode cX2_setCurve 26 = .ok (.sipush 5000, 3) := by decide +kernel
theorem dX2_setCurve_29 : decode cX2_setCurve 29 = .ok (.if_icmp .le 13, 3) := by decide +kernel
theorem dX2_setCurve_32 : decode cX2_setCurve 32 = .ok (.new 66, 3) := by decide +kernel
theorem dX2_setCurve_35 : decode cX2_setCurve 35 = .ok (.dup, 1) := by decide +kernel
theorem dX2_setCurve_36 : decode cX2_setCurve 36 = .ok (.ldc 68, 2) := by decide +kernel
theorem dX2_setCurve_38 : decode cX2_setCurve 38 = .ok (.invokespecial 70, 3) := by decide +kernel
theorem dX2_setCurve_41 : decode cX2_setCurve 41 = .ok (.athrow, 1) := by decide +kernel
theorem dX2_setCurve_42 : decode cX2_setCurve 42 = .ok (.aload_n 0, 1) := by decide +kernel
theorem dX2_setCurve_43 : decode cX2_setCurve 43 = .ok (.getfield 9, 3) := by decide +kernel
theorem dX2_setCurve_46 : decode cX2_setCurve 46 = .ok (.iload_n 1, 1) := by decide +kernel
theorem dX2_setCurve_47 : decode cX2_setCurve 47 = .ok (.iconst 1, 1) := by decide +kernel
theorem dX2_setCurve_48 : decode cX2_setCurve 48 = .ok (.isub, 1) := by decide +kernel
theorem dX2_setCurve_49 : decode cX2_setCurve 49 = .ok (.iaload, 1) := by decide +kernel
theorem dX2_setCurve_50 : decode cX2_setCurve 50 = .ok (.istore_n 3, 1) := by decide +kernel
theorem dX2_setCurve_51 : decode cX2_setCurve 51 = .ok (.aload_n 0, 1) := by decide +kernel
theorem dX2_setCurve_52 : decode cX2_setCurve 52 = .ok (.getfield 9, 3) := by decide +kernel
theorem dX2_setCurve_55 : decode cX2_setCurve 55 = .ok (.iload_n 1, 1) := by decide +kernel
theorem dX2_setCurve_56 : decode cX2_setCurve 56 = .ok (.iconst 1, 1) := by decide +kernel
theorem dX2_setCurve_57 : decode cX2_setCurve 57 = .ok (.isub, 1) := by decide +kernel
theorem dX2_setCurve_58 : decode cX2_setCurve 58 = .ok (.iload_n 2, 1) := by decide +kernel
theorem dX2_setCurve_59 : decode cX2_setCurve 59 = .ok (.iastore, 1) := by decide +kernel
theorem dX2_setCurve_60 : decode cX2_setCurve 60 = .ok (.iload_n 3, 1) := by decide +kernel
theorem dX2_setCurve_61 : decode cX2_setCurve 61 = .ok (.ireturn, 1) := by decide +kernel
theorem dX2_setRates_0 : decode cX2_setRates 0 = .ok (.iload_n 1, 1) := by decide +kernel
theorem dX2_setRates_1 : decode cX2_setRates 1 = .ok (.ifCond .lt 10, 3) := by decide +kernel
theorem dX2_setRates_4 : decode cX2_setRates 4 = .ok (.iload_n 1, 1) := by decide +kernel
theorem dX2_setRates_5 : decode cX2_setRates 5 = .ok (.sipush 5000, 3) := by decide +kernel
theorem dX2_setRates_8 : decode cX2_setRates 8 = .ok (.if_icmp .le 13, 3) := by decide +kernel
theorem dX2_setRates_11 : decode cX2_setRates 11 = .ok (.new 66, 3) := by decide +kernel
theorem dX2_setRates_14 : decode cX2_setRates 14 = .ok (.dup, 1) := by decide +kernel
theorem dX2_setRates_15 : decode cX2_setRates 15 = .ok (.ldc 71, 2) := by decide +kernel
theorem dX2_setRates_17 : decode cX2_setRates 17 = .ok (.invokespecial 70, 3) := by decide +kernel
theorem dX2_setRates_20 : decode cX2_setRates 20 = .ok (.athrow, 1) := by decide +kernel
theorem dX2_setRates_21 : decode cX2_setRates 21 = .ok (.iload_n 2, 1) := by decide +kernel
theorem dX2_setRates_22 : decode cX2_setRates 22 = .ok (.ifCond .lt 10, 3) := by decide +kernel
theorem dX2_setRates_25 : decode cX2_setRates 25 = .ok (.iload_n 2, 1) := by decide +kernel
theorem dX2_setRates_26 : decode cX2_setRates 26 = .ok (.sipush 5000, 3) := by decide +kernel
theorem dX2_setRates_29 : decode cX2_setRates 29 = .ok (.if_icmp .le 13, 3) := by decide +kernel
theorem dX2_setRates_32 : decode cX2_setRates 32 = .ok (.new 66, 3) := by decide +kernel
theorem dX2_setRates_35 : decode cX2_setRates 35 = .ok (.dup, 1) := by decide +kernel
theorem dX2_setRates_36 : decode cX2_setRates 36 = .ok (.ldc 73, 2) := by decide +kernel
theorem dX2_setRates_38 : decode cX2_setRates 38 = .ok (.invokespecial 70, 3) := by decide +kernel
theorem dX2_setRates_41 : decode cX2_setRates 41 = .ok (.athrow, 1) := by decide +kernel
theorem dX2_setRates_42 : decode cX2_setRates 42 = .ok (.iload_n 3, 1) := by decide +kernel
theorem dX2_setRates_43 : decode cX2_setRates 43 = .ok (.ifCond .lt 9, 3) := by decide +kernel
theorem dX2_setRates_46 : decode cX2_setRates 46 = .ok (.iload_n 3, 1) := by decide +kernel
theorem dX2_setRates_47 : decode cX2_setRates 47 = .ok (.bipush 100, 2) := by decide +kernel
theorem dX2_setRates_49 : decode cX2_setRates 49 = .ok (.if_icmp .le 13, 3) := by decide +kernel
theorem dX2_setRates_52 : decode cX2_setRates 52 = .ok (.new 66, 3) := by decide +kernel
theorem dX2_setRates_55 : decode cX2_setRates 55 = .ok (.dup, 1) := by decide +kernel
theorem dX2_setRates_56 : decode cX2_setRates 56 = .ok (.ldc 75, 2) := by decide +kernel
theorem dX2_setRates_58 : decode cX2_setRates 58 = .ok (.invokespecial 70, 3) := by decide +kernel
theorem dX2_setRates_61 : decode cX2_setRates 61 = .ok (.athrow, 1) := by decide +kernel
theorem dX2_setRates_62 : decode cX2_setRates 62 = .ok (.aload_n 0, 1) := by decide +kernel
theorem dX2_setRates_63 : decode cX2_setRates 63 = .ok (.iload_n 1, 1) := by decide +kernel
theorem dX2_setRates_64 : decode cX2_setRates 64 = .ok (.putfield 13, 3) := by decide +kernel
theorem dX2_setRates_67 : decode cX2_setRates 67 = .ok (.aload_n 0, 1) := by decide +kernel
theorem dX2_setRates_68 : decode cX2_setRates 68 = .ok (.iload_n 2, 1) := by decide +kernel
theorem dX2_setRates_69 : decode cX2_setRates 69 = .ok (.putfield 17, 3) := by decide +kernel
theorem dX2_setRates_72 : decode cX2_setRates 72 = .ok (.aload_n 0, 1) := by decide +kernel
theorem dX2_setRates_73 : decode cX2_setRates 73 = .ok (.iload_n 3, 1) := by decide +kernel
theorem dX2_setRates_74 : decode cX2_setRates 74 = .ok (.putfield 20, 3) := by decide +kernel
theorem dX2_setRates_77 : decode cX2_setRates 77 = .ok (.return_, 1) := by decide +kernel
set_option maxRecDepth 20000 in
theorem ggX2_lend_X2_cutIntoParts : GoodIn wsX2_lend wsX2_cutIntoParts := goodIn_r _ [24, 25] (by decide +kernel) (by decide +kernel)
set_option maxRecDepth 20000 in
theorem gX2_lend_X2_cutIntoParts : GoodIn wsX2_lend (va_wsS RX2 89 yX2_cutIntoParts wsX2_cutIntoParts) := goodIn_app (goodIn_of _ (by decide +kernel)) ggX2_lend_X2_cutIntoParts
set_option maxRecDepth 20000 in
theorem ggX2_lend_X0_init : GoodIn wsX2_lend wsX0_init := goodIn_r _ [27, 28, 29, 30, 31, 32, 33, 34, 35, 36, 37, 38, 52, 53, 54, 55, 56, 57, 58, 59] (by decide +kernel) (by decide +kernel)
set_option maxRecDepth 20000 in
theorem gX2_lend_X0_init_n98 : GoodIn wsX2_lend (wsX0_init) := ggX2_lend_X0_init
theorem dX2_lend_0 : decode cX2_lend 0 = .ok (.iload_n 1, 1) := by decide +kernel
theorem dX2_lend_1 : decode cX2_lend 1 = .ok (.ifCond .lt 17, 3) := by decide +kernel
theorem dX2_lend_4 : decode cX2_lend 4 = .ok (.iload_n 1, 1) := by decide +kernel
theorem dX2_lend_5 : decode cX2_lend 5 = .ok (.iconst 3, 1) := by decide +kernel
theorem dX2_lend_6 : decode cX2_lend 6 = .ok (.if_icmp .ge 12, 3) := by decide +kernel
theorem dX2_lend_9 : decode cX2_lend 9 = .ok (.iload_n 2, 1) := by decide +kernel
theorem dX2_lend_10 : decode cX2_lend 10 = .ok (.ifCond .lt 8, 3) := by decide +kernel
theorem dX2_lend_13 : decode cX2_lend 13 = .ok (.iload_n 2, 1) := by decide +kernel
theorem dX2_lend_14 : decode cX2_lend 14 = .ok (.iconst 3, 1) := by decide +kernel
theorem dX2_lend_15 : decode cX2_lend 15 = .ok (.if_icmp .lt 13, 3) := by decide +kernel
theorem dX2_lend_18 : decode cX2_lend 18 = .ok (.new 59, 3) := by decide +kernel
theorem dX2_lend_21 : decode cX2_lend 21 = .ok (.dup, 1) := by decide +kernel
theorem dX2_lend_22 : decode cX2_lend 22 = .ok (.ldc 77, 2) := by decide +kernel
theorem dX2_lend_24 : decode cX2_lend 24 = .ok (.invokespecial 63, 3) := by decide +kernel
theorem dX2_lend_27 : decode cX2_lend 27 = .ok (.athrow, 1) := by decide +kernel
theorem dX2_lend_28 : decode cX2_lend 28 = .ok (.iload_n 3, 1) := by decide +kernel
theorem dX2_lend_29 : decode cX2_lend 29 = .ok (.iconst 1, 1) := by decide +kernel
theorem dX2_lend_30 : decode cX2_lend 30 = .ok (.if_icmp .lt 9, 3) := by decide +kernel
theorem dX2_lend_33 : decode cX2_lend 33 = .ok (.iload_n 3, 1) := by decide +kernel
theorem dX2_lend_34 : decode cX2_lend 34 = .ok (.ldc 79, 2) := by decide +kernel
theorem dX2_lend_36 : decode cX2_lend 36 = .ok (.if_icmp .le 13, 3) := by decide +kernel
theorem dX2_lend_39 : decode cX2_lend 39 = .ok (.new 66, 3) := by decide +kernel
theorem dX2_lend_42 : decode cX2_lend 42 = .ok (.dup, 1) := by decide +kernel
theorem dX2_lend_43 : decode cX2_lend 43 = .ok (.ldc 80, 2) := by decide +kernel
theorem dX2_lend_45 : decode cX2_lend 45 = .ok (.invokespecial 70, 3) := by decide +kernel
theorem dX2_lend_48 : decode cX2_lend 48 = .ok (.athrow, 1) := by decide +kernel
theorem dX2_lend_49 : decode cX2_lend 49 = .ok (.iload 4, 2) := by decide +kernel
theorem dX2_lend_51 : decode cX2_lend 51 = .ok (.ifCond .lt 11, 3) := by decide +kernel
theorem dX2_lend_54 : decode cX2_lend 54 = .ok (.iload 4, 2) := by decide +kernel
theorem dX2_lend_56 : decode cX2_lend 56 = .ok (.sipush 5000, 3) := by decide +kernel
theorem dX2_lend_59 : decode cX2_lend 59 = .ok (.if_icmp .le 13, 3) := by decide +kernel
theorem dX2_lend_62 : decode cX2_lend 62 = .ok (.new 66, 3) := by decide +kernel
theorem dX2_lend_65 : decode cX2_lend 65 = .ok (.dup, 1) := by decide +kernel
theorem dX2_lend_66 : decode cX2_lend 66 = .ok (.ldc 68, 2) := by decide +kernel
theorem dX2_lend_68 : decode cX2_lend 68 = .ok (.invokespecial 70, 3) := by decide +kernel
theorem dX2_lend_71 : decode cX2_lend 71 = .ok (.athrow, 1) := by decide +kernel
theorem dX2_lend_72 : decode cX2_lend 72 = .ok (.iload 5, 2) := by decide +kernel
theorem dX2_lend_74 : decode cX2_lend 74 = .ok (.iconst 1, 1) := by decide +kernel
theorem dX2_lend_75 : decode cX2_lend 75 = .ok (.if_icmp .lt 10, 3) := by decide +kernel
theorem dX2_lend_78 : decode cX2_lend 78 = .ok (.iload 5, 2) := by decide +kernel
theorem dX2_lend_80 : decode cX2_lend 80 = .ok (.bipush 6, 2) := by decide +kernel
theorem dX2_lend_82 : decode cX2_lend 82 = .ok (.if_icmp .le 13, 3) := by decide +kernel
theorem dX2_lend_85 : decode cX2_lend 85 = .ok (.new 66, 3) := by decide +kernel
theorem dX2_lend_88 : decode cX2_lend 88 = .ok (.dup, 1) := by decide +kernel
theorem dX2_lend_89 : decode cX2_lend 89 = .ok (.ldc 82, 2) := by decide +kernel
theorem dX2_lend_91 : decode cX2_lend 91 = .ok (.invokespecial 70, 3) := by decide +kernel
theorem dX2_lend_94 : decode cX2_lend 94 = .ok (.athrow, 1) := by decide +kernel
theorem dX2_lend_95 : decode cX2_lend 95 = .ok (.aload_n 0, 1) := by decide +kernel
theorem dX2_lend_96 : decode cX2_lend 96 = .ok (.getfield 32, 3) := by decide +kernel
theorem dX2_lend_99 : decode cX2_lend 99 = .ok (.bipush 24, 2) := by decide +kernel
theorem dX2_lend_101 : decode cX2_lend 101 = .ok (.if_icmp .lt 13, 3) := by decide +kernel
theorem dX2_lend_104 : decode cX2_lend 104 = .ok (.new 84, 3) := by decide +kernel
theorem dX2_lend_107 : decode cX2_lend 107 = .ok (.dup, 1) := by decide +kernel
theorem dX2_lend_108 : decode cX2_lend 108 = .ok (.ldc 86, 2) := by decide +kernel
theorem dX2_lend_110 : decode cX2_lend 110 = .ok (.invokespecial 88, 3) := by decide +kernel
theorem dX2_lend_113 : decode cX2_lend 113 = .ok (.athrow, 1) := by decide +kernel
theorem dX2_lend_114 : decode cX2_lend 114 = .ok (.iload_n 3, 1) := by decide +kernel
theorem dX2_lend_115 : decode cX2_lend 115 = .ok (.iload_n 3, 1) := by decide +kernel
theorem dX2_lend_116 : decode cX2_lend 116 = .ok (.iload 5, 2) := by decide +kernel
theorem dX2_lend_118 : decode cX2_lend 118 = .ok (.idiv, 1) := by decide +kernel
theorem dX2_lend_119 : decode cX2_lend 119 = .ok (.iload 5, 2) := by decide +kernel
theorem dX2_lend_121 : decode cX2_lend 121 = .ok (.invokestatic 89, 3) := by decide +kernel
theorem dX2_lend_124 : decode cX2_lend 124 = .ok (.astore 7, 2) := by decide +kernel
theorem dX2_lend_126 : decode cX2_lend 126 = .ok (.iload 6, 2) := by decide +kernel
theorem dX2_lend_128 : decode cX2_lend 128 = .ok (.ifCond .eq 10, 3) := by decide +kernel
theorem dX2_lend_131 : decode cX2_lend 131 = .ok (.aload_n 0, 1) := by decide +kernel
theorem dX2_lend_132 : decode cX2_lend 132 = .ok (.getfield 17, 3) := by decide +kernel
theorem dX2_lend_135 : decode cX2_lend 135 = .ok (.goto 4, 3) := by decide +kernel
theorem dX2_lend_138 : decode cX2_lend 138 = .ok (.iconst 0, 1) := by decide +kernel
theorem dX2_lend_139 : decode cX2_lend 139 = .ok (.istore 8, 2) := by decide +kernel
theorem dX2_lend_141 : decode cX2_lend 141 = .ok (.aload_n 0, 1) := by decide +kernel
theorem dX2_lend_142 : decode cX2_lend 142 = .ok (.getfield 32, 3) := by decide +kernel
theorem dX2_lend_145 : decode cX2_lend 145 = .ok (.istore 9, 2) := by decide +kernel
theorem dX2_lend_147 : decode cX2_lend 147 = .ok (.aload_n 0, 1) := by decide +kernel
theorem dX2_lend_148 : decode cX2_lend 148 = .ok (.getfield 28, 3) := by decide +kernel
theorem dX2_lend_151 : decode cX2_lend 151 = .ok (.iload 9, 2) := by decide +kernel
theorem dX2_lend_153 : decode cX2_lend 153 = .ok (.new 26, 3) := by decide +kernel
theorem dX2_lend_156 : decode cX2_lend 156 = .ok (.dup, 1) := by decide +kernel
theorem dX2_lend_157 : decode cX2_lend 157 = .ok (.iload_n 1, 1) := by decide +kernel
theorem dX2_lend_158 : decode cX2_lend 158 = .ok (.iload_n 2, 1) := by decide +kernel
theorem dX2_lend_159 : decode cX2_lend 159 = .ok (.iload 4, 2) := by decide +kernel
theorem dX2_lend_161 : decode cX2_lend 161 = .ok (.iload 6, 2) := by decide +kernel
theorem dX2_lend_163 : decode cX2_lend 163 = .ok (.iload 8, 2) := by decide +kernel
theorem dX2_lend_165 : decode cX2_lend 165 = .ok (.aload 7, 2) := by decide +kernel
theorem dX2_lend_167 : decode cX2_lend 167 = .ok (.aload_n 0, 1) := by decide +kernel
theorem dX2_lend_168 : decode cX2_lend 168 = .ok (.getfield 9, 3) := by decide +kernel
theorem dX2_lend_171 : decode cX2_lend 171 = .ok (.invokevirtual 93, 3) := by decide +kernel
theorem dX2_lend_174 : decode cX2_lend 174 = .ok (.checkcast 94, 3) := by decide +kernel
theorem dX2_lend_177 : decode cX2_lend 177 = .ok (.invokespecial 98, 3) := by decide +kernel
theorem dX2_lend_180 : decode cX2_lend 180 = .ok (.aastore, 1) := by decide +kernel
theorem dX2_lend_181 : decode cX2_lend 181 = .ok (.aload_n 0, 1) := by decide +kernel
theorem dX2_lend_182 : decode cX2_lend 182 = .ok (.iload 9, 2) := by decide +kernel
theorem dX2_lend_184 : decode cX2_lend 184 = .ok (.iconst 1, 1) := by decide +kernel
theorem dX2_lend_185 : decode cX2_lend 185 = .ok (.iadd, 1) := by decide +kernel
theorem dX2_lend_186 : decode cX2_lend 186 = .ok (.putfield 32, 3) := by decide +kernel
theorem dX2_lend_189 : decode cX2_lend 189 = .ok (.iload 9, 2) := by decide +kernel
theorem dX2_lend_191 : decode cX2_lend 191 = .ok (.ireturn, 1) := by decide +kernel
set_option maxRecDepth 20000 in
theorem ggX2_repay_X2_findLoan : GoodIn wsX2_repay wsX2_findLoan := goodIn_r _ [9, 10, 28, 29, 30, 31, 32, 33, 34, 35, 36, 37, 38, 39, 40] (by decide +kernel) (by decide +kernel)
set_option maxRecDepth 20000 in
theorem gX2_repay_X2_findLoan : GoodIn wsX2_repay (wsV RX2 101 RX2 yX2_findLoan wsX2_findLoan) := goodIn_app (goodIn_of _ (by decide +kernel)) ggX2_repay_X2_findLoan
set_option maxRecDepth 20000 in
theorem ggX2_repay_X0_unpaid : GoodIn wsX2_repay wsX0_unpaid := goodIn_r _ [14, 15, 16, 20, 21, 22, 23, 24, 25, 26, 27] (by decide +kernel) (by decide +kernel)
set_option maxRecDepth 20000 in
theorem gX2_repay_X0_unpaid_n107 : GoodIn wsX2_repay (wsX0_unpaid) := ggX2_repay_X0_unpaid
set_option maxRecDepth 20000 in
theorem ggX2_repay_X0_settle : GoodIn wsX2_repay wsX0_settle := goodIn_r _ [19, 15, 20, 21, 22, 23, 24, 25, 26, 27] (by decide +kernel) (by decide +kernel)
set_option maxRecDepth 20000 in
theorem gX2_repay_X0_settle_n117 : GoodIn wsX2_repay (wsX0_settle) := ggX2_repay_X0_settle
theorem dX2_repay_0 : decode cX2_repay 0 = .ok (.aload_n 0, 1) := by decide +kernel
theorem dX2_repay_1 : decode cX2_repay 1 = .ok (.iload_n 1, 1) := by decide +kernel
theorem dX2_repay_2 : decode cX2_repay 2 = .ok (.invokevirtual 101, 3) := by decide +kernel
theorem dX2_repay_5 : decode cX2_repay 5 = .ok (.astore_n 2, 1) := by decide +kernel
theorem dX2_repay_6 : decode cX2_repay 6 = .ok (.aload_n 2, 1) := by decide +kernel
theorem dX2_repay_7 : decode cX2_repay 7 = .ok (.ifnonnull 13, 3) := by decide +kernel
theorem dX2_repay_10 : decode cX2_repay 10 = .ok (.new 59, 3) := by decide +kernel
theorem dX2_repay_13 : decode cX2_repay 13 = .ok (.dup, 1) := by decide +kernel
theorem dX2_repay_14 : decode cX2_repay 14 = .ok (.ldc 105, 2) := by decide +kernel
theorem dX2_repay_16 : decode cX2_repay 16 = .ok (.invokespecial 63, 3) := by decide +kernel
theorem dX2_repay_19 : decode cX2_repay 19 = .ok (.athrow, 1) := by decide +kernel
theorem dX2_repay_20 : decode cX2_repay 20 = .ok (.aload_n 2, 1) := by decide +kernel
theorem dX2_repay_21 : decode cX2_repay 21 = .ok (.invokevirtual 107, 3) := by decide +kernel
theorem dX2_repay_24 : decode cX2_repay 24 = .ok (.istore_n 3, 1) := by decide +kernel
theorem dX2_repay_25 : decode cX2_repay 25 = .ok (.aload_n 2, 1) := by decide +kernel
theorem dX2_repay_26 : decode cX2_repay 26 = .ok (.getfield 111, 3) := by decide +kernel
theorem dX2_repay_29 : decode cX2_repay 29 = .ok (.ifCond .eq 7, 3) := by decide +kernel
theorem dX2_repay_32 : decode cX2_repay 32 = .ok (.iload_n 3, 1) := by decide +kernel
theorem dX2_repay_33 : decode cX2_repay 33 = .ok (.ifCond .ne 13, 3) := by decide +kernel
theorem dX2_repay_36 : decode cX2_repay 36 = .ok (.new 84, 3) := by decide +kernel
theorem dX2_repay_39 : decode cX2_repay 39 = .ok (.dup, 1) := by decide +kernel
theorem dX2_repay_40 : decode cX2_repay 40 = .ok (.ldc 115, 2) := by decide +kernel
theorem dX2_repay_42 : decode cX2_repay 42 = .ok (.invokespecial 88, 3) := by decide +kernel
theorem dX2_repay_45 : decode cX2_repay 45 = .ok (.athrow, 1) := by decide +kernel
theorem dX2_repay_46 : decode cX2_repay 46 = .ok (.aload_n 2, 1) := by decide +kernel
theorem dX2_repay_47 : decode cX2_repay 47 = .ok (.invokevirtual 117, 3) := by decide +kernel
theorem dX2_repay_50 : decode cX2_repay 50 = .ok (.iload_n 3, 1) := by decide +kernel
theorem dX2_repay_51 : decode cX2_repay 51 = .ok (.ireturn, 1) := by decide +kernel
set_option maxRecDepth 20000 in
theorem ggX2_deposit_X2_trancheAmount : GoodIn wsX2_deposit wsX2_trancheAmount := goodIn_r _ [17, 9, 18, 19, 20, 16, 21, 22, 23, 34, 35, 36, 37, 38, 39, 40, 41, 42, 43, 44, 45, 46] (by decide +kernel) (by decide +kernel)
set_option maxRecDepth 20000 in
theorem gX2_deposit_X2_trancheAmount : GoodIn wsX2_deposit (wsV RX2 127 RX2 yX2_trancheAmount wsX2_trancheAmount) := goodIn_app (goodIn_of _ (by decide +kernel)) ggX2_deposit_X2_trancheAmount
set_option maxRecDepth 20000 in
theorem ggX2_deposit_X1_layAll : GoodIn wsX2_deposit wsX1_layAll := goodIn_r _ [27, 28, 29, 30, 25, 31, 32, 33, 47, 48] (by decide +kernel) (by decide +kernel)
set_option maxRecDepth 20000 in
theorem gX2_deposit_X1_layAll_n130 : GoodIn wsX2_deposit (wsX1_layAll) := ggX2_deposit_X1_layAll
theorem dX2_deposit_0 : decode cX2_deposit 0 = .ok (.iload_n 1, 1) := by decide +kernel
theorem dX2_deposit_1 : decode cX2_deposit 1 = .ok (.ifCond .lt 8, 3) := by decide +kernel
theorem dX2_deposit_4 : decode cX2_deposit 4 = .ok (.iload_n 1, 1) := by decide +kernel
theorem dX2_deposit_5 : decode cX2_deposit 5 = .ok (.iconst 3, 1) := by decide +kernel
theorem dX2_deposit_6 : decode cX2_deposit 6 = .ok (.if_icmp .lt 13, 3) := by decide +kernel
theorem dX2_deposit_9 : decode cX2_deposit 9 = .ok (.new 59, 3) := by decide +kernel
theorem dX2_deposit_12 : decode cX2_deposit 12 = .ok (.dup, 1) := by decide +kernel
theorem dX2_deposit_13 : decode cX2_deposit 13 = .ok (.ldc 120, 2) := by decide +kernel
theorem dX2_deposit_15 : decode cX2_deposit 15 = .ok (.invokespecial 63, 3) := by decide +kernel
theorem dX2_deposit_18 : decode cX2_deposit 18 = .ok (.athrow, 1) := by decide +kernel
theorem dX2_deposit_19 : decode cX2_deposit 19 = .ok (.iload_n 2, 1) := by decide +kernel
theorem dX2_deposit_20 : decode cX2_deposit 20 = .ok (.ldc 122, 2) := by decide +kernel
theorem dX2_deposit_22 : decode cX2_deposit 22 = .ok (.if_icmp .lt 9, 3) := by decide +kernel
theorem dX2_deposit_25 : decode cX2_deposit 25 = .ok (.iload_n 2, 1) := by decide +kernel
theorem dX2_deposit_26 : decode cX2_deposit 26 = .ok (.ldc 79, 2) := by decide +kernel
theorem dX2_deposit_28 : decode cX2_deposit 28 = .ok (.if_icmp .le 13, 3) := by decide +kernel
theorem dX2_deposit_31 : decode cX2_deposit 31 = .ok (.new 66, 3) := by decide +kernel
theorem dX2_deposit_34 : decode cX2_deposit 34 = .ok (.dup, 1) := by decide +kernel
theorem dX2_deposit_35 : decode cX2_deposit 35 = .ok (.ldc 123, 2) := by decide +kernel
theorem dX2_deposit_37 : decode cX2_deposit 37 = .ok (.invokespecial 70, 3) := by decide +kernel
theorem dX2_deposit_40 : decode cX2_deposit 40 = .ok (.athrow, 1) := by decide +kernel
theorem dX2_deposit_41 : decode cX2_deposit 41 = .ok (.aload_n 0, 1) := by decide +kernel
theorem dX2_deposit_42 : decode cX2_deposit 42 = .ok (.getfield 35, 3) := by decide +kernel
theorem dX2_deposit_45 : decode cX2_deposit 45 = .ok (.iload_n 1, 1) := by decide +kernel
theorem dX2_deposit_46 : decode cX2_deposit 46 = .ok (.iaload, 1) := by decide +kernel
theorem dX2_deposit_47 : decode cX2_deposit 47 = .ok (.iload_n 2, 1) := by decide +kernel
theorem dX2_deposit_48 : decode cX2_deposit 48 = .ok (.iadd, 1) := by decide +kernel
theorem dX2_deposit_49 : decode cX2_deposit 49 = .ok (.istore_n 3, 1) := by decide +kernel
theorem dX2_deposit_50 : decode cX2_deposit 50 = .ok (.iload_n 3, 1) := by decide +kernel
theorem dX2_deposit_51 : decode cX2_deposit 51 = .ok (.ifCond .lt 9, 3) := by decide +kernel
theorem dX2_deposit_54 : decode cX2_deposit 54 = .ok (.iload_n 3, 1) := by decide +kernel
theorem dX2_deposit_55 : decode cX2_deposit 55 = .ok (.ldc 79, 2) := by decide +kernel
theorem dX2_deposit_57 : decode cX2_deposit 57 = .ok (.if_icmp .le 13, 3) := by decide +kernel
theorem dX2_deposit_60 : decode cX2_deposit 60 = .ok (.new 84, 3) := by decide +kernel
theorem dX2_deposit_63 : decode cX2_deposit 63 = .ok (.dup, 1) := by decide +kernel
theorem dX2_deposit_64 : decode cX2_deposit 64 = .ok (.ldc 125, 2) := by decide +kernel
theorem dX2_deposit_66 : decode cX2_deposit 66 = .ok (.invokespecial 88, 3) := by decide +kernel
theorem dX2_deposit_69 : decode cX2_deposit 69 = .ok (.athrow, 1) := by decide +kernel
theorem dX2_deposit_70 : decode cX2_deposit 70 = .ok (.aload_n 0, 1) := by decide +kernel
theorem dX2_deposit_71 : decode cX2_deposit 71 = .ok (.getfield 35, 3) := by decide +kernel
theorem dX2_deposit_74 : decode cX2_deposit 74 = .ok (.iload_n 1, 1) := by decide +kernel
theorem dX2_deposit_75 : decode cX2_deposit 75 = .ok (.iload_n 3, 1) := by decide +kernel
theorem dX2_deposit_76 : decode cX2_deposit 76 = .ok (.iastore, 1) := by decide +kernel
theorem dX2_deposit_77 : decode cX2_deposit 77 = .ok (.aload_n 0, 1) := by decide +kernel
theorem dX2_deposit_78 : decode cX2_deposit 78 = .ok (.getfield 23, 3) := by decide +kernel
theorem dX2_deposit_81 : decode cX2_deposit 81 = .ok (.ifCond .ne 24, 3) := by decide +kernel
theorem dX2_deposit_84 : decode cX2_deposit 84 = .ok (.iload_n 2, 1) := by decide +kernel
theorem dX2_deposit_85 : decode cX2_deposit 85 = .ok (.ifCond .eq 20, 3) := by decide +kernel
theorem dX2_deposit_88 : decode cX2_deposit 88 = .ok (.aload_n 0, 1) := by decide +kernel
theorem dX2_deposit_89 : decode cX2_deposit 89 = .ok (.getfield 41, 3) := by decide +kernel
theorem dX2_deposit_92 : decode cX2_deposit 92 = .ok (.aload_n 0, 1) := by decide +kernel
theorem dX2_deposit_93 : decode cX2_deposit 93 = .ok (.invokevirtual 127, 3) := by decide +kernel
theorem dX2_deposit_96 : decode cX2_deposit 96 = .ok (.aload_n 0, 1) := by decide +kernel
theorem dX2_deposit_97 : decode cX2_deposit 97 = .ok (.getfield 9, 3) := by decide +kernel
theorem dX2_deposit_100 : decode cX2_deposit 100 = .ok (.iconst 5, 1) := by decide +kernel
theorem dX2_deposit_101 : decode cX2_deposit 101 = .ok (.iaload, 1) := by decide +kernel
theorem dX2_deposit_102 : decode cX2_deposit 102 = .ok (.invokevirtual 130, 3) := by decide +kernel
theorem dX2_deposit_105 : decode cX2_deposit 105 = .ok (.iload_n 3, 1) := by decide +kernel
theorem dX2_deposit_106 : decode cX2_deposit 106 = .ok (.ireturn, 1) := by decide +kernel
set_option maxRecDepth 20000 in
theorem ggX2_closeMonth_X2_reckonLoans : GoodIn wsX2_closeMonth wsX2_reckonLoans := goodIn_r _ [10, 11, 3, 12, 13, 14, 15, 16, 17, 18, 9, 19, 20, 21, 22, 23, 24, 25, 26, 27, 28, 29, 30, 31, 32, 33, 34, 35, 36, 37, 38, 39, 40, 41, 42, 43, 44, 45, 46, 47, 48, 49, 50, 51, 89, 90, 91, 92, 93, 94, 95, 96, 97, 98, 99, 100, 101, 102, 103, 104, 105, 106, 107, 108, 109] (by decide +kernel) (by decide +kernel)
set_option maxRecDepth 20000 in
theorem gX2_closeMonth_X2_reckonLoans : GoodIn wsX2_closeMonth (wsV RX2 136 RX2 yX2_reckonLoans wsX2_reckonLoans) := goodIn_app (goodIn_of _ (by decide +kernel)) ggX2_closeMonth_X2_reckonLoans
set_option maxRecDepth 20000 in
theorem ggX2_closeMonth_X2_reckonDeposits : GoodIn wsX2_closeMonth wsX2_reckonDeposits := goodIn_r _ [55, 4, 56, 57, 11, 3, 14, 15, 58, 59, 60, 61, 62, 63, 64, 65, 66, 9, 67, 5, 68, 69, 70, 71, 72, 73, 74, 35, 36, 37, 89, 90, 91, 92, 93, 94, 95, 96, 97, 98, 99, 100, 101, 110, 111] (by decide +kernel) (by decide +kernel)
set_option maxRecDepth 20000 in
theorem gX2_closeMonth_X2_reckonDeposits : GoodIn wsX2_closeMonth (wsV RX2 139 RX2 yX2_reckonDeposits wsX2_reckonDeposits) := goodIn_app (goodIn_of _ (by decide +kernel)) ggX2_closeMonth_X2_reckonDeposits
set_option maxRecDepth 20000 in
theorem ggX2_closeMonth_X2_payParts : GoodIn wsX2_closeMonth wsX2_payParts := goodIn_r _ [78, 13, 79, 21, 80, 81, 33, 89, 90, 91, 92, 93, 94, 95, 96, 97, 98, 99, 100, 101, 102, 103, 104, 105, 106, 107, 108, 109] (by decide +kernel) (by decide +kernel)
set_option maxRecDepth 20000 in
theorem gX2_closeMonth_X2_payParts : GoodIn wsX2_closeMonth (wsV RX2 142 RX2 yX2_payParts wsX2_payParts) := goodIn_app (goodIn_of _ (by decide +kernel)) ggX2_closeMonth_X2_payParts
set_option maxRecDepth 20000 in
theorem ggX2_closeMonth_X2_trancheAmount : GoodIn wsX2_closeMonth wsX2_trancheAmount := goodIn_r _ [85, 56, 68, 69, 70, 9, 71, 72, 73, 89, 90, 91, 92, 93, 94, 95, 96, 97, 98, 99, 100, 101] (by decide +kernel) (by decide +kernel)
set_option maxRecDepth 20000 in
theorem gX2_closeMonth_X2_trancheAmount : GoodIn wsX2_closeMonth (wsV RX2 127 RX2 yX2_trancheAmount wsX2_trancheAmount) := goodIn_app (goodIn_of _ (by decide +kernel)) ggX2_closeMonth_X2_trancheAmount
set_option maxRecDepth 20000 in
theorem ggX2_closeMonth_X1_lay : GoodIn wsX2_closeMonth wsX1_lay := goodIn_r _ [88, 62, 63, 110, 111] (by decide +kernel) (by decide +kernel)
set_option maxRecDepth 20000 in
theorem gX2_closeMonth_X1_lay_n145 : GoodIn wsX2_closeMonth (wsX1_lay) := ggX2_closeMonth_X1_lay
theorem dX2_closeMonth_0 : decode cX2_closeMonth 0 = .ok (.aload_n 0, 1) := by decide +kernel
theorem dX2_closeMonth_1 : decode cX2_closeMonth 1 = .ok (.getfield 23, 3) := by decide +kernel
theorem dX2_closeMonth_4 : decode cX2_closeMonth 4 = .ok (.bipush 47, 2) := by decide +kernel
theorem dX2_closeMonth_6 : decode cX2_closeMonth 6 = .ok (.if_icmp .lt 13, 3) := by decide +kernel
theorem dX2_closeMonth_9 : decode cX2_closeMonth 9 = .ok (.new 84, 3) := by decide +kernel
theorem dX2_closeMonth_12 : decode cX2_closeMonth 12 = .ok (.dup, 1) := by decide +kernel
theorem dX2_closeMonth_13 : decode cX2_closeMonth 13 = .ok (.ldc 134, 2) := by decide +kernel
theorem dX2_closeMonth_15 : decode cX2_closeMonth 15 = .ok (.invokespecial 88, 3) := by decide +kernel
theorem dX2_closeMonth_18 : decode cX2_closeMonth 18 = .ok (.athrow, 1) := by decide +kernel
theorem dX2_closeMonth_19 : decode cX2_closeMonth 19 = .ok (.aload_n 0, 1) := by decide +kernel
theorem dX2_closeMonth_20 : decode cX2_closeMonth 20 = .ok (.invokevirtual 136, 3) := by decide +kernel
theorem dX2_closeMonth_23 : decode cX2_closeMonth 23 = .ok (.aload_n 0, 1) := by decide +kernel
theorem dX2_closeMonth_24 : decode cX2_closeMonth 24 = .ok (.invokevirtual 139, 3) := by decide +kernel
theorem dX2_closeMonth_27 : decode cX2_closeMonth 27 = .ok (.aload_n 0, 1) := by decide +kernel
theorem dX2_closeMonth_28 : decode cX2_closeMonth 28 = .ok (.invokevirtual 142, 3) := by decide +kernel
theorem dX2_closeMonth_31 : decode cX2_closeMonth 31 = .ok (.aload_n 0, 1) := by decide +kernel
theorem dX2_closeMonth_32 : decode cX2_closeMonth 32 = .ok (.aload_n 0, 1) := by decide +kernel
theorem dX2_closeMonth_33 : decode cX2_closeMonth 33 = .ok (.getfield 23, 3) := by decide +kernel
theorem dX2_closeMonth_36 : decode cX2_closeMonth 36 = .ok (.iconst 1, 1) := by decide +kernel
theorem dX2_closeMonth_37 : decode cX2_closeMonth 37 = .ok (.iadd, 1) := by decide +kernel
theorem dX2_closeMonth_38 : decode cX2_closeMonth 38 = .ok (.putfield 23, 3) := by decide +kernel
theorem dX2_closeMonth_41 : decode cX2_closeMonth 41 = .ok (.aload_n 0, 1) := by decide +kernel
theorem dX2_closeMonth_42 : decode cX2_closeMonth 42 = .ok (.getfield 41, 3) := by decide +kernel
theorem dX2_closeMonth_45 : decode cX2_closeMonth 45 = .ok (.aload_n 0, 1) := by decide +kernel
theorem dX2_closeMonth_46 : decode cX2_closeMonth 46 = .ok (.getfield 23, 3) := by decide +kernel
theorem dX2_closeMonth_49 : decode cX2_closeMonth 49 = .ok (.bipush 6, 2) := by decide +kernel
theorem dX2_closeMonth_51 : decode cX2_closeMonth 51 = .ok (.irem, 1) := by decide +kernel
theorem dX2_closeMonth_52 : decode cX2_closeMonth 52 = .ok (.aload_n 0, 1) := by decide +kernel
theorem dX2_closeMonth_53 : decode cX2_closeMonth 53 = .ok (.invokevirtual 127, 3) := by decide +kernel
theorem dX2_closeMonth_56 : decode cX2_closeMonth 56 = .ok (.aload_n 0, 1) := by decide +kernel
theorem dX2_closeMonth_57 : decode cX2_closeMonth 57 = .ok (.getfield 9, 3) := by decide +kernel
theorem dX2_closeMonth_60 : decode cX2_closeMonth 60 = .ok (.iconst 5, 1) := by decide +kernel
theorem dX2_closeMonth_61 : decode cX2_closeMonth 61 = .ok (.iaload, 1) := by decide +kernel
theorem dX2_closeMonth_62 : decode cX2_closeMonth 62 = .ok (.invokevirtual 145, 3) := by decide +kernel
theorem dX2_closeMonth_65 : decode cX2_closeMonth 65 = .ok (.aload_n 0, 1) := by decide +kernel
theorem dX2_closeMonth_66 : decode cX2_closeMonth 66 = .ok (.getfield 23, 3) := by decide +kernel
theorem dX2_closeMonth_69 : decode cX2_closeMonth 69 = .ok (.ireturn, 1) := by decide +kernel
theorem dX2_month_0 : decode cX2_month 0 = .ok (.aload_n 0, 1) := by decide +kernel
theorem dX2_month_1 : decode cX2_month 1 = .ok (.getfield 23, 3) := by decide +kernel
theorem dX2_month_4 : decode cX2_month 4 = .ok (.ireturn, 1) := by decide +kernel
theorem dX2_loans_0 : decode cX2_loans 0 = .ok (.aload_n 0, 1) := by decide +kernel
theorem dX2_loans_1 : decode cX2_loans 1 = .ok (.getfield 32, 3) := by decide +kernel
theorem dX2_loans_4 : decode cX2_loans 4 = .ok (.ireturn, 1) := by decide +kernel
set_option maxRecDepth 20000 in
theorem ggX2_left_X2_findLoan : GoodIn wsX2_left wsX2_findLoan := goodIn_r _ [7, 8, 15, 16, 17, 18, 19, 20, 21, 22, 23, 24, 25, 26, 27] (by decide +kernel) (by decide +kernel)
set_option maxRecDepth 20000 in
theorem gX2_left_X2_findLoan : GoodIn wsX2_left (wsV RX2 101 RX2 yX2_findLoan wsX2_findLoan) := goodIn_app (goodIn_of _ (by decide +kernel)) ggX2_left_X2_findLoan
set_option maxRecDepth 20000 in
theorem ggX2_left_X0_unpaid : GoodIn wsX2_left wsX0_unpaid := goodIn_r _ [12, 13, 14, 28, 29, 30, 31, 32, 33, 34, 35] (by decide +kernel) (by decide +kernel)
set_option maxRecDepth 20000 in
theorem gX2_left_X0_unpaid_n107 : GoodIn wsX2_left (wsX0_unpaid) := ggX2_left_X0_unpaid
theorem dX2_left_0 : decode cX2_left 0 = .ok (.aload_n 0, 1) := by decide +kernel
theorem dX2_left_1 : decode cX2_left 1 = .ok (.iload_n 1, 1) := by decide +kernel
theorem dX2_left_2 : decode cX2_left 2 = .ok (.invokevirtual 101, 3) := by decide +kernel
theorem dX2_left_5 : decode cX2_left 5 = .ok (.astore_n 2, 1) := by decide +kernel
theorem dX2_left_6 : decode cX2_left 6 = .ok (.aload_n 2, 1) := by decide +kernel
theorem dX2_left_7 : decode cX2_left 7 = .ok (.ifnonnull 13, 3) := by decide +kernel
theorem dX2_left_10 : decode cX2_left 10 = .ok (.new 59, 3) := by decide +kernel
theorem dX2_left_13 : decode cX2_left 13 = .ok (.dup, 1) := by decide +kernel
theorem dX2_left_14 : decode cX2_left 14 = .ok (.ldc 105, 2) := by decide +kernel
theorem dX2_left_16 : decode cX2_left 16 = .ok (.invokespecial 63, 3) := by decide +kernel
theorem dX2_left_19 : decode cX2_left 19 = .ok (.athrow, 1) := by decide +kernel
theorem dX2_left_20 : decode cX2_left 20 = .ok (.aload_n 2, 1) := by decide +kernel
theorem dX2_left_21 : decode cX2_left 21 = .ok (.invokevirtual 107, 3) := by decide +kernel
theorem dX2_left_24 : decode cX2_left 24 = .ok (.ireturn, 1) := by decide +kernel
set_option maxRecDepth 20000 in
theorem ggX2_bears_X2_findLoan : GoodIn wsX2_bears wsX2_findLoan := goodIn_r _ [9, 10, 39, 40, 41, 42, 43, 44, 45, 46, 47, 48, 49, 50, 51] (by decide +kernel) (by decide +kernel)
set_option maxRecDepth 20000 in
theorem gX2_bears_X2_findLoan : GoodIn wsX2_bears (wsV RX2 101 RX2 yX2_findLoan wsX2_findLoan) := goodIn_app (goodIn_of _ (by decide +kernel)) ggX2_bears_X2_findLoan
set_option maxRecDepth 20000 in
theorem ggX2_bears_X0_customerInterest : GoodIn wsX2_bears wsX0_customerInterest := goodIn_r _ [14, 15, 16, 17, 18, 12, 19, 20, 21, 22, 8, 23, 24, 52, 53, 54, 55, 56, 57, 58, 59] (by decide +kernel) (by decide +kernel)
set_option maxRecDepth 20000 in
theorem gX2_bears_X0_customerInterest_n149 : GoodIn wsX2_bears (wsX0_customerInterest) := ggX2_bears_X0_customerInterest
set_option maxRecDepth 20000 in
theorem ggX2_bears_X0_funding : GoodIn wsX2_bears wsX0_funding := goodIn_r _ [27, 20, 21, 28, 22, 8, 23, 24, 52, 53, 54, 55, 56, 57, 58, 59] (by decide +kernel) (by decide +kernel)
set_option maxRecDepth 20000 in
theorem gX2_bears_X0_funding_n152 : GoodIn wsX2_bears (wsX0_funding) := ggX2_bears_X0_funding
set_option maxRecDepth 20000 in
theorem ggX2_bears_X0_optionCharge : GoodIn wsX2_bears wsX0_optionCharge := goodIn_r _ [31, 32, 16, 17, 18, 12, 19, 20, 21, 22, 8, 23, 24, 52, 53, 54, 55, 56, 57, 58, 59] (by decide +kernel) (by decide +kernel)
set_option maxRecDepth 20000 in
theorem gX2_bears_X0_optionCharge_n155 : GoodIn wsX2_bears (wsX0_optionCharge) := ggX2_bears_X0_optionCharge
set_option maxRecDepth 20000 in
theorem ggX2_bears_X0_ownMargin : GoodIn wsX2_bears wsX0_ownMargin := goodIn_r _ [35, 36, 11, 13, 12, 14, 15, 16, 17, 18, 19, 20, 21, 22, 8, 23, 24, 37, 25, 26, 27, 28, 38, 29, 30, 31, 32, 52, 53, 54, 55, 56, 57, 58, 59] (by decide +kernel) (by decide +kernel)
set_option maxRecDepth 20000 in
theorem gX2_bears_X0_ownMargin_n158 : GoodIn wsX2_bears (wsX0_ownMargin) := ggX2_bears_X0_ownMargin
theorem dX2_bears_0 : decode cX2_bears 0 = .ok (.aload_n 0, 1) := by decide +kernel
theorem dX2_bears_1 : decode cX2_bears 1 = .ok (.iload_n 1, 1) := by decide +kernel
theorem dX2_bears_2 : decode cX2_bears 2 = .ok (.invokevirtual 101, 3) := by decide +kernel
theorem dX2_bears_5 : decode cX2_bears 5 = .ok (.astore_n 3, 1) := by decide +kernel
theorem dX2_bears_6 : decode cX2_bears 6 = .ok (.aload_n 3, 1) := by decide +kernel
theorem dX2_bears_7 : decode cX2_bears 7 = .ok (.ifnonnull 13, 3) := by decide +kernel
theorem dX2_bears_10 : decode cX2_bears 10 = .ok (.new 59, 3) := by decide +kernel
theorem dX2_bears_13 : decode cX2_bears 13 = .ok (.dup, 1) := by decide +kernel
theorem dX2_bears_14 : decode cX2_bears 14 = .ok (.ldc 105, 2) := by decide +kernel
theorem dX2_bears_16 : decode cX2_bears 16 = .ok (.invokespecial 63, 3) := by decide +kernel
theorem dX2_bears_19 : decode cX2_bears 19 = .ok (.athrow, 1) := by decide +kernel
theorem dX2_bears_20 : decode cX2_bears 20 = .ok (.iload_n 2, 1) := by decide +kernel
theorem dX2_bears_21 : decode cX2_bears 21 = .ok (.tableswitch 51 0 3 #[31, 36, 41, 46], 31) := by decide +kernel
theorem dX2_bears_52 : decode cX2_bears 52 = .ok (.aload_n 3, 1) := by decide +kernel
theorem dX2_bears_53 : decode cX2_bears 53 = .ok (.invokevirtual 149, 3) := by decide +kernel
theorem dX2_bears_56 : decode cX2_bears 56 = .ok (.ireturn, 1) := by decide +kernel
theorem dX2_bears_57 : decode cX2_bears 57 = .ok (.aload_n 3, 1) := by decide +kernel
theorem dX2_bears_58 : decode cX2_bears 58 = .ok (.invokevirtual 152, 3) := by decide +kernel
theorem dX2_bears_61 : decode cX2_bears 61 = .ok (.ireturn, 1) := by decide +kernel
theorem dX2_bears_62 : decode cX2_bears 62 = .ok (.aload_n 3, 1) := by decide +kernel
theorem dX2_bears_63 : decode cX2_bears 63 = .ok (.invokevirtual 155, 3) := by decide +kernel
theorem dX2_bears_66 : decode cX2_bears 66 = .ok (.ireturn, 1) := by decide +kernel
theorem dX2_bears_67 : decode cX2_bears 67 = .ok (.aload_n 3, 1) := by decide +kernel
theorem dX2_bears_68 : decode cX2_bears 68 = .ok (.invokevirtual 158, 3) := by decide +kernel
theorem dX2_bears_71 : decode cX2_bears 71 = .ok (.ireturn, 1) := by decide +kernel
theorem dX2_bears_72 : decode cX2_bears 72 = .ok (.new 66, 3) := by decide +kernel
theorem dX2_bears_75 : decode cX2_bears 75 = .ok (.dup, 1) := by decide +kernel
theorem dX2_bears_76 : decode cX2_bears 76 = .ok (.ldc 161, 2) := by decide +kernel
theorem dX2_bears_78 : decode cX2_bears 78 = .ok (.invokespecial 70, 3) := by decide +kernel
theorem dX2_bears_81 : decode cX2_bears 81 = .ok (.athrow, 1) := by decide +kernel
set_option maxRecDepth 20000 in
theorem ggX2_due_X0_partAhead : GoodIn wsX2_due wsX0_partAhead := goodIn_r _ [7, 8, 9, 23, 24, 25, 26, 27, 28, 29, 30] (by decide +kernel) (by decide +kernel)
set_option maxRecDepth 20000 in
theorem gX2_due_X0_partAhead_n165 : GoodIn wsX2_due (wsX0_partAhead) := ggX2_due_X0_partAhead
theorem dX2_due_0 : decode cX2_due 0 = .ok (.iload_n 1, 1) := by decide +kernel
theorem dX2_due_1 : decode cX2_due 1 = .ok (.ifCond .lt 9, 3) := by decide +kernel
theorem dX2_due_4 : decode cX2_due 4 = .ok (.iload_n 1, 1) := by decide +kernel
theorem dX2_due_5 : decode cX2_due 5 = .ok (.bipush 6, 2) := by decide +kernel
theorem dX2_due_7 : decode cX2_due 7 = .ok (.if_icmp .lt 13, 3) := by decide +kernel
theorem dX2_due_10 : decode cX2_due 10 = .ok (.new 66, 3) := by decide +kernel
theorem dX2_due_13 : decode cX2_due 13 = .ok (.dup, 1) := by decide +kernel
theorem dX2_due_14 : decode cX2_due 14 = .ok (.ldc 163, 2) := by decide +kernel
theorem dX2_due_16 : decode cX2_due 16 = .ok (.invokespecial 70, 3) := by decide +kernel
theorem dX2_due_19 : decode cX2_due 19 = .ok (.athrow, 1) := by decide +kernel
theorem dX2_due_20 : decode cX2_due 20 = .ok (.iconst 0, 1) := by decide +kernel
theorem dX2_due_21 : decode cX2_due 21 = .ok (.istore_n 2, 1) := by decide +kernel
theorem dX2_due_22 : decode cX2_due 22 = .ok (.aload_n 0, 1) := by decide +kernel
theorem dX2_due_23 : decode cX2_due 23 = .ok (.getfield 28, 3) := by decide +kernel
theorem dX2_due_26 : decode cX2_due 26 = .ok (.astore_n 3, 1) := by decide +kernel
theorem dX2_due_27 : decode cX2_due 27 = .ok (.aload_n 3, 1) := by decide +kernel
theorem dX2_due_28 : decode cX2_due 28 = .ok (.arraylength, 1) := by decide +kernel
theorem dX2_due_29 : decode cX2_due 29 = .ok (.istore 4, 2) := by decide +kernel
theorem dX2_due_31 : decode cX2_due 31 = .ok (.iconst 0, 1) := by decide +kernel
theorem dX2_due_32 : decode cX2_due 32 = .ok (.istore 5, 2) := by decide +kernel
theorem dX2_due_34 : decode cX2_due 34 = .ok (.iload 5, 2) := by decide +kernel
theorem dX2_due_36 : decode cX2_due 36 = .ok (.iload 4, 2) := by decide +kernel
theorem dX2_due_38 : decode cX2_due 38 = .ok (.if_icmp .ge 29, 3) := by decide +kernel
theorem dX2_due_41 : decode cX2_due 41 = .ok (.aload_n 3, 1) := by decide +kernel
theorem dX2_due_42 : decode cX2_due 42 = .ok (.iload 5, 2) := by decide +kernel
theorem dX2_due_44 : decode cX2_due 44 = .ok (.aaload, 1) := by decide +kernel
theorem dX2_due_45 : decode cX2_due 45 = .ok (.astore 6, 2) := by decide +kernel
theorem dX2_due_47 : decode cX2_due 47 = .ok (.aload 6, 2) := by decide +kernel
theorem dX2_due_49 : decode cX2_due 49 = .ok (.ifnull 12, 3) := by decide +kernel
theorem dX2_due_52 : decode cX2_due 52 = .ok (.iload_n 2, 1) := by decide +kernel
theorem dX2_due_53 : decode cX2_due 53 = .ok (.aload 6, 2) := by decide +kernel
theorem dX2_due_55 : decode cX2_due 55 = .ok (.iload_n 1, 1) := by decide +kernel
theorem dX2_due_56 : decode cX2_due 56 = .ok (.invokevirtual 165, 3) := by decide +kernel
theorem dX2_due_59 : decode cX2_due 59 = .ok (.iadd, 1) := by decide +kernel
theorem dX2_due_60 : decode cX2_due 60 = .ok (.istore_n 2, 1) := by decide +kernel
theorem dX2_due_61 : decode cX2_due 61 = .ok (.iinc 5 1, 3) := by decide +kernel
theorem dX2_due_64 : decode cX2_due 64 = .ok (.goto (-30), 3) := by decide +kernel
theorem dX2_due_67 : decode cX2_due 67 = .ok (.iload_n 2, 1) := by decide +kernel
theorem dX2_due_68 : decode cX2_due 68 = .ok (.ireturn, 1) := by decide +kernel
theorem dX2_balance_0 : decode cX2_balance 0 = .ok (.iload_n 1, 1) := by decide +kernel
theorem dX2_balance_1 : decode cX2_balance 1 = .ok (.ifCond .lt 8, 3) := by decide +kernel
theorem dX2_balance_4 : decode cX2_balance 4 = .ok (.iload_n 1, 1) := by decide +kernel
theorem dX2_balance_5 : decode cX2_balance 5 = .ok (.iconst 3, 1) := by decide +kernel
theorem dX2_balance_6 : decode cX2_balance 6 = .ok (.if_icmp .lt 13, 3) := by decide +kernel
theorem dX2_balance_9 : decode cX2_balance 9 = .ok (.new 59, 3) := by decide +kernel
theorem dX2_balance_12 : decode cX2_balance 12 = .ok (.dup, 1) := by decide +kernel
theorem dX2_balance_13 : decode cX2_balance 13 = .ok (.ldc 120, 2) := by decide +kernel
theorem dX2_balance_15 : decode cX2_balance 15 = .ok (.invokespecial 63, 3) := by decide +kernel
theorem dX2_balance_18 : decode cX2_balance 18 = .ok (.athrow, 1) := by decide +kernel
theorem dX2_balance_19 : decode cX2_balance 19 = .ok (.aload_n 0, 1) := by decide +kernel
theorem dX2_balance_20 : decode cX2_balance 20 = .ok (.getfield 35, 3) := by decide +kernel
theorem dX2_balance_23 : decode cX2_balance 23 = .ok (.iload_n 1, 1) := by decide +kernel
theorem dX2_balance_24 : decode cX2_balance 24 = .ok (.iaload, 1) := by decide +kernel
theorem dX2_balance_25 : decode cX2_balance 25 = .ok (.ireturn, 1) := by decide +kernel
theorem dX2_tranche_0 : decode cX2_tranche 0 = .ok (.iload_n 1, 1) := by decide +kernel
theorem dX2_tranche_1 : decode cX2_tranche 1 = .ok (.ifCond .lt 9, 3) := by decide +kernel
theorem dX2_tranche_4 : decode cX2_tranche 4 = .ok (.iload_n 1, 1) := by decide +kernel
theorem dX2_tranche_5 : decode cX2_tranche 5 = .ok (.bipush 6, 2) := by decide +kernel
theorem dX2_tranche_7 : decode cX2_tranche 7 = .ok (.if_icmp .lt 13, 3) := by decide +kernel
theorem dX2_tranche_10 : decode cX2_tranche 10 = .ok (.new 59, 3) := by decide +kernel
theorem dX2_tranche_13 : decode cX2_tranche 13 = .ok (.dup, 1) := by decide +kernel
theorem dX2_tranche_14 : decode cX2_tranche 14 = .ok (.ldc 169, 2) := by decide +kernel
theorem dX2_tranche_16 : decode cX2_tranche 16 = .ok (.invokespecial 63, 3) := by decide +kernel
theorem dX2_tranche_19 : decode cX2_tranche 19 = .ok (.athrow, 1) := by decide +kernel
theorem dX2_tranche_20 : decode cX2_tranche 20 = .ok (.aload_n 0, 1) := by decide +kernel
theorem dX2_tranche_21 : decode cX2_tranche 21 = .ok (.getfield 41, 3) := by decide +kernel
theorem dX2_tranche_24 : decode cX2_tranche 24 = .ok (.getfield 171, 3) := by decide +kernel
theorem dX2_tranche_27 : decode cX2_tranche 27 = .ok (.iload_n 1, 1) := by decide +kernel
theorem dX2_tranche_28 : decode cX2_tranche 28 = .ok (.iaload, 1) := by decide +kernel
theorem dX2_tranche_29 : decode cX2_tranche 29 = .ok (.ireturn, 1) := by decide +kernel
set_option maxRecDepth 20000 in
theorem ggX2_replicaRate_X1_averageRate : GoodIn wsX2_replicaRate wsX1_averageRate := goodIn_r _ [5, 6, 7, 21, 22] (by decide +kernel) (by decide +kernel)
set_option maxRecDepth 20000 in
theorem gX2_replicaRate_X1_averageRate_n174 : GoodIn wsX2_replicaRate (wsX1_averageRate) := ggX2_replicaRate_X1_averageRate
theorem dX2_replicaRate_0 : decode cX2_replicaRate 0 = .ok (.aload_n 0, 1) := by decide +kernel
theorem dX2_replicaRate_1 : decode cX2_replicaRate 1 = .ok (.getfield 41, 3) := by decide +kernel
theorem dX2_replicaRate_4 : decode cX2_replicaRate 4 = .ok (.invokevirtual 174, 3) := by decide +kernel
theorem dX2_replicaRate_7 : decode cX2_replicaRate 7 = .ok (.ireturn, 1) := by decide +kernel
set_option maxRecDepth 20000 in
theorem ggX2_margin_X2_hasEnded : GoodIn wsX2_margin wsX2_hasEnded := goodIn_r _ [8, 9, 10, 11, 12, 13, 14, 15, 16, 17, 18, 19, 20, 21, 22] (by decide +kernel) (by decide +kernel)
set_option maxRecDepth 20000 in
theorem gX2_margin_X2_hasEnded : GoodIn wsX2_margin (wsV RX2 177 RX2 yX2_hasEnded wsX2_hasEnded) := goodIn_app (goodIn_of _ (by decide +kernel)) ggX2_margin_X2_hasEnded
theorem dX2_margin_0 : decode cX2_margin 0 = .ok (.iload_n 1, 1) := by decide +kernel
theorem dX2_margin_1 : decode cX2_margin 1 = .ok (.ifCond .lt 16, 3) := by decide +kernel
theorem dX2_margin_4 : decode cX2_margin 4 = .ok (.iload_n 1, 1) := by decide +kernel
theorem dX2_margin_5 : decode cX2_margin 5 = .ok (.iconst 3, 1) := by decide +kernel
theorem dX2_margin_6 : decode cX2_margin 6 = .ok (.if_icmp .ge 11, 3) := by decide +kernel
theorem dX2_margin_9 : decode cX2_margin 9 = .ok (.aload_n 0, 1) := by decide +kernel
theorem dX2_margin_10 : decode cX2_margin 10 = .ok (.iload_n 2, 1) := by decide +kernel
theorem dX2_margin_11 : decode cX2_margin 11 = .ok (.invokevirtual 177, 3) := by decide +kernel
theorem dX2_margin_14 : decode cX2_margin 14 = .ok (.ifCond .ne 13, 3) := by decide +kernel
theorem dX2_margin_17 : decode cX2_margin 17 = .ok (.new 59, 3) := by decide +kernel
theorem dX2_margin_20 : decode cX2_margin 20 = .ok (.dup, 1) := by decide +kernel
theorem dX2_margin_21 : decode cX2_margin 21 = .ok (.ldc 181, 2) := by decide +kernel
theorem dX2_margin_23 : decode cX2_margin 23 = .ok (.invokespecial 63, 3) := by decide +kernel
theorem dX2_margin_26 : decode cX2_margin 26 = .ok (.athrow, 1) := by decide +kernel
theorem dX2_margin_27 : decode cX2_margin 27 = .ok (.aload_n 0, 1) := by decide +kernel
theorem dX2_margin_28 : decode cX2_margin 28 = .ok (.getfield 47, 3) := by decide +kernel
theorem dX2_margin_31 : decode cX2_margin 31 = .ok (.iload_n 1, 1) := by decide +kernel
theorem dX2_margin_32 : decode cX2_margin 32 = .ok (.aaload, 1) := by decide +kernel
theorem dX2_margin_33 : decode cX2_margin 33 = .ok (.iload_n 2, 1) := by decide +kernel
theorem dX2_margin_34 : decode cX2_margin 34 = .ok (.iaload, 1) := by decide +kernel
theorem dX2_margin_35 : decode cX2_margin 35 = .ok (.ireturn, 1) := by decide +kernel
set_option maxRecDepth 20000 in
theorem ggX2_byProduct_X2_hasEnded : GoodIn wsX2_byProduct wsX2_hasEnded := goodIn_r _ [8, 9, 10, 11, 12, 13, 14, 15, 16, 17, 18, 19, 20, 21, 22] (by decide +kernel) (by decide +kernel)
set_option maxRecDepth 20000 in
theorem gX2_byProduct_X2_hasEnded : GoodIn wsX2_byProduct (wsV RX2 177 RX2 yX2_hasEnded wsX2_hasEnded) := goodIn_app (goodIn_of _ (by decide +kernel)) ggX2_byProduct_X2_hasEnded
theorem dX2_byProduct_0 : decode cX2_byProduct 0 = .ok (.iload_n 1, 1) := by decide +kernel
theorem dX2_byProduct_1 : decode cX2_byProduct 1 = .ok (.ifCond .lt 16, 3) := by decide +kernel
theorem dX2_byProduct_4 : decode cX2_byProduct 4 = .ok (.iload_n 1, 1) := by decide +kernel
theorem dX2_byProduct_5 : decode cX2_byProduct 5 = .ok (.iconst 3, 1) := by decide +kernel
theorem dX2_byProduct_6 : decode cX2_byProduct 6 = .ok (.if_icmp .ge 11, 3) := by decide +kernel
theorem dX2_byProduct_9 : decode cX2_byProduct 9 = .ok (.aload_n 0, 1) := by decide +kernel
theorem dX2_byProduct_10 : decode cX2_byProduct 10 = .ok (.iload_n 2, 1) := by decide +kernel
theorem dX2_byProduct_11 : decode cX2_byProduct 11 = .ok (.invokevirtual 177, 3) := by decide +kernel
theorem dX2_byProduct_14 : decode cX2_byProduct 14 = .ok (.ifCond .ne 13, 3) := by decide +kernel
theorem dX2_byProduct_17 : decode cX2_byProduct 17 = .ok (.new 59, 3) := by decide +kernel
theorem dX2_byProduct_20 : decode cX2_byProduct 20 = .ok (.dup, 1) := by decide +kernel
theorem dX2_byProduct_21 : decode cX2_byProduct 21 = .ok (.ldc 183, 2) := by decide +kernel
theorem dX2_byProduct_23 : decode cX2_byProduct 23 = .ok (.invokespecial 63, 3) := by decide +kernel
theorem dX2_byProduct_26 : decode cX2_byProduct 26 = .ok (.athrow, 1) := by decide +kernel
theorem dX2_byProduct_27 : decode cX2_byProduct 27 = .ok (.aload_n 0, 1) := by decide +kernel
theorem dX2_byProduct_28 : decode cX2_byProduct 28 = .ok (.getfield 50, 3) := by decide +kernel
theorem dX2_byProduct_31 : decode cX2_byProduct 31 = .ok (.iload_n 1, 1) := by decide +kernel
theorem dX2_byProduct_32 : decode cX2_byProduct 32 = .ok (.aaload, 1) := by decide +kernel
theorem dX2_byProduct_33 : decode cX2_byProduct 33 = .ok (.iload_n 2, 1) := by decide +kernel
theorem dX2_byProduct_34 : decode cX2_byProduct 34 = .ok (.iaload, 1) := by decide +kernel
theorem dX2_byProduct_35 : decode cX2_byProduct 35 = .ok (.ireturn, 1) := by decide +kernel
set_option maxRecDepth 20000 in
theorem ggX2_treasury_X2_hasEnded : GoodIn wsX2_treasury wsX2_hasEnded := goodIn_r _ [8, 9, 10, 11, 12, 13, 14, 15, 16, 17, 18, 19, 20, 21, 22] (by decide +kernel) (by decide +kernel)
set_option maxRecDepth 20000 in
theorem gX2_treasury_X2_hasEnded : GoodIn wsX2_treasury (wsV RX2 177 RX2 yX2_hasEnded wsX2_hasEnded) := goodIn_app (goodIn_of _ (by decide +kernel)) ggX2_treasury_X2_hasEnded
theorem dX2_treasury_0 : decode cX2_treasury 0 = .ok (.aload_n 0, 1) := by decide +kernel
theorem dX2_treasury_1 : decode cX2_treasury 1 = .ok (.iload_n 1, 1) := by decide +kernel
theorem dX2_treasury_2 : decode cX2_treasury 2 = .ok (.invokevirtual 177, 3) := by decide +kernel
theorem dX2_treasury_5 : decode cX2_treasury 5 = .ok (.ifCond .ne 13, 3) := by decide +kernel
theorem dX2_treasury_8 : decode cX2_treasury 8 = .ok (.new 59, 3) := by decide +kernel
theorem dX2_treasury_11 : decode cX2_treasury 11 = .ok (.dup, 1) := by decide +kernel
theorem dX2_treasury_12 : decode cX2_treasury 12 = .ok (.ldc 185, 2) := by decide +kernel
theorem dX2_treasury_14 : decode cX2_treasury 14 = .ok (.invokespecial 63, 3) := by decide +kernel
theorem dX2_treasury_17 : decode cX2_treasury 17 = .ok (.athrow, 1) := by decide +kernel
theorem dX2_treasury_18 : decode cX2_treasury 18 = .ok (.aload_n 0, 1) := by decide +kernel
theorem dX2_treasury_19 : decode cX2_treasury 19 = .ok (.getfield 53, 3) := by decide +kernel
theorem dX2_treasury_22 : decode cX2_treasury 22 = .ok (.iload_n 1, 1) := by decide +kernel
theorem dX2_treasury_23 : decode cX2_treasury 23 = .ok (.iaload, 1) := by decide +kernel
theorem dX2_treasury_24 : decode cX2_treasury 24 = .ok (.ireturn, 1) := by decide +kernel
set_option maxRecDepth 20000 in
theorem ggX2_interest_X2_hasEnded : GoodIn wsX2_interest wsX2_hasEnded := goodIn_r _ [8, 9, 10, 11, 12, 13, 14, 15, 16, 17, 18, 19, 20, 21, 22] (by decide +kernel) (by decide +kernel)
set_option maxRecDepth 20000 in
theorem gX2_interest_X2_hasEnded : GoodIn wsX2_interest (wsV RX2 177 RX2 yX2_hasEnded wsX2_hasEnded) := goodIn_app (goodIn_of _ (by decide +kernel)) ggX2_interest_X2_hasEnded
theorem dX2_interest_0 : decode cX2_interest 0 = .ok (.aload_n 0, 1) := by decide +kernel
theorem dX2_interest_1 : decode cX2_interest 1 = .ok (.iload_n 1, 1) := by decide +kernel
theorem dX2_interest_2 : decode cX2_interest 2 = .ok (.invokevirtual 177, 3) := by decide +kernel
theorem dX2_interest_5 : decode cX2_interest 5 = .ok (.ifCond .ne 13, 3) := by decide +kernel
theorem dX2_interest_8 : decode cX2_interest 8 = .ok (.new 59, 3) := by decide +kernel
theorem dX2_interest_11 : decode cX2_interest 11 = .ok (.dup, 1) := by decide +kernel
theorem dX2_interest_12 : decode cX2_interest 12 = .ok (.ldc 185, 2) := by decide +kernel
theorem dX2_interest_14 : decode cX2_interest 14 = .ok (.invokespecial 63, 3) := by decide +kernel
theorem dX2_interest_17 : decode cX2_interest 17 = .ok (.athrow, 1) := by decide +kernel
theorem dX2_interest_18 : decode cX2_interest 18 = .ok (.aload_n 0, 1) := by decide +kernel
theorem dX2_interest_19 : decode cX2_interest 19 = .ok (.getfield 56, 3) := by decide +kernel
theorem dX2_interest_22 : decode cX2_interest 22 = .ok (.iload_n 1, 1) := by decide +kernel
theorem dX2_interest_23 : decode cX2_interest 23 = .ok (.iaload, 1) := by decide +kernel
theorem dX2_interest_24 : decode cX2_interest 24 = .ok (.ireturn, 1) := by decide +kernel
theorem dX2_hasEnded_0 : decode cX2_hasEnded 0 = .ok (.iload_n 1, 1) := by decide +kernel
theorem dX2_hasEnded_1 : decode cX2_hasEnded 1 = .ok (.ifCond .lt 15, 3) := by decide +kernel
theorem dX2_hasEnded_4 : decode cX2_hasEnded 4 = .ok (.iload_n 1, 1) := by decide +kernel
theorem dX2_hasEnded_5 : decode cX2_hasEnded 5 = .ok (.aload_n 0, 1) := by decide +kernel
theorem dX2_hasEnded_6 : decode cX2_hasEnded 6 = .ok (.getfield 23, 3) := by decide +kernel
theorem dX2_hasEnded_9 : decode cX2_hasEnded 9 = .ok (.if_icmp .ge 7, 3) := by decide +kernel
theorem dX2_hasEnded_12 : decode cX2_hasEnded 12 = .ok (.iconst 1, 1) := by decide +kernel
theorem dX2_hasEnded_13 : decode cX2_hasEnded 13 = .ok (.goto 4, 3) := by decide +kernel
theorem dX2_hasEnded_16 : decode cX2_hasEnded 16 = .ok (.iconst 0, 1) := by decide +kernel
theorem dX2_hasEnded_17 : decode cX2_hasEnded 17 = .ok (.ireturn, 1) := by decide +kernel
theorem dX2_findLoan_0 : decode cX2_findLoan 0 = .ok (.iload_n 1, 1) := by decide +kernel
theorem dX2_findLoan_1 : decode cX2_findLoan 1 = .ok (.ifCond .lt 9, 3) := by decide +kernel
theorem dX2_findLoan_4 : decode cX2_findLoan 4 = .ok (.iload_n 1, 1) := by decide +kernel
theorem dX2_findLoan_5 : decode cX2_findLoan 5 = .ok (.bipush 24, 2) := by decide +kernel
theorem dX2_findLoan_7 : decode cX2_findLoan 7 = .ok (.if_icmp .lt 7, 3) := by decide +kernel
theorem dX2_findLoan_10 : decode cX2_findLoan 10 = .ok (.aconst_null, 1) := by decide +kernel
theorem dX2_findLoan_11 : decode cX2_findLoan 11 = .ok (.goto 9, 3) := by decide +kernel
theorem dX2_findLoan_14 : decode cX2_findLoan 14 = .ok (.aload_n 0, 1) := by decide +kernel
theorem dX2_findLoan_15 : decode cX2_findLoan 15 = .ok (.getfield 28, 3) := by decide +kernel
theorem dX2_findLoan_18 : decode cX2_findLoan 18 = .ok (.iload_n 1, 1) := by decide +kernel
theorem dX2_findLoan_19 : decode cX2_findLoan 19 = .ok (.aaload, 1) := by decide +kernel
theorem dX2_findLoan_20 : decode cX2_findLoan 20 = .ok (.areturn, 1) := by decide +kernel
theorem dX2_cutIntoParts_0 : decode cX2_cutIntoParts 0 = .ok (.bipush 6, 2) := by decide +kernel
theorem dX2_cutIntoParts_2 : decode cX2_cutIntoParts 2 = .ok (.newarray .int, 2) := by decide +kernel
theorem dX2_cutIntoParts_4 : decode cX2_cutIntoParts 4 = .ok (.astore_n 3, 1) := by decide +kernel
theorem dX2_cutIntoParts_5 : decode cX2_cutIntoParts 5 = .ok (.iconst 0, 1) := by decide +kernel
theorem dX2_cutIntoParts_6 : decode cX2_cutIntoParts 6 = .ok (.istore 4, 2) := by decide +kernel
theorem dX2_cutIntoParts_8 : decode cX2_cutIntoParts 8 = .ok (.iload 4, 2) := by decide +kernel
theorem dX2_cutIntoParts_10 : decode cX2_cutIntoParts 10 = .ok (.bipush 6, 2) := by decide +kernel
theorem dX2_cutIntoParts_12 : decode cX2_cutIntoParts 12 = .ok (.if_icmp .ge 44, 3) := by decide +kernel
theorem dX2_cutIntoParts_15 : decode cX2_cutIntoParts 15 = .ok (.iload 4, 2) := by decide +kernel
theorem dX2_cutIntoParts_17 : decode cX2_cutIntoParts 17 = .ok (.iload_n 2, 1) := by decide +kernel
theorem dX2_cutIntoParts_18 : decode cX2_cutIntoParts 18 = .ok (.iconst 1, 1) := by decide +kernel
theorem dX2_cutIntoParts_19 : decode cX2_cutIntoParts 19 = .ok (.isub, 1) := by decide +kernel
theorem dX2_cutIntoParts_20 : decode cX2_cutIntoParts 20 = .ok (.if_icmp .ge 11, 3) := by decide +kernel
theorem dX2_cutIntoParts_23 : decode cX2_cutIntoParts 23 = .ok (.aload_n 3, 1) := by decide +kernel
theorem dX2_cutIntoParts_24 : decode cX2_cutIntoParts 24 = .ok (.iload 4, 2) := by decide +kernel
theorem dX2_cutIntoParts_26 : decode cX2_cutIntoParts 26 = .ok (.iload_n 1, 1) := by decide +kernel
theorem dX2_cutIntoParts_27 : decode cX2_cutIntoParts 27 = .ok (.iastore, 1) := by decide +kernel
theorem dX2_cutIntoParts_28 : decode cX2_cutIntoParts 28 = .ok (.goto 22, 3) := by decide +kernel
theorem dX2_cutIntoParts_31 : decode cX2_cutIntoParts 31 = .ok (.iload 4, 2) := by decide +kernel
theorem dX2_cutIntoParts_33 : decode cX2_cutIntoParts 33 = .ok (.iload_n 2, 1) := by decide +kernel
theorem dX2_cutIntoParts_34 : decode cX2_cutIntoParts 34 = .ok (.iconst 1, 1) := by decide +kernel
theorem dX2_cutIntoParts_35 : decode cX2_cutIntoParts 35 = .ok (.isub, 1) := by decide +kernel
theorem dX2_cutIntoParts_36 : decode cX2_cutIntoParts 36 = .ok (.if_icmp .ne 14, 3) := by decide +kernel
theorem dX2_cutIntoParts_39 : decode cX2_cutIntoParts 39 = .ok (.aload_n 3, 1) := by decide +kernel
theorem dX2_cutIntoParts_40 : decode cX2_cutIntoParts 40 = .ok (.iload 4, 2) := by decide +kernel
theorem dX2_cutIntoParts_42 : decode cX2_cutIntoParts 42 = .ok (.iload_n 0, 1) := by decide +kernel
theorem dX2_cutIntoParts_43 : decode cX2_cutIntoParts 43 = .ok (.iload_n 1, 1) := by decide +kernel
theorem dX2_cutIntoParts_44 : decode cX2_cutIntoParts 44 = .ok (.iload_n 2, 1) := by decide +kernel
theorem dX2_cutIntoParts_45 : decode cX2_cutIntoParts 45 = .ok (.iconst 1, 1) := by decide +kernel
theorem dX2_cutIntoParts_46 : decode cX2_cutIntoParts 46 = .ok (.isub, 1) := by decide +kernel
theorem dX2_cutIntoParts_47 : decode cX2_cutIntoParts 47 = .ok (.imul, 1) := by decide +kernel
theorem dX2_cutIntoParts_48 : decode cX2_cutIntoParts 48 = .ok (.isub, 1) := by decide +kernel
theorem dX2_cutIntoParts_49 : decode cX2_cutIntoParts 49 = .ok (.iastore, 1) := by decide +kernel
theorem dX2_cutIntoParts_50 : decode cX2_cutIntoParts 50 = .ok (.iinc 4 1, 3) := by decide +kernel
theorem dX2_cutIntoParts_53 : decode cX2_cutIntoParts 53 = .ok (.goto (-45), 3) := by decide +kernel
theorem dX2_cutIntoParts_56 : decode cX2_cutIntoParts 56 = .ok (.aload_n 3, 1) := by decide +kernel
theorem dX2_cutIntoParts_57 : decode cX2_cutIntoParts 57 = .ok (.areturn, 1) := by decide +kernel
theorem dX2_forOneMonth_0 : decode cX2_forOneMonth 0 = .ok (.lload_n 0, 1) := by decide +kernel
theorem dX2_forOneMonth_1 : decode cX2_forOneMonth 1 = .ok (.ldc2_w 187, 3) := by decide +kernel
theorem dX2_forOneMonth_4 : decode cX2_forOneMonth 4 = .ok (.ldiv, 1) := by decide +kernel
theorem dX2_forOneMonth_5 : decode cX2_forOneMonth 5 = .ok (.l2i, 1) := by decide +kernel
theorem dX2_forOneMonth_6 : decode cX2_forOneMonth 6 = .ok (.ireturn, 1) := by decide +kernel
theorem dX2_coreOf_0 : decode cX2_coreOf 0 = .ok (.lload_n 1, 1) := by decide +kernel
theorem dX2_coreOf_1 : decode cX2_coreOf 1 = .ok (.aload_n 0, 1) := by decide +kernel
theorem dX2_coreOf_2 : decode cX2_coreOf 2 = .ok (.getfield 20, 3) := by decide +kernel
theorem dX2_coreOf_5 : decode cX2_coreOf 5 = .ok (.i2l, 1) := by decide +kernel
theorem dX2_coreOf_6 : decode cX2_coreOf 6 = .ok (.lmul, 1) := by decide +kernel
theorem dX2_coreOf_7 : decode cX2_coreOf 7 = .ok (.ldc2_w 189, 3) := by decide +kernel
theorem dX2_coreOf_10 : decode cX2_coreOf 10 = .ok (.ldiv, 1) := by decide +kernel
theorem dX2_coreOf_11 : decode cX2_coreOf 11 = .ok (.l2i, 1) := by decide +kernel
theorem dX2_coreOf_12 : decode cX2_coreOf 12 = .ok (.ireturn, 1) := by decide +kernel
set_option maxRecDepth 20000 in
theorem ggX2_trancheAmount_X2_coreOf : GoodIn wsX2_trancheAmount wsX2_coreOf := goodIn_r _ [6, 7, 8, 9, 10, 11, 12, 13, 14, 15, 16, 17, 18, 19, 20, 21] (by decide +kernel) (by decide +kernel)
set_option maxRecDepth 20000 in
theorem gX2_trancheAmount_X2_coreOf : GoodIn wsX2_trancheAmount (wsV RX2 191 RX2 yX2_coreOf wsX2_coreOf) := goodIn_app (goodIn_of _ (by decide +kernel)) ggX2_trancheAmount_X2_coreOf
theorem dX2_trancheAmount_0 : decode cX2_trancheAmount 0 = .ok (.lconst 0, 1) := by decide +kernel
theorem dX2_trancheAmount_1 : decode cX2_trancheAmount 1 = .ok (.lstore_n 1, 1) := by decide +kernel
theorem dX2_trancheAmount_2 : decode cX2_trancheAmount 2 = .ok (.aload_n 0, 1) := by decide +kernel
theorem dX2_trancheAmount_3 : decode cX2_trancheAmount 3 = .ok (.getfield 35, 3) := by decide +kernel
theorem dX2_trancheAmount_6 : decode cX2_trancheAmount 6 = .ok (.astore_n 3, 1) := by decide +kernel
theorem dX2_trancheAmount_7 : decode cX2_trancheAmount 7 = .ok (.aload_n 3, 1) := by decide +kernel
theorem dX2_trancheAmount_8 : decode cX2_trancheAmount 8 = .ok (.arraylength, 1) := by decide +kernel
theorem dX2_trancheAmount_9 : decode cX2_trancheAmount 9 = .ok (.istore 4, 2) := by decide +kernel
theorem dX2_trancheAmount_11 : decode cX2_trancheAmount 11 = .ok (.iconst 0, 1) := by decide +kernel
theorem dX2_trancheAmount_12 : decode cX2_trancheAmount 12 = .ok (.istore 5, 2) := by decide +kernel
theorem dX2_trancheAmount_14 : decode cX2_trancheAmount 14 = .ok (.iload 5, 2) := by decide +kernel
theorem dX2_trancheAmount_16 : decode cX2_trancheAmount 16 = .ok (.iload 4, 2) := by decide +kernel
theorem dX2_trancheAmount_18 : decode cX2_trancheAmount 18 = .ok (.if_icmp .ge 21, 3) := by decide +kernel
theorem dX2_trancheAmount_21 : decode cX2_trancheAmount 21 = .ok (.aload_n 3, 1) := by decide +kernel
theorem dX2_trancheAmount_22 : decode cX2_trancheAmount 22 = .ok (.iload 5, 2) := by decide +kernel
theorem dX2_trancheAmount_24 : decode cX2_trancheAmount 24 = .ok (.iaload, 1) := by decide +kernel
theorem dX2_trancheAmount_25 : decode cX2_trancheAmount 25 = .ok (.istore 6, 2) := by decide +kernel
theorem dX2_trancheAmount_27 : decode cX2_trancheAmount 27 = .ok (.lload_n 1, 1) := by decide +kernel
theorem dX2_trancheAmount_28 : decode cX2_trancheAmount 28 = .ok (.iload 6, 2) := by decide +kernel
theorem dX2_trancheAmount_30 : decode cX2_trancheAmount 30 = .ok (.i2l, 1) := by decide +kernel
theorem dX2_trancheAmount_31 : decode cX2_trancheAmount 31 = .ok (.ladd, 1) := by decide +kernel
theorem dX2_trancheAmount_32 : decode cX2_trancheAmount 32 = .ok (.lstore_n 1, 1) := by decide +kernel
theorem dX2_trancheAmount_33 : decode cX2_trancheAmount 33 = .ok (.iinc 5 1, 3) := by decide +kernel
theorem dX2_trancheAmount_36 : decode cX2_trancheAmount 36 = .ok (.goto (-22), 3) := by decide +kernel
theorem dX2_trancheAmount_39 : decode cX2_trancheAmount 39 = .ok (.aload_n 0, 1) := by decide +kernel
theorem dX2_trancheAmount_40 : decode cX2_trancheAmount 40 = .ok (.lload_n 1, 1) := by decide +kernel
theorem dX2_trancheAmount_41 : decode cX2_trancheAmount 41 = .ok (.invokevirtual 191, 3) := by decide +kernel
theorem dX2_trancheAmount_44 : decode cX2_trancheAmount 44 = .ok (.bipush 6, 2) := by decide +kernel
theorem dX2_trancheAmount_46 : decode cX2_trancheAmount 46 = .ok (.idiv, 1) := by decide +kernel
theorem dX2_trancheAmount_47 : decode cX2_trancheAmount 47 = .ok (.ireturn, 1) := by decide +kernel
set_option maxRecDepth 20000 in
theorem ggX2_reckonLoans_X2_loanMarginsOfBranch : GoodIn wsX2_reckonLoans wsX2_loanMarginsOfBranch := goodIn_r _ [11, 4, 12, 13, 14, 15, 16, 17, 18, 19, 20, 21, 22, 23, 24, 25, 26, 27, 10, 28, 29, 30, 31, 32, 33, 34, 35, 36, 37, 38, 39, 44, 45, 46, 47, 48, 49, 50, 51, 52, 53, 54, 55, 56, 57, 58, 59, 60, 61, 62, 63, 64] (by decide +kernel) (by decide +kernel)
set_option maxRecDepth 20000 in
theorem gX2_reckonLoans_X2_loanMarginsOfBranch : GoodIn wsX2_reckonLoans (wsV RX2 195 RX2 yX2_loanMarginsOfBranch wsX2_loanMarginsOfBranch) := goodIn_app (goodIn_of _ (by decide +kernel)) ggX2_reckonLoans_X2_loanMarginsOfBranch
set_option maxRecDepth 20000 in
theorem ggX2_reckonLoans_X2_loanMarginsOfProduct : GoodIn wsX2_reckonLoans wsX2_loanMarginsOfProduct := goodIn_r _ [43, 4, 12, 13, 14, 15, 16, 17, 18, 19, 20, 21, 22, 23, 24, 25, 26, 27, 10, 28, 29, 30, 31, 32, 33, 34, 35, 36, 37, 38, 39, 44, 45, 46, 47, 48, 49, 50, 51, 52, 53, 54, 55, 56, 57, 58, 59, 60, 61, 62, 63, 64] (by decide +kernel) (by decide +kernel)
set_option maxRecDepth 20000 in
theorem gX2_reckonLoans_X2_loanMarginsOfProduct : GoodIn wsX2_reckonLoans (wsV RX2 198 RX2 yX2_loanMarginsOfProduct wsX2_loanMarginsOfProduct) := goodIn_app (goodIn_of _ (by decide +kernel)) ggX2_reckonLoans_X2_loanMarginsOfProduct
set_option maxRecDepth 20000 in
theorem ggX2_reckonLoans_X0_funding : GoodIn wsX2_reckonLoans wsX0_funding := goodIn_r _ [33, 25, 26, 34, 27, 10, 28, 29, 57, 58, 59, 60, 61, 62, 63, 64] (by decide +kernel) (by decide +kernel)
set_option maxRecDepth 20000 in
theorem gX2_reckonLoans_X0_funding_n152 : GoodIn wsX2_reckonLoans (wsX0_funding) := ggX2_reckonLoans_X0_funding
set_option maxRecDepth 20000 in
theorem ggX2_reckonLoans_X0_optionCharge : GoodIn wsX2_reckonLoans wsX0_optionCharge := goodIn_r _ [38, 39, 21, 22, 23, 13, 24, 25, 26, 27, 10, 28, 29, 57, 58, 59, 60, 61, 62, 63, 64] (by decide +kernel) (by decide +kernel)
set_option maxRecDepth 20000 in
theorem gX2_reckonLoans_X0_optionCharge_n155 : GoodIn wsX2_reckonLoans (wsX0_optionCharge) := ggX2_reckonLoans_X0_optionCharge
set_option maxRecDepth 20000 in
theorem ggX2_reckonLoans_X0_customerInterest : GoodIn wsX2_reckonLoans wsX0_customerInterest := goodIn_r _ [19, 20, 21, 22, 23, 13, 24, 25, 26, 27, 10, 28, 29, 57, 58, 59, 60, 61, 62, 63, 64] (by decide +kernel) (by decide +kernel)
set_option maxRecDepth 20000 in
theorem gX2_reckonLoans_X0_customerInterest_n149 : GoodIn wsX2_reckonLoans (wsX0_customerInterest) := ggX2_reckonLoans_X0_customerInterest
theorem dX2_reckonLoans_0 : decode cX2_reckonLoans 0 = .ok (.iconst 0, 1) := by decide +kernel
theorem dX2_reckonLoans_1 : decode cX2_reckonLoans 1 = .ok (.istore_n 1, 1) := by decide +kernel
theorem dX2_reckonLoans_2 : decode cX2_reckonLoans 2 = .ok (.iload_n 1, 1) := by decide +kernel
theorem dX2_reckonLoans_3 : decode cX2_reckonLoans 3 = .ok (.iconst 3, 1) := by decide +kernel
theorem dX2_reckonLoans_4 : decode cX2_reckonLoans 4 = .ok (.if_icmp .ge 25, 3) := by decide +kernel
theorem dX2_reckonLoans_7 : decode cX2_reckonLoans 7 = .ok (.aload_n 0, 1) := by decide +kernel
theorem dX2_reckonLoans_8 : decode cX2_reckonLoans 8 = .ok (.getfield 47, 3) := by decide +kernel
theorem dX2_reckonLoans_11 : decode cX2_reckonLoans 11 = .ok (.iload_n 1, 1) := by decide +kernel
theorem dX2_reckonLoans_12 : decode cX2_reckonLoans 12 = .ok (.aaload, 1) := by decide +kernel
theorem dX2_reckonLoans_13 : decode cX2_reckonLoans 13 = .ok (.aload_n 0, 1) := by decide +kernel
theorem dX2_reckonLoans_14 : decode cX2_reckonLoans 14 = .ok (.getfield 23, 3) := by decide +kernel
theorem dX2_reckonLoans_17 : decode cX2_reckonLoans 17 = .ok (.aload_n 0, 1) := by decide +kernel
theorem dX2_reckonLoans_18 : decode cX2_reckonLoans 18 = .ok (.iload_n 1, 1) := by decide +kernel
theorem dX2_reckonLoans_19 : decode cX2_reckonLoans 19 = .ok (.invokevirtual 195, 3) := by decide +kernel
theorem dX2_reckonLoans_22 : decode cX2_reckonLoans 22 = .ok (.iastore, 1) := by decide +kernel
theorem dX2_reckonLoans_23 : decode cX2_reckonLoans 23 = .ok (.iinc 1 1, 3) := by decide +kernel
theorem dX2_reckonLoans_26 : decode cX2_reckonLoans 26 = .ok (.goto (-24), 3) := by decide +kernel
theorem dX2_reckonLoans_29 : decode cX2_reckonLoans 29 = .ok (.iconst 0, 1) := by decide +kernel
theorem dX2_reckonLoans_30 : decode cX2_reckonLoans 30 = .ok (.istore_n 1, 1) := by decide +kernel
theorem dX2_reckonLoans_31 : decode cX2_reckonLoans 31 = .ok (.iload_n 1, 1) := by decide +kernel
theorem dX2_reckonLoans_32 : decode cX2_reckonLoans 32 = .ok (.iconst 3, 1) := by decide +kernel
theorem dX2_reckonLoans_33 : decode cX2_reckonLoans 33 = .ok (.if_icmp .ge 25, 3) := by decide +kernel
theorem dX2_reckonLoans_36 : decode cX2_reckonLoans 36 = .ok (.aload_n 0, 1) := by decide +kernel
theorem dX2_reckonLoans_37 : decode cX2_reckonLoans 37 = .ok (.getfield 50, 3) := by decide +kernel
theorem dX2_reckonLoans_40 : decode cX2_reckonLoans 40 = .ok (.iload_n 1, 1) := by decide +kernel
theorem dX2_reckonLoans_41 : decode cX2_reckonLoans 41 = .ok (.aaload, 1) := by decide +kernel
theorem dX2_reckonLoans_42 : decode cX2_reckonLoans 42 = .ok (.aload_n 0, 1) := by decide +kernel
theorem dX2_reckonLoans_43 : decode cX2_reckonLoans 43 = .ok (.getfield 23, 3) := by decide +kernel
theorem dX2_reckonLoans_46 : decode cX2_reckonLoans 46 = .ok (.aload_n 0, 1) := by decide +kernel
theorem dX2_reckonLoans_47 : decode cX2_reckonLoans 47 = .ok (.iload_n 1, 1) := by decide +kernel
theorem dX2_reckonLoans_48 : decode cX2_reckonLoans 48 = .ok (.invokevirtual 198, 3) := by decide +kernel
theorem dX2_reckonLoans_51 : decode cX2_reckonLoans 51 = .ok (.iastore, 1) := by decide +kernel
theorem dX2_reckonLoans_52 : decode cX2_reckonLoans 52 = .ok (.iinc 1 1, 3) := by decide +kernel
theorem dX2_reckonLoans_55 : decode cX2_reckonLoans 55 = .ok (.goto (-24), 3) := by decide +kernel
theorem dX2_reckonLoans_58 : decode cX2_reckonLoans 58 = .ok (.iconst 0, 1) := by decide +kernel
theorem dX2_reckonLoans_59 : decode cX2_reckonLoans 59 = .ok (.istore_n 1, 1) := by decide +kernel
theorem dX2_reckonLoans_60 : decode cX2_reckonLoans 60 = .ok (.iconst 0, 1) := by decide +kernel
theorem dX2_reckonLoans_61 : decode cX2_reckonLoans 61 = .ok (.istore_n 2, 1) := by decide +kernel
theorem dX2_reckonLoans_62 : decode cX2_reckonLoans 62 = .ok (.aload_n 0, 1) := by decide +kernel
theorem dX2_reckonLoans_63 : decode cX2_reckonLoans 63 = .ok (.getfield 28, 3) := by decide +kernel
theorem dX2_reckonLoans_66 : decode cX2_reckonLoans 66 = .ok (.astore_n 3, 1) := by decide +kernel
theorem dX2_reckonLoans_67 : decode cX2_reckonLoans 67 = .ok (.aload_n 3, 1) := by decide +kernel
theorem dX2_reckonLoans_68 : decode cX2_reckonLoans 68 = .ok (.arraylength, 1) := by decide +kernel
theorem dX2_reckonLoans_69 : decode cX2_reckonLoans 69 = .ok (.istore 4, 2) := by decide +kernel
theorem dX2_reckonLoans_71 : decode cX2_reckonLoans 71 = .ok (.iconst 0, 1) := by decide +kernel
theorem dX2_reckonLoans_72 : decode cX2_reckonLoans 72 = .ok (.istore 5, 2) := by decide +kernel
theorem dX2_reckonLoans_74 : decode cX2_reckonLoans 74 = .ok (.iload 5, 2) := by decide +kernel
theorem dX2_reckonLoans_76 : decode cX2_reckonLoans 76 = .ok (.iload 4, 2) := by decide +kernel
theorem dX2_reckonLoans_78 : decode cX2_reckonLoans 78 = .ok (.if_icmp .ge 42, 3) := by decide +kernel
theorem dX2_reckonLoans_81 : decode cX2_reckonLoans 81 = .ok (.aload_n 3, 1) := by decide +kernel
theorem dX2_reckonLoans_82 : decode cX2_reckonLoans 82 = .ok (.iload 5, 2) := by decide +kernel
theorem dX2_reckonLoans_84 : decode cX2_reckonLoans 84 = .ok (.aaload, 1) := by decide +kernel
theorem dX2_reckonLoans_85 : decode cX2_reckonLoans 85 = .ok (.astore 6, 2) := by decide +kernel
theorem dX2_reckonLoans_87 : decode cX2_reckonLoans 87 = .ok (.aload 6, 2) := by decide +kernel
theorem dX2_reckonLoans_89 : decode cX2_reckonLoans 89 = .ok (.ifnull 25, 3) := by decide +kernel
theorem dX2_reckonLoans_92 : decode cX2_reckonLoans 92 = .ok (.iload_n 1, 1) := by decide +kernel
theorem dX2_reckonLoans_93 : decode cX2_reckonLoans 93 = .ok (.aload 6, 2) := by decide +kernel
theorem dX2_reckonLoans_95 : decode cX2_reckonLoans 95 = .ok (.invokevirtual 152, 3) := by decide +kernel
theorem dX2_reckonLoans_98 : decode cX2_reckonLoans 98 = .ok (.aload 6, 2) := by decide +kernel
theorem dX2_reckonLoans_100 : decode cX2_reckonLoans 100 = .ok (.invokevirtual 155, 3) := by decide +kernel
theorem dX2_reckonLoans_103 : decode cX2_reckonLoans 103 = .ok (.iadd, 1) := by decide +kernel
theorem dX2_reckonLoans_104 : decode cX2_reckonLoans 104 = .ok (.iadd, 1) := by decide +kernel
theorem dX2_reckonLoans_105 : decode cX2_reckonLoans 105 = .ok (.istore_n 1, 1) := by decide +kernel
theorem dX2_reckonLoans_106 : decode cX2_reckonLoans 106 = .ok (.iload_n 2, 1) := by decide +kernel
theorem dX2_reckonLoans_107 : decode cX2_reckonLoans 107 = .ok (.aload 6, 2) := by decide +kernel
theorem dX2_reckonLoans_109 : decode cX2_reckonLoans 109 = .ok (.invokevirtual 149, 3) := by decide +kernel
theorem dX2_reckonLoans_112 : decode cX2_reckonLoans 112 = .ok (.iadd, 1) := by decide +kernel
theorem dX2_reckonLoans_113 : decode cX2_reckonLoans 113 = .ok (.istore_n 2, 1) := by decide +kernel
theorem dX2_reckonLoans_114 : decode cX2_reckonLoans 114 = .ok (.iinc 5 1, 3) := by decide +kernel
theorem dX2_reckonLoans_117 : decode cX2_reckonLoans 117 = .ok (.goto (-43), 3) := by decide +kernel
theorem dX2_reckonLoans_120 : decode cX2_reckonLoans 120 = .ok (.aload_n 0, 1) := by decide +kernel
theorem dX2_reckonLoans_121 : decode cX2_reckonLoans 121 = .ok (.getfield 53, 3) := by decide +kernel
theorem dX2_reckonLoans_124 : decode cX2_reckonLoans 124 = .ok (.aload_n 0, 1) := by decide +kernel
theorem dX2_reckonLoans_125 : decode cX2_reckonLoans 125 = .ok (.getfield 23, 3) := by decide +kernel
theorem dX2_reckonLoans_128 : decode cX2_reckonLoans 128 = .ok (.iload_n 1, 1) := by decide +kernel
theorem dX2_reckonLoans_129 : decode cX2_reckonLoans 129 = .ok (.iastore, 1) := by decide +kernel
theorem dX2_reckonLoans_130 : decode cX2_reckonLoans 130 = .ok (.aload_n 0, 1) := by decide +kernel
theorem dX2_reckonLoans_131 : decode cX2_reckonLoans 131 = .ok (.getfield 56, 3) := by decide +kernel
theorem dX2_reckonLoans_134 : decode cX2_reckonLoans 134 = .ok (.aload_n 0, 1) := by decide +kernel
theorem dX2_reckonLoans_135 : decode cX2_reckonLoans 135 = .ok (.getfield 23, 3) := by decide +kernel
theorem dX2_reckonLoans_138 : decode cX2_reckonLoans 138 = .ok (.iload_n 2, 1) := by decide +kernel
theorem dX2_reckonLoans_139 : decode cX2_reckonLoans 139 = .ok (.iastore, 1) := by decide +kernel
theorem dX2_reckonLoans_140 : decode cX2_reckonLoans 140 = .ok (.return_, 1) := by decide +kernel
set_option maxRecDepth 20000 in
theorem ggX2_loanMarginsOfBranch_X0_ownMargin : GoodIn wsX2_loanMarginsOfBranch wsX0_ownMargin := goodIn_r _ [5, 6, 7, 8, 3, 9, 10, 11, 12, 13, 14, 15, 16, 17, 18, 19, 20, 21, 22, 23, 24, 25, 26, 27, 28, 29, 30, 44, 45, 46, 47, 48, 49, 50, 51] (by decide +kernel) (by decide +kernel)
set_option maxRecDepth 20000 in
theorem gX2_loanMarginsOfBranch_X0_ownMargin_n158 : GoodIn wsX2_loanMarginsOfBranch (wsX0_ownMargin) := ggX2_loanMarginsOfBranch_X0_ownMargin
theorem dX2_loanMarginsOfBranch_0 : decode cX2_loanMarginsOfBranch 0 = .ok (.iconst 0, 1) := by decide +kernel
theorem dX2_loanMarginsOfBranch_1 : decode cX2_loanMarginsOfBranch 1 = .ok (.istore_n 2, 1) := by decide +kernel
theorem dX2_loanMarginsOfBranch_2 : decode cX2_loanMarginsOfBranch 2 = .ok (.aload_n 0, 1) := by decide +kernel
theorem dX2_loanMarginsOfBranch_3 : decode cX2_loanMarginsOfBranch 3 = .ok (.getfield 28, 3) := by decide +kernel
theorem dX2_loanMarginsOfBranch_6 : decode cX2_loanMarginsOfBranch 6 = .ok (.astore_n 3, 1) := by decide +kernel
theorem dX2_loanMarginsOfBranch_7 : decode cX2_loanMarginsOfBranch 7 = .ok (.aload_n 3, 1) := by decide +kernel
theorem dX2_loanMarginsOfBranch_8 : decode cX2_loanMarginsOfBranch 8 = .ok (.arraylength, 1) := by decide +kernel
theorem dX2_loanMarginsOfBranch_9 : decode cX2_loanMarginsOfBranch 9 = .ok (.istore 4, 2) := by decide +kernel
theorem dX2_loanMarginsOfBranch_11 : decode cX2_loanMarginsOfBranch 11 = .ok (.iconst 0, 1) := by decide +kernel
theorem dX2_loanMarginsOfBranch_12 : decode cX2_loanMarginsOfBranch 12 = .ok (.istore 5, 2) := by decide +kernel
theorem dX2_loanMarginsOfBranch_14 : decode cX2_loanMarginsOfBranch 14 = .ok (.iload 5, 2) := by decide +kernel
theorem dX2_loanMarginsOfBranch_16 : decode cX2_loanMarginsOfBranch 16 = .ok (.iload 4, 2) := by decide +kernel
theorem dX2_loanMarginsOfBranch_18 : decode cX2_loanMarginsOfBranch 18 = .ok (.if_icmp .ge 37, 3) := by decide +kernel
theorem dX2_loanMarginsOfBranch_21 : decode cX2_loanMarginsOfBranch 21 = .ok (.aload_n 3, 1) := by decide +kernel
theorem dX2_loanMarginsOfBranch_22 : decode cX2_loanMarginsOfBranch 22 = .ok (.iload 5, 2) := by decide +kernel
theorem dX2_loanMarginsOfBranch_24 : decode cX2_loanMarginsOfBranch 24 = .ok (.aaload, 1) := by decide +kernel
theorem dX2_loanMarginsOfBranch_25 : decode cX2_loanMarginsOfBranch 25 = .ok (.astore 6, 2) := by decide +kernel
theorem dX2_loanMarginsOfBranch_27 : decode cX2_loanMarginsOfBranch 27 = .ok (.aload 6, 2) := by decide +kernel
theorem dX2_loanMarginsOfBranch_29 : decode cX2_loanMarginsOfBranch 29 = .ok (.ifnull 20, 3) := by decide +kernel
theorem dX2_loanMarginsOfBranch_32 : decode cX2_loanMarginsOfBranch 32 = .ok (.aload 6, 2) := by decide +kernel
theorem dX2_loanMarginsOfBranch_34 : decode cX2_loanMarginsOfBranch 34 = .ok (.getfield 201, 3) := by decide +kernel
theorem dX2_loanMarginsOfBranch_37 : decode cX2_loanMarginsOfBranch 37 = .ok (.iload_n 1, 1) := by decide +kernel
theorem dX2_loanMarginsOfBranch_38 : decode cX2_loanMarginsOfBranch 38 = .ok (.if_icmp .ne 11, 3) := by decide +kernel
theorem dX2_loanMarginsOfBranch_41 : decode cX2_loanMarginsOfBranch 41 = .ok (.iload_n 2, 1) := by decide +kernel
theorem dX2_loanMarginsOfBranch_42 : decode cX2_loanMarginsOfBranch 42 = .ok (.aload 6, 2) := by decide +kernel
theorem dX2_loanMarginsOfBranch_44 : decode cX2_loanMarginsOfBranch 44 = .ok (.invokevirtual 158, 3) := by decide +kernel
theorem dX2_loanMarginsOfBranch_47 : decode cX2_loanMarginsOfBranch 47 = .ok (.iadd, 1) := by decide +kernel
theorem dX2_loanMarginsOfBranch_48 : decode cX2_loanMarginsOfBranch 48 = .ok (.istore_n 2, 1) := by decide +kernel
theorem dX2_loanMarginsOfBranch_49 : decode cX2_loanMarginsOfBranch 49 = .ok (.iinc 5 1, 3) := by decide +kernel
theorem dX2_loanMarginsOfBranch_52 : decode cX2_loanMarginsOfBranch 52 = .ok (.goto (-38), 3) := by decide +kernel
theorem dX2_loanMarginsOfBranch_55 : decode cX2_loanMarginsOfBranch 55 = .ok (.iload_n 2, 1) := by decide +kernel
theorem dX2_loanMarginsOfBranch_56 : decode cX2_loanMarginsOfBranch 56 = .ok (.ireturn, 1) := by decide +kernel
set_option maxRecDepth 20000 in
theorem ggX2_loanMarginsOfProduct_X0_ownMargin : GoodIn wsX2_loanMarginsOfProduct wsX0_ownMargin := goodIn_r _ [5, 6, 7, 8, 3, 9, 10, 11, 12, 13, 14, 15, 16, 17, 18, 19, 20, 21, 22, 23, 24, 25, 26, 27, 28, 29, 30, 44, 45, 46, 47, 48, 49, 50, 51] (by decide +kernel) (by decide +kernel)
set_option maxRecDepth 20000 in
theorem gX2_loanMarginsOfProduct_X0_ownMargin_n158 : GoodIn wsX2_loanMarginsOfProduct (wsX0_ownMargin) := ggX2_loanMarginsOfProduct_X0_ownMargin
theorem dX2_loanMarginsOfProduct_0 : decode cX2_loanMarginsOfProduct 0 = .ok (.iconst 0, 1) := by decide +kernel
theorem dX2_loanMarginsOfProduct_1 : decode cX2_loanMarginsOfProduct 1 = .ok (.istore_n 2, 1) := by decide +kernel
theorem dX2_loanMarginsOfProduct_2 : decode cX2_loanMarginsOfProduct 2 = .ok (.aload_n 0, 1) := by decide +kernel
theorem dX2_loanMarginsOfProduct_3 : decode cX2_loanMarginsOfProduct 3 = .ok (.getfield 28, 3) := by decide +kernel
theorem dX2_loanMarginsOfProduct_6 : decode cX2_loanMarginsOfProduct 6 = .ok (.astore_n 3, 1) := by decide +kernel
theorem dX2_loanMarginsOfProduct_7 : decode cX2_loanMarginsOfProduct 7 = .ok (.aload_n 3, 1) := by decide +kernel
theorem dX2_loanMarginsOfProduct_8 : decode cX2_loanMarginsOfProduct 8 = .ok (.arraylength, 1) := by decide +kernel
theorem dX2_loanMarginsOfProduct_9 : decode cX2_loanMarginsOfProduct 9 = .ok (.istore 4, 2) := by decide +kernel
theorem dX2_loanMarginsOfProduct_11 : decode cX2_loanMarginsOfProduct 11 = .ok (.iconst 0, 1) := by decide +kernel
theorem dX2_loanMarginsOfProduct_12 : decode cX2_loanMarginsOfProduct 12 = .ok (.istore 5, 2) := by decide +kernel
theorem dX2_loanMarginsOfProduct_14 : decode cX2_loanMarginsOfProduct 14 = .ok (.iload 5, 2) := by decide +kernel
theorem dX2_loanMarginsOfProduct_16 : decode cX2_loanMarginsOfProduct 16 = .ok (.iload 4, 2) := by decide +kernel
theorem dX2_loanMarginsOfProduct_18 : decode cX2_loanMarginsOfProduct 18 = .ok (.if_icmp .ge 37, 3) := by decide +kernel
theorem dX2_loanMarginsOfProduct_21 : decode cX2_loanMarginsOfProduct 21 = .ok (.aload_n 3, 1) := by decide +kernel
theorem dX2_loanMarginsOfProduct_22 : decode cX2_loanMarginsOfProduct 22 = .ok (.iload 5, 2) := by decide +kernel
theorem dX2_loanMarginsOfProduct_24 : decode cX2_loanMarginsOfProduct 24 = .ok (.aaload, 1) := by decide +kernel
theorem dX2_loanMarginsOfProduct_25 : decode cX2_loanMarginsOfProduct 25 = .ok (.astore 6, 2) := by decide +kernel
theorem dX2_loanMarginsOfProduct_27 : decode cX2_loanMarginsOfProduct 27 = .ok (.aload 6, 2) := by decide +kernel
theorem dX2_loanMarginsOfProduct_29 : decode cX2_loanMarginsOfProduct 29 = .ok (.ifnull 20, 3) := by decide +kernel
theorem dX2_loanMarginsOfProduct_32 : decode cX2_loanMarginsOfProduct 32 = .ok (.aload 6, 2) := by decide +kernel
theorem dX2_loanMarginsOfProduct_34 : decode cX2_loanMarginsOfProduct 34 = .ok (.getfield 204, 3) := by decide +kernel
theorem dX2_loanMarginsOfProduct_37 : decode cX2_loanMarginsOfProduct 37 = .ok (.iload_n 1, 1) := by decide +kernel
theorem dX2_loanMarginsOfProduct_38 : decode cX2_loanMarginsOfProduct 38 = .ok (.if_icmp .ne 11, 3) := by decide +kernel
theorem dX2_loanMarginsOfProduct_41 : decode cX2_loanMarginsOfProduct 41 = .ok (.iload_n 2, 1) := by decide +kernel
theorem dX2_loanMarginsOfProduct_42 : decode cX2_loanMarginsOfProduct 42 = .ok (.aload 6, 2) := by decide +kernel
theorem dX2_loanMarginsOfProduct_44 : decode cX2_loanMarginsOfProduct 44 = .ok (.invokevirtual 158, 3) := by decide +kernel
theorem dX2_loanMarginsOfProduct_47 : decode cX2_loanMarginsOfProduct 47 = .ok (.iadd, 1) := by decide +kernel
theorem dX2_loanMarginsOfProduct_48 : decode cX2_loanMarginsOfProduct 48 = .ok (.istore_n 2, 1) := by decide +kernel
theorem dX2_loanMarginsOfProduct_49 : decode cX2_loanMarginsOfProduct 49 = .ok (.iinc 5 1, 3) := by decide +kernel
theorem dX2_loanMarginsOfProduct_52 : decode cX2_loanMarginsOfProduct 52 = .ok (.goto (-38), 3) := by decide +kernel
theorem dX2_loanMarginsOfProduct_55 : decode cX2_loanMarginsOfProduct 55 = .ok (.iload_n 2, 1) := by decide +kernel
theorem dX2_loanMarginsOfProduct_56 : decode cX2_loanMarginsOfProduct 56 = .ok (.ireturn, 1) := by decide +kernel
set_option maxRecDepth 20000 in
theorem ggX2_reckonDeposits_X1_averageRate : GoodIn wsX2_reckonDeposits wsX1_averageRate := goodIn_r _ [11, 12, 13, 43, 44] (by decide +kernel) (by decide +kernel)
set_option maxRecDepth 20000 in
theorem gX2_reckonDeposits_X1_averageRate_n174 : GoodIn wsX2_reckonDeposits (wsX1_averageRate) := ggX2_reckonDeposits_X1_averageRate
set_option maxRecDepth 20000 in
theorem ggX2_reckonDeposits_X2_paidForDeposits : GoodIn wsX2_reckonDeposits wsX2_paidForDeposits := goodIn_r _ [18, 19, 20, 21, 22, 17, 23, 24, 25, 26, 27, 28, 29, 30, 31, 32, 33, 34, 35, 36, 37, 38, 39, 40, 41, 42] (by decide +kernel) (by decide +kernel)
set_option maxRecDepth 20000 in
theorem gX2_reckonDeposits_X2_paidForDeposits : GoodIn wsX2_reckonDeposits (wsV RX2 207 RX2 yX2_paidForDeposits wsX2_paidForDeposits) := goodIn_app (goodIn_of _ (by decide +kernel)) ggX2_reckonDeposits_X2_paidForDeposits
set_option maxRecDepth 20000 in
theorem ggX2_reckonDeposits_X2_forOneMonth : GoodIn wsX2_reckonDeposits wsX2_forOneMonth := goodIn_r _ [28, 29] (by decide +kernel) (by decide +kernel)
set_option maxRecDepth 20000 in
theorem gX2_reckonDeposits_X2_forOneMonth : GoodIn wsX2_reckonDeposits (va_wsS RX2 211 yX2_forOneMonth wsX2_forOneMonth) := goodIn_app (goodIn_of _ (by decide +kernel)) ggX2_reckonDeposits_X2_forOneMonth
theorem dX2_reckonDeposits_0 : decode cX2_reckonDeposits 0 = .ok (.aload_n 0, 1) := by decide +kernel
theorem dX2_reckonDeposits_1 : decode cX2_reckonDeposits 1 = .ok (.getfield 41, 3) := by decide +kernel
theorem dX2_reckonDeposits_4 : decode cX2_reckonDeposits 4 = .ok (.invokevirtual 174, 3) := by decide +kernel
theorem dX2_reckonDeposits_7 : decode cX2_reckonDeposits 7 = .ok (.istore_n 1, 1) := by decide +kernel
theorem dX2_reckonDeposits_8 : decode cX2_reckonDeposits 8 = .ok (.iconst 0, 1) := by decide +kernel
theorem dX2_reckonDeposits_9 : decode cX2_reckonDeposits 9 = .ok (.istore_n 2, 1) := by decide +kernel
theorem dX2_reckonDeposits_10 : decode cX2_reckonDeposits 10 = .ok (.iload_n 2, 1) := by decide +kernel
theorem dX2_reckonDeposits_11 : decode cX2_reckonDeposits 11 = .ok (.iconst 3, 1) := by decide +kernel
theorem dX2_reckonDeposits_12 : decode cX2_reckonDeposits 12 = .ok (.if_icmp .ge 84, 3) := by decide +kernel
theorem dX2_reckonDeposits_15 : decode cX2_reckonDeposits 15 = .ok (.aload_n 0, 1) := by decide +kernel
theorem dX2_reckonDeposits_16 : decode cX2_reckonDeposits 16 = .ok (.aload_n 0, 1) := by decide +kernel
theorem dX2_reckonDeposits_17 : decode cX2_reckonDeposits 17 = .ok (.getfield 35, 3) := by decide +kernel
theorem dX2_reckonDeposits_20 : decode cX2_reckonDeposits 20 = .ok (.iload_n 2, 1) := by decide +kernel
theorem dX2_reckonDeposits_21 : decode cX2_reckonDeposits 21 = .ok (.iaload, 1) := by decide +kernel
theorem dX2_reckonDeposits_22 : decode cX2_reckonDeposits 22 = .ok (.iload_n 1, 1) := by decide +kernel
theorem dX2_reckonDeposits_23 : decode cX2_reckonDeposits 23 = .ok (.invokevirtual 207, 3) := by decide +kernel
theorem dX2_reckonDeposits_26 : decode cX2_reckonDeposits 26 = .ok (.istore_n 3, 1) := by decide +kernel
theorem dX2_reckonDeposits_27 : decode cX2_reckonDeposits 27 = .ok (.aload_n 0, 1) := by decide +kernel
theorem dX2_reckonDeposits_28 : decode cX2_reckonDeposits 28 = .ok (.getfield 35, 3) := by decide +kernel
theorem dX2_reckonDeposits_31 : decode cX2_reckonDeposits 31 = .ok (.iload_n 2, 1) := by decide +kernel
theorem dX2_reckonDeposits_32 : decode cX2_reckonDeposits 32 = .ok (.iaload, 1) := by decide +kernel
theorem dX2_reckonDeposits_33 : decode cX2_reckonDeposits 33 = .ok (.i2l, 1) := by decide +kernel
theorem dX2_reckonDeposits_34 : decode cX2_reckonDeposits 34 = .ok (.aload_n 0, 1) := by decide +kernel
theorem dX2_reckonDeposits_35 : decode cX2_reckonDeposits 35 = .ok (.getfield 13, 3) := by decide +kernel
theorem dX2_reckonDeposits_38 : decode cX2_reckonDeposits 38 = .ok (.i2l, 1) := by decide +kernel
theorem dX2_reckonDeposits_39 : decode cX2_reckonDeposits 39 = .ok (.lmul, 1) := by decide +kernel
theorem dX2_reckonDeposits_40 : decode cX2_reckonDeposits 40 = .ok (.invokestatic 211, 3) := by decide +kernel
theorem dX2_reckonDeposits_43 : decode cX2_reckonDeposits 43 = .ok (.istore 4, 2) := by decide +kernel
theorem dX2_reckonDeposits_45 : decode cX2_reckonDeposits 45 = .ok (.aload_n 0, 1) := by decide +kernel
theorem dX2_reckonDeposits_46 : decode cX2_reckonDeposits 46 = .ok (.getfield 47, 3) := by decide +kernel
theorem dX2_reckonDeposits_49 : decode cX2_reckonDeposits 49 = .ok (.iload_n 2, 1) := by decide +kernel
theorem dX2_reckonDeposits_50 : decode cX2_reckonDeposits 50 = .ok (.aaload, 1) := by decide +kernel
theorem dX2_reckonDeposits_51 : decode cX2_reckonDeposits 51 = .ok (.aload_n 0, 1) := by decide +kernel
theorem dX2_reckonDeposits_52 : decode cX2_reckonDeposits 52 = .ok (.getfield 23, 3) := by decide +kernel
theorem dX2_reckonDeposits_55 : decode cX2_reckonDeposits 55 = .ok (.dup2, 1) := by decide +kernel
theorem dX2_reckonDeposits_56 : decode cX2_reckonDeposits 56 = .ok (.iaload, 1) := by decide +kernel
theorem dX2_reckonDeposits_57 : decode cX2_reckonDeposits 57 = .ok (.iload_n 3, 1) := by decide +kernel
theorem dX2_reckonDeposits_58 : decode cX2_reckonDeposits 58 = .ok (.iload 4, 2) := by decide +kernel
theorem dX2_reckonDeposits_60 : decode cX2_reckonDeposits 60 = .ok (.isub, 1) := by decide +kernel
theorem dX2_reckonDeposits_61 : decode cX2_reckonDeposits 61 = .ok (.iadd, 1) := by decide +kernel
theorem dX2_reckonDeposits_62 : decode cX2_reckonDeposits 62 = .ok (.iastore, 1) := by decide +kernel
theorem dX2_reckonDeposits_63 : decode cX2_reckonDeposits 63 = .ok (.aload_n 0, 1) := by decide +kernel
theorem dX2_reckonDeposits_64 : decode cX2_reckonDeposits 64 = .ok (.getfield 53, 3) := by decide +kernel
theorem dX2_reckonDeposits_67 : decode cX2_reckonDeposits 67 = .ok (.aload_n 0, 1) := by decide +kernel
theorem dX2_reckonDeposits_68 : decode cX2_reckonDeposits 68 = .ok (.getfield 23, 3) := by decide +kernel
theorem dX2_reckonDeposits_71 : decode cX2_reckonDeposits 71 = .ok (.dup2, 1) := by decide +kernel
theorem dX2_reckonDeposits_72 : decode cX2_reckonDeposits 72 = .ok (.iaload, 1) := by decide +kernel
theorem dX2_reckonDeposits_73 : decode cX2_reckonDeposits 73 = .ok (.iload_n 3, 1) := by decide +kernel
theorem dX2_reckonDeposits_74 : decode cX2_reckonDeposits 74 = .ok (.isub, 1) := by decide +kernel
theorem dX2_reckonDeposits_75 : decode cX2_reckonDeposits 75 = .ok (.iastore, 1) := by decide +kernel
theorem dX2_reckonDeposits_76 : decode cX2_reckonDeposits 76 = .ok (.aload_n 0, 1) := by decide +kernel
theorem dX2_reckonDeposits_77 : decode cX2_reckonDeposits 77 = .ok (.getfield 56, 3) := by decide +kernel
theorem dX2_reckonDeposits_80 : decode cX2_reckonDeposits 80 = .ok (.aload_n 0, 1) := by decide +kernel
theorem dX2_reckonDeposits_81 : decode cX2_reckonDeposits 81 = .ok (.getfield 23, 3) := by decide +kernel
theorem dX2_reckonDeposits_84 : decode cX2_reckonDeposits 84 = .ok (.dup2, 1) := by decide +kernel
theorem dX2_reckonDeposits_85 : decode cX2_reckonDeposits 85 = .ok (.iaload, 1) := by decide +kernel
theorem dX2_reckonDeposits_86 : decode cX2_reckonDeposits 86 = .ok (.iload 4, 2) := by decide +kernel
theorem dX2_reckonDeposits_88 : decode cX2_reckonDeposits 88 = .ok (.isub, 1) := by decide +kernel
theorem dX2_reckonDeposits_89 : decode cX2_reckonDeposits 89 = .ok (.iastore, 1) := by decide +kernel
theorem dX2_reckonDeposits_90 : decode cX2_reckonDeposits 90 = .ok (.iinc 2 1, 3) := by decide +kernel
theorem dX2_reckonDeposits_93 : decode cX2_reckonDeposits 93 = .ok (.goto (-83), 3) := by decide +kernel
theorem dX2_reckonDeposits_96 : decode cX2_reckonDeposits 96 = .ok (.return_, 1) := by decide +kernel
set_option maxRecDepth 20000 in
theorem ggX2_paidForDeposits_X2_coreOf : GoodIn wsX2_paidForDeposits wsX2_coreOf := goodIn_r _ [6, 7, 8, 13, 14, 15, 16, 17, 18, 19, 20, 21, 22, 23, 24, 25] (by decide +kernel) (by decide +kernel)
set_option maxRecDepth 20000 in
theorem gX2_paidForDeposits_X2_coreOf : GoodIn wsX2_paidForDeposits (wsV RX2 191 RX2 yX2_coreOf wsX2_coreOf) := goodIn_app (goodIn_of _ (by decide +kernel)) ggX2_paidForDeposits_X2_coreOf
set_option maxRecDepth 20000 in
theorem ggX2_paidForDeposits_X2_forOneMonth : GoodIn wsX2_paidForDeposits wsX2_forOneMonth := goodIn_r _ [11, 12] (by decide +kernel) (by decide +kernel)
set_option maxRecDepth 20000 in
theorem gX2_paidForDeposits_X2_forOneMonth : GoodIn wsX2_paidForDeposits (va_wsS RX2 211 yX2_forOneMonth wsX2_forOneMonth) := goodIn_app (goodIn_of _ (by decide +kernel)) ggX2_paidForDeposits_X2_forOneMonth
theorem dX2_paidForDeposits_0 : decode cX2_paidForDeposits 0 = .ok (.aload_n 0, 1) := by decide +kernel
theorem dX2_paidForDeposits_1 : decode cX2_paidForDeposits 1 = .ok (.iload_n 1, 1) := by decide +kernel
theorem dX2_paidForDeposits_2 : decode cX2_paidForDeposits 2 = .ok (.i2l, 1) := by decide +kernel
theorem dX2_paidForDeposits_3 : decode cX2_paidForDeposits 3 = .ok (.invokevirtual 191, 3) := by decide +kernel
theorem dX2_paidForDeposits_6 : decode cX2_paidForDeposits 6 = .ok (.istore_n 3, 1) := by decide +kernel
theorem dX2_paidForDeposits_7 : decode cX2_paidForDeposits 7 = .ok (.iload_n 1, 1) := by decide +kernel
theorem dX2_paidForDeposits_8 : decode cX2_paidForDeposits 8 = .ok (.iload_n 3, 1) := by decide +kernel
theorem dX2_paidForDeposits_9 : decode cX2_paidForDeposits 9 = .ok (.isub, 1) := by decide +kernel
theorem dX2_paidForDeposits_10 : decode cX2_paidForDeposits 10 = .ok (.istore 4, 2) := by decide +kernel
theorem dX2_paidForDeposits_12 : decode cX2_paidForDeposits 12 = .ok (.iload_n 3, 1) := by decide +kernel
theorem dX2_paidForDeposits_13 : decode cX2_paidForDeposits 13 = .ok (.i2l, 1) := by decide +kernel
theorem dX2_paidForDeposits_14 : decode cX2_paidForDeposits 14 = .ok (.iload_n 2, 1) := by decide +kernel
theorem dX2_paidForDeposits_15 : decode cX2_paidForDeposits 15 = .ok (.i2l, 1) := by decide +kernel
theorem dX2_paidForDeposits_16 : decode cX2_paidForDeposits 16 = .ok (.lmul, 1) := by decide +kernel
theorem dX2_paidForDeposits_17 : decode cX2_paidForDeposits 17 = .ok (.iload 4, 2) := by decide +kernel
theorem dX2_paidForDeposits_19 : decode cX2_paidForDeposits 19 = .ok (.i2l, 1) := by decide +kernel
theorem dX2_paidForDeposits_20 : decode cX2_paidForDeposits 20 = .ok (.aload_n 0, 1) := by decide +kernel
theorem dX2_paidForDeposits_21 : decode cX2_paidForDeposits 21 = .ok (.getfield 9, 3) := by decide +kernel
theorem dX2_paidForDeposits_24 : decode cX2_paidForDeposits 24 = .ok (.iconst 0, 1) := by decide +kernel
theorem dX2_paidForDeposits_25 : decode cX2_paidForDeposits 25 = .ok (.iaload, 1) := by decide +kernel
theorem dX2_paidForDeposits_26 : decode cX2_paidForDeposits 26 = .ok (.i2l, 1) := by decide +kernel
theorem dX2_paidForDeposits_27 : decode cX2_paidForDeposits 27 = .ok (.lmul, 1) := by decide +kernel
theorem dX2_paidForDeposits_28 : decode cX2_paidForDeposits 28 = .ok (.ladd, 1) := by decide +kernel
theorem dX2_paidForDeposits_29 : decode cX2_paidForDeposits 29 = .ok (.invokestatic 211, 3) := by decide +kernel
theorem dX2_paidForDeposits_32 : decode cX2_paidForDeposits 32 = .ok (.ireturn, 1) := by decide +kernel
set_option maxRecDepth 20000 in
theorem ggX2_payParts_X0_payPart : GoodIn wsX2_payParts wsX0_payPart := goodIn_r _ [5, 6, 20, 21, 22, 23, 24, 25, 26, 27] (by decide +kernel) (by decide +kernel)
set_option maxRecDepth 20000 in
theorem gX2_payParts_X0_payPart_n214 : GoodIn wsX2_payParts (wsX0_payPart) := ggX2_payParts_X0_payPart
theorem dX2_payParts_0 : decode cX2_payParts 0 = .ok (.aload_n 0, 1) := by decide +kernel
theorem dX2_payParts_1 : decode cX2_payParts 1 = .ok (.getfield 28, 3) := by decide +kernel
theorem dX2_payParts_4 : decode cX2_payParts 4 = .ok (.astore_n 1, 1) := by decide +kernel
theorem dX2_payParts_5 : decode cX2_payParts 5 = .ok (.aload_n 1, 1) := by decide +kernel
theorem dX2_payParts_6 : decode cX2_payParts 6 = .ok (.arraylength, 1) := by decide +kernel
theorem dX2_payParts_7 : decode cX2_payParts 7 = .ok (.istore_n 2, 1) := by decide +kernel
theorem dX2_payParts_8 : decode cX2_payParts 8 = .ok (.iconst 0, 1) := by decide +kernel
theorem dX2_payParts_9 : decode cX2_payParts 9 = .ok (.istore_n 3, 1) := by decide +kernel
theorem dX2_payParts_10 : decode cX2_payParts 10 = .ok (.iload_n 3, 1) := by decide +kernel
theorem dX2_payParts_11 : decode cX2_payParts 11 = .ok (.iload_n 2, 1) := by decide +kernel
theorem dX2_payParts_12 : decode cX2_payParts 12 = .ok (.if_icmp .ge 24, 3) := by decide +kernel
theorem dX2_payParts_15 : decode cX2_payParts 15 = .ok (.aload_n 1, 1) := by decide +kernel
theorem dX2_payParts_16 : decode cX2_payParts 16 = .ok (.iload_n 3, 1) := by decide +kernel
theorem dX2_payParts_17 : decode cX2_payParts 17 = .ok (.aaload, 1) := by decide +kernel
theorem dX2_payParts_18 : decode cX2_payParts 18 = .ok (.astore 4, 2) := by decide +kernel
theorem dX2_payParts_20 : decode cX2_payParts 20 = .ok (.aload 4, 2) := by decide +kernel
theorem dX2_payParts_22 : decode cX2_payParts 22 = .ok (.ifnull 8, 3) := by decide +kernel
theorem dX2_payParts_25 : decode cX2_payParts 25 = .ok (.aload 4, 2) := by decide +kernel
theorem dX2_payParts_27 : decode cX2_payParts 27 = .ok (.invokevirtual 214, 3) := by decide +kernel
theorem dX2_payParts_30 : decode cX2_payParts 30 = .ok (.iinc 3 1, 3) := by decide +kernel
theorem dX2_payParts_33 : decode cX2_payParts 33 = .ok (.goto (-23), 3) := by decide +kernel
theorem dX2_payParts_36 : decode cX2_payParts 36 = .ok (.return_, 1) := by decide +kernel
