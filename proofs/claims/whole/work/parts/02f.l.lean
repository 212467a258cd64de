set_option maxRecDepth 20000 in
theorem ggL_setCurve_X2_setCurve : GoodIn wsL_setCurve wsX2_setCurve := goodIn_ca (goodIn_ca (goodIn_r _ [7, 8, 9, 10, 11, 12, 13, 14, 15, 16, 17, 18, 19, 20, 21, 22, 23, 24, 25] (by decide +kernel) (by decide +kernel)) (goodIn_sub (fun _ h => List.mem_cons_of_mem _ (List.mem_append_left _ (List.mem_append_right _ h))) (by decide +kernel))) (goodIn_sub (fun _ h => List.mem_cons_of_mem _ (List.mem_append_right _ h)) (by decide +kernel))
set_option maxRecDepth 20000 in
theorem gL_setCurve_X2_setCurve : GoodIn wsL_setCurve (wsV RL 7 RX2 yX2_setCurve wsX2_setCurve) := goodIn_app (goodIn_of _ (by decide +kernel)) ggL_setCurve_X2_setCurve
theorem dL_setCurve_0 : decode cL_setCurve 0 = .ok (.aload_n 3, 1) := by decide +kernel
theorem dL_setCurve_1 : decode cL_setCurve 1 = .ok (.iconst 0, 1) := by decide +kernel
theorem dL_setCurve_2 : decode cL_setCurve 2 = .ok (.aload_n 0, 1) := by decide +kernel
theorem dL_setCurve_3 : decode cL_setCurve 3 = .ok (.iload_n 1, 1) := by decide +kernel
theorem dL_setCurve_4 : decode cL_setCurve 4 = .ok (.iload_n 2, 1) := by decide +kernel
theorem dL_setCurve_5 : decode cL_setCurve 5 = .ok (.invokevirtual 7, 3) := by decide +kernel
theorem dL_setCurve_8 : decode cL_setCurve 8 = .ok (.i2l, 1) := by decide +kernel
theorem dL_setCurve_9 : decode cL_setCurve 9 = .ok (.lastore, 1) := by decide +kernel
theorem dL_setCurve_10 : decode cL_setCurve 10 = .ok (.goto 11, 3) := by decide +kernel
theorem dL_setCurve_13 : decode cL_setCurve 13 = .ok (.astore 4, 2) := by decide +kernel
theorem dL_setCurve_15 : decode cL_setCurve 15 = .ok (.iconst 1, 1) := by decide +kernel
theorem dL_setCurve_16 : decode cL_setCurve 16 = .ok (.ireturn, 1) := by decide +kernel
theorem dL_setCurve_17 : decode cL_setCurve 17 = .ok (.astore 4, 2) := by decide +kernel
theorem dL_setCurve_19 : decode cL_setCurve 19 = .ok (.iconst 2, 1) := by decide +kernel
theorem dL_setCurve_20 : decode cL_setCurve 20 = .ok (.ireturn, 1) := by decide +kernel
theorem dL_setCurve_21 : decode cL_setCurve 21 = .ok (.iconst 0, 1) := by decide +kernel
theorem dL_setCurve_22 : decode cL_setCurve 22 = .ok (.ireturn, 1) := by decide +kernel
set_option maxRecDepth 20000 in
theorem ggL_setRates_X2_setRates : GoodIn wsL_setRates wsX2_setRates := goodIn_ca (goodIn_r _ [6, 7, 8, 9, 10, 11, 12, 13, 14, 15, 16, 17, 18, 19, 20, 21, 22, 23, 24] (by decide +kernel) (by decide +kernel)) (goodIn_sub (fun _ h => List.mem_cons_of_mem _ (List.mem_append_right _ h)) (by decide +kernel))
set_option maxRecDepth 20000 in
theorem gL_setRates_X2_setRates : GoodIn wsL_setRates (wsV RL 17 RX2 yX2_setRates wsX2_setRates) := goodIn_app (goodIn_of _ (by decide +kernel)) ggL_setRates_X2_setRates
theorem dL_setRates_0 : decode cL_setRates 0 = .ok (.aload_n 0, 1) := by decide +kernel
theorem dL_setRates_1 : decode cL_setRates 1 = .ok (.iload_n 1, 1) := by decide +kernel
theorem dL_setRates_2 : decode cL_setRates 2 = .ok (.iload_n 2, 1) := by decide +kernel
theorem dL_setRates_3 : decode cL_setRates 3 = .ok (.iload_n 3, 1) := by decide +kernel
theorem dL_setRates_4 : decode cL_setRates 4 = .ok (.invokevirtual 17, 3) := by decide +kernel
theorem dL_setRates_7 : decode cL_setRates 7 = .ok (.goto 7, 3) := by decide +kernel
theorem dL_setRates_10 : decode cL_setRates 10 = .ok (.astore 4, 2) := by decide +kernel
theorem dL_setRates_12 : decode cL_setRates 12 = .ok (.iconst 1, 1) := by decide +kernel
theorem dL_setRates_13 : decode cL_setRates 13 = .ok (.ireturn, 1) := by decide +kernel
theorem dL_setRates_14 : decode cL_setRates 14 = .ok (.iconst 0, 1) := by decide +kernel
theorem dL_setRates_15 : decode cL_setRates 15 = .ok (.ireturn, 1) := by decide +kernel
set_option maxRecDepth 20000 in
theorem ggL_lend_X2_lend : GoodIn wsL_lend wsX2_lend := goodIn_ca (goodIn_ca (goodIn_ca (goodIn_r _ [8, 9, 10, 11, 12, 13, 14, 15, 16, 17, 18, 19, 20, 21, 22, 23, 24, 25, 26, 27, 28, 29, 30, 7, 31, 32, 33, 34, 35, 36, 37, 38, 39, 40, 41, 42, 43, 44, 45, 46, 47, 48, 49, 50, 51, 52, 53, 54, 55, 56, 57, 58, 59, 60, 61, 62, 63, 64, 65, 66] (by decide +kernel) (by decide +kernel)) (goodIn_sub (fun _ h => List.mem_cons_of_mem _ (List.mem_append_left _ (List.mem_append_left _ (List.mem_append_right _ h)))) (by decide +kernel))) (goodIn_sub (fun _ h => List.mem_cons_of_mem _ (List.mem_append_left _ (List.mem_append_right _ h))) (by decide +kernel))) (goodIn_sub (fun _ h => List.mem_cons_of_mem _ (List.mem_append_right _ h)) (by decide +kernel))
set_option maxRecDepth 20000 in
theorem gL_lend_X2_lend : GoodIn wsL_lend (wsV RL 21 RX2 yX2_lend wsX2_lend) := goodIn_app (goodIn_of _ (by decide +kernel)) ggL_lend_X2_lend
theorem dL_lend_0 : decode cL_lend 0 = .ok (.aload 7, 2) := by decide +kernel
theorem dL_lend_2 : decode cL_lend 2 = .ok (.iconst 0, 1) := by decide +kernel
theorem dL_lend_3 : decode cL_lend 3 = .ok (.aload_n 0, 1) := by decide +kernel
theorem dL_lend_4 : decode cL_lend 4 = .ok (.iload_n 1, 1) := by decide +kernel
theorem dL_lend_5 : decode cL_lend 5 = .ok (.iload_n 2, 1) := by decide +kernel
theorem dL_lend_6 : decode cL_lend 6 = .ok (.iload_n 3, 1) := by decide +kernel
theorem dL_lend_7 : decode cL_lend 7 = .ok (.iload 4, 2) := by decide +kernel
theorem dL_lend_9 : decode cL_lend 9 = .ok (.iload 5, 2) := by decide +kernel
theorem dL_lend_11 : decode cL_lend 11 = .ok (.iload 6, 2) := by decide +kernel
theorem dL_lend_13 : decode cL_lend 13 = .ok (.invokevirtual 21, 3) := by decide +kernel
theorem dL_lend_16 : decode cL_lend 16 = .ok (.i2l, 1) := by decide +kernel
theorem dL_lend_17 : decode cL_lend 17 = .ok (.lastore, 1) := by decide +kernel
theorem dL_lend_18 : decode cL_lend 18 = .ok (.goto 15, 3) := by decide +kernel
theorem dL_lend_21 : decode cL_lend 21 = .ok (.astore 8, 2) := by decide +kernel
theorem dL_lend_23 : decode cL_lend 23 = .ok (.iconst 1, 1) := by decide +kernel
theorem dL_lend_24 : decode cL_lend 24 = .ok (.ireturn, 1) := by decide +kernel
theorem dL_lend_25 : decode cL_lend 25 = .ok (.astore 8, 2) := by decide +kernel
theorem dL_lend_27 : decode cL_lend 27 = .ok (.iconst 2, 1) := by decide +kernel
theorem dL_lend_28 : decode cL_lend 28 = .ok (.ireturn, 1) := by decide +kernel
theorem dL_lend_29 : decode cL_lend 29 = .ok (.astore 8, 2) := by decide +kernel
theorem dL_lend_31 : decode cL_lend 31 = .ok (.iconst 3, 1) := by decide +kernel
theorem dL_lend_32 : decode cL_lend 32 = .ok (.ireturn, 1) := by decide +kernel
theorem dL_lend_33 : decode cL_lend 33 = .ok (.iconst 0, 1) := by decide +kernel
theorem dL_lend_34 : decode cL_lend 34 = .ok (.ireturn, 1) := by decide +kernel
set_option maxRecDepth 20000 in
theorem ggL_repay_X2_repay : GoodIn wsL_repay wsX2_repay := goodIn_ca (goodIn_ca (goodIn_r _ [7, 8, 9, 10, 11, 12, 13, 14, 6, 15, 16, 17, 18, 19, 20, 21, 22, 23, 24, 25, 26, 27, 28, 29, 30, 31, 32, 33, 34, 35, 36, 37, 38, 39, 40, 41, 42, 43, 44, 45, 46] (by decide +kernel) (by decide +kernel)) (goodIn_sub (fun _ h => List.mem_cons_of_mem _ (List.mem_append_left _ (List.mem_append_right _ h))) (by decide +kernel))) (goodIn_sub (fun _ h => List.mem_cons_of_mem _ (List.mem_append_right _ h)) (by decide +kernel))
set_option maxRecDepth 20000 in
theorem gL_repay_X2_repay : GoodIn wsL_repay (wsV RL 27 RX2 yX2_repay wsX2_repay) := goodIn_app (goodIn_of _ (by decide +kernel)) ggL_repay_X2_repay
theorem dL_repay_0 : decode cL_repay 0 = .ok (.aload_n 2, 1) := by decide +kernel
theorem dL_repay_1 : decode cL_repay 1 = .ok (.iconst 0, 1) := by decide +kernel
theorem dL_repay_2 : decode cL_repay 2 = .ok (.aload_n 0, 1) := by decide +kernel
theorem dL_repay_3 : decode cL_repay 3 = .ok (.iload_n 1, 1) := by decide +kernel
theorem dL_repay_4 : decode cL_repay 4 = .ok (.invokevirtual 27, 3) := by decide +kernel
theorem dL_repay_7 : decode cL_repay 7 = .ok (.i2l, 1) := by decide +kernel
theorem dL_repay_8 : decode cL_repay 8 = .ok (.lastore, 1) := by decide +kernel
theorem dL_repay_9 : decode cL_repay 9 = .ok (.goto 9, 3) := by decide +kernel
theorem dL_repay_12 : decode cL_repay 12 = .ok (.astore_n 3, 1) := by decide +kernel
theorem dL_repay_13 : decode cL_repay 13 = .ok (.iconst 1, 1) := by decide +kernel
theorem dL_repay_14 : decode cL_repay 14 = .ok (.ireturn, 1) := by decide +kernel
theorem dL_repay_15 : decode cL_repay 15 = .ok (.astore_n 3, 1) := by decide +kernel
theorem dL_repay_16 : decode cL_repay 16 = .ok (.iconst 2, 1) := by decide +kernel
theorem dL_repay_17 : decode cL_repay 17 = .ok (.ireturn, 1) := by decide +kernel
theorem dL_repay_18 : decode cL_repay 18 = .ok (.iconst 0, 1) := by decide +kernel
theorem dL_repay_19 : decode cL_repay 19 = .ok (.ireturn, 1) := by decide +kernel
set_option maxRecDepth 20000 in
theorem ggL_deposit_X2_deposit : GoodIn wsL_deposit wsX2_deposit := goodIn_ca (goodIn_ca (goodIn_ca (goodIn_r _ [8, 9, 10, 11, 12, 13, 14, 15, 16, 17, 18, 19, 20, 21, 22, 23, 7, 24, 25, 26, 27, 28, 29, 30, 31, 32, 33, 34, 35, 36, 37, 38, 39, 40, 41, 42, 43, 44, 45, 46, 47, 48, 49, 50, 51, 52, 53, 54, 55] (by decide +kernel) (by decide +kernel)) (goodIn_sub (fun _ h => List.mem_cons_of_mem _ (List.mem_append_left _ (List.mem_append_left _ (List.mem_append_right _ h)))) (by decide +kernel))) (goodIn_sub (fun _ h => List.mem_cons_of_mem _ (List.mem_append_left _ (List.mem_append_right _ h))) (by decide +kernel))) (goodIn_sub (fun _ h => List.mem_cons_of_mem _ (List.mem_append_right _ h)) (by decide +kernel))
set_option maxRecDepth 20000 in
theorem gL_deposit_X2_deposit : GoodIn wsL_deposit (wsV RL 31 RX2 yX2_deposit wsX2_deposit) := goodIn_app (goodIn_of _ (by decide +kernel)) ggL_deposit_X2_deposit
theorem dL_deposit_0 : decode cL_deposit 0 = .ok (.aload_n 3, 1) := by decide +kernel
theorem dL_deposit_1 : decode cL_deposit 1 = .ok (.iconst 0, 1) := by decide +kernel
theorem dL_deposit_2 : decode cL_deposit 2 = .ok (.aload_n 0, 1) := by decide +kernel
theorem dL_deposit_3 : decode cL_deposit 3 = .ok (.iload_n 1, 1) := by decide +kernel
theorem dL_deposit_4 : decode cL_deposit 4 = .ok (.iload_n 2, 1) := by decide +kernel
theorem dL_deposit_5 : decode cL_deposit 5 = .ok (.invokevirtual 31, 3) := by decide +kernel
theorem dL_deposit_8 : decode cL_deposit 8 = .ok (.i2l, 1) := by decide +kernel
theorem dL_deposit_9 : decode cL_deposit 9 = .ok (.lastore, 1) := by decide +kernel
theorem dL_deposit_10 : decode cL_deposit 10 = .ok (.goto 15, 3) := by decide +kernel
theorem dL_deposit_13 : decode cL_deposit 13 = .ok (.astore 4, 2) := by decide +kernel
theorem dL_deposit_15 : decode cL_deposit 15 = .ok (.iconst 1, 1) := by decide +kernel
theorem dL_deposit_16 : decode cL_deposit 16 = .ok (.ireturn, 1) := by decide +kernel
theorem dL_deposit_17 : decode cL_deposit 17 = .ok (.astore 4, 2) := by decide +kernel
theorem dL_deposit_19 : decode cL_deposit 19 = .ok (.iconst 2, 1) := by decide +kernel
theorem dL_deposit_20 : decode cL_deposit 20 = .ok (.ireturn, 1) := by decide +kernel
theorem dL_deposit_21 : decode cL_deposit 21 = .ok (.astore 4, 2) := by decide +kernel
theorem dL_deposit_23 : decode cL_deposit 23 = .ok (.iconst 3, 1) := by decide +kernel
theorem dL_deposit_24 : decode cL_deposit 24 = .ok (.ireturn, 1) := by decide +kernel
theorem dL_deposit_25 : decode cL_deposit 25 = .ok (.iconst 0, 1) := by decide +kernel
theorem dL_deposit_26 : decode cL_deposit 26 = .ok (.ireturn, 1) := by decide +kernel
set_option maxRecDepth 20000 in
theorem ggL_closeMonth_X2_closeMonth : GoodIn wsL_closeMonth wsX2_closeMonth := goodIn_ca (goodIn_r _ [6, 7, 8, 9, 10, 11, 12, 13, 14, 5, 15, 16, 17, 18, 19, 20, 21, 22, 23, 24, 25, 26, 27, 28, 29, 30, 31, 32, 33, 34, 35, 36, 37, 38, 39, 40, 41, 42, 43, 44, 45, 46, 47, 48, 49, 50, 51, 52, 53, 54, 55, 56, 57, 58, 59, 60, 61, 62, 63, 64, 65, 66, 67, 68, 69, 70, 71, 72, 73, 74, 75, 76, 77, 78, 79, 80, 81, 82, 83, 84, 85, 86, 87, 88, 89, 90, 91, 92, 93, 94, 95, 96, 97, 98, 99, 100, 101, 102, 103, 104, 105, 106, 107, 108, 109, 110, 111, 112, 113, 114, 115, 116] (by decide +kernel) (by decide +kernel)) (goodIn_sub (fun _ h => List.mem_cons_of_mem _ (List.mem_append_right _ h)) (by decide +kernel))
set_option maxRecDepth 20000 in
theorem gL_closeMonth_X2_closeMonth : GoodIn wsL_closeMonth (wsV RL 34 RX2 yX2_closeMonth wsX2_closeMonth) := goodIn_app (goodIn_of _ (by decide +kernel)) ggL_closeMonth_X2_closeMonth
theorem dL_closeMonth_0 : decode cL_closeMonth 0 = .ok (.aload_n 1, 1) := by decide +kernel
theorem dL_closeMonth_1 : decode cL_closeMonth 1 = .ok (.iconst 0, 1) := by decide +kernel
theorem dL_closeMonth_2 : decode cL_closeMonth 2 = .ok (.aload_n 0, 1) := by decide +kernel
theorem dL_closeMonth_3 : decode cL_closeMonth 3 = .ok (.invokevirtual 34, 3) := by decide +kernel
theorem dL_closeMonth_6 : decode cL_closeMonth 6 = .ok (.i2l, 1) := by decide +kernel
theorem dL_closeMonth_7 : decode cL_closeMonth 7 = .ok (.lastore, 1) := by decide +kernel
theorem dL_closeMonth_8 : decode cL_closeMonth 8 = .ok (.goto 6, 3) := by decide +kernel
theorem dL_closeMonth_11 : decode cL_closeMonth 11 = .ok (.astore_n 2, 1) := by decide +kernel
theorem dL_closeMonth_12 : decode cL_closeMonth 12 = .ok (.iconst 1, 1) := by decide +kernel
theorem dL_closeMonth_13 : decode cL_closeMonth 13 = .ok (.ireturn, 1) := by decide +kernel
theorem dL_closeMonth_14 : decode cL_closeMonth 14 = .ok (.iconst 0, 1) := by decide +kernel
theorem dL_closeMonth_15 : decode cL_closeMonth 15 = .ok (.ireturn, 1) := by decide +kernel
set_option maxRecDepth 20000 in
theorem ggL_left_X2_left : GoodIn wsL_left wsX2_left := goodIn_ca (goodIn_r _ [6, 7, 8, 9, 10, 11, 5, 12, 13, 14, 15, 16, 17, 18, 19, 20, 21, 22, 23, 24, 25, 26, 27, 28, 29, 30, 31, 32, 33, 34, 35, 36, 37, 38, 39, 40] (by decide +kernel) (by decide +kernel)) (goodIn_sub (fun _ h => List.mem_cons_of_mem _ (List.mem_append_right _ h)) (by decide +kernel))
set_option maxRecDepth 20000 in
theorem gL_left_X2_left : GoodIn wsL_left (wsV RL 38 RX2 yX2_left wsX2_left) := goodIn_app (goodIn_of _ (by decide +kernel)) ggL_left_X2_left
theorem dL_left_0 : decode cL_left 0 = .ok (.aload_n 2, 1) := by decide +kernel
theorem dL_left_1 : decode cL_left 1 = .ok (.iconst 0, 1) := by decide +kernel
theorem dL_left_2 : decode cL_left 2 = .ok (.aload_n 0, 1) := by decide +kernel
theorem dL_left_3 : decode cL_left 3 = .ok (.iload_n 1, 1) := by decide +kernel
theorem dL_left_4 : decode cL_left 4 = .ok (.invokevirtual 38, 3) := by decide +kernel
theorem dL_left_7 : decode cL_left 7 = .ok (.i2l, 1) := by decide +kernel
theorem dL_left_8 : decode cL_left 8 = .ok (.lastore, 1) := by decide +kernel
theorem dL_left_9 : decode cL_left 9 = .ok (.goto 6, 3) := by decide +kernel
theorem dL_left_12 : decode cL_left 12 = .ok (.astore_n 3, 1) := by decide +kernel
theorem dL_left_13 : decode cL_left 13 = .ok (.iconst 1, 1) := by decide +kernel
theorem dL_left_14 : decode cL_left 14 = .ok (.ireturn, 1) := by decide +kernel
theorem dL_left_15 : decode cL_left 15 = .ok (.iconst 0, 1) := by decide +kernel
theorem dL_left_16 : decode cL_left 16 = .ok (.ireturn, 1) := by decide +kernel
set_option maxRecDepth 20000 in
theorem ggL_bears_X2_bears : GoodIn wsL_bears wsX2_bears := goodIn_ca (goodIn_ca (goodIn_r _ [7, 8, 9, 10, 11, 12, 13, 14, 6, 15, 16, 17, 18, 19, 20, 21, 22, 23, 24, 25, 26, 27, 28, 29, 30, 31, 32, 33, 34, 35, 36, 37, 38, 39, 40, 41, 42, 43, 44, 45, 46, 47, 48, 49, 50, 51, 52, 53, 54, 55, 56, 57, 58, 59, 60, 61, 62, 63, 64, 65] (by decide +kernel) (by decide +kernel)) (goodIn_sub (fun _ h => List.mem_cons_of_mem _ (List.mem_append_left _ (List.mem_append_right _ h))) (by decide +kernel))) (goodIn_sub (fun _ h => List.mem_cons_of_mem _ (List.mem_append_right _ h)) (by decide +kernel))
set_option maxRecDepth 20000 in
theorem gL_bears_X2_bears : GoodIn wsL_bears (wsV RL 41 RX2 yX2_bears wsX2_bears) := goodIn_app (goodIn_of _ (by decide +kernel)) ggL_bears_X2_bears
theorem dL_bears_0 : decode cL_bears 0 = .ok (.aload_n 3, 1) := by decide +kernel
theorem dL_bears_1 : decode cL_bears 1 = .ok (.iconst 0, 1) := by decide +kernel
theorem dL_bears_2 : decode cL_bears 2 = .ok (.aload_n 0, 1) := by decide +kernel
theorem dL_bears_3 : decode cL_bears 3 = .ok (.iload_n 1, 1) := by decide +kernel
theorem dL_bears_4 : decode cL_bears 4 = .ok (.iload_n 2, 1) := by decide +kernel
theorem dL_bears_5 : decode cL_bears 5 = .ok (.invokevirtual 41, 3) := by decide +kernel
theorem dL_bears_8 : decode cL_bears 8 = .ok (.i2l, 1) := by decide +kernel
theorem dL_bears_9 : decode cL_bears 9 = .ok (.lastore, 1) := by decide +kernel
theorem dL_bears_10 : decode cL_bears 10 = .ok (.goto 11, 3) := by decide +kernel
theorem dL_bears_13 : decode cL_bears 13 = .ok (.astore 4, 2) := by decide +kernel
theorem dL_bears_15 : decode cL_bears 15 = .ok (.iconst 1, 1) := by decide +kernel
theorem dL_bears_16 : decode cL_bears 16 = .ok (.ireturn, 1) := by decide +kernel
theorem dL_bears_17 : decode cL_bears 17 = .ok (.astore 4, 2) := by decide +kernel
theorem dL_bears_19 : decode cL_bears 19 = .ok (.iconst 2, 1) := by decide +kernel
theorem dL_bears_20 : decode cL_bears 20 = .ok (.ireturn, 1) := by decide +kernel
theorem dL_bears_21 : decode cL_bears 21 = .ok (.iconst 0, 1) := by decide +kernel
theorem dL_bears_22 : decode cL_bears 22 = .ok (.ireturn, 1) := by decide +kernel
set_option maxRecDepth 20000 in
theorem ggL_due_X2_due : GoodIn wsL_due wsX2_due := goodIn_ca (goodIn_r _ [6, 7, 8, 9, 10, 11, 12, 13, 14, 15, 16, 17, 18, 19, 20, 21, 22, 23, 24, 25, 26, 27, 28, 29, 30, 31, 32, 33, 34, 35, 36] (by decide +kernel) (by decide +kernel)) (goodIn_sub (fun _ h => List.mem_cons_of_mem _ (List.mem_append_right _ h)) (by decide +kernel))
set_option maxRecDepth 20000 in
theorem gL_due_X2_due : GoodIn wsL_due (wsV RL 44 RX2 yX2_due wsX2_due) := goodIn_app (goodIn_of _ (by decide +kernel)) ggL_due_X2_due
theorem dL_due_0 : decode cL_due 0 = .ok (.aload_n 2, 1) := by decide +kernel
theorem dL_due_1 : decode cL_due 1 = .ok (.iconst 0, 1) := by decide +kernel
theorem dL_due_2 : decode cL_due 2 = .ok (.aload_n 0, 1) := by decide +kernel
theorem dL_due_3 : decode cL_due 3 = .ok (.iload_n 1, 1) := by decide +kernel
theorem dL_due_4 : decode cL_due 4 = .ok (.invokevirtual 44, 3) := by decide +kernel
theorem dL_due_7 : decode cL_due 7 = .ok (.i2l, 1) := by decide +kernel
theorem dL_due_8 : decode cL_due 8 = .ok (.lastore, 1) := by decide +kernel
theorem dL_due_9 : decode cL_due 9 = .ok (.goto 6, 3) := by decide +kernel
theorem dL_due_12 : decode cL_due 12 = .ok (.astore_n 3, 1) := by decide +kernel
theorem dL_due_13 : decode cL_due 13 = .ok (.iconst 1, 1) := by decide +kernel
theorem dL_due_14 : decode cL_due 14 = .ok (.ireturn, 1) := by decide +kernel
theorem dL_due_15 : decode cL_due 15 = .ok (.iconst 0, 1) := by decide +kernel
theorem dL_due_16 : decode cL_due 16 = .ok (.ireturn, 1) := by decide +kernel
set_option maxRecDepth 20000 in
theorem ggL_balance_X2_balance : GoodIn wsL_balance wsX2_balance := goodIn_ca (goodIn_r _ [6, 7, 8, 9, 10, 11, 12, 13, 14, 15, 16, 17, 18, 19, 20, 21, 22] (by decide +kernel) (by decide +kernel)) (goodIn_sub (fun _ h => List.mem_cons_of_mem _ (List.mem_append_right _ h)) (by decide +kernel))
set_option maxRecDepth 20000 in
theorem gL_balance_X2_balance : GoodIn wsL_balance (wsV RL 47 RX2 yX2_balance wsX2_balance) := goodIn_app (goodIn_of _ (by decide +kernel)) ggL_balance_X2_balance
theorem dL_balance_0 : decode cL_balance 0 = .ok (.aload_n 2, 1) := by decide +kernel
theorem dL_balance_1 : decode cL_balance 1 = .ok (.iconst 0, 1) := by decide +kernel
theorem dL_balance_2 : decode cL_balance 2 = .ok (.aload_n 0, 1) := by decide +kernel
theorem dL_balance_3 : decode cL_balance 3 = .ok (.iload_n 1, 1) := by decide +kernel
theorem dL_balance_4 : decode cL_balance 4 = .ok (.invokevirtual 47, 3) := by decide +kernel
theorem dL_balance_7 : decode cL_balance 7 = .ok (.i2l, 1) := by decide +kernel
theorem dL_balance_8 : decode cL_balance 8 = .ok (.lastore, 1) := by decide +kernel
theorem dL_balance_9 : decode cL_balance 9 = .ok (.goto 6, 3) := by decide +kernel
theorem dL_balance_12 : decode cL_balance 12 = .ok (.astore_n 3, 1) := by decide +kernel
theorem dL_balance_13 : decode cL_balance 13 = .ok (.iconst 1, 1) := by decide +kernel
theorem dL_balance_14 : decode cL_balance 14 = .ok (.ireturn, 1) := by decide +kernel
theorem dL_balance_15 : decode cL_balance 15 = .ok (.iconst 0, 1) := by decide +kernel
theorem dL_balance_16 : decode cL_balance 16 = .ok (.ireturn, 1) := by decide +kernel
set_option maxRecDepth 20000 in
theorem ggL_tranche_X2_tranche : GoodIn wsL_tranche wsX2_tranche := goodIn_ca (goodIn_r _ [6, 7, 8, 9, 10, 11, 12, 13, 14, 15, 16, 17, 18, 19, 20, 21, 22, 23, 24] (by decide +kernel) (by decide +kernel)) (goodIn_sub (fun _ h => List.mem_cons_of_mem _ (List.mem_append_right _ h)) (by decide +kernel))
set_option maxRecDepth 20000 in
theorem gL_tranche_X2_tranche : GoodIn wsL_tranche (wsV RL 50 RX2 yX2_tranche wsX2_tranche) := goodIn_app (goodIn_of _ (by decide +kernel)) ggL_tranche_X2_tranche
theorem dL_tranche_0 : decode cL_tranche 0 = .ok (.aload_n 2, 1) := by decide +kernel
theorem dL_tranche_1 : decode cL_tranche 1 = .ok (.iconst 0, 1) := by decide +kernel
theorem dL_tranche_2 : decode cL_tranche 2 = .ok (.aload_n 0, 1) := by decide +kernel
theorem dL_tranche_3 : decode cL_tranche 3 = .ok (.iload_n 1, 1) := by decide +kernel
theorem dL_tranche_4 : decode cL_tranche 4 = .ok (.invokevirtual 50, 3) := by decide +kernel
theorem dL_tranche_7 : decode cL_tranche 7 = .ok (.i2l, 1) := by decide +kernel
theorem dL_tranche_8 : decode cL_tranche 8 = .ok (.lastore, 1) := by decide +kernel
theorem dL_tranche_9 : decode cL_tranche 9 = .ok (.goto 6, 3) := by decide +kernel
theorem dL_tranche_12 : decode cL_tranche 12 = .ok (.astore_n 3, 1) := by decide +kernel
theorem dL_tranche_13 : decode cL_tranche 13 = .ok (.iconst 1, 1) := by decide +kernel
theorem dL_tranche_14 : decode cL_tranche 14 = .ok (.ireturn, 1) := by decide +kernel
theorem dL_tranche_15 : decode cL_tranche 15 = .ok (.iconst 0, 1) := by decide +kernel
theorem dL_tranche_16 : decode cL_tranche 16 = .ok (.ireturn, 1) := by decide +kernel
set_option maxRecDepth 20000 in
theorem ggL_margin_X2_margin : GoodIn wsL_margin wsX2_margin := goodIn_ca (goodIn_r _ [6, 7, 8, 9, 10, 11, 12, 5, 13, 14, 15, 16, 17, 18, 19, 20, 21, 22, 23, 24, 25, 26, 27] (by decide +kernel) (by decide +kernel)) (goodIn_sub (fun _ h => List.mem_cons_of_mem _ (List.mem_append_right _ h)) (by decide +kernel))
set_option maxRecDepth 20000 in
theorem gL_margin_X2_margin : GoodIn wsL_margin (wsV RL 53 RX2 yX2_margin wsX2_margin) := goodIn_app (goodIn_of _ (by decide +kernel)) ggL_margin_X2_margin
theorem dL_margin_0 : decode cL_margin 0 = .ok (.aload_n 3, 1) := by decide +kernel
theorem dL_margin_1 : decode cL_margin 1 = .ok (.iconst 0, 1) := by decide +kernel
theorem dL_margin_2 : decode cL_margin 2 = .ok (.aload_n 0, 1) := by decide +kernel
theorem dL_margin_3 : decode cL_margin 3 = .ok (.iload_n 1, 1) := by decide +kernel
theorem dL_margin_4 : decode cL_margin 4 = .ok (.iload_n 2, 1) := by decide +kernel
theorem dL_margin_5 : decode cL_margin 5 = .ok (.invokevirtual 53, 3) := by decide +kernel
theorem dL_margin_8 : decode cL_margin 8 = .ok (.i2l, 1) := by decide +kernel
theorem dL_margin_9 : decode cL_margin 9 = .ok (.lastore, 1) := by decide +kernel
theorem dL_margin_10 : decode cL_margin 10 = .ok (.goto 7, 3) := by decide +kernel
theorem dL_margin_13 : decode cL_margin 13 = .ok (.astore 4, 2) := by decide +kernel
theorem dL_margin_15 : decode cL_margin 15 = .ok (.iconst 1, 1) := by decide +kernel
theorem dL_margin_16 : decode cL_margin 16 = .ok (.ireturn, 1) := by decide +kernel
theorem dL_margin_17 : decode cL_margin 17 = .ok (.iconst 0, 1) := by decide +kernel
theorem dL_margin_18 : decode cL_margin 18 = .ok (.ireturn, 1) := by decide +kernel
set_option maxRecDepth 20000 in
theorem ggL_byProduct_X2_byProduct : GoodIn wsL_byProduct wsX2_byProduct := goodIn_ca (goodIn_r _ [6, 7, 8, 9, 10, 11, 12, 5, 13, 14, 15, 16, 17, 18, 19, 20, 21, 22, 23, 24, 25, 26, 27] (by decide +kernel) (by decide +kernel)) (goodIn_sub (fun _ h => List.mem_cons_of_mem _ (List.mem_append_right _ h)) (by decide +kernel))
set_option maxRecDepth 20000 in
theorem gL_byProduct_X2_byProduct : GoodIn wsL_byProduct (wsV RL 56 RX2 yX2_byProduct wsX2_byProduct) := goodIn_app (goodIn_of _ (by decide +kernel)) ggL_byProduct_X2_byProduct
theorem dL_byProduct_0 : decode cL_byProduct 0 = .ok (.aload_n 3, 1) := by decide +kernel
theorem dL_byProduct_1 : decode cL_byProduct 1 = .ok (.iconst 0, 1) := by decide +kernel
theorem dL_byProduct_2 : decode cL_byProduct 2 = .ok (.aload_n 0, 1) := by decide +kernel
theorem dL_byProduct_3 : decode cL_byProduct 3 = .ok (.iload_n 1, 1) := by decide +kernel
theorem dL_byProduct_4 : decode cL_byProduct 4 = .ok (.iload_n 2, 1) := by decide +kernel
theorem dL_byProduct_5 : decode cL_byProduct 5 = .ok (.invokevirtual 56, 3) := by decide +kernel
theorem dL_byProduct_8 : decode cL_byProduct 8 = .ok (.i2l, 1) := by decide +kernel
theorem dL_byProduct_9 : decode cL_byProduct 9 = .ok (.lastore, 1) := by decide +kernel
theorem dL_byProduct_10 : decode cL_byProduct 10 = .ok (.goto 7, 3) := by decide +kernel
theorem dL_byProduct_13 : decode cL_byProduct 13 = .ok (.astore 4, 2) := by decide +kernel
theorem dL_byProduct_15 : decode cL_byProduct 15 = .ok (.iconst 1, 1) := by decide +kernel
theorem dL_byProduct_16 : decode cL_byProduct 16 = .ok (.ireturn, 1) := by decide +kernel
theorem dL_byProduct_17 : decode cL_byProduct 17 = .ok (.iconst 0, 1) := by decide +kernel
theorem dL_byProduct_18 : decode cL_byProduct 18 = .ok (.ireturn, 1) := by decide +kernel
set_option maxRecDepth 20000 in
theorem ggL_treasury_X2_treasury : GoodIn wsL_treasury wsX2_treasury := goodIn_ca (goodIn_r _ [6, 7, 8, 9, 10, 11, 12, 5, 13, 14, 15, 16, 17, 18, 19, 20, 21, 22, 23, 24, 25, 26, 27] (by decide +kernel) (by decide +kernel)) (goodIn_sub (fun _ h => List.mem_cons_of_mem _ (List.mem_append_right _ h)) (by decide +kernel))
set_option maxRecDepth 20000 in
theorem gL_treasury_X2_treasury : GoodIn wsL_treasury (wsV RL 59 RX2 yX2_treasury wsX2_treasury) := goodIn_app (goodIn_of _ (by decide +kernel)) ggL_treasury_X2_treasury
theorem dL_treasury_0 : decode cL_treasury 0 = .ok (.aload_n 2, 1) := by decide +kernel
theorem dL_treasury_1 : decode cL_treasury 1 = .ok (.iconst 0, 1) := by decide +kernel
theorem dL_treasury_2 : decode cL_treasury 2 = .ok (.aload_n 0, 1) := by decide +kernel
theorem dL_treasury_3 : decode cL_treasury 3 = .ok (.iload_n 1, 1) := by decide +kernel
theorem dL_treasury_4 : decode cL_treasury 4 = .ok (.invokevirtual 59, 3) := by decide +kernel
theorem dL_treasury_7 : decode cL_treasury 7 = .ok (.i2l, 1) := by decide +kernel
theorem dL_treasury_8 : decode cL_treasury 8 = .ok (.lastore, 1) := by decide +kernel
theorem dL_treasury_9 : decode cL_treasury 9 = .ok (.goto 6, 3) := by decide +kernel
theorem dL_treasury_12 : decode cL_treasury 12 = .ok (.astore_n 3, 1) := by decide +kernel
theorem dL_treasury_13 : decode cL_treasury 13 = .ok (.iconst 1, 1) := by decide +kernel
theorem dL_treasury_14 : decode cL_treasury 14 = .ok (.ireturn, 1) := by decide +kernel
theorem dL_treasury_15 : decode cL_treasury 15 = .ok (.iconst 0, 1) := by decide +kernel
theorem dL_treasury_16 : decode cL_treasury 16 = .ok (.ireturn, 1) := by decide +kernel
set_option maxRecDepth 20000 in
theorem ggL_interest_X2_interest : GoodIn wsL_interest wsX2_interest := goodIn_ca (goodIn_r _ [6, 7, 8, 9, 10, 11, 12, 5, 13, 14, 15, 16, 17, 18, 19, 20, 21, 22, 23, 24, 25, 26, 27] (by decide +kernel) (by decide +kernel)) (goodIn_sub (fun _ h => List.mem_cons_of_mem _ (List.mem_append_right _ h)) (by decide +kernel))
set_option maxRecDepth 20000 in
theorem gL_interest_X2_interest : GoodIn wsL_interest (wsV RL 62 RX2 yX2_interest wsX2_interest) := goodIn_app (goodIn_of _ (by decide +kernel)) ggL_interest_X2_interest
theorem dL_interest_0 : decode cL_interest 0 = .ok (.aload_n 2, 1) := by decide +kernel
theorem dL_interest_1 : decode cL_interest 1 = .ok (.iconst 0, 1) := by decide +kernel
theorem dL_interest_2 : decode cL_interest 2 = .ok (.aload_n 0, 1) := by decide +kernel
theorem dL_interest_3 : decode cL_interest 3 = .ok (.iload_n 1, 1) := by decide +kernel
theorem dL_interest_4 : decode cL_interest 4 = .ok (.invokevirtual 62, 3) := by decide +kernel
theorem dL_interest_7 : decode cL_interest 7 = .ok (.i2l, 1) := by decide +kernel
theorem dL_interest_8 : decode cL_interest 8 = .ok (.lastore, 1) := by decide +kernel
theorem dL_interest_9 : decode cL_interest 9 = .ok (.goto 6, 3) := by decide +kernel
theorem dL_interest_12 : decode cL_interest 12 = .ok (.astore_n 3, 1) := by decide +kernel
theorem dL_interest_13 : decode cL_interest 13 = .ok (.iconst 1, 1) := by decide +kernel
theorem dL_interest_14 : decode cL_interest 14 = .ok (.ireturn, 1) := by decide +kernel
theorem dL_interest_15 : decode cL_interest 15 = .ok (.iconst 0, 1) := by decide +kernel
theorem dL_interest_16 : decode cL_interest 16 = .ok (.ireturn, 1) := by decide +kernel
