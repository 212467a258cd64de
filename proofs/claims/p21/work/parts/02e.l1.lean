theorem dL_cell_0 : decode cL_cell 0 = .ok (.iload_n 1, 1) := by decide +kernel
theorem dL_cell_1 : decode cL_cell 1 = .ok (.aload_n 0, 1) := by decide +kernel
theorem dL_cell_2 : decode cL_cell 2 = .ok (.arraylength, 1) := by decide +kernel
theorem dL_cell_3 : decode cL_cell 3 = .ok (.if_icmp .ge 9, 3) := by decide +kernel
theorem dL_cell_6 : decode cL_cell 6 = .ok (.aload_n 0, 1) := by decide +kernel
theorem dL_cell_7 : decode cL_cell 7 = .ok (.iload_n 1, 1) := by decide +kernel
theorem dL_cell_8 : decode cL_cell 8 = .ok (.iaload, 1) := by decide +kernel
theorem dL_cell_9 : decode cL_cell 9 = .ok (.goto 13, 3) := by decide +kernel
theorem dL_cell_12 : decode cL_cell 12 = .ok (.ldc 7, 2) := by decide +kernel
theorem dL_cell_14 : decode cL_cell 14 = .ok (.iload_n 1, 1) := by decide +kernel
theorem dL_cell_15 : decode cL_cell 15 = .ok (.bipush 19, 2) := by decide +kernel
theorem dL_cell_17 : decode cL_cell 17 = .ok (.iadd, 1) := by decide +kernel
theorem dL_cell_18 : decode cL_cell 18 = .ok (.imul, 1) := by decide +kernel
theorem dL_cell_19 : decode cL_cell 19 = .ok (.ldc 8, 2) := by decide +kernel
theorem dL_cell_21 : decode cL_cell 21 = .ok (.iadd, 1) := by decide +kernel
theorem dL_cell_22 : decode cL_cell 22 = .ok (.ireturn, 1) := by decide +kernel
theorem dL_low_0 : decode cL_low 0 = .ok (.iload_n 0, 1) := by decide +kernel
theorem dL_low_1 : decode cL_low 1 = .ok (.ldc 9, 2) := by decide +kernel
theorem dL_low_3 : decode cL_low 3 = .ok (.iand, 1) := by decide +kernel
theorem dL_low_4 : decode cL_low 4 = .ok (.iload_n 1, 1) := by decide +kernel
theorem dL_low_5 : decode cL_low 5 = .ok (.irem, 1) := by decide +kernel
theorem dL_low_6 : decode cL_low 6 = .ok (.ireturn, 1) := by decide +kernel
set_option maxRecDepth 20000 in
theorem ggL_calls_X2_repay : GoodIn wsL_calls wsX2_repay := goodIn_ca (goodIn_ca (goodIn_r _ [6, 7, 8, 9, 10, 11, 12, 13, 5, 14, 15, 16, 17, 18, 19, 20, 21, 22, 23, 24, 119, 120, 121, 122, 123, 124, 125, 126, 127, 128, 129, 130, 131, 132, 133, 134, 135, 136, 137, 138, 139] (by decide +kernel) (by decide +kernel)) (goodIn_sub (fun _ h => List.mem_cons_of_mem _ (List.mem_append_left _ (List.mem_append_left _ (List.mem_append_right _ h)))) (by decide +kernel))) (goodIn_sub (fun _ h => List.mem_cons_of_mem _ (List.mem_append_left _ (List.mem_append_right _ h))) (by decide +kernel))
set_option maxRecDepth 20000 in
theorem gL_calls_X2_repay : GoodIn wsL_calls (wsV RL 10 RX2 yX2_repay wsX2_repay) := goodIn_app (goodIn_of _ (by decide +kernel)) ggL_calls_X2_repay
set_option maxRecDepth 20000 in
theorem ggL_calls_X2_deposit : GoodIn wsL_calls wsX2_deposit := goodIn_ca (goodIn_ca (goodIn_ca (goodIn_r _ [28, 7, 8, 29, 30, 9, 10, 31, 32, 33, 34, 35, 36, 37, 38, 39, 5, 40, 41, 42, 43, 44, 45, 46, 47, 48, 49, 50, 51, 52, 53, 54, 55, 56, 127, 128, 129, 130, 131, 132, 133, 134, 135, 136, 137, 138, 139, 140, 141] (by decide +kernel) (by decide +kernel)) (goodIn_sub (fun _ h => List.mem_cons_of_mem _ (List.mem_append_left _ (List.mem_append_left _ (List.mem_append_right _ h)))) (by decide +kernel))) (goodIn_sub (fun _ h => List.mem_cons_of_mem _ (List.mem_append_right _ h)) (by decide +kernel))) (goodIn_sub (fun _ h => List.mem_cons_of_mem _ (List.mem_append_left _ (List.mem_append_right _ h))) (by decide +kernel))
set_option maxRecDepth 20000 in
theorem gL_calls_X2_deposit : GoodIn wsL_calls (wsV RL 16 RX2 yX2_deposit wsX2_deposit) := goodIn_app (goodIn_of _ (by decide +kernel)) ggL_calls_X2_deposit
set_option maxRecDepth 20000 in
theorem ggL_calls_X2_closeMonth : GoodIn wsL_calls wsX2_closeMonth := goodIn_ca (goodIn_r _ [60, 9, 10, 34, 35, 36, 61, 62, 63, 5, 64, 65, 66, 15, 67, 68, 69, 70, 71, 72, 73, 17, 74, 75, 76, 77, 78, 79, 80, 81, 16, 18, 19, 20, 21, 82, 83, 84, 85, 86, 87, 88, 89, 90, 91, 92, 93, 94, 95, 96, 97, 98, 99, 100, 101, 102, 33, 103, 104, 48, 105, 106, 55, 56, 107, 108, 109, 110, 41, 42, 43, 44, 45, 46, 111, 112, 113, 114, 115, 116, 117, 118, 37, 38, 39, 40, 52, 53, 54, 127, 128, 129, 130, 131, 132, 133, 134, 135, 136, 137, 138, 139, 119, 120, 121, 122, 123, 124, 125, 126, 140, 141] (by decide +kernel) (by decide +kernel)) (goodIn_sub (fun _ h => List.mem_cons_of_mem _ (List.mem_append_left _ (List.mem_append_right _ h))) (by decide +kernel))
set_option maxRecDepth 20000 in
theorem gL_calls_X2_closeMonth : GoodIn wsL_calls (wsV RL 20 RX2 yX2_closeMonth wsX2_closeMonth) := goodIn_app (goodIn_of _ (by decide +kernel)) ggL_calls_X2_closeMonth
theorem dL_calls_0 : decode cL_calls 0 = .ok (.iload_n 1, 1) := by decide +kernel
theorem dL_calls_1 : decode cL_calls 1 = .ok (.ifCond .ne 11, 3) := by decide +kernel
theorem dL_calls_4 : decode cL_calls 4 = .ok (.aload_n 0, 1) := by decide +kernel
theorem dL_calls_5 : decode cL_calls 5 = .ok (.iload_n 2, 1) := by decide +kernel
theorem dL_calls_6 : decode cL_calls 6 = .ok (.invokevirtual 10, 3) := by decide +kernel
theorem dL_calls_9 : decode cL_calls 9 = .ok (.goto 21, 3) := by decide +kernel
theorem dL_calls_12 : decode cL_calls 12 = .ok (.iload_n 1, 1) := by decide +kernel
theorem dL_calls_13 : decode cL_calls 13 = .ok (.iconst 1, 1) := by decide +kernel
theorem dL_calls_14 : decode cL_calls 14 = .ok (.if_icmp .ne 12, 3) := by decide +kernel
theorem dL_calls_17 : decode cL_calls 17 = .ok (.aload_n 0, 1) := by decide +kernel
theorem dL_calls_18 : decode cL_calls 18 = .ok (.iload_n 2, 1) := by decide +kernel
theorem dL_calls_19 : decode cL_calls 19 = .ok (.iload_n 3, 1) := by decide +kernel
theorem dL_calls_20 : decode cL_calls 20 = .ok (.invokevirtual 16, 3) := by decide +kernel
theorem dL_calls_23 : decode cL_calls 23 = .ok (.goto 7, 3) := by decide +kernel
theorem dL_calls_26 : decode cL_calls 26 = .ok (.aload_n 0, 1) := by decide +kernel
theorem dL_calls_27 : decode cL_calls 27 = .ok (.invokevirtual 20, 3) := by decide +kernel
theorem dL_calls_30 : decode cL_calls 30 = .ok (.ireturn, 1) := by decide +kernel
theorem dL_calls_31 : decode cL_calls 31 = .ok (.astore 4, 2) := by decide +kernel
theorem dL_calls_33 : decode cL_calls 33 = .ok (.bipush (-3), 2) := by decide +kernel
theorem dL_calls_35 : decode cL_calls 35 = .ok (.ireturn, 1) := by decide +kernel
theorem dL_part_0 : decode cL_part 0 = .ok (.bipush 8, 2) := by decide +kernel
theorem dL_part_2 : decode cL_part 2 = .ok (.iload_n 0, 1) := by decide +kernel
theorem dL_part_3 : decode cL_part 3 = .ok (.imul, 1) := by decide +kernel
theorem dL_part_4 : decode cL_part 4 = .ok (.istore 4, 2) := by decide +kernel
theorem dL_part_6 : decode cL_part 6 = .ok (.aload_n 2, 1) := by decide +kernel
theorem dL_part_7 : decode cL_part 7 = .ok (.iload 4, 2) := by decide +kernel
theorem dL_part_9 : decode cL_part 9 = .ok (.iconst 4, 1) := by decide +kernel
theorem dL_part_10 : decode cL_part 10 = .ok (.iadd, 1) := by decide +kernel
theorem dL_part_11 : decode cL_part 11 = .ok (.iaload, 1) := by decide +kernel
theorem dL_part_12 : decode cL_part 12 = .ok (.istore 5, 2) := by decide +kernel
theorem dL_part_14 : decode cL_part 14 = .ok (.iload_n 1, 1) := by decide +kernel
theorem dL_part_15 : decode cL_part 15 = .ok (.aload_n 2, 1) := by decide +kernel
theorem dL_part_16 : decode cL_part 16 = .ok (.iload 4, 2) := by decide +kernel
theorem dL_part_18 : decode cL_part 18 = .ok (.iconst 5, 1) := by decide +kernel
theorem dL_part_19 : decode cL_part 19 = .ok (.iadd, 1) := by decide +kernel
theorem dL_part_20 : decode cL_part 20 = .ok (.iaload, 1) := by decide +kernel
theorem dL_part_21 : decode cL_part 21 = .ok (.isub, 1) := by decide +kernel
theorem dL_part_22 : decode cL_part 22 = .ok (.iconst 1, 1) := by decide +kernel
theorem dL_part_23 : decode cL_part 23 = .ok (.iadd, 1) := by decide +kernel
theorem dL_part_24 : decode cL_part 24 = .ok (.istore 6, 2) := by decide +kernel
theorem dL_part_26 : decode cL_part 26 = .ok (.aload_n 2, 1) := by decide +kernel
theorem dL_part_27 : decode cL_part 27 = .ok (.iload 4, 2) := by decide +kernel
theorem dL_part_29 : decode cL_part 29 = .ok (.iconst 2, 1) := by decide +kernel
theorem dL_part_30 : decode cL_part 30 = .ok (.iadd, 1) := by decide +kernel
theorem dL_part_31 : decode cL_part 31 = .ok (.iaload, 1) := by decide +kernel
theorem dL_part_32 : decode cL_part 32 = .ok (.iload 5, 2) := by decide +kernel
theorem dL_part_34 : decode cL_part 34 = .ok (.idiv, 1) := by decide +kernel
theorem dL_part_35 : decode cL_part 35 = .ok (.istore 7, 2) := by decide +kernel
theorem dL_part_37 : decode cL_part 37 = .ok (.aload_n 2, 1) := by decide +kernel
theorem dL_part_38 : decode cL_part 38 = .ok (.iload 4, 2) := by decide +kernel
theorem dL_part_40 : decode cL_part 40 = .ok (.bipush 7, 2) := by decide +kernel
theorem dL_part_42 : decode cL_part 42 = .ok (.iadd, 1) := by decide +kernel
theorem dL_part_43 : decode cL_part 43 = .ok (.iaload, 1) := by decide +kernel
theorem dL_part_44 : decode cL_part 44 = .ok (.iconst 1, 1) := by decide +kernel
theorem dL_part_45 : decode cL_part 45 = .ok (.if_icmp .eq 17, 3) := by decide +kernel
theorem dL_part_48 : decode cL_part 48 = .ok (.iload_n 1, 1) := by decide +kernel
theorem dL_part_49 : decode cL_part 49 = .ok (.aload_n 3, 1) := by decide +kernel
theorem dL_part_50 : decode cL_part 50 = .ok (.iconst 0, 1) := by decide +kernel
theorem dL_part_51 : decode cL_part 51 = .ok (.iaload, 1) := by decide +kernel
theorem dL_part_52 : decode cL_part 52 = .ok (.if_icmp .lt 10, 3) := by decide +kernel
theorem dL_part_55 : decode cL_part 55 = .ok (.iload 6, 2) := by decide +kernel
theorem dL_part_57 : decode cL_part 57 = .ok (.iload 5, 2) := by decide +kernel
theorem dL_part_59 : decode cL_part 59 = .ok (.if_icmp .le 7, 3) := by decide +kernel
theorem dL_part_62 : decode cL_part 62 = .ok (.iconst 0, 1) := by decide +kernel
theorem dL_part_63 : decode cL_part 63 = .ok (.goto 30, 3) := by decide +kernel
theorem dL_part_66 : decode cL_part 66 = .ok (.iload 6, 2) := by decide +kernel
theorem dL_part_68 : decode cL_part 68 = .ok (.iload 5, 2) := by decide +kernel
theorem dL_part_70 : decode cL_part 70 = .ok (.if_icmp .ge 8, 3) := by decide +kernel
theorem dL_part_73 : decode cL_part 73 = .ok (.iload 7, 2) := by decide +kernel
theorem dL_part_75 : decode cL_part 75 = .ok (.goto 18, 3) := by decide +kernel
theorem dL_part_78 : decode cL_part 78 = .ok (.aload_n 2, 1) := by decide +kernel
theorem dL_part_79 : decode cL_part 79 = .ok (.iload 4, 2) := by decide +kernel
theorem dL_part_81 : decode cL_part 81 = .ok (.iconst 2, 1) := by decide +kernel
theorem dL_part_82 : decode cL_part 82 = .ok (.iadd, 1) := by decide +kernel
theorem dL_part_83 : decode cL_part 83 = .ok (.iaload, 1) := by decide +kernel
theorem dL_part_84 : decode cL_part 84 = .ok (.iload 7, 2) := by decide +kernel
theorem dL_part_86 : decode cL_part 86 = .ok (.iload 5, 2) := by decide +kernel
theorem dL_part_88 : decode cL_part 88 = .ok (.imul, 1) := by decide +kernel
theorem dL_part_89 : decode cL_part 89 = .ok (.isub, 1) := by decide +kernel
theorem dL_part_90 : decode cL_part 90 = .ok (.iload 7, 2) := by decide +kernel
theorem dL_part_92 : decode cL_part 92 = .ok (.iadd, 1) := by decide +kernel
theorem dL_part_93 : decode cL_part 93 = .ok (.ireturn, 1) := by decide +kernel
set_option maxRecDepth 20000 in
theorem ggL_left_L_part : GoodIn wsL_left wsL_part := goodIn_r _ [4] (by decide +kernel) (by decide +kernel)
set_option maxRecDepth 20000 in
theorem gL_left_L_part : GoodIn wsL_left (va_wsS RL 26 yL_part wsL_part) := goodIn_app (goodIn_of _ (by decide +kernel)) ggL_left_L_part
theorem dL_left_0 : decode cL_left 0 = .ok (.iconst 0, 1) := by decide +kernel
theorem dL_left_1 : decode cL_left 1 = .ok (.istore_n 3, 1) := by decide +kernel
theorem dL_left_2 : decode cL_left 2 = .ok (.aload_n 2, 1) := by decide +kernel
theorem dL_left_3 : decode cL_left 3 = .ok (.iconst 0, 1) := by decide +kernel
theorem dL_left_4 : decode cL_left 4 = .ok (.iaload, 1) := by decide +kernel
theorem dL_left_5 : decode cL_left 5 = .ok (.istore 4, 2) := by decide +kernel
theorem dL_left_7 : decode cL_left 7 = .ok (.iload 4, 2) := by decide +kernel
theorem dL_left_9 : decode cL_left 9 = .ok (.aload_n 2, 1) := by decide +kernel
theorem dL_left_10 : decode cL_left 10 = .ok (.iconst 0, 1) := by decide +kernel
theorem dL_left_11 : decode cL_left 11 = .ok (.iaload, 1) := by decide +kernel
theorem dL_left_12 : decode cL_left 12 = .ok (.bipush 6, 2) := by decide +kernel
theorem dL_left_14 : decode cL_left 14 = .ok (.iadd, 1) := by decide +kernel
theorem dL_left_15 : decode cL_left 15 = .ok (.if_icmp .ge 20, 3) := by decide +kernel
theorem dL_left_18 : decode cL_left 18 = .ok (.iload_n 3, 1) := by decide +kernel
theorem dL_left_19 : decode cL_left 19 = .ok (.iload_n 0, 1) := by decide +kernel
theorem dL_left_20 : decode cL_left 20 = .ok (.iload 4, 2) := by decide +kernel
theorem dL_left_22 : decode cL_left 22 = .ok (.aload_n 1, 1) := by decide +kernel
theorem dL_left_23 : decode cL_left 23 = .ok (.aload_n 2, 1) := by decide +kernel
theorem dL_left_24 : decode cL_left 24 = .ok (.invokestatic 26, 3) := by decide +kernel
theorem dL_left_27 : decode cL_left 27 = .ok (.iadd, 1) := by decide +kernel
theorem dL_left_28 : decode cL_left 28 = .ok (.istore_n 3, 1) := by decide +kernel
theorem dL_left_29 : decode cL_left 29 = .ok (.iinc 4 1, 3) := by decide +kernel
theorem dL_left_32 : decode cL_left 32 = .ok (.goto (-25), 3) := by decide +kernel
theorem dL_left_35 : decode cL_left 35 = .ok (.iload_n 3, 1) := by decide +kernel
theorem dL_left_36 : decode cL_left 36 = .ok (.ireturn, 1) := by decide +kernel
set_option maxRecDepth 20000 in
theorem ggL_bears_L_left : GoodIn wsL_bears wsL_left := goodIn_r _ [5, 6, 7, 4, 8] (by decide +kernel) (by decide +kernel)
set_option maxRecDepth 20000 in
theorem gL_bears_L_left : GoodIn wsL_bears (va_wsS RL 32 yL_left wsL_left) := goodIn_app (goodIn_of _ (by decide +kernel)) ggL_bears_L_left
set_option maxRecDepth 20000 in
theorem ggL_bears_L_part : GoodIn wsL_bears wsL_part := goodIn_r _ [8] (by decide +kernel) (by decide +kernel)
set_option maxRecDepth 20000 in
theorem gL_bears_L_part : GoodIn wsL_bears (va_wsS RL 26 yL_part wsL_part) := goodIn_app (goodIn_of _ (by decide +kernel)) ggL_bears_L_part
theorem dL_bears_0 : decode cL_bears 0 = .ok (.iload_n 0, 1) := by decide +kernel
theorem dL_bears_1 : decode cL_bears 1 = .ok (.aload_n 2, 1) := by decide +kernel
theorem dL_bears_2 : decode cL_bears 2 = .ok (.aload 4, 2) := by decide +kernel
theorem dL_bears_4 : decode cL_bears 4 = .ok (.invokestatic 32, 3) := by decide +kernel
theorem dL_bears_7 : decode cL_bears 7 = .ok (.istore 5, 2) := by decide +kernel
theorem dL_bears_9 : decode cL_bears 9 = .ok (.lconst 0, 1) := by decide +kernel
theorem dL_bears_10 : decode cL_bears 10 = .ok (.lstore 6, 2) := by decide +kernel
theorem dL_bears_12 : decode cL_bears 12 = .ok (.iconst 0, 1) := by decide +kernel
theorem dL_bears_13 : decode cL_bears 13 = .ok (.istore 8, 2) := by decide +kernel
theorem dL_bears_15 : decode cL_bears 15 = .ok (.iload 8, 2) := by decide +kernel
theorem dL_bears_17 : decode cL_bears 17 = .ok (.bipush 6, 2) := by decide +kernel
theorem dL_bears_19 : decode cL_bears 19 = .ok (.if_icmp .ge 49, 3) := by decide +kernel
theorem dL_bears_22 : decode cL_bears 22 = .ok (.iload_n 1, 1) := by decide +kernel
theorem dL_bears_23 : decode cL_bears 23 = .ok (.iconst 1, 1) := by decide +kernel
theorem dL_bears_24 : decode cL_bears 24 = .ok (.if_icmp .ne 44, 3) := by decide +kernel
theorem dL_bears_27 : decode cL_bears 27 = .ok (.lload 6, 2) := by decide +kernel
theorem dL_bears_29 : decode cL_bears 29 = .ok (.iload_n 0, 1) := by decide +kernel
theorem dL_bears_30 : decode cL_bears 30 = .ok (.aload_n 2, 1) := by decide +kernel
theorem dL_bears_31 : decode cL_bears 31 = .ok (.bipush 8, 2) := by decide +kernel
theorem dL_bears_33 : decode cL_bears 33 = .ok (.iload_n 0, 1) := by decide +kernel
theorem dL_bears_34 : decode cL_bears 34 = .ok (.imul, 1) := by decide +kernel
theorem dL_bears_35 : decode cL_bears 35 = .ok (.iconst 5, 1) := by decide +kernel
theorem dL_bears_36 : decode cL_bears 36 = .ok (.iadd, 1) := by decide +kernel
theorem dL_bears_37 : decode cL_bears 37 = .ok (.iaload, 1) := by decide +kernel
theorem dL_bears_38 : decode cL_bears 38 = .ok (.iload 8, 2) := by decide +kernel
theorem dL_bears_40 : decode cL_bears 40 = .ok (.iadd, 1) := by decide +kernel
theorem dL_bears_41 : decode cL_bears 41 = .ok (.aload_n 2, 1) := by decide +kernel
theorem dL_bears_42 : decode cL_bears 42 = .ok (.aload 4, 2) := by decide +kernel
theorem dL_bears_44 : decode cL_bears 44 = .ok (.invokestatic 26, 3) := by decide +kernel
theorem dL_bears_47 : decode cL_bears 47 = .ok (.i2l, 1) := by decide +kernel
theorem dL_bears_48 : decode cL_bears 48 = .ok (.aload_n 3, 1) := by decide +kernel
theorem dL_bears_49 : decode cL_bears 49 = .ok (.bipush 6, 2) := by decide +kernel
theorem dL_bears_51 : decode cL_bears 51 = .ok (.iload_n 0, 1) := by decide +kernel
theorem dL_bears_52 : decode cL_bears 52 = .ok (.imul, 1) := by decide +kernel
theorem dL_bears_53 : decode cL_bears 53 = .ok (.iload 8, 2) := by decide +kernel
theorem dL_bears_55 : decode cL_bears 55 = .ok (.iadd, 1) := by decide +kernel
theorem dL_bears_56 : decode cL_bears 56 = .ok (.iaload, 1) := by decide +kernel
theorem dL_bears_57 : decode cL_bears 57 = .ok (.i2l, 1) := by decide +kernel
theorem dL_bears_58 : decode cL_bears 58 = .ok (.lmul, 1) := by decide +kernel
theorem dL_bears_59 : decode cL_bears 59 = .ok (.ladd, 1) := by decide +kernel
theorem dL_bears_60 : decode cL_bears 60 = .ok (.lstore 6, 2) := by decide +kernel
theorem dL_bears_62 : decode cL_bears 62 = .ok (.iinc 8 1, 3) := by decide +kernel
theorem dL_bears_65 : decode cL_bears 65 = .ok (.goto (-50), 3) := by decide +kernel
theorem dL_bears_68 : decode cL_bears 68 = .ok (.iload_n 1, 1) := by decide +kernel
theorem dL_bears_69 : decode cL_bears 69 = .ok (.ifCond .ne 19, 3) := by decide +kernel
theorem dL_bears_72 : decode cL_bears 72 = .ok (.iload 5, 2) := by decide +kernel
theorem dL_bears_74 : decode cL_bears 74 = .ok (.i2l, 1) := by decide +kernel
theorem dL_bears_75 : decode cL_bears 75 = .ok (.aload_n 2, 1) := by decide +kernel
theorem dL_bears_76 : decode cL_bears 76 = .ok (.bipush 8, 2) := by decide +kernel
theorem dL_bears_78 : decode cL_bears 78 = .ok (.iload_n 0, 1) := by decide +kernel
theorem dL_bears_79 : decode cL_bears 79 = .ok (.imul, 1) := by decide +kernel
theorem dL_bears_80 : decode cL_bears 80 = .ok (.iconst 3, 1) := by decide +kernel
theorem dL_bears_81 : decode cL_bears 81 = .ok (.iadd, 1) := by decide +kernel
theorem dL_bears_82 : decode cL_bears 82 = .ok (.iaload, 1) := by decide +kernel
theorem dL_bears_83 : decode cL_bears 83 = .ok (.i2l, 1) := by decide +kernel
theorem dL_bears_84 : decode cL_bears 84 = .ok (.lmul, 1) := by decide +kernel
theorem dL_bears_85 : decode cL_bears 85 = .ok (.goto 43, 3) := by decide +kernel
theorem dL_bears_88 : decode cL_bears 88 = .ok (.iload_n 1, 1) := by decide +kernel
theorem dL_bears_89 : decode cL_bears 89 = .ok (.iconst 1, 1) := by decide +kernel
theorem dL_bears_90 : decode cL_bears 90 = .ok (.if_icmp .ne 8, 3) := by decide +kernel
theorem dL_bears_93 : decode cL_bears 93 = .ok (.lload 6, 2) := by decide +kernel
theorem dL_bears_95 : decode cL_bears 95 = .ok (.goto 33, 3) := by decide +kernel
theorem dL_bears_98 : decode cL_bears 98 = .ok (.aload_n 2, 1) := by decide +kernel
theorem dL_bears_99 : decode cL_bears 99 = .ok (.bipush 8, 2) := by decide +kernel
theorem dL_bears_101 : decode cL_bears 101 = .ok (.iload_n 0, 1) := by decide +kernel
theorem dL_bears_102 : decode cL_bears 102 = .ok (.imul, 1) := by decide +kernel
theorem dL_bears_103 : decode cL_bears 103 = .ok (.bipush 6, 2) := by decide +kernel
theorem dL_bears_105 : decode cL_bears 105 = .ok (.iadd, 1) := by decide +kernel
theorem dL_bears_106 : decode cL_bears 106 = .ok (.iaload, 1) := by decide +kernel
theorem dL_bears_107 : decode cL_bears 107 = .ok (.ifCond .ge 7, 3) := by decide +kernel
theorem dL_bears_110 : decode cL_bears 110 = .ok (.lconst 0, 1) := by decide +kernel
theorem dL_bears_111 : decode cL_bears 111 = .ok (.goto 17, 3) := by decide +kernel
theorem dL_bears_114 : decode cL_bears 114 = .ok (.iload 5, 2) := by decide +kernel
theorem dL_bears_116 : decode cL_bears 116 = .ok (.i2l, 1) := by decide +kernel
theorem dL_bears_117 : decode cL_bears 117 = .ok (.aload_n 2, 1) := by decide +kernel
theorem dL_bears_118 : decode cL_bears 118 = .ok (.bipush 8, 2) := by decide +kernel
theorem dL_bears_120 : decode cL_bears 120 = .ok (.iload_n 0, 1) := by decide +kernel
theorem dL_bears_121 : decode cL_bears 121 = .ok (.imul, 1) := by decide +kernel
theorem dL_bears_122 : decode cL_bears 122 = .ok (.bipush 6, 2) := by decide +kernel
theorem dL_bears_124 : decode cL_bears 124 = .ok (.iadd, 1) := by decide +kernel
theorem dL_bears_125 : decode cL_bears 125 = .ok (.iaload, 1) := by decide +kernel
theorem dL_bears_126 : decode cL_bears 126 = .ok (.i2l, 1) := by decide +kernel
theorem dL_bears_127 : decode cL_bears 127 = .ok (.lmul, 1) := by decide +kernel
theorem dL_bears_128 : decode cL_bears 128 = .ok (.lstore 6, 2) := by decide +kernel
theorem dL_bears_130 : decode cL_bears 130 = .ok (.lload 6, 2) := by decide +kernel
theorem dL_bears_132 : decode cL_bears 132 = .ok (.ldc2_w 36, 3) := by decide +kernel
theorem dL_bears_135 : decode cL_bears 135 = .ok (.ldiv, 1) := by decide +kernel
theorem dL_bears_136 : decode cL_bears 136 = .ok (.l2i, 1) := by decide +kernel
theorem dL_bears_137 : decode cL_bears 137 = .ok (.ireturn, 1) := by decide +kernel
theorem dL_rate_0 : decode cL_rate 0 = .ok (.lconst 0, 1) := by decide +kernel
theorem dL_rate_1 : decode cL_rate 1 = .ok (.lstore_n 1, 1) := by decide +kernel
theorem dL_rate_2 : decode cL_rate 2 = .ok (.lconst 0, 1) := by decide +kernel
theorem dL_rate_3 : decode cL_rate 3 = .ok (.lstore_n 3, 1) := by decide +kernel
theorem dL_rate_4 : decode cL_rate 4 = .ok (.iconst 0, 1) := by decide +kernel
theorem dL_rate_5 : decode cL_rate 5 = .ok (.istore 5, 2) := by decide +kernel
theorem dL_rate_7 : decode cL_rate 7 = .ok (.iload 5, 2) := by decide +kernel
theorem dL_rate_9 : decode cL_rate 9 = .ok (.bipush 6, 2) := by decide +kernel
theorem dL_rate_11 : decode cL_rate 11 = .ok (.if_icmp .ge 34, 3) := by decide +kernel
theorem dL_rate_14 : decode cL_rate 14 = .ok (.lload_n 1, 1) := by decide +kernel
theorem dL_rate_15 : decode cL_rate 15 = .ok (.aload_n 0, 1) := by decide +kernel
theorem dL_rate_16 : decode cL_rate 16 = .ok (.bipush 6, 2) := by decide +kernel
theorem dL_rate_18 : decode cL_rate 18 = .ok (.iload 5, 2) := by decide +kernel
theorem dL_rate_20 : decode cL_rate 20 = .ok (.iadd, 1) := by decide +kernel
theorem dL_rate_21 : decode cL_rate 21 = .ok (.iaload, 1) := by decide +kernel
theorem dL_rate_22 : decode cL_rate 22 = .ok (.i2l, 1) := by decide +kernel
theorem dL_rate_23 : decode cL_rate 23 = .ok (.aload_n 0, 1) := by decide +kernel
theorem dL_rate_24 : decode cL_rate 24 = .ok (.iload 5, 2) := by decide +kernel
theorem dL_rate_26 : decode cL_rate 26 = .ok (.iaload, 1) := by decide +kernel
theorem dL_rate_27 : decode cL_rate 27 = .ok (.i2l, 1) := by decide +kernel
theorem dL_rate_28 : decode cL_rate 28 = .ok (.lmul, 1) := by decide +kernel
theorem dL_rate_29 : decode cL_rate 29 = .ok (.ladd, 1) := by decide +kernel
theorem dL_rate_30 : decode cL_rate 30 = .ok (.lstore_n 1, 1) := by decide +kernel
theorem dL_rate_31 : decode cL_rate 31 = .ok (.lload_n 3, 1) := by decide +kernel
theorem dL_rate_32 : decode cL_rate 32 = .ok (.aload_n 0, 1) := by decide +kernel
theorem dL_rate_33 : decode cL_rate 33 = .ok (.iload 5, 2) := by decide +kernel
theorem dL_rate_35 : decode cL_rate 35 = .ok (.iaload, 1) := by decide +kernel
theorem dL_rate_36 : decode cL_rate 36 = .ok (.i2l, 1) := by decide +kernel
theorem dL_rate_37 : decode cL_rate 37 = .ok (.ladd, 1) := by decide +kernel
theorem dL_rate_38 : decode cL_rate 38 = .ok (.lstore_n 3, 1) := by decide +kernel
theorem dL_rate_39 : decode cL_rate 39 = .ok (.iinc 5 1, 3) := by decide +kernel
theorem dL_rate_42 : decode cL_rate 42 = .ok (.goto (-35), 3) := by decide +kernel
theorem dL_rate_45 : decode cL_rate 45 = .ok (.lload_n 3, 1) := by decide +kernel
theorem dL_rate_46 : decode cL_rate 46 = .ok (.lconst 0, 1) := by decide +kernel
theorem dL_rate_47 : decode cL_rate 47 = .ok (.lcmp, 1) := by decide +kernel
theorem dL_rate_48 : decode cL_rate 48 = .ok (.ifCond .le 10, 3) := by decide +kernel
theorem dL_rate_51 : decode cL_rate 51 = .ok (.lload_n 1, 1) := by decide +kernel
theorem dL_rate_52 : decode cL_rate 52 = .ok (.lload_n 3, 1) := by decide +kernel
theorem dL_rate_53 : decode cL_rate 53 = .ok (.ldiv, 1) := by decide +kernel
theorem dL_rate_54 : decode cL_rate 54 = .ok (.l2i, 1) := by decide +kernel
theorem dL_rate_55 : decode cL_rate 55 = .ok (.goto 4, 3) := by decide +kernel
theorem dL_rate_58 : decode cL_rate 58 = .ok (.iconst 0, 1) := by decide +kernel
theorem dL_rate_59 : decode cL_rate 59 = .ok (.ireturn, 1) := by decide +kernel
theorem dL_lay_0 : decode cL_lay 0 = .ok (.aload_n 2, 1) := by decide +kernel
theorem dL_lay_1 : decode cL_lay 1 = .ok (.iconst 5, 1) := by decide +kernel
theorem dL_lay_2 : decode cL_lay 2 = .ok (.iaload, 1) := by decide +kernel
theorem dL_lay_3 : decode cL_lay 3 = .ok (.i2l, 1) := by decide +kernel
theorem dL_lay_4 : decode cL_lay 4 = .ok (.aload_n 2, 1) := by decide +kernel
theorem dL_lay_5 : decode cL_lay 5 = .ok (.bipush 6, 2) := by decide +kernel
theorem dL_lay_7 : decode cL_lay 7 = .ok (.iaload, 1) := by decide +kernel
theorem dL_lay_8 : decode cL_lay 8 = .ok (.i2l, 1) := by decide +kernel
theorem dL_lay_9 : decode cL_lay 9 = .ok (.ladd, 1) := by decide +kernel
theorem dL_lay_10 : decode cL_lay 10 = .ok (.aload_n 2, 1) := by decide +kernel
theorem dL_lay_11 : decode cL_lay 11 = .ok (.bipush 7, 2) := by decide +kernel
theorem dL_lay_13 : decode cL_lay 13 = .ok (.iaload, 1) := by decide +kernel
theorem dL_lay_14 : decode cL_lay 14 = .ok (.i2l, 1) := by decide +kernel
theorem dL_lay_15 : decode cL_lay 15 = .ok (.ladd, 1) := by decide +kernel
theorem dL_lay_16 : decode cL_lay 16 = .ok (.lstore_n 3, 1) := by decide +kernel
theorem dL_lay_17 : decode cL_lay 17 = .ok (.aload_n 1, 1) := by decide +kernel
theorem dL_lay_18 : decode cL_lay 18 = .ok (.iload_n 0, 1) := by decide +kernel
theorem dL_lay_19 : decode cL_lay 19 = .ok (.lload_n 3, 1) := by decide +kernel
theorem dL_lay_20 : decode cL_lay 20 = .ok (.aload_n 2, 1) := by decide +kernel
theorem dL_lay_21 : decode cL_lay 21 = .ok (.iconst 4, 1) := by decide +kernel
theorem dL_lay_22 : decode cL_lay 22 = .ok (.iaload, 1) := by decide +kernel
theorem dL_lay_23 : decode cL_lay 23 = .ok (.i2l, 1) := by decide +kernel
theorem dL_lay_24 : decode cL_lay 24 = .ok (.lmul, 1) := by decide +kernel
theorem dL_lay_25 : decode cL_lay 25 = .ok (.ldc2_w 38, 3) := by decide +kernel
theorem dL_lay_28 : decode cL_lay 28 = .ok (.ldiv, 1) := by decide +kernel
theorem dL_lay_29 : decode cL_lay 29 = .ok (.l2i, 1) := by decide +kernel
theorem dL_lay_30 : decode cL_lay 30 = .ok (.bipush 6, 2) := by decide +kernel
theorem dL_lay_32 : decode cL_lay 32 = .ok (.idiv, 1) := by decide +kernel
theorem dL_lay_33 : decode cL_lay 33 = .ok (.iastore, 1) := by decide +kernel
theorem dL_lay_34 : decode cL_lay 34 = .ok (.aload_n 1, 1) := by decide +kernel
theorem dL_lay_35 : decode cL_lay 35 = .ok (.bipush 6, 2) := by decide +kernel
theorem dL_lay_37 : decode cL_lay 37 = .ok (.iload_n 0, 1) := by decide +kernel
theorem dL_lay_38 : decode cL_lay 38 = .ok (.iadd, 1) := by decide +kernel
theorem dL_lay_39 : decode cL_lay 39 = .ok (.aload_n 2, 1) := by decide +kernel
theorem dL_lay_40 : decode cL_lay 40 = .ok (.bipush 13, 2) := by decide +kernel
theorem dL_lay_42 : decode cL_lay 42 = .ok (.iaload, 1) := by decide +kernel
theorem dL_lay_43 : decode cL_lay 43 = .ok (.iastore, 1) := by decide +kernel
theorem dL_lay_44 : decode cL_lay 44 = .ok (.return_, 1) := by decide +kernel
set_option maxRecDepth 20000 in
theorem ggL_branch_L_rate : GoodIn wsL_branch wsL_rate := goodIn_r _ [6] (by decide +kernel) (by decide +kernel)
set_option maxRecDepth 20000 in
theorem gL_branch_L_rate : GoodIn wsL_branch (va_wsS RL 40 yL_rate wsL_rate) := goodIn_app (goodIn_of _ (by decide +kernel)) ggL_branch_L_rate
theorem dL_branch_0 : decode cL_branch 0 = .ok (.aload_n 2, 1) := by decide +kernel
theorem dL_branch_1 : decode cL_branch 1 = .ok (.iconst 5, 1) := by decide +kernel
theorem dL_branch_2 : decode cL_branch 2 = .ok (.iload_n 0, 1) := by decide +kernel
theorem dL_branch_3 : decode cL_branch 3 = .ok (.iadd, 1) := by decide +kernel
theorem dL_branch_4 : decode cL_branch 4 = .ok (.iaload, 1) := by decide +kernel
theorem dL_branch_5 : decode cL_branch 5 = .ok (.i2l, 1) := by decide +kernel
theorem dL_branch_6 : decode cL_branch 6 = .ok (.lstore_n 3, 1) := by decide +kernel
theorem dL_branch_7 : decode cL_branch 7 = .ok (.lload_n 3, 1) := by decide +kernel
theorem dL_branch_8 : decode cL_branch 8 = .ok (.aload_n 2, 1) := by decide +kernel
theorem dL_branch_9 : decode cL_branch 9 = .ok (.iconst 4, 1) := by decide +kernel
theorem dL_branch_10 : decode cL_branch 10 = .ok (.iaload, 1) := by decide +kernel
theorem dL_branch_11 : decode cL_branch 11 = .ok (.i2l, 1) := by decide +kernel
theorem dL_branch_12 : decode cL_branch 12 = .ok (.lmul, 1) := by decide +kernel
theorem dL_branch_13 : decode cL_branch 13 = .ok (.ldc2_w 38, 3) := by decide +kernel
theorem dL_branch_16 : decode cL_branch 16 = .ok (.ldiv, 1) := by decide +kernel
theorem dL_branch_17 : decode cL_branch 17 = .ok (.lstore 5, 2) := by decide +kernel
theorem dL_branch_19 : decode cL_branch 19 = .ok (.lload 5, 2) := by decide +kernel
theorem dL_branch_21 : decode cL_branch 21 = .ok (.aload_n 1, 1) := by decide +kernel
theorem dL_branch_22 : decode cL_branch 22 = .ok (.invokestatic 40, 3) := by decide +kernel
theorem dL_branch_25 : decode cL_branch 25 = .ok (.i2l, 1) := by decide +kernel
theorem dL_branch_26 : decode cL_branch 26 = .ok (.lmul, 1) := by decide +kernel
theorem dL_branch_27 : decode cL_branch 27 = .ok (.lload_n 3, 1) := by decide +kernel
theorem dL_branch_28 : decode cL_branch 28 = .ok (.lload 5, 2) := by decide +kernel
theorem dL_branch_30 : decode cL_branch 30 = .ok (.lsub, 1) := by decide +kernel
theorem dL_branch_31 : decode cL_branch 31 = .ok (.aload_n 2, 1) := by decide +kernel
theorem dL_branch_32 : decode cL_branch 32 = .ok (.bipush 8, 2) := by decide +kernel
theorem dL_branch_34 : decode cL_branch 34 = .ok (.iaload, 1) := by decide +kernel
theorem dL_branch_35 : decode cL_branch 35 = .ok (.i2l, 1) := by decide +kernel
theorem dL_branch_36 : decode cL_branch 36 = .ok (.lmul, 1) := by decide +kernel
theorem dL_branch_37 : decode cL_branch 37 = .ok (.ladd, 1) := by decide +kernel
theorem dL_branch_38 : decode cL_branch 38 = .ok (.ldc2_w 36, 3) := by decide +kernel
theorem dL_branch_41 : decode cL_branch 41 = .ok (.ldiv, 1) := by decide +kernel
theorem dL_branch_42 : decode cL_branch 42 = .ok (.l2i, 1) := by decide +kernel
theorem dL_branch_43 : decode cL_branch 43 = .ok (.ireturn, 1) := by decide +kernel
set_option maxRecDepth 20000 in
theorem ggL_closes_L_branch : GoodIn wsL_closes wsL_branch := goodIn_r _ [5, 6, 1, 7, 8, 4, 9] (by decide +kernel) (by decide +kernel)
set_option maxRecDepth 20000 in
theorem gL_closes_L_branch : GoodIn wsL_closes (va_wsS RL 44 yL_branch wsL_branch) := goodIn_app (goodIn_of _ (by decide +kernel)) ggL_closes_L_branch
set_option maxRecDepth 20000 in
theorem ggL_closes_L_bears : GoodIn wsL_closes wsL_bears := goodIn_r _ [12, 1, 13, 14, 4, 15, 16, 17, 18] (by decide +kernel) (by decide +kernel)
set_option maxRecDepth 20000 in
theorem gL_closes_L_bears : GoodIn wsL_closes (va_wsS RL 47 yL_bears wsL_bears) := goodIn_app (goodIn_of _ (by decide +kernel)) ggL_closes_L_bears
set_option maxRecDepth 20000 in
theorem ggL_closes_L_lay : GoodIn wsL_closes wsL_lay := goodIn_r _ [21, 6] (by decide +kernel) (by decide +kernel)
set_option maxRecDepth 20000 in
theorem gL_closes_L_lay : GoodIn wsL_closes (va_wsS RL 51 yL_lay wsL_lay) := goodIn_app (goodIn_of _ (by decide +kernel)) ggL_closes_L_lay
theorem dL_closes_0 : decode cL_closes 0 = .ok (.bipush 8, 2) := by decide +kernel
theorem dL_closes_2 : decode cL_closes 2 = .ok (.aload 4, 2) := by decide +kernel
theorem dL_closes_4 : decode cL_closes 4 = .ok (.iconst 0, 1) := by decide +kernel
theorem dL_closes_5 : decode cL_closes 5 = .ok (.iaload, 1) := by decide +kernel
theorem dL_closes_6 : decode cL_closes 6 = .ok (.bipush 8, 2) := by decide +kernel
theorem dL_closes_8 : decode cL_closes 8 = .ok (.irem, 1) := by decide +kernel
theorem dL_closes_9 : decode cL_closes 9 = .ok (.imul, 1) := by decide +kernel
theorem dL_closes_10 : decode cL_closes 10 = .ok (.istore 5, 2) := by decide +kernel
theorem dL_closes_12 : decode cL_closes 12 = .ok (.iconst 0, 1) := by decide +kernel
theorem dL_closes_13 : decode cL_closes 13 = .ok (.istore 6, 2) := by decide +kernel
theorem dL_closes_15 : decode cL_closes 15 = .ok (.iload 6, 2) := by decide +kernel
theorem dL_closes_17 : decode cL_closes 17 = .ok (.bipush 8, 2) := by decide +kernel
theorem dL_closes_19 : decode cL_closes 19 = .ok (.if_icmp .ge 17, 3) := by decide +kernel
theorem dL_closes_22 : decode cL_closes 22 = .ok (.aload_n 3, 1) := by decide +kernel
theorem dL_closes_23 : decode cL_closes 23 = .ok (.iload 5, 2) := by decide +kernel
theorem dL_closes_25 : decode cL_closes 25 = .ok (.iload 6, 2) := by decide +kernel
theorem dL_closes_27 : decode cL_closes 27 = .ok (.iadd, 1) := by decide +kernel
theorem dL_closes_28 : decode cL_closes 28 = .ok (.iconst 0, 1) := by decide +kernel
theorem dL_closes_29 : decode cL_closes 29 = .ok (.iastore, 1) := by decide +kernel
theorem dL_closes_30 : decode cL_closes 30 = .ok (.iinc 6 1, 3) := by decide +kernel
theorem dL_closes_33 : decode cL_closes 33 = .ok (.goto (-18), 3) := by decide +kernel
theorem dL_closes_36 : decode cL_closes 36 = .ok (.iconst 0, 1) := by decide +kernel
theorem dL_closes_37 : decode cL_closes 37 = .ok (.istore 6, 2) := by decide +kernel
theorem dL_closes_39 : decode cL_closes 39 = .ok (.iload 6, 2) := by decide +kernel
theorem dL_closes_41 : decode cL_closes 41 = .ok (.iconst 3, 1) := by decide +kernel
theorem dL_closes_42 : decode cL_closes 42 = .ok (.if_icmp .ge 76, 3) := by decide +kernel
theorem dL_closes_45 : decode cL_closes 45 = .ok (.iload 6, 2) := by decide +kernel
theorem dL_closes_47 : decode cL_closes 47 = .ok (.aload_n 2, 1) := by decide +kernel
theorem dL_closes_48 : decode cL_closes 48 = .ok (.aload 4, 2) := by decide +kernel
theorem dL_closes_50 : decode cL_closes 50 = .ok (.invokestatic 44, 3) := by decide +kernel
theorem dL_closes_53 : decode cL_closes 53 = .ok (.istore 7, 2) := by decide +kernel
theorem dL_closes_55 : decode cL_closes 55 = .ok (.aload 4, 2) := by decide +kernel
theorem dL_closes_57 : decode cL_closes 57 = .ok (.iconst 5, 1) := by decide +kernel
theorem dL_closes_58 : decode cL_closes 58 = .ok (.iload 6, 2) := by decide +kernel
theorem dL_closes_60 : decode cL_closes 60 = .ok (.iadd, 1) := by decide +kernel
theorem dL_closes_61 : decode cL_closes 61 = .ok (.iaload, 1) := by decide +kernel
theorem dL_closes_62 : decode cL_closes 62 = .ok (.i2l, 1) := by decide +kernel
theorem dL_closes_63 : decode cL_closes 63 = .ok (.aload 4, 2) := by decide +kernel
theorem dL_closes_65 : decode cL_closes 65 = .ok (.iconst 2, 1) := by decide +kernel
theorem dL_closes_66 : decode cL_closes 66 = .ok (.iaload, 1) := by decide +kernel
theorem dL_closes_67 : decode cL_closes 67 = .ok (.i2l, 1) := by decide +kernel
theorem dL_closes_68 : decode cL_closes 68 = .ok (.lmul, 1) := by decide +kernel
theorem dL_closes_69 : decode cL_closes 69 = .ok (.ldc2_w 36, 3) := by decide +kernel
theorem dL_closes_72 : decode cL_closes 72 = .ok (.ldiv, 1) := by decide +kernel
theorem dL_closes_73 : decode cL_closes 73 = .ok (.l2i, 1) := by decide +kernel
theorem dL_closes_74 : decode cL_closes 74 = .ok (.istore 8, 2) := by decide +kernel
theorem dL_closes_76 : decode cL_closes 76 = .ok (.aload_n 3, 1) := by decide +kernel
theorem dL_closes_77 : decode cL_closes 77 = .ok (.iload 5, 2) := by decide +kernel
theorem dL_closes_79 : decode cL_closes 79 = .ok (.iload 6, 2) := by decide +kernel
theorem dL_closes_81 : decode cL_closes 81 = .ok (.iadd, 1) := by decide +kernel
theorem dL_closes_82 : decode cL_closes 82 = .ok (.iload 7, 2) := by decide +kernel
theorem dL_closes_84 : decode cL_closes 84 = .ok (.iload 8, 2) := by decide +kernel
theorem dL_closes_86 : decode cL_closes 86 = .ok (.isub, 1) := by decide +kernel
theorem dL_closes_87 : decode cL_closes 87 = .ok (.iastore, 1) := by decide +kernel
theorem dL_closes_88 : decode cL_closes 88 = .ok (.aload_n 3, 1) := by decide +kernel
theorem dL_closes_89 : decode cL_closes 89 = .ok (.iload 5, 2) := by decide +kernel
theorem dL_closes_91 : decode cL_closes 91 = .ok (.bipush 6, 2) := by decide +kernel
theorem dL_closes_93 : decode cL_closes 93 = .ok (.iadd, 1) := by decide +kernel
theorem dL_closes_94 : decode cL_closes 94 = .ok (.dup2, 1) := by decide +kernel
theorem dL_closes_95 : decode cL_closes 95 = .ok (.iaload, 1) := by decide +kernel
theorem dL_closes_96 : decode cL_closes 96 = .ok (.iload 7, 2) := by decide +kernel
theorem dL_closes_98 : decode cL_closes 98 = .ok (.isub, 1) := by decide +kernel
theorem dL_closes_99 : decode cL_closes 99 = .ok (.iastore, 1) := by decide +kernel
theorem dL_closes_100 : decode cL_closes 100 = .ok (.aload_n 3, 1) := by decide +kernel
theorem dL_closes_101 : decode cL_closes 101 = .ok (.iload 5, 2) := by decide +kernel
theorem dL_closes_103 : decode cL_closes 103 = .ok (.bipush 7, 2) := by decide +kernel
theorem dL_closes_105 : decode cL_closes 105 = .ok (.iadd, 1) := by decide +kernel
theorem dL_closes_106 : decode cL_closes 106 = .ok (.dup2, 1) := by decide +kernel
theorem dL_closes_107 : decode cL_closes 107 = .ok (.iaload, 1) := by decide +kernel
theorem dL_closes_108 : decode cL_closes 108 = .ok (.iload 8, 2) := by decide +kernel
theorem dL_closes_110 : decode cL_closes 110 = .ok (.isub, 1) := by decide +kernel
theorem dL_closes_111 : decode cL_closes 111 = .ok (.iastore, 1) := by decide +kernel
theorem dL_closes_112 : decode cL_closes 112 = .ok (.iinc 6 1, 3) := by decide +kernel
theorem dL_closes_115 : decode cL_closes 115 = .ok (.goto (-76), 3) := by decide +kernel
theorem dL_closes_118 : decode cL_closes 118 = .ok (.iconst 0, 1) := by decide +kernel
theorem dL_closes_119 : decode cL_closes 119 = .ok (.istore 6, 2) := by decide +kernel
theorem dL_closes_121 : decode cL_closes 121 = .ok (.iload 6, 2) := by decide +kernel
theorem dL_closes_123 : decode cL_closes 123 = .ok (.aload 4, 2) := by decide +kernel
theorem dL_closes_125 : decode cL_closes 125 = .ok (.iconst 1, 1) := by decide +kernel
theorem dL_closes_126 : decode cL_closes 126 = .ok (.iaload, 1) := by decide +kernel
theorem dL_closes_127 : decode cL_closes 127 = .ok (.if_icmp .ge 112, 3) := by decide +kernel
theorem dL_closes_130 : decode cL_closes 130 = .ok (.iload 6, 2) := by decide +kernel
theorem dL_closes_132 : decode cL_closes 132 = .ok (.iconst 0, 1) := by decide +kernel
theorem dL_closes_133 : decode cL_closes 133 = .ok (.aload_n 0, 1) := by decide +kernel
theorem dL_closes_134 : decode cL_closes 134 = .ok (.aload_n 1, 1) := by decide +kernel
theorem dL_closes_135 : decode cL_closes 135 = .ok (.aload 4, 2) := by decide +kernel
theorem dL_closes_137 : decode cL_closes 137 = .ok (.invokestatic 47, 3) := by decide +kernel
theorem dL_closes_140 : decode cL_closes 140 = .ok (.istore 7, 2) := by decide +kernel
theorem dL_closes_142 : decode cL_closes 142 = .ok (.iload 6, 2) := by decide +kernel
theorem dL_closes_144 : decode cL_closes 144 = .ok (.iconst 1, 1) := by decide +kernel
theorem dL_closes_145 : decode cL_closes 145 = .ok (.aload_n 0, 1) := by decide +kernel
theorem dL_closes_146 : decode cL_closes 146 = .ok (.aload_n 1, 1) := by decide +kernel
theorem dL_closes_147 : decode cL_closes 147 = .ok (.aload 4, 2) := by decide +kernel
theorem dL_closes_149 : decode cL_closes 149 = .ok (.invokestatic 47, 3) := by decide +kernel
theorem dL_closes_152 : decode cL_closes 152 = .ok (.iload 6, 2) := by decide +kernel
theorem dL_closes_154 : decode cL_closes 154 = .ok (.iconst 2, 1) := by decide +kernel
theorem dL_closes_155 : decode cL_closes 155 = .ok (.aload_n 0, 1) := by decide +kernel
theorem dL_closes_156 : decode cL_closes 156 = .ok (.aload_n 1, 1) := by decide +kernel
theorem dL_closes_157 : decode cL_closes 157 = .ok (.aload 4, 2) := by decide +kernel
theorem dL_closes_159 : decode cL_closes 159 = .ok (.invokestatic 47, 3) := by decide +kernel
theorem dL_closes_162 : decode cL_closes 162 = .ok (.iadd, 1) := by decide +kernel
theorem dL_closes_163 : decode cL_closes 163 = .ok (.istore 8, 2) := by decide +kernel
theorem dL_closes_165 : decode cL_closes 165 = .ok (.aload_n 3, 1) := by decide +kernel
theorem dL_closes_166 : decode cL_closes 166 = .ok (.iload 5, 2) := by decide +kernel
theorem dL_closes_168 : decode cL_closes 168 = .ok (.aload_n 0, 1) := by decide +kernel
theorem dL_closes_169 : decode cL_closes 169 = .ok (.bipush 8, 2) := by decide +kernel
theorem dL_closes_171 : decode cL_closes 171 = .ok (.iload 6, 2) := by decide +kernel
theorem dL_closes_173 : decode cL_closes 173 = .ok (.imul, 1) := by decide +kernel
theorem dL_closes_174 : decode cL_closes 174 = .ok (.iaload, 1) := by decide +kernel
theorem dL_closes_175 : decode cL_closes 175 = .ok (.iadd, 1) := by decide +kernel
theorem dL_closes_176 : decode cL_closes 176 = .ok (.dup2, 1) := by decide +kernel
theorem dL_closes_177 : decode cL_closes 177 = .ok (.iaload, 1) := by decide +kernel
theorem dL_closes_178 : decode cL_closes 178 = .ok (.iload 7, 2) := by decide +kernel
theorem dL_closes_180 : decode cL_closes 180 = .ok (.iload 8, 2) := by decide +kernel
theorem dL_closes_182 : decode cL_closes 182 = .ok (.isub, 1) := by decide +kernel
theorem dL_closes_183 : decode cL_closes 183 = .ok (.iadd, 1) := by decide +kernel
theorem dL_closes_184 : decode cL_closes 184 = .ok (.iastore, 1) := by decide +kernel
theorem dL_closes_185 : decode cL_closes 185 = .ok (.aload_n 3, 1) := by decide +kernel
theorem dL_closes_186 : decode cL_closes 186 = .ok (.iload 5, 2) := by decide +kernel
theorem dL_closes_188 : decode cL_closes 188 = .ok (.iconst 3, 1) := by decide +kernel
theorem dL_closes_189 : decode cL_closes 189 = .ok (.iadd, 1) := by decide +kernel
theorem dL_closes_190 : decode cL_closes 190 = .ok (.aload_n 0, 1) := by decide +kernel
theorem dL_closes_191 : decode cL_closes 191 = .ok (.bipush 8, 2) := by decide +kernel
theorem dL_closes_193 : decode cL_closes 193 = .ok (.iload 6, 2) := by decide +kernel
theorem dL_closes_195 : decode cL_closes 195 = .ok (.imul, 1) := by decide +kernel
theorem dL_closes_196 : decode cL_closes 196 = .ok (.iconst 1, 1) := by decide +kernel
theorem dL_closes_197 : decode cL_closes 197 = .ok (.iadd, 1) := by decide +kernel
theorem dL_closes_198 : decode cL_closes 198 = .ok (.iaload, 1) := by decide +kernel
theorem dL_closes_199 : decode cL_closes 199 = .ok (.iadd, 1) := by decide +kernel
theorem dL_closes_200 : decode cL_closes 200 = .ok (.dup2, 1) := by decide +kernel
theorem dL_closes_201 : decode cL_closes 201 = .ok (.iaload, 1) := by decide +kernel
theorem dL_closes_202 : decode cL_closes 202 = .ok (.iload 7, 2) := by decide +kernel
theorem dL_closes_204 : decode cL_closes 204 = .ok (.iload 8, 2) := by decide +kernel
theorem dL_closes_206 : decode cL_closes 206 = .ok (.isub, 1) := by decide +kernel
theorem dL_closes_207 : decode cL_closes 207 = .ok (.iadd, 1) := by decide +kernel
theorem dL_closes_208 : decode cL_closes 208 = .ok (.iastore, 1) := by decide +kernel
theorem dL_closes_209 : decode cL_closes 209 = .ok (.aload_n 3, 1) := by decide +kernel
theorem dL_closes_210 : decode cL_closes 210 = .ok (.iload 5, 2) := by decide +kernel
theorem dL_closes_212 : decode cL_closes 212 = .ok (.bipush 6, 2) := by decide +kernel
theorem dL_closes_214 : decode cL_closes 214 = .ok (.iadd, 1) := by decide +kernel
theorem dL_closes_215 : decode cL_closes 215 = .ok (.dup2, 1) := by decide +kernel
theorem dL_closes_216 : decode cL_closes 216 = .ok (.iaload, 1) := by decide +kernel
theorem dL_closes_217 : decode cL_closes 217 = .ok (.iload 8, 2) := by decide +kernel
theorem dL_closes_219 : decode cL_closes 219 = .ok (.iadd, 1) := by decide +kernel
theorem dL_closes_220 : decode cL_closes 220 = .ok (.iastore, 1) := by decide +kernel
theorem dL_closes_221 : decode cL_closes 221 = .ok (.aload_n 3, 1) := by decide +kernel
theorem dL_closes_222 : decode cL_closes 222 = .ok (.iload 5, 2) := by decide +kernel
theorem dL_closes_224 : decode cL_closes 224 = .ok (.bipush 7, 2) := by decide +kernel
theorem dL_closes_226 : decode cL_closes 226 = .ok (.iadd, 1) := by decide +kernel
theorem dL_closes_227 : decode cL_closes 227 = .ok (.dup2, 1) := by decide +kernel
theorem dL_closes_228 : decode cL_closes 228 = .ok (.iaload, 1) := by decide +kernel
theorem dL_closes_229 : decode cL_closes 229 = .ok (.iload 7, 2) := by decide +kernel
theorem dL_closes_231 : decode cL_closes 231 = .ok (.iadd, 1) := by decide +kernel
theorem dL_closes_232 : decode cL_closes 232 = .ok (.iastore, 1) := by decide +kernel
theorem dL_closes_233 : decode cL_closes 233 = .ok (.iinc 6 1, 3) := by decide +kernel
theorem dL_closes_236 : decode cL_closes 236 = .ok (.goto (-115), 3) := by decide +kernel
theorem dL_closes_239 : decode cL_closes 239 = .ok (.aload 4, 2) := by decide +kernel
theorem dL_closes_241 : decode cL_closes 241 = .ok (.iconst 0, 1) := by decide +kernel
theorem dL_closes_242 : decode cL_closes 242 = .ok (.dup2, 1) := by decide +kernel
theorem dL_closes_243 : decode cL_closes 243 = .ok (.iaload, 1) := by decide +kernel
theorem dL_closes_244 : decode cL_closes 244 = .ok (.iconst 1, 1) := by decide +kernel
theorem dL_closes_245 : decode cL_closes 245 = .ok (.iadd, 1) := by decide +kernel
theorem dL_closes_246 : decode cL_closes 246 = .ok (.iastore, 1) := by decide +kernel
theorem dL_closes_247 : decode cL_closes 247 = .ok (.aload 4, 2) := by decide +kernel
theorem dL_closes_249 : decode cL_closes 249 = .ok (.iconst 0, 1) := by decide +kernel
theorem dL_closes_250 : decode cL_closes 250 = .ok (.iaload, 1) := by decide +kernel
theorem dL_closes_251 : decode cL_closes 251 = .ok (.bipush 6, 2) := by decide +kernel
theorem dL_closes_253 : decode cL_closes 253 = .ok (.irem, 1) := by decide +kernel
theorem dL_closes_254 : decode cL_closes 254 = .ok (.aload_n 2, 1) := by decide +kernel
theorem dL_closes_255 : decode cL_closes 255 = .ok (.aload 4, 2) := by decide +kernel
theorem dL_closes_257 : decode cL_closes 257 = .ok (.invokestatic 51, 3) := by decide +kernel
theorem dL_closes_260 : decode cL_closes 260 = .ok (.return_, 1) := by decide +kernel
