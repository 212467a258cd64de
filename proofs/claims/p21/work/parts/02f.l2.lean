set_option maxRecDepth 20000 in
theorem ggL_isSo_X2_month : GoodIn wsL_isSo wsX2_month := goodIn_r _ [5, 6, 122, 123, 124, 125, 126, 127, 128, 129, 130, 131, 132, 133, 134] (by decide +kernel) (by decide +kernel)
set_option maxRecDepth 20000 in
theorem gL_isSo_X2_month : GoodIn wsL_isSo (wsV RL 55 RX2 yX2_month wsX2_month) := goodIn_app (goodIn_of _ (by decide +kernel)) ggL_isSo_X2_month
set_option maxRecDepth 20000 in
theorem ggL_isSo_X2_loans : GoodIn wsL_isSo wsX2_loans := goodIn_r _ [10, 11, 122, 123, 124, 125, 126, 127, 128, 129, 130, 131, 132, 133, 134] (by decide +kernel) (by decide +kernel)
set_option maxRecDepth 20000 in
theorem gL_isSo_X2_loans : GoodIn wsL_isSo (wsV RL 58 RX2 yX2_loans wsX2_loans) := goodIn_app (goodIn_of _ (by decide +kernel)) ggL_isSo_X2_loans
set_option maxRecDepth 20000 in
theorem ggL_isSo_X2_replicaRate : GoodIn wsL_isSo wsX2_replicaRate := goodIn_r _ [15, 16, 17, 18, 19, 20, 21, 22, 122, 123, 124, 125, 126, 127, 128, 129, 130, 131, 132, 133, 134, 135, 136] (by decide +kernel) (by decide +kernel)
set_option maxRecDepth 20000 in
theorem gL_isSo_X2_replicaRate : GoodIn wsL_isSo (wsV RL 61 RX2 yX2_replicaRate wsX2_replicaRate) := goodIn_app (goodIn_of _ (by decide +kernel)) ggL_isSo_X2_replicaRate
set_option maxRecDepth 20000 in
theorem ggL_isSo_L_rate : GoodIn wsL_isSo wsL_rate := goodIn_r _ [26] (by decide +kernel) (by decide +kernel)
set_option maxRecDepth 20000 in
theorem gL_isSo_L_rate : GoodIn wsL_isSo (va_wsS RL 40 yL_rate wsL_rate) := goodIn_app (goodIn_of _ (by decide +kernel)) ggL_isSo_L_rate
set_option maxRecDepth 20000 in
theorem ggL_isSo_L_bears : GoodIn wsL_isSo wsL_bears := goodIn_r _ [29, 30, 31, 32, 25, 33, 34, 35, 36] (by decide +kernel) (by decide +kernel)
set_option maxRecDepth 20000 in
theorem gL_isSo_L_bears : GoodIn wsL_isSo (va_wsS RL 47 yL_bears wsL_bears) := goodIn_app (goodIn_of _ (by decide +kernel)) ggL_isSo_L_bears
set_option maxRecDepth 20000 in
theorem ggL_isSo_X2_left : GoodIn wsL_isSo wsX2_left := goodIn_ca (goodIn_r _ [40, 41, 42, 43, 44, 45, 4, 46, 47, 48, 49, 50, 51, 52, 53, 122, 123, 124, 125, 126, 127, 128, 129, 130, 131, 132, 133, 134, 137, 138, 139, 140, 141, 142, 143, 144] (by decide +kernel) (by decide +kernel)) (goodIn_sub (fun _ h => List.mem_cons_of_mem _ (List.mem_append_left _ (List.mem_append_right _ h))) (by decide +kernel))
set_option maxRecDepth 20000 in
theorem gL_isSo_X2_left : GoodIn wsL_isSo (wsV RL 64 RX2 yX2_left wsX2_left) := goodIn_app (goodIn_of _ (by decide +kernel)) ggL_isSo_X2_left
set_option maxRecDepth 20000 in
theorem ggL_isSo_L_left : GoodIn wsL_isSo wsL_left := goodIn_r _ [33, 34, 35, 25, 36] (by decide +kernel) (by decide +kernel)
set_option maxRecDepth 20000 in
theorem gL_isSo_L_left : GoodIn wsL_isSo (va_wsS RL 32 yL_left wsL_left) := goodIn_app (goodIn_of _ (by decide +kernel)) ggL_isSo_L_left
set_option maxRecDepth 20000 in
theorem ggL_isSo_X2_bears : GoodIn wsL_isSo wsX2_bears := goodIn_ca (goodIn_ca (goodIn_r _ [57, 41, 42, 58, 59, 43, 44, 45, 4, 46, 47, 60, 49, 61, 62, 63, 64, 48, 50, 51, 52, 53, 65, 66, 67, 68, 69, 70, 71, 72, 73, 74, 75, 76, 77, 78, 79, 80, 81, 122, 123, 124, 125, 126, 127, 128, 129, 130, 131, 132, 133, 134, 137, 138, 139, 140, 141, 142, 143, 144] (by decide +kernel) (by decide +kernel)) (goodIn_sub (fun _ h => List.mem_cons_of_mem _ (List.mem_append_left _ (List.mem_append_right _ h))) (by decide +kernel))) (goodIn_sub (fun _ h => List.mem_cons_of_mem _ (List.mem_append_right _ h)) (by decide +kernel))
set_option maxRecDepth 20000 in
theorem gL_isSo_X2_bears : GoodIn wsL_isSo (wsV RL 66 RX2 yX2_bears wsX2_bears) := goodIn_app (goodIn_of _ (by decide +kernel)) ggL_isSo_X2_bears
set_option maxRecDepth 20000 in
theorem ggL_isSo_L_part : GoodIn wsL_isSo wsL_part := goodIn_r _ [36] (by decide +kernel) (by decide +kernel)
set_option maxRecDepth 20000 in
theorem gL_isSo_L_part : GoodIn wsL_isSo (va_wsS RL 26 yL_part wsL_part) := goodIn_app (goodIn_of _ (by decide +kernel)) ggL_isSo_L_part
set_option maxRecDepth 20000 in
theorem ggL_isSo_X2_due : GoodIn wsL_isSo wsX2_due := goodIn_ca (goodIn_r _ [85, 58, 59, 47, 86, 49, 87, 88, 52, 53, 122, 123, 124, 125, 126, 127, 128, 129, 130, 131, 132, 133, 134, 137, 138, 139, 140, 141, 142, 143, 144] (by decide +kernel) (by decide +kernel)) (goodIn_sub (fun _ h => List.mem_cons_of_mem _ (List.mem_append_right _ h)) (by decide +kernel))
set_option maxRecDepth 20000 in
theorem gL_isSo_X2_due : GoodIn wsL_isSo (wsV RL 68 RX2 yX2_due wsX2_due) := goodIn_app (goodIn_of _ (by decide +kernel)) ggL_isSo_X2_due
set_option maxRecDepth 20000 in
theorem ggL_isSo_X2_tranche : GoodIn wsL_isSo wsX2_tranche := goodIn_ca (goodIn_r _ [92, 41, 42, 16, 122, 123, 124, 125, 126, 127, 128, 129, 130, 131, 132, 133, 134, 135, 136] (by decide +kernel) (by decide +kernel)) (goodIn_sub (fun _ h => List.mem_cons_of_mem _ (List.mem_append_left _ (List.mem_append_right _ h))) (by decide +kernel))
set_option maxRecDepth 20000 in
theorem gL_isSo_X2_tranche : GoodIn wsL_isSo (wsV RL 71 RX2 yX2_tranche wsX2_tranche) := goodIn_app (goodIn_of _ (by decide +kernel)) ggL_isSo_X2_tranche
set_option maxRecDepth 20000 in
theorem ggL_isSo_X2_balance : GoodIn wsL_isSo wsX2_balance := goodIn_ca (goodIn_r _ [96, 41, 42, 97, 122, 123, 124, 125, 126, 127, 128, 129, 130, 131, 132, 133, 134] (by decide +kernel) (by decide +kernel)) (goodIn_sub (fun _ h => List.mem_cons_of_mem _ (List.mem_append_left _ (List.mem_append_right _ h))) (by decide +kernel))
set_option maxRecDepth 20000 in
theorem gL_isSo_X2_balance : GoodIn wsL_isSo (wsV RL 74 RX2 yX2_balance wsX2_balance) := goodIn_app (goodIn_of _ (by decide +kernel)) ggL_isSo_X2_balance
set_option maxRecDepth 20000 in
theorem ggL_isSo_X2_margin : GoodIn wsL_isSo wsX2_margin := goodIn_ca (goodIn_r _ [101, 41, 42, 102, 103, 104, 105, 4, 106, 6, 122, 123, 124, 125, 126, 127, 128, 129, 130, 131, 132, 133, 134] (by decide +kernel) (by decide +kernel)) (goodIn_sub (fun _ h => List.mem_cons_of_mem _ (List.mem_append_left _ (List.mem_append_right _ h))) (by decide +kernel))
set_option maxRecDepth 20000 in
theorem gL_isSo_X2_margin : GoodIn wsL_isSo (wsV RL 77 RX2 yX2_margin wsX2_margin) := goodIn_app (goodIn_of _ (by decide +kernel)) ggL_isSo_X2_margin
set_option maxRecDepth 20000 in
theorem ggL_isSo_X2_byProduct : GoodIn wsL_isSo wsX2_byProduct := goodIn_ca (goodIn_r _ [110, 41, 42, 111, 103, 104, 105, 4, 106, 6, 122, 123, 124, 125, 126, 127, 128, 129, 130, 131, 132, 133, 134] (by decide +kernel) (by decide +kernel)) (goodIn_sub (fun _ h => List.mem_cons_of_mem _ (List.mem_append_left _ (List.mem_append_right _ h))) (by decide +kernel))
set_option maxRecDepth 20000 in
theorem gL_isSo_X2_byProduct : GoodIn wsL_isSo (wsV RL 80 RX2 yX2_byProduct wsX2_byProduct) := goodIn_app (goodIn_of _ (by decide +kernel)) ggL_isSo_X2_byProduct
set_option maxRecDepth 20000 in
theorem ggL_isSo_X2_treasury : GoodIn wsL_isSo wsX2_treasury := goodIn_ca (goodIn_r _ [115, 41, 42, 116, 103, 104, 105, 4, 106, 6, 122, 123, 124, 125, 126, 127, 128, 129, 130, 131, 132, 133, 134] (by decide +kernel) (by decide +kernel)) (goodIn_sub (fun _ h => List.mem_cons_of_mem _ (List.mem_append_left _ (List.mem_append_right _ h))) (by decide +kernel))
set_option maxRecDepth 20000 in
theorem gL_isSo_X2_treasury : GoodIn wsL_isSo (wsV RL 83 RX2 yX2_treasury wsX2_treasury) := goodIn_app (goodIn_of _ (by decide +kernel)) ggL_isSo_X2_treasury
set_option maxRecDepth 20000 in
theorem ggL_isSo_X2_interest : GoodIn wsL_isSo wsX2_interest := goodIn_ca (goodIn_r _ [120, 41, 42, 121, 103, 104, 105, 4, 106, 6, 122, 123, 124, 125, 126, 127, 128, 129, 130, 131, 132, 133, 134] (by decide +kernel) (by decide +kernel)) (goodIn_sub (fun _ h => List.mem_cons_of_mem _ (List.mem_append_left _ (List.mem_append_right _ h))) (by decide +kernel))
set_option maxRecDepth 20000 in
theorem gL_isSo_X2_interest : GoodIn wsL_isSo (wsV RL 86 RX2 yX2_interest wsX2_interest) := goodIn_app (goodIn_of _ (by decide +kernel)) ggL_isSo_X2_interest
theorem dL_isSo_0 : decode cL_isSo 0 = .ok (.aload_n 0, 1) := by decide +kernel
theorem dL_isSo_1 : decode cL_isSo 1 = .ok (.invokevirtual 55, 3) := by decide +kernel
theorem dL_isSo_4 : decode cL_isSo 4 = .ok (.aload 5, 2) := by decide +kernel
theorem dL_isSo_6 : decode cL_isSo 6 = .ok (.iconst 0, 1) := by decide +kernel
theorem dL_isSo_7 : decode cL_isSo 7 = .ok (.iaload, 1) := by decide +kernel
theorem dL_isSo_8 : decode cL_isSo 8 = .ok (.if_icmp .ne 29, 3) := by decide +kernel
theorem dL_isSo_11 : decode cL_isSo 11 = .ok (.aload_n 0, 1) := by decide +kernel
theorem dL_isSo_12 : decode cL_isSo 12 = .ok (.invokevirtual 58, 3) := by decide +kernel
theorem dL_isSo_15 : decode cL_isSo 15 = .ok (.aload 5, 2) := by decide +kernel
theorem dL_isSo_17 : decode cL_isSo 17 = .ok (.iconst 1, 1) := by decide +kernel
theorem dL_isSo_18 : decode cL_isSo 18 = .ok (.iaload, 1) := by decide +kernel
theorem dL_isSo_19 : decode cL_isSo 19 = .ok (.if_icmp .ne 18, 3) := by decide +kernel
theorem dL_isSo_22 : decode cL_isSo 22 = .ok (.aload_n 0, 1) := by decide +kernel
theorem dL_isSo_23 : decode cL_isSo 23 = .ok (.invokevirtual 61, 3) := by decide +kernel
theorem dL_isSo_26 : decode cL_isSo 26 = .ok (.aload_n 3, 1) := by decide +kernel
theorem dL_isSo_27 : decode cL_isSo 27 = .ok (.invokestatic 40, 3) := by decide +kernel
theorem dL_isSo_30 : decode cL_isSo 30 = .ok (.if_icmp .ne 7, 3) := by decide +kernel
theorem dL_isSo_33 : decode cL_isSo 33 = .ok (.iconst 1, 1) := by decide +kernel
theorem dL_isSo_34 : decode cL_isSo 34 = .ok (.goto 4, 3) := by decide +kernel
theorem dL_isSo_37 : decode cL_isSo 37 = .ok (.iconst 0, 1) := by decide +kernel
theorem dL_isSo_38 : decode cL_isSo 38 = .ok (.istore 6, 2) := by decide +kernel
theorem dL_isSo_40 : decode cL_isSo 40 = .ok (.iconst 0, 1) := by decide +kernel
theorem dL_isSo_41 : decode cL_isSo 41 = .ok (.istore 7, 2) := by decide +kernel
theorem dL_isSo_43 : decode cL_isSo 43 = .ok (.iload 7, 2) := by decide +kernel
theorem dL_isSo_45 : decode cL_isSo 45 = .ok (.aload 5, 2) := by decide +kernel
theorem dL_isSo_47 : decode cL_isSo 47 = .ok (.iconst 1, 1) := by decide +kernel
theorem dL_isSo_48 : decode cL_isSo 48 = .ok (.iaload, 1) := by decide +kernel
theorem dL_isSo_49 : decode cL_isSo 49 = .ok (.if_icmp .ge 128, 3) := by decide +kernel
theorem dL_isSo_52 : decode cL_isSo 52 = .ok (.iload 6, 2) := by decide +kernel
theorem dL_isSo_54 : decode cL_isSo 54 = .ok (.ifCond .eq 123, 3) := by decide +kernel
theorem dL_isSo_57 : decode cL_isSo 57 = .ok (.iload 7, 2) := by decide +kernel
theorem dL_isSo_59 : decode cL_isSo 59 = .ok (.iconst 0, 1) := by decide +kernel
theorem dL_isSo_60 : decode cL_isSo 60 = .ok (.aload_n 1, 1) := by decide +kernel
theorem dL_isSo_61 : decode cL_isSo 61 = .ok (.aload_n 2, 1) := by decide +kernel
theorem dL_isSo_62 : decode cL_isSo 62 = .ok (.aload 5, 2) := by decide +kernel
theorem dL_isSo_64 : decode cL_isSo 64 = .ok (.invokestatic 47, 3) := by decide +kernel
theorem dL_isSo_67 : decode cL_isSo 67 = .ok (.istore 8, 2) := by decide +kernel
theorem dL_isSo_69 : decode cL_isSo 69 = .ok (.iload 7, 2) := by decide +kernel
theorem dL_isSo_71 : decode cL_isSo 71 = .ok (.iconst 1, 1) := by decide +kernel
theorem dL_isSo_72 : decode cL_isSo 72 = .ok (.aload_n 1, 1) := by decide +kernel
theorem dL_isSo_73 : decode cL_isSo 73 = .ok (.aload_n 2, 1) := by decide +kernel
theorem dL_isSo_74 : decode cL_isSo 74 = .ok (.aload 5, 2) := by decide +kernel
theorem dL_isSo_76 : decode cL_isSo 76 = .ok (.invokestatic 47, 3) := by decide +kernel
theorem dL_isSo_79 : decode cL_isSo 79 = .ok (.istore 9, 2) := by decide +kernel
theorem dL_isSo_81 : decode cL_isSo 81 = .ok (.iload 7, 2) := by decide +kernel
theorem dL_isSo_83 : decode cL_isSo 83 = .ok (.iconst 2, 1) := by decide +kernel
theorem dL_isSo_84 : decode cL_isSo 84 = .ok (.aload_n 1, 1) := by decide +kernel
theorem dL_isSo_85 : decode cL_isSo 85 = .ok (.aload_n 2, 1) := by decide +kernel
theorem dL_isSo_86 : decode cL_isSo 86 = .ok (.aload 5, 2) := by decide +kernel
theorem dL_isSo_88 : decode cL_isSo 88 = .ok (.invokestatic 47, 3) := by decide +kernel
theorem dL_isSo_91 : decode cL_isSo 91 = .ok (.istore 10, 2) := by decide +kernel
theorem dL_isSo_93 : decode cL_isSo 93 = .ok (.aload_n 0, 1) := by decide +kernel
theorem dL_isSo_94 : decode cL_isSo 94 = .ok (.iload 7, 2) := by decide +kernel
theorem dL_isSo_96 : decode cL_isSo 96 = .ok (.invokevirtual 64, 3) := by decide +kernel
theorem dL_isSo_99 : decode cL_isSo 99 = .ok (.iload 7, 2) := by decide +kernel
theorem dL_isSo_101 : decode cL_isSo 101 = .ok (.aload_n 1, 1) := by decide +kernel
theorem dL_isSo_102 : decode cL_isSo 102 = .ok (.aload 5, 2) := by decide +kernel
theorem dL_isSo_104 : decode cL_isSo 104 = .ok (.invokestatic 32, 3) := by decide +kernel
theorem dL_isSo_107 : decode cL_isSo 107 = .ok (.if_icmp .ne 61, 3) := by decide +kernel
theorem dL_isSo_110 : decode cL_isSo 110 = .ok (.aload_n 0, 1) := by decide +kernel
theorem dL_isSo_111 : decode cL_isSo 111 = .ok (.iload 7, 2) := by decide +kernel
theorem dL_isSo_113 : decode cL_isSo 113 = .ok (.iconst 0, 1) := by decide +kernel
theorem dL_isSo_114 : decode cL_isSo 114 = .ok (.invokevirtual 66, 3) := by decide +kernel
theorem dL_isSo_117 : decode cL_isSo 117 = .ok (.iload 8, 2) := by decide +kernel
theorem dL_isSo_119 : decode cL_isSo 119 = .ok (.if_icmp .ne 49, 3) := by decide +kernel
theorem dL_isSo_122 : decode cL_isSo 122 = .ok (.aload_n 0, 1) := by decide +kernel
theorem dL_isSo_123 : decode cL_isSo 123 = .ok (.iload 7, 2) := by decide +kernel
theorem dL_isSo_125 : decode cL_isSo 125 = .ok (.iconst 1, 1) := by decide +kernel
theorem dL_isSo_126 : decode cL_isSo 126 = .ok (.invokevirtual 66, 3) := by decide +kernel
theorem dL_isSo_129 : decode cL_isSo 129 = .ok (.iload 9, 2) := by decide +kernel
theorem dL_isSo_131 : decode cL_isSo 131 = .ok (.if_icmp .ne 37, 3) := by decide +kernel
theorem dL_isSo_134 : decode cL_isSo 134 = .ok (.aload_n 0, 1) := by decide +kernel
theorem dL_isSo_135 : decode cL_isSo 135 = .ok (.iload 7, 2) := by decide +kernel
theorem dL_isSo_137 : decode cL_isSo 137 = .ok (.iconst 2, 1) := by decide +kernel
theorem dL_isSo_138 : decode cL_isSo 138 = .ok (.invokevirtual 66, 3) := by decide +kernel
theorem dL_isSo_141 : decode cL_isSo 141 = .ok (.iload 10, 2) := by decide +kernel
theorem dL_isSo_143 : decode cL_isSo 143 = .ok (.if_icmp .ne 25, 3) := by decide +kernel
theorem dL_isSo_146 : decode cL_isSo 146 = .ok (.aload_n 0, 1) := by decide +kernel
theorem dL_isSo_147 : decode cL_isSo 147 = .ok (.iload 7, 2) := by decide +kernel
theorem dL_isSo_149 : decode cL_isSo 149 = .ok (.iconst 3, 1) := by decide +kernel
theorem dL_isSo_150 : decode cL_isSo 150 = .ok (.invokevirtual 66, 3) := by decide +kernel
theorem dL_isSo_153 : decode cL_isSo 153 = .ok (.iload 8, 2) := by decide +kernel
theorem dL_isSo_155 : decode cL_isSo 155 = .ok (.iload 9, 2) := by decide +kernel
theorem dL_isSo_157 : decode cL_isSo 157 = .ok (.isub, 1) := by decide +kernel
theorem dL_isSo_158 : decode cL_isSo 158 = .ok (.iload 10, 2) := by decide +kernel
theorem dL_isSo_160 : decode cL_isSo 160 = .ok (.isub, 1) := by decide +kernel
theorem dL_isSo_161 : decode cL_isSo 161 = .ok (.if_icmp .ne 7, 3) := by decide +kernel
theorem dL_isSo_164 : decode cL_isSo 164 = .ok (.iconst 1, 1) := by decide +kernel
theorem dL_isSo_165 : decode cL_isSo 165 = .ok (.goto 4, 3) := by decide +kernel
theorem dL_isSo_168 : decode cL_isSo 168 = .ok (.iconst 0, 1) := by decide +kernel
theorem dL_isSo_169 : decode cL_isSo 169 = .ok (.istore 6, 2) := by decide +kernel
theorem dL_isSo_171 : decode cL_isSo 171 = .ok (.iinc 7 1, 3) := by decide +kernel
theorem dL_isSo_174 : decode cL_isSo 174 = .ok (.goto (-131), 3) := by decide +kernel
theorem dL_isSo_177 : decode cL_isSo 177 = .ok (.iconst 0, 1) := by decide +kernel
theorem dL_isSo_178 : decode cL_isSo 178 = .ok (.istore 7, 2) := by decide +kernel
theorem dL_isSo_180 : decode cL_isSo 180 = .ok (.iload 7, 2) := by decide +kernel
theorem dL_isSo_182 : decode cL_isSo 182 = .ok (.bipush 6, 2) := by decide +kernel
theorem dL_isSo_184 : decode cL_isSo 184 = .ok (.if_icmp .ge 108, 3) := by decide +kernel
theorem dL_isSo_187 : decode cL_isSo 187 = .ok (.iload 6, 2) := by decide +kernel
theorem dL_isSo_189 : decode cL_isSo 189 = .ok (.ifCond .eq 103, 3) := by decide +kernel
theorem dL_isSo_192 : decode cL_isSo 192 = .ok (.iconst 0, 1) := by decide +kernel
theorem dL_isSo_193 : decode cL_isSo 193 = .ok (.istore 8, 2) := by decide +kernel
theorem dL_isSo_195 : decode cL_isSo 195 = .ok (.iconst 0, 1) := by decide +kernel
theorem dL_isSo_196 : decode cL_isSo 196 = .ok (.istore 9, 2) := by decide +kernel
theorem dL_isSo_198 : decode cL_isSo 198 = .ok (.iload 9, 2) := by decide +kernel
theorem dL_isSo_200 : decode cL_isSo 200 = .ok (.aload 5, 2) := by decide +kernel
theorem dL_isSo_202 : decode cL_isSo 202 = .ok (.iconst 1, 1) := by decide +kernel
theorem dL_isSo_203 : decode cL_isSo 203 = .ok (.iaload, 1) := by decide +kernel
theorem dL_isSo_204 : decode cL_isSo 204 = .ok (.if_icmp .ge 29, 3) := by decide +kernel
theorem dL_isSo_207 : decode cL_isSo 207 = .ok (.iload 8, 2) := by decide +kernel
theorem dL_isSo_209 : decode cL_isSo 209 = .ok (.iload 9, 2) := by decide +kernel
theorem dL_isSo_211 : decode cL_isSo 211 = .ok (.aload 5, 2) := by decide +kernel
theorem dL_isSo_213 : decode cL_isSo 213 = .ok (.iconst 0, 1) := by decide +kernel
theorem dL_isSo_214 : decode cL_isSo 214 = .ok (.iaload, 1) := by decide +kernel
theorem dL_isSo_215 : decode cL_isSo 215 = .ok (.iload 7, 2) := by decide +kernel
theorem dL_isSo_217 : decode cL_isSo 217 = .ok (.iadd, 1) := by decide +kernel
theorem dL_isSo_218 : decode cL_isSo 218 = .ok (.aload_n 1, 1) := by decide +kernel
theorem dL_isSo_219 : decode cL_isSo 219 = .ok (.aload 5, 2) := by decide +kernel
theorem dL_isSo_221 : decode cL_isSo 221 = .ok (.invokestatic 26, 3) := by decide +kernel
theorem dL_isSo_224 : decode cL_isSo 224 = .ok (.iadd, 1) := by decide +kernel
theorem dL_isSo_225 : decode cL_isSo 225 = .ok (.istore 8, 2) := by decide +kernel
theorem dL_isSo_227 : decode cL_isSo 227 = .ok (.iinc 9 1, 3) := by decide +kernel
theorem dL_isSo_230 : decode cL_isSo 230 = .ok (.goto (-32), 3) := by decide +kernel
theorem dL_isSo_233 : decode cL_isSo 233 = .ok (.aload_n 0, 1) := by decide +kernel
theorem dL_isSo_234 : decode cL_isSo 234 = .ok (.iload 7, 2) := by decide +kernel
theorem dL_isSo_236 : decode cL_isSo 236 = .ok (.invokevirtual 68, 3) := by decide +kernel
theorem dL_isSo_239 : decode cL_isSo 239 = .ok (.iload 8, 2) := by decide +kernel
theorem dL_isSo_241 : decode cL_isSo 241 = .ok (.if_icmp .ne 42, 3) := by decide +kernel
theorem dL_isSo_244 : decode cL_isSo 244 = .ok (.aload_n 0, 1) := by decide +kernel
theorem dL_isSo_245 : decode cL_isSo 245 = .ok (.iload 7, 2) := by decide +kernel
theorem dL_isSo_247 : decode cL_isSo 247 = .ok (.invokevirtual 71, 3) := by decide +kernel
theorem dL_isSo_250 : decode cL_isSo 250 = .ok (.aload_n 3, 1) := by decide +kernel
theorem dL_isSo_251 : decode cL_isSo 251 = .ok (.iload 7, 2) := by decide +kernel
theorem dL_isSo_253 : decode cL_isSo 253 = .ok (.iaload, 1) := by decide +kernel
theorem dL_isSo_254 : decode cL_isSo 254 = .ok (.if_icmp .ne 29, 3) := by decide +kernel
theorem dL_isSo_257 : decode cL_isSo 257 = .ok (.iload 7, 2) := by decide +kernel
theorem dL_isSo_259 : decode cL_isSo 259 = .ok (.iconst 2, 1) := by decide +kernel
theorem dL_isSo_260 : decode cL_isSo 260 = .ok (.if_icmp .gt 19, 3) := by decide +kernel
theorem dL_isSo_263 : decode cL_isSo 263 = .ok (.aload_n 0, 1) := by decide +kernel
theorem dL_isSo_264 : decode cL_isSo 264 = .ok (.iload 7, 2) := by decide +kernel
theorem dL_isSo_266 : decode cL_isSo 266 = .ok (.invokevirtual 74, 3) := by decide +kernel
theorem dL_isSo_269 : decode cL_isSo 269 = .ok (.aload 5, 2) := by decide +kernel
theorem dL_isSo_271 : decode cL_isSo 271 = .ok (.iconst 5, 1) := by decide +kernel
theorem dL_isSo_272 : decode cL_isSo 272 = .ok (.iload 7, 2) := by decide +kernel
theorem dL_isSo_274 : decode cL_isSo 274 = .ok (.iadd, 1) := by decide +kernel
theorem dL_isSo_275 : decode cL_isSo 275 = .ok (.iaload, 1) := by decide +kernel
theorem dL_isSo_276 : decode cL_isSo 276 = .ok (.if_icmp .ne 7, 3) := by decide +kernel
theorem dL_isSo_279 : decode cL_isSo 279 = .ok (.iconst 1, 1) := by decide +kernel
theorem dL_isSo_280 : decode cL_isSo 280 = .ok (.goto 4, 3) := by decide +kernel
theorem dL_isSo_283 : decode cL_isSo 283 = .ok (.iconst 0, 1) := by decide +kernel
theorem dL_isSo_284 : decode cL_isSo 284 = .ok (.istore 6, 2) := by decide +kernel
theorem dL_isSo_286 : decode cL_isSo 286 = .ok (.iinc 7 1, 3) := by decide +kernel
theorem dL_isSo_289 : decode cL_isSo 289 = .ok (.goto (-109), 3) := by decide +kernel
theorem dL_isSo_292 : decode cL_isSo 292 = .ok (.aload 5, 2) := by decide +kernel
theorem dL_isSo_294 : decode cL_isSo 294 = .ok (.iconst 0, 1) := by decide +kernel
theorem dL_isSo_295 : decode cL_isSo 295 = .ok (.iaload, 1) := by decide +kernel
theorem dL_isSo_296 : decode cL_isSo 296 = .ok (.bipush 8, 2) := by decide +kernel
theorem dL_isSo_298 : decode cL_isSo 298 = .ok (.if_icmp .ge 7, 3) := by decide +kernel
theorem dL_isSo_301 : decode cL_isSo 301 = .ok (.iconst 0, 1) := by decide +kernel
theorem dL_isSo_302 : decode cL_isSo 302 = .ok (.goto 10, 3) := by decide +kernel
theorem dL_isSo_305 : decode cL_isSo 305 = .ok (.aload 5, 2) := by decide +kernel
theorem dL_isSo_307 : decode cL_isSo 307 = .ok (.iconst 0, 1) := by decide +kernel
theorem dL_isSo_308 : decode cL_isSo 308 = .ok (.iaload, 1) := by decide +kernel
theorem dL_isSo_309 : decode cL_isSo 309 = .ok (.bipush 8, 2) := by decide +kernel
theorem dL_isSo_311 : decode cL_isSo 311 = .ok (.isub, 1) := by decide +kernel
theorem dL_isSo_312 : decode cL_isSo 312 = .ok (.istore 7, 2) := by decide +kernel
theorem dL_isSo_314 : decode cL_isSo 314 = .ok (.iload 7, 2) := by decide +kernel
theorem dL_isSo_316 : decode cL_isSo 316 = .ok (.aload 5, 2) := by decide +kernel
theorem dL_isSo_318 : decode cL_isSo 318 = .ok (.iconst 0, 1) := by decide +kernel
theorem dL_isSo_319 : decode cL_isSo 319 = .ok (.iaload, 1) := by decide +kernel
theorem dL_isSo_320 : decode cL_isSo 320 = .ok (.if_icmp .ge 137, 3) := by decide +kernel
theorem dL_isSo_323 : decode cL_isSo 323 = .ok (.iload 6, 2) := by decide +kernel
theorem dL_isSo_325 : decode cL_isSo 325 = .ok (.ifCond .eq 132, 3) := by decide +kernel
theorem dL_isSo_328 : decode cL_isSo 328 = .ok (.bipush 8, 2) := by decide +kernel
theorem dL_isSo_330 : decode cL_isSo 330 = .ok (.iload 7, 2) := by decide +kernel
theorem dL_isSo_332 : decode cL_isSo 332 = .ok (.bipush 8, 2) := by decide +kernel
theorem dL_isSo_334 : decode cL_isSo 334 = .ok (.irem, 1) := by decide +kernel
theorem dL_isSo_335 : decode cL_isSo 335 = .ok (.imul, 1) := by decide +kernel
theorem dL_isSo_336 : decode cL_isSo 336 = .ok (.istore 8, 2) := by decide +kernel
theorem dL_isSo_338 : decode cL_isSo 338 = .ok (.iconst 0, 1) := by decide +kernel
theorem dL_isSo_339 : decode cL_isSo 339 = .ok (.istore 9, 2) := by decide +kernel
theorem dL_isSo_341 : decode cL_isSo 341 = .ok (.iload 9, 2) := by decide +kernel
theorem dL_isSo_343 : decode cL_isSo 343 = .ok (.iconst 3, 1) := by decide +kernel
theorem dL_isSo_344 : decode cL_isSo 344 = .ok (.if_icmp .ge 61, 3) := by decide +kernel
theorem dL_isSo_347 : decode cL_isSo 347 = .ok (.iload 6, 2) := by decide +kernel
theorem dL_isSo_349 : decode cL_isSo 349 = .ok (.ifCond .eq 56, 3) := by decide +kernel
theorem dL_isSo_352 : decode cL_isSo 352 = .ok (.aload_n 0, 1) := by decide +kernel
theorem dL_isSo_353 : decode cL_isSo 353 = .ok (.iload 9, 2) := by decide +kernel
theorem dL_isSo_355 : decode cL_isSo 355 = .ok (.iload 7, 2) := by decide +kernel
theorem dL_isSo_357 : decode cL_isSo 357 = .ok (.invokevirtual 77, 3) := by decide +kernel
theorem dL_isSo_360 : decode cL_isSo 360 = .ok (.aload 4, 2) := by decide +kernel
theorem dL_isSo_362 : decode cL_isSo 362 = .ok (.iload 8, 2) := by decide +kernel
theorem dL_isSo_364 : decode cL_isSo 364 = .ok (.iload 9, 2) := by decide +kernel
theorem dL_isSo_366 : decode cL_isSo 366 = .ok (.iadd, 1) := by decide +kernel
theorem dL_isSo_367 : decode cL_isSo 367 = .ok (.iaload, 1) := by decide +kernel
theorem dL_isSo_368 : decode cL_isSo 368 = .ok (.if_icmp .ne 28, 3) := by decide +kernel
theorem dL_isSo_371 : decode cL_isSo 371 = .ok (.aload_n 0, 1) := by decide +kernel
theorem dL_isSo_372 : decode cL_isSo 372 = .ok (.iload 9, 2) := by decide +kernel
theorem dL_isSo_374 : decode cL_isSo 374 = .ok (.iload 7, 2) := by decide +kernel
theorem dL_isSo_376 : decode cL_isSo 376 = .ok (.invokevirtual 80, 3) := by decide +kernel
theorem dL_isSo_379 : decode cL_isSo 379 = .ok (.aload 4, 2) := by decide +kernel
theorem dL_isSo_381 : decode cL_isSo 381 = .ok (.iload 8, 2) := by decide +kernel
theorem dL_isSo_383 : decode cL_isSo 383 = .ok (.iconst 3, 1) := by decide +kernel
theorem dL_isSo_384 : decode cL_isSo 384 = .ok (.iadd, 1) := by decide +kernel
theorem dL_isSo_385 : decode cL_isSo 385 = .ok (.iload 9, 2) := by decide +kernel
theorem dL_isSo_387 : decode cL_isSo 387 = .ok (.iadd, 1) := by decide +kernel
theorem dL_isSo_388 : decode cL_isSo 388 = .ok (.iaload, 1) := by decide +kernel
theorem dL_isSo_389 : decode cL_isSo 389 = .ok (.if_icmp .ne 7, 3) := by decide +kernel
theorem dL_isSo_392 : decode cL_isSo 392 = .ok (.iconst 1, 1) := by decide +kernel
theorem dL_isSo_393 : decode cL_isSo 393 = .ok (.goto 4, 3) := by decide +kernel
theorem dL_isSo_396 : decode cL_isSo 396 = .ok (.iconst 0, 1) := by decide +kernel
theorem dL_isSo_397 : decode cL_isSo 397 = .ok (.istore 6, 2) := by decide +kernel
theorem dL_isSo_399 : decode cL_isSo 399 = .ok (.iinc 9 1, 3) := by decide +kernel
theorem dL_isSo_402 : decode cL_isSo 402 = .ok (.goto (-61), 3) := by decide +kernel
theorem dL_isSo_405 : decode cL_isSo 405 = .ok (.iload 6, 2) := by decide +kernel
theorem dL_isSo_407 : decode cL_isSo 407 = .ok (.ifCond .eq 41, 3) := by decide +kernel
theorem dL_isSo_410 : decode cL_isSo 410 = .ok (.aload_n 0, 1) := by decide +kernel
theorem dL_isSo_411 : decode cL_isSo 411 = .ok (.iload 7, 2) := by decide +kernel
theorem dL_isSo_413 : decode cL_isSo 413 = .ok (.invokevirtual 83, 3) := by decide +kernel
theorem dL_isSo_416 : decode cL_isSo 416 = .ok (.aload 4, 2) := by decide +kernel
theorem dL_isSo_418 : decode cL_isSo 418 = .ok (.iload 8, 2) := by decide +kernel
theorem dL_isSo_420 : decode cL_isSo 420 = .ok (.bipush 6, 2) := by decide +kernel
theorem dL_isSo_422 : decode cL_isSo 422 = .ok (.iadd, 1) := by decide +kernel
theorem dL_isSo_423 : decode cL_isSo 423 = .ok (.iaload, 1) := by decide +kernel
theorem dL_isSo_424 : decode cL_isSo 424 = .ok (.if_icmp .ne 24, 3) := by decide +kernel
theorem dL_isSo_427 : decode cL_isSo 427 = .ok (.aload_n 0, 1) := by decide +kernel
theorem dL_isSo_428 : decode cL_isSo 428 = .ok (.iload 7, 2) := by decide +kernel
theorem dL_isSo_430 : decode cL_isSo 430 = .ok (.invokevirtual 86, 3) := by decide +kernel
theorem dL_isSo_433 : decode cL_isSo 433 = .ok (.aload 4, 2) := by decide +kernel
theorem dL_isSo_435 : decode cL_isSo 435 = .ok (.iload 8, 2) := by decide +kernel
theorem dL_isSo_437 : decode cL_isSo 437 = .ok (.bipush 7, 2) := by decide +kernel
theorem dL_isSo_439 : decode cL_isSo 439 = .ok (.iadd, 1) := by decide +kernel
theorem dL_isSo_440 : decode cL_isSo 440 = .ok (.iaload, 1) := by decide +kernel
theorem dL_isSo_441 : decode cL_isSo 441 = .ok (.if_icmp .ne 7, 3) := by decide +kernel
theorem dL_isSo_444 : decode cL_isSo 444 = .ok (.iconst 1, 1) := by decide +kernel
theorem dL_isSo_445 : decode cL_isSo 445 = .ok (.goto 4, 3) := by decide +kernel
theorem dL_isSo_448 : decode cL_isSo 448 = .ok (.iconst 0, 1) := by decide +kernel
theorem dL_isSo_449 : decode cL_isSo 449 = .ok (.istore 6, 2) := by decide +kernel
theorem dL_isSo_451 : decode cL_isSo 451 = .ok (.iinc 7 1, 3) := by decide +kernel
theorem dL_isSo_454 : decode cL_isSo 454 = .ok (.goto (-140), 3) := by decide +kernel
theorem dL_isSo_457 : decode cL_isSo 457 = .ok (.iload 6, 2) := by decide +kernel
theorem dL_isSo_459 : decode cL_isSo 459 = .ok (.ireturn, 1) := by decide +kernel
