set_option maxRecDepth 20000 in
theorem ggL_lends_L_low : GoodIn wsL_lends wsL_low := goodIn_r _ [6, 7] (by decide +kernel) (by decide +kernel)
set_option maxRecDepth 20000 in
theorem gL_lends_L_low : GoodIn wsL_lends (va_wsS RL 89 yL_low wsL_low) := goodIn_app (goodIn_of _ (by decide +kernel)) ggL_lends_L_low
set_option maxRecDepth 20000 in
theorem ggL_lends_X2_lend : GoodIn wsL_lends wsX2_lend := goodIn_ca (goodIn_ca (goodIn_ca (goodIn_r _ [12, 13, 14, 15, 16, 17, 18, 19, 20, 21, 22, 23, 24, 25, 26, 27, 28, 29, 30, 31, 32, 33, 34, 11, 35, 36, 37, 38, 39, 40, 41, 42, 43, 44, 45, 46, 47, 48, 49, 50, 51, 52, 53, 54, 55, 56, 57, 58, 59, 60, 61, 62, 63, 64, 65, 66, 67, 68, 69, 70] (by decide +kernel) (by decide +kernel)) (goodIn_sub (fun _ h => List.mem_cons_of_mem _ (List.mem_append_left _ (List.mem_append_left _ (List.mem_append_right _ h)))) (by decide +kernel))) (goodIn_sub (fun _ h => List.mem_cons_of_mem _ (List.mem_append_left _ (List.mem_append_right _ h))) (by decide +kernel))) (goodIn_sub (fun _ h => List.mem_cons_of_mem _ (List.mem_append_right _ h)) (by decide +kernel))
set_option maxRecDepth 20000 in
theorem gL_lends_X2_lend : GoodIn wsL_lends (wsV RL 94 RX2 yX2_lend wsX2_lend) := goodIn_app (goodIn_of _ (by decide +kernel)) ggL_lends_X2_lend
theorem dL_lends_0 : decode cL_lends 0 = .ok (.iconst 0, 1) := by decide +kernel
theorem dL_lends_1 : decode cL_lends 1 = .ok (.istore 5, 2) := by decide +kernel
theorem dL_lends_3 : decode cL_lends 3 = .ok (.aload 4, 2) := by decide +kernel
theorem dL_lends_5 : decode cL_lends 5 = .ok (.iconst 1, 1) := by decide +kernel
theorem dL_lends_6 : decode cL_lends 6 = .ok (.iaload, 1) := by decide +kernel
theorem dL_lends_7 : decode cL_lends 7 = .ok (.bipush 8, 2) := by decide +kernel
theorem dL_lends_9 : decode cL_lends 9 = .ok (.if_icmp .ge 7, 3) := by decide +kernel
theorem dL_lends_12 : decode cL_lends 12 = .ok (.iconst 1, 1) := by decide +kernel
theorem dL_lends_13 : decode cL_lends 13 = .ok (.goto 4, 3) := by decide +kernel
theorem dL_lends_16 : decode cL_lends 16 = .ok (.iconst 0, 1) := by decide +kernel
theorem dL_lends_17 : decode cL_lends 17 = .ok (.istore 6, 2) := by decide +kernel
theorem dL_lends_19 : decode cL_lends 19 = .ok (.iload 6, 2) := by decide +kernel
theorem dL_lends_21 : decode cL_lends 21 = .ok (.ifCond .ne 5, 3) := by decide +kernel
theorem dL_lends_24 : decode cL_lends 24 = .ok (.iconst 1, 1) := by decide +kernel
theorem dL_lends_25 : decode cL_lends 25 = .ok (.ireturn, 1) := by decide +kernel
theorem dL_lends_26 : decode cL_lends 26 = .ok (.aload 4, 2) := by decide +kernel
theorem dL_lends_28 : decode cL_lends 28 = .ok (.iconst 1, 1) := by decide +kernel
theorem dL_lends_29 : decode cL_lends 29 = .ok (.iaload, 1) := by decide +kernel
theorem dL_lends_30 : decode cL_lends 30 = .ok (.istore 5, 2) := by decide +kernel
theorem dL_lends_32 : decode cL_lends 32 = .ok (.bipush 8, 2) := by decide +kernel
theorem dL_lends_34 : decode cL_lends 34 = .ok (.iload 5, 2) := by decide +kernel
theorem dL_lends_36 : decode cL_lends 36 = .ok (.imul, 1) := by decide +kernel
theorem dL_lends_37 : decode cL_lends 37 = .ok (.istore 7, 2) := by decide +kernel
theorem dL_lends_39 : decode cL_lends 39 = .ok (.aload_n 2, 1) := by decide +kernel
theorem dL_lends_40 : decode cL_lends 40 = .ok (.iload 7, 2) := by decide +kernel
theorem dL_lends_42 : decode cL_lends 42 = .ok (.iload_n 1, 1) := by decide +kernel
theorem dL_lends_43 : decode cL_lends 43 = .ok (.iconst 3, 1) := by decide +kernel
theorem dL_lends_44 : decode cL_lends 44 = .ok (.invokestatic 89, 3) := by decide +kernel
theorem dL_lends_47 : decode cL_lends 47 = .ok (.iastore, 1) := by decide +kernel
theorem dL_lends_48 : decode cL_lends 48 = .ok (.aload_n 2, 1) := by decide +kernel
theorem dL_lends_49 : decode cL_lends 49 = .ok (.iload 7, 2) := by decide +kernel
theorem dL_lends_51 : decode cL_lends 51 = .ok (.iconst 1, 1) := by decide +kernel
theorem dL_lends_52 : decode cL_lends 52 = .ok (.iadd, 1) := by decide +kernel
theorem dL_lends_53 : decode cL_lends 53 = .ok (.iload_n 1, 1) := by decide +kernel
theorem dL_lends_54 : decode cL_lends 54 = .ok (.iconst 2, 1) := by decide +kernel
theorem dL_lends_55 : decode cL_lends 55 = .ok (.ishr, 1) := by decide +kernel
theorem dL_lends_56 : decode cL_lends 56 = .ok (.iconst 3, 1) := by decide +kernel
theorem dL_lends_57 : decode cL_lends 57 = .ok (.invokestatic 89, 3) := by decide +kernel
theorem dL_lends_60 : decode cL_lends 60 = .ok (.iastore, 1) := by decide +kernel
theorem dL_lends_61 : decode cL_lends 61 = .ok (.aload_n 2, 1) := by decide +kernel
theorem dL_lends_62 : decode cL_lends 62 = .ok (.iload 7, 2) := by decide +kernel
theorem dL_lends_64 : decode cL_lends 64 = .ok (.iconst 2, 1) := by decide +kernel
theorem dL_lends_65 : decode cL_lends 65 = .ok (.iadd, 1) := by decide +kernel
theorem dL_lends_66 : decode cL_lends 66 = .ok (.iconst 1, 1) := by decide +kernel
theorem dL_lends_67 : decode cL_lends 67 = .ok (.iload_n 1, 1) := by decide +kernel
theorem dL_lends_68 : decode cL_lends 68 = .ok (.iconst 4, 1) := by decide +kernel
theorem dL_lends_69 : decode cL_lends 69 = .ok (.ishr, 1) := by decide +kernel
theorem dL_lends_70 : decode cL_lends 70 = .ok (.iload_n 1, 1) := by decide +kernel
theorem dL_lends_71 : decode cL_lends 71 = .ok (.bipush 14, 2) := by decide +kernel
theorem dL_lends_73 : decode cL_lends 73 = .ok (.ishr, 1) := by decide +kernel
theorem dL_lends_74 : decode cL_lends 74 = .ok (.iconst 3, 1) := by decide +kernel
theorem dL_lends_75 : decode cL_lends 75 = .ok (.invokestatic 89, 3) := by decide +kernel
theorem dL_lends_78 : decode cL_lends 78 = .ok (.ifCond .ne 8, 3) := by decide +kernel
theorem dL_lends_81 : decode cL_lends 81 = .ok (.ldc 92, 2) := by decide +kernel
theorem dL_lends_83 : decode cL_lends 83 = .ok (.goto 5, 3) := by decide +kernel
theorem dL_lends_86 : decode cL_lends 86 = .ok (.ldc 93, 2) := by decide +kernel
theorem dL_lends_88 : decode cL_lends 88 = .ok (.invokestatic 89, 3) := by decide +kernel
theorem dL_lends_91 : decode cL_lends 91 = .ok (.iadd, 1) := by decide +kernel
theorem dL_lends_92 : decode cL_lends 92 = .ok (.iastore, 1) := by decide +kernel
theorem dL_lends_93 : decode cL_lends 93 = .ok (.aload_n 2, 1) := by decide +kernel
theorem dL_lends_94 : decode cL_lends 94 = .ok (.iload 7, 2) := by decide +kernel
theorem dL_lends_96 : decode cL_lends 96 = .ok (.iconst 3, 1) := by decide +kernel
theorem dL_lends_97 : decode cL_lends 97 = .ok (.iadd, 1) := by decide +kernel
theorem dL_lends_98 : decode cL_lends 98 = .ok (.iload_n 1, 1) := by decide +kernel
theorem dL_lends_99 : decode cL_lends 99 = .ok (.iconst 5, 1) := by decide +kernel
theorem dL_lends_100 : decode cL_lends 100 = .ok (.ishr, 1) := by decide +kernel
theorem dL_lends_101 : decode cL_lends 101 = .ok (.sipush 5001, 3) := by decide +kernel
theorem dL_lends_104 : decode cL_lends 104 = .ok (.invokestatic 89, 3) := by decide +kernel
theorem dL_lends_107 : decode cL_lends 107 = .ok (.iastore, 1) := by decide +kernel
theorem dL_lends_108 : decode cL_lends 108 = .ok (.aload_n 2, 1) := by decide +kernel
theorem dL_lends_109 : decode cL_lends 109 = .ok (.iload 7, 2) := by decide +kernel
theorem dL_lends_111 : decode cL_lends 111 = .ok (.iconst 4, 1) := by decide +kernel
theorem dL_lends_112 : decode cL_lends 112 = .ok (.iadd, 1) := by decide +kernel
theorem dL_lends_113 : decode cL_lends 113 = .ok (.iconst 1, 1) := by decide +kernel
theorem dL_lends_114 : decode cL_lends 114 = .ok (.iload_n 1, 1) := by decide +kernel
theorem dL_lends_115 : decode cL_lends 115 = .ok (.bipush 7, 2) := by decide +kernel
theorem dL_lends_117 : decode cL_lends 117 = .ok (.ishr, 1) := by decide +kernel
theorem dL_lends_118 : decode cL_lends 118 = .ok (.bipush 6, 2) := by decide +kernel
theorem dL_lends_120 : decode cL_lends 120 = .ok (.invokestatic 89, 3) := by decide +kernel
theorem dL_lends_123 : decode cL_lends 123 = .ok (.iadd, 1) := by decide +kernel
theorem dL_lends_124 : decode cL_lends 124 = .ok (.iastore, 1) := by decide +kernel
theorem dL_lends_125 : decode cL_lends 125 = .ok (.aload_n 2, 1) := by decide +kernel
theorem dL_lends_126 : decode cL_lends 126 = .ok (.iload 7, 2) := by decide +kernel
theorem dL_lends_128 : decode cL_lends 128 = .ok (.iconst 5, 1) := by decide +kernel
theorem dL_lends_129 : decode cL_lends 129 = .ok (.iadd, 1) := by decide +kernel
theorem dL_lends_130 : decode cL_lends 130 = .ok (.aload 4, 2) := by decide +kernel
theorem dL_lends_132 : decode cL_lends 132 = .ok (.iconst 0, 1) := by decide +kernel
theorem dL_lends_133 : decode cL_lends 133 = .ok (.iaload, 1) := by decide +kernel
theorem dL_lends_134 : decode cL_lends 134 = .ok (.iastore, 1) := by decide +kernel
theorem dL_lends_135 : decode cL_lends 135 = .ok (.aload_n 2, 1) := by decide +kernel
theorem dL_lends_136 : decode cL_lends 136 = .ok (.iload 7, 2) := by decide +kernel
theorem dL_lends_138 : decode cL_lends 138 = .ok (.bipush 6, 2) := by decide +kernel
theorem dL_lends_140 : decode cL_lends 140 = .ok (.iadd, 1) := by decide +kernel
theorem dL_lends_141 : decode cL_lends 141 = .ok (.iload_n 1, 1) := by decide +kernel
theorem dL_lends_142 : decode cL_lends 142 = .ok (.bipush 9, 2) := by decide +kernel
theorem dL_lends_144 : decode cL_lends 144 = .ok (.ishr, 1) := by decide +kernel
theorem dL_lends_145 : decode cL_lends 145 = .ok (.iconst 2, 1) := by decide +kernel
theorem dL_lends_146 : decode cL_lends 146 = .ok (.invokestatic 89, 3) := by decide +kernel
theorem dL_lends_149 : decode cL_lends 149 = .ok (.ifCond .ne 7, 3) := by decide +kernel
theorem dL_lends_152 : decode cL_lends 152 = .ok (.iconst (-1), 1) := by decide +kernel
theorem dL_lends_153 : decode cL_lends 153 = .ok (.goto 7, 3) := by decide +kernel
theorem dL_lends_156 : decode cL_lends 156 = .ok (.aload 4, 2) := by decide +kernel
theorem dL_lends_158 : decode cL_lends 158 = .ok (.iconst 3, 1) := by decide +kernel
theorem dL_lends_159 : decode cL_lends 159 = .ok (.iaload, 1) := by decide +kernel
theorem dL_lends_160 : decode cL_lends 160 = .ok (.iastore, 1) := by decide +kernel
theorem dL_lends_161 : decode cL_lends 161 = .ok (.aload_n 2, 1) := by decide +kernel
theorem dL_lends_162 : decode cL_lends 162 = .ok (.iload 7, 2) := by decide +kernel
theorem dL_lends_164 : decode cL_lends 164 = .ok (.bipush 7, 2) := by decide +kernel
theorem dL_lends_166 : decode cL_lends 166 = .ok (.iadd, 1) := by decide +kernel
theorem dL_lends_167 : decode cL_lends 167 = .ok (.iconst 0, 1) := by decide +kernel
theorem dL_lends_168 : decode cL_lends 168 = .ok (.iastore, 1) := by decide +kernel
theorem dL_lends_169 : decode cL_lends 169 = .ok (.iconst 0, 1) := by decide +kernel
theorem dL_lends_170 : decode cL_lends 170 = .ok (.istore 8, 2) := by decide +kernel
theorem dL_lends_172 : decode cL_lends 172 = .ok (.iload 8, 2) := by decide +kernel
theorem dL_lends_174 : decode cL_lends 174 = .ok (.bipush 6, 2) := by decide +kernel
theorem dL_lends_176 : decode cL_lends 176 = .ok (.if_icmp .ge 27, 3) := by decide +kernel
theorem dL_lends_179 : decode cL_lends 179 = .ok (.aload_n 3, 1) := by decide +kernel
theorem dL_lends_180 : decode cL_lends 180 = .ok (.bipush 6, 2) := by decide +kernel
theorem dL_lends_182 : decode cL_lends 182 = .ok (.iload 5, 2) := by decide +kernel
theorem dL_lends_184 : decode cL_lends 184 = .ok (.imul, 1) := by decide +kernel
theorem dL_lends_185 : decode cL_lends 185 = .ok (.iload 8, 2) := by decide +kernel
theorem dL_lends_187 : decode cL_lends 187 = .ok (.iadd, 1) := by decide +kernel
theorem dL_lends_188 : decode cL_lends 188 = .ok (.aload 4, 2) := by decide +kernel
theorem dL_lends_190 : decode cL_lends 190 = .ok (.bipush 8, 2) := by decide +kernel
theorem dL_lends_192 : decode cL_lends 192 = .ok (.iload 8, 2) := by decide +kernel
theorem dL_lends_194 : decode cL_lends 194 = .ok (.iadd, 1) := by decide +kernel
theorem dL_lends_195 : decode cL_lends 195 = .ok (.iaload, 1) := by decide +kernel
theorem dL_lends_196 : decode cL_lends 196 = .ok (.iastore, 1) := by decide +kernel
theorem dL_lends_197 : decode cL_lends 197 = .ok (.iinc 8 1, 3) := by decide +kernel
theorem dL_lends_200 : decode cL_lends 200 = .ok (.goto (-28), 3) := by decide +kernel
theorem dL_lends_203 : decode cL_lends 203 = .ok (.aload 4, 2) := by decide +kernel
theorem dL_lends_205 : decode cL_lends 205 = .ok (.iconst 1, 1) := by decide +kernel
theorem dL_lends_206 : decode cL_lends 206 = .ok (.dup2, 1) := by decide +kernel
theorem dL_lends_207 : decode cL_lends 207 = .ok (.iaload, 1) := by decide +kernel
theorem dL_lends_208 : decode cL_lends 208 = .ok (.iconst 1, 1) := by decide +kernel
theorem dL_lends_209 : decode cL_lends 209 = .ok (.iadd, 1) := by decide +kernel
theorem dL_lends_210 : decode cL_lends 210 = .ok (.iastore, 1) := by decide +kernel
theorem dL_lends_211 : decode cL_lends 211 = .ok (.aload_n 0, 1) := by decide +kernel
theorem dL_lends_212 : decode cL_lends 212 = .ok (.aload_n 2, 1) := by decide +kernel
theorem dL_lends_213 : decode cL_lends 213 = .ok (.iload 7, 2) := by decide +kernel
theorem dL_lends_215 : decode cL_lends 215 = .ok (.iaload, 1) := by decide +kernel
theorem dL_lends_216 : decode cL_lends 216 = .ok (.aload_n 2, 1) := by decide +kernel
theorem dL_lends_217 : decode cL_lends 217 = .ok (.iload 7, 2) := by decide +kernel
theorem dL_lends_219 : decode cL_lends 219 = .ok (.iconst 1, 1) := by decide +kernel
theorem dL_lends_220 : decode cL_lends 220 = .ok (.iadd, 1) := by decide +kernel
theorem dL_lends_221 : decode cL_lends 221 = .ok (.iaload, 1) := by decide +kernel
theorem dL_lends_222 : decode cL_lends 222 = .ok (.aload_n 2, 1) := by decide +kernel
theorem dL_lends_223 : decode cL_lends 223 = .ok (.iload 7, 2) := by decide +kernel
theorem dL_lends_225 : decode cL_lends 225 = .ok (.iconst 2, 1) := by decide +kernel
theorem dL_lends_226 : decode cL_lends 226 = .ok (.iadd, 1) := by decide +kernel
theorem dL_lends_227 : decode cL_lends 227 = .ok (.iaload, 1) := by decide +kernel
theorem dL_lends_228 : decode cL_lends 228 = .ok (.aload_n 2, 1) := by decide +kernel
theorem dL_lends_229 : decode cL_lends 229 = .ok (.iload 7, 2) := by decide +kernel
theorem dL_lends_231 : decode cL_lends 231 = .ok (.iconst 3, 1) := by decide +kernel
theorem dL_lends_232 : decode cL_lends 232 = .ok (.iadd, 1) := by decide +kernel
theorem dL_lends_233 : decode cL_lends 233 = .ok (.iaload, 1) := by decide +kernel
theorem dL_lends_234 : decode cL_lends 234 = .ok (.aload_n 2, 1) := by decide +kernel
theorem dL_lends_235 : decode cL_lends 235 = .ok (.iload 7, 2) := by decide +kernel
theorem dL_lends_237 : decode cL_lends 237 = .ok (.iconst 4, 1) := by decide +kernel
theorem dL_lends_238 : decode cL_lends 238 = .ok (.iadd, 1) := by decide +kernel
theorem dL_lends_239 : decode cL_lends 239 = .ok (.iaload, 1) := by decide +kernel
theorem dL_lends_240 : decode cL_lends 240 = .ok (.aload_n 2, 1) := by decide +kernel
theorem dL_lends_241 : decode cL_lends 241 = .ok (.iload 7, 2) := by decide +kernel
theorem dL_lends_243 : decode cL_lends 243 = .ok (.bipush 6, 2) := by decide +kernel
theorem dL_lends_245 : decode cL_lends 245 = .ok (.iadd, 1) := by decide +kernel
theorem dL_lends_246 : decode cL_lends 246 = .ok (.iaload, 1) := by decide +kernel
theorem dL_lends_247 : decode cL_lends 247 = .ok (.ifCond .lt 7, 3) := by decide +kernel
theorem dL_lends_250 : decode cL_lends 250 = .ok (.iconst 1, 1) := by decide +kernel
theorem dL_lends_251 : decode cL_lends 251 = .ok (.goto 4, 3) := by decide +kernel
theorem dL_lends_254 : decode cL_lends 254 = .ok (.iconst 0, 1) := by decide +kernel
theorem dL_lends_255 : decode cL_lends 255 = .ok (.invokevirtual 94, 3) := by decide +kernel
theorem dL_lends_258 : decode cL_lends 258 = .ok (.iload 5, 2) := by decide +kernel
theorem dL_lends_260 : decode cL_lends 260 = .ok (.if_icmp .ne 7, 3) := by decide +kernel
theorem dL_lends_263 : decode cL_lends 263 = .ok (.iconst 1, 1) := by decide +kernel
theorem dL_lends_264 : decode cL_lends 264 = .ok (.goto 4, 3) := by decide +kernel
theorem dL_lends_267 : decode cL_lends 267 = .ok (.iconst 0, 1) := by decide +kernel
theorem dL_lends_268 : decode cL_lends 268 = .ok (.ireturn, 1) := by decide +kernel
set_option maxRecDepth 20000 in
theorem ggL_deposits_L_low : GoodIn wsL_deposits wsL_low := goodIn_r _ [8, 9] (by decide +kernel) (by decide +kernel)
set_option maxRecDepth 20000 in
theorem gL_deposits_L_low : GoodIn wsL_deposits (va_wsS RL 89 yL_low wsL_low) := goodIn_app (goodIn_of _ (by decide +kernel)) ggL_deposits_L_low
set_option maxRecDepth 20000 in
theorem ggL_deposits_L_lay : GoodIn wsL_deposits wsL_lay := goodIn_r _ [12, 13] (by decide +kernel) (by decide +kernel)
set_option maxRecDepth 20000 in
theorem gL_deposits_L_lay : GoodIn wsL_deposits (va_wsS RL 51 yL_lay wsL_lay) := goodIn_app (goodIn_of _ (by decide +kernel)) ggL_deposits_L_lay
set_option maxRecDepth 20000 in
theorem ggL_deposits_L_calls : GoodIn wsL_deposits wsL_calls := goodIn_ca (goodIn_ca (goodIn_ca (goodIn_r _ [16, 17, 18, 19, 20, 21, 22, 23, 24, 25, 26, 27, 28, 29, 30, 31, 32, 33, 34, 35, 36, 37, 38, 39, 40, 41, 42, 43, 44, 45, 46, 47, 48, 49, 50, 51, 52, 53, 54, 55, 56, 57, 58, 59, 60, 61, 62, 63, 64, 65, 66, 67, 68, 69, 70, 71, 72, 73, 74, 75, 76, 77, 78, 79, 80, 81, 82, 83, 84, 85, 86, 87, 88, 89, 90, 91, 92, 93, 94, 95, 96, 97, 98, 99, 100, 101, 102, 103, 104, 105, 106, 107, 108, 109, 110, 111, 112, 113, 114, 115, 116, 117, 118, 119, 120, 121, 122, 123, 124, 125, 126, 127, 128, 129, 130, 131, 132, 133, 134, 135, 136, 137, 138, 139, 140, 141, 142, 143, 144, 145, 146, 147, 148, 149, 150, 151, 152, 153, 154, 155, 156, 157] (by decide +kernel) (by decide +kernel)) (goodIn_sub (fun _ h => List.mem_cons_of_mem _ (List.mem_append_left _ (List.mem_append_left _ (List.mem_append_right _ h)))) (by decide +kernel))) (goodIn_sub (fun _ h => List.mem_cons_of_mem _ (List.mem_append_left _ (List.mem_append_right _ h))) (by decide +kernel))) (goodIn_sub (fun _ h => List.mem_cons_of_mem _ (List.mem_append_right _ h)) (by decide +kernel))
set_option maxRecDepth 20000 in
theorem gL_deposits_L_calls : GoodIn wsL_deposits (va_wsS RL 101 yL_calls wsL_calls) := goodIn_app (goodIn_of _ (by decide +kernel)) ggL_deposits_L_calls
theorem dL_deposits_0 : decode cL_deposits 0 = .ok (.iload_n 1, 1) := by decide +kernel
theorem dL_deposits_1 : decode cL_deposits 1 = .ok (.iconst 3, 1) := by decide +kernel
theorem dL_deposits_2 : decode cL_deposits 2 = .ok (.invokestatic 89, 3) := by decide +kernel
theorem dL_deposits_5 : decode cL_deposits 5 = .ok (.istore 4, 2) := by decide +kernel
theorem dL_deposits_7 : decode cL_deposits 7 = .ok (.iload_n 1, 1) := by decide +kernel
theorem dL_deposits_8 : decode cL_deposits 8 = .ok (.bipush 12, 2) := by decide +kernel
theorem dL_deposits_10 : decode cL_deposits 10 = .ok (.ishr, 1) := by decide +kernel
theorem dL_deposits_11 : decode cL_deposits 11 = .ok (.iconst 4, 1) := by decide +kernel
theorem dL_deposits_12 : decode cL_deposits 12 = .ok (.invokestatic 89, 3) := by decide +kernel
theorem dL_deposits_15 : decode cL_deposits 15 = .ok (.ifCond .ne 17, 3) := by decide +kernel
theorem dL_deposits_18 : decode cL_deposits 18 = .ok (.iload_n 1, 1) := by decide +kernel
theorem dL_deposits_19 : decode cL_deposits 19 = .ok (.iconst 2, 1) := by decide +kernel
theorem dL_deposits_20 : decode cL_deposits 20 = .ok (.ishr, 1) := by decide +kernel
theorem dL_deposits_21 : decode cL_deposits 21 = .ok (.ldc 98, 2) := by decide +kernel
theorem dL_deposits_23 : decode cL_deposits 23 = .ok (.invokestatic 89, 3) := by decide +kernel
theorem dL_deposits_26 : decode cL_deposits 26 = .ok (.ldc 92, 2) := by decide +kernel
theorem dL_deposits_28 : decode cL_deposits 28 = .ok (.isub, 1) := by decide +kernel
theorem dL_deposits_29 : decode cL_deposits 29 = .ok (.goto 22, 3) := by decide +kernel
theorem dL_deposits_32 : decode cL_deposits 32 = .ok (.iload_n 1, 1) := by decide +kernel
theorem dL_deposits_33 : decode cL_deposits 33 = .ok (.iconst 2, 1) := by decide +kernel
theorem dL_deposits_34 : decode cL_deposits 34 = .ok (.ishr, 1) := by decide +kernel
theorem dL_deposits_35 : decode cL_deposits 35 = .ok (.ldc 99, 2) := by decide +kernel
theorem dL_deposits_37 : decode cL_deposits 37 = .ok (.invokestatic 89, 3) := by decide +kernel
theorem dL_deposits_40 : decode cL_deposits 40 = .ok (.iload_n 1, 1) := by decide +kernel
theorem dL_deposits_41 : decode cL_deposits 41 = .ok (.iconst 5, 1) := by decide +kernel
theorem dL_deposits_42 : decode cL_deposits 42 = .ok (.ishr, 1) := by decide +kernel
theorem dL_deposits_43 : decode cL_deposits 43 = .ok (.iconst 3, 1) := by decide +kernel
theorem dL_deposits_44 : decode cL_deposits 44 = .ok (.invokestatic 89, 3) := by decide +kernel
theorem dL_deposits_47 : decode cL_deposits 47 = .ok (.ldc 100, 2) := by decide +kernel
theorem dL_deposits_49 : decode cL_deposits 49 = .ok (.imul, 1) := by decide +kernel
theorem dL_deposits_50 : decode cL_deposits 50 = .ok (.isub, 1) := by decide +kernel
theorem dL_deposits_51 : decode cL_deposits 51 = .ok (.istore 5, 2) := by decide +kernel
theorem dL_deposits_53 : decode cL_deposits 53 = .ok (.aload_n 3, 1) := by decide +kernel
theorem dL_deposits_54 : decode cL_deposits 54 = .ok (.iconst 5, 1) := by decide +kernel
theorem dL_deposits_55 : decode cL_deposits 55 = .ok (.iload 4, 2) := by decide +kernel
theorem dL_deposits_57 : decode cL_deposits 57 = .ok (.iadd, 1) := by decide +kernel
theorem dL_deposits_58 : decode cL_deposits 58 = .ok (.iaload, 1) := by decide +kernel
theorem dL_deposits_59 : decode cL_deposits 59 = .ok (.iload 5, 2) := by decide +kernel
theorem dL_deposits_61 : decode cL_deposits 61 = .ok (.iadd, 1) := by decide +kernel
theorem dL_deposits_62 : decode cL_deposits 62 = .ok (.ifCond .lt 17, 3) := by decide +kernel
theorem dL_deposits_65 : decode cL_deposits 65 = .ok (.aload_n 3, 1) := by decide +kernel
theorem dL_deposits_66 : decode cL_deposits 66 = .ok (.iconst 5, 1) := by decide +kernel
theorem dL_deposits_67 : decode cL_deposits 67 = .ok (.iload 4, 2) := by decide +kernel
theorem dL_deposits_69 : decode cL_deposits 69 = .ok (.iadd, 1) := by decide +kernel
theorem dL_deposits_70 : decode cL_deposits 70 = .ok (.iaload, 1) := by decide +kernel
theorem dL_deposits_71 : decode cL_deposits 71 = .ok (.iload 5, 2) := by decide +kernel
theorem dL_deposits_73 : decode cL_deposits 73 = .ok (.iadd, 1) := by decide +kernel
theorem dL_deposits_74 : decode cL_deposits 74 = .ok (.ldc 92, 2) := by decide +kernel
theorem dL_deposits_76 : decode cL_deposits 76 = .ok (.if_icmp .le 8, 3) := by decide +kernel
theorem dL_deposits_79 : decode cL_deposits 79 = .ok (.bipush (-3), 2) := by decide +kernel
theorem dL_deposits_81 : decode cL_deposits 81 = .ok (.goto 12, 3) := by decide +kernel
theorem dL_deposits_84 : decode cL_deposits 84 = .ok (.aload_n 3, 1) := by decide +kernel
theorem dL_deposits_85 : decode cL_deposits 85 = .ok (.iconst 5, 1) := by decide +kernel
theorem dL_deposits_86 : decode cL_deposits 86 = .ok (.iload 4, 2) := by decide +kernel
theorem dL_deposits_88 : decode cL_deposits 88 = .ok (.iadd, 1) := by decide +kernel
theorem dL_deposits_89 : decode cL_deposits 89 = .ok (.iaload, 1) := by decide +kernel
theorem dL_deposits_90 : decode cL_deposits 90 = .ok (.iload 5, 2) := by decide +kernel
theorem dL_deposits_92 : decode cL_deposits 92 = .ok (.iadd, 1) := by decide +kernel
theorem dL_deposits_93 : decode cL_deposits 93 = .ok (.istore 6, 2) := by decide +kernel
theorem dL_deposits_95 : decode cL_deposits 95 = .ok (.iload 6, 2) := by decide +kernel
theorem dL_deposits_97 : decode cL_deposits 97 = .ok (.ifCond .lt 45, 3) := by decide +kernel
theorem dL_deposits_100 : decode cL_deposits 100 = .ok (.aload_n 3, 1) := by decide +kernel
theorem dL_deposits_101 : decode cL_deposits 101 = .ok (.iconst 5, 1) := by decide +kernel
theorem dL_deposits_102 : decode cL_deposits 102 = .ok (.iload 4, 2) := by decide +kernel
theorem dL_deposits_104 : decode cL_deposits 104 = .ok (.iadd, 1) := by decide +kernel
theorem dL_deposits_105 : decode cL_deposits 105 = .ok (.iload 6, 2) := by decide +kernel
theorem dL_deposits_107 : decode cL_deposits 107 = .ok (.iastore, 1) := by decide +kernel
theorem dL_deposits_108 : decode cL_deposits 108 = .ok (.iconst 0, 1) := by decide +kernel
theorem dL_deposits_109 : decode cL_deposits 109 = .ok (.istore 7, 2) := by decide +kernel
theorem dL_deposits_111 : decode cL_deposits 111 = .ok (.iload 7, 2) := by decide +kernel
theorem dL_deposits_113 : decode cL_deposits 113 = .ok (.bipush 6, 2) := by decide +kernel
theorem dL_deposits_115 : decode cL_deposits 115 = .ok (.if_icmp .ge 27, 3) := by decide +kernel
theorem dL_deposits_118 : decode cL_deposits 118 = .ok (.aload_n 3, 1) := by decide +kernel
theorem dL_deposits_119 : decode cL_deposits 119 = .ok (.iconst 0, 1) := by decide +kernel
theorem dL_deposits_120 : decode cL_deposits 120 = .ok (.iaload, 1) := by decide +kernel
theorem dL_deposits_121 : decode cL_deposits 121 = .ok (.ifCond .ne 21, 3) := by decide +kernel
theorem dL_deposits_124 : decode cL_deposits 124 = .ok (.iload 5, 2) := by decide +kernel
theorem dL_deposits_126 : decode cL_deposits 126 = .ok (.ifCond .eq 16, 3) := by decide +kernel
theorem dL_deposits_129 : decode cL_deposits 129 = .ok (.iload 7, 2) := by decide +kernel
theorem dL_deposits_131 : decode cL_deposits 131 = .ok (.aload_n 2, 1) := by decide +kernel
theorem dL_deposits_132 : decode cL_deposits 132 = .ok (.aload_n 3, 1) := by decide +kernel
theorem dL_deposits_133 : decode cL_deposits 133 = .ok (.invokestatic 51, 3) := by decide +kernel
theorem dL_deposits_136 : decode cL_deposits 136 = .ok (.iinc 7 1, 3) := by decide +kernel
theorem dL_deposits_139 : decode cL_deposits 139 = .ok (.goto (-28), 3) := by decide +kernel
theorem dL_deposits_142 : decode cL_deposits 142 = .ok (.aload_n 0, 1) := by decide +kernel
theorem dL_deposits_143 : decode cL_deposits 143 = .ok (.iconst 1, 1) := by decide +kernel
theorem dL_deposits_144 : decode cL_deposits 144 = .ok (.iload 4, 2) := by decide +kernel
theorem dL_deposits_146 : decode cL_deposits 146 = .ok (.iload 5, 2) := by decide +kernel
theorem dL_deposits_148 : decode cL_deposits 148 = .ok (.invokestatic 101, 3) := by decide +kernel
theorem dL_deposits_151 : decode cL_deposits 151 = .ok (.iload 6, 2) := by decide +kernel
theorem dL_deposits_153 : decode cL_deposits 153 = .ok (.if_icmp .ne 7, 3) := by decide +kernel
theorem dL_deposits_156 : decode cL_deposits 156 = .ok (.iconst 1, 1) := by decide +kernel
theorem dL_deposits_157 : decode cL_deposits 157 = .ok (.goto 4, 3) := by decide +kernel
theorem dL_deposits_160 : decode cL_deposits 160 = .ok (.iconst 0, 1) := by decide +kernel
theorem dL_deposits_161 : decode cL_deposits 161 = .ok (.ireturn, 1) := by decide +kernel
set_option maxRecDepth 20000 in
theorem ggL_sets_L_low : GoodIn wsL_sets wsL_low := goodIn_r _ [4, 5] (by decide +kernel) (by decide +kernel)
set_option maxRecDepth 20000 in
theorem gL_sets_L_low : GoodIn wsL_sets (va_wsS RL 89 yL_low wsL_low) := goodIn_app (goodIn_of _ (by decide +kernel)) ggL_sets_L_low
set_option maxRecDepth 20000 in
theorem ggL_sets_X2_setRates : GoodIn wsL_sets wsX2_setRates := goodIn_ca (goodIn_r _ [10, 11, 12, 13, 14, 15, 23, 24, 25, 26, 27, 28, 29, 30, 31, 32, 33, 34, 35] (by decide +kernel) (by decide +kernel)) (goodIn_sub (fun _ h => List.mem_cons_of_mem _ (List.mem_append_left _ (List.mem_append_right _ h))) (by decide +kernel))
set_option maxRecDepth 20000 in
theorem gL_sets_X2_setRates : GoodIn wsL_sets (wsV RL 105 RX2 yX2_setRates wsX2_setRates) := goodIn_app (goodIn_of _ (by decide +kernel)) ggL_sets_X2_setRates
set_option maxRecDepth 20000 in
theorem ggL_sets_X2_setCurve : GoodIn wsL_sets wsX2_setCurve := goodIn_ca (goodIn_ca (goodIn_r _ [19, 20, 21, 11, 12, 22, 23, 24, 25, 26, 27, 28, 29, 30, 31, 32, 33, 34, 35] (by decide +kernel) (by decide +kernel)) (goodIn_sub (fun _ h => List.mem_cons_of_mem _ (List.mem_append_right _ h)) (by decide +kernel))) (goodIn_sub (fun _ h => List.mem_cons_of_mem _ (List.mem_append_left _ (List.mem_append_right _ h))) (by decide +kernel))
set_option maxRecDepth 20000 in
theorem gL_sets_X2_setCurve : GoodIn wsL_sets (wsV RL 109 RX2 yX2_setCurve wsX2_setCurve) := goodIn_app (goodIn_of _ (by decide +kernel)) ggL_sets_X2_setCurve
theorem dL_sets_0 : decode cL_sets 0 = .ok (.iload_n 1, 1) := by decide +kernel
theorem dL_sets_1 : decode cL_sets 1 = .ok (.iconst 3, 1) := by decide +kernel
theorem dL_sets_2 : decode cL_sets 2 = .ok (.invokestatic 89, 3) := by decide +kernel
theorem dL_sets_5 : decode cL_sets 5 = .ok (.ifCond .ne 54, 3) := by decide +kernel
theorem dL_sets_8 : decode cL_sets 8 = .ok (.aload_n 2, 1) := by decide +kernel
theorem dL_sets_9 : decode cL_sets 9 = .ok (.iconst 2, 1) := by decide +kernel
theorem dL_sets_10 : decode cL_sets 10 = .ok (.iload_n 1, 1) := by decide +kernel
theorem dL_sets_11 : decode cL_sets 11 = .ok (.iconst 2, 1) := by decide +kernel
theorem dL_sets_12 : decode cL_sets 12 = .ok (.ishr, 1) := by decide +kernel
theorem dL_sets_13 : decode cL_sets 13 = .ok (.sipush 5001, 3) := by decide +kernel
theorem dL_sets_16 : decode cL_sets 16 = .ok (.invokestatic 89, 3) := by decide +kernel
theorem dL_sets_19 : decode cL_sets 19 = .ok (.iastore, 1) := by decide +kernel
theorem dL_sets_20 : decode cL_sets 20 = .ok (.aload_n 2, 1) := by decide +kernel
theorem dL_sets_21 : decode cL_sets 21 = .ok (.iconst 3, 1) := by decide +kernel
theorem dL_sets_22 : decode cL_sets 22 = .ok (.iload_n 1, 1) := by decide +kernel
theorem dL_sets_23 : decode cL_sets 23 = .ok (.iconst 4, 1) := by decide +kernel
theorem dL_sets_24 : decode cL_sets 24 = .ok (.ishr, 1) := by decide +kernel
theorem dL_sets_25 : decode cL_sets 25 = .ok (.sipush 5001, 3) := by decide +kernel
theorem dL_sets_28 : decode cL_sets 28 = .ok (.invokestatic 89, 3) := by decide +kernel
theorem dL_sets_31 : decode cL_sets 31 = .ok (.iastore, 1) := by decide +kernel
theorem dL_sets_32 : decode cL_sets 32 = .ok (.aload_n 2, 1) := by decide +kernel
theorem dL_sets_33 : decode cL_sets 33 = .ok (.iconst 4, 1) := by decide +kernel
theorem dL_sets_34 : decode cL_sets 34 = .ok (.iload_n 1, 1) := by decide +kernel
theorem dL_sets_35 : decode cL_sets 35 = .ok (.bipush 6, 2) := by decide +kernel
theorem dL_sets_37 : decode cL_sets 37 = .ok (.ishr, 1) := by decide +kernel
theorem dL_sets_38 : decode cL_sets 38 = .ok (.bipush 101, 2) := by decide +kernel
theorem dL_sets_40 : decode cL_sets 40 = .ok (.invokestatic 89, 3) := by decide +kernel
theorem dL_sets_43 : decode cL_sets 43 = .ok (.iastore, 1) := by decide +kernel
theorem dL_sets_44 : decode cL_sets 44 = .ok (.aload_n 0, 1) := by decide +kernel
theorem dL_sets_45 : decode cL_sets 45 = .ok (.aload_n 2, 1) := by decide +kernel
theorem dL_sets_46 : decode cL_sets 46 = .ok (.iconst 2, 1) := by decide +kernel
theorem dL_sets_47 : decode cL_sets 47 = .ok (.iaload, 1) := by decide +kernel
theorem dL_sets_48 : decode cL_sets 48 = .ok (.aload_n 2, 1) := by decide +kernel
theorem dL_sets_49 : decode cL_sets 49 = .ok (.iconst 3, 1) := by decide +kernel
theorem dL_sets_50 : decode cL_sets 50 = .ok (.iaload, 1) := by decide +kernel
theorem dL_sets_51 : decode cL_sets 51 = .ok (.aload_n 2, 1) := by decide +kernel
theorem dL_sets_52 : decode cL_sets 52 = .ok (.iconst 4, 1) := by decide +kernel
theorem dL_sets_53 : decode cL_sets 53 = .ok (.iaload, 1) := by decide +kernel
theorem dL_sets_54 : decode cL_sets 54 = .ok (.invokevirtual 105, 3) := by decide +kernel
theorem dL_sets_57 : decode cL_sets 57 = .ok (.iconst 1, 1) := by decide +kernel
theorem dL_sets_58 : decode cL_sets 58 = .ok (.ireturn, 1) := by decide +kernel
theorem dL_sets_59 : decode cL_sets 59 = .ok (.iload_n 1, 1) := by decide +kernel
theorem dL_sets_60 : decode cL_sets 60 = .ok (.iconst 2, 1) := by decide +kernel
theorem dL_sets_61 : decode cL_sets 61 = .ok (.ishr, 1) := by decide +kernel
theorem dL_sets_62 : decode cL_sets 62 = .ok (.bipush 6, 2) := by decide +kernel
theorem dL_sets_64 : decode cL_sets 64 = .ok (.invokestatic 89, 3) := by decide +kernel
theorem dL_sets_67 : decode cL_sets 67 = .ok (.istore_n 3, 1) := by decide +kernel
theorem dL_sets_68 : decode cL_sets 68 = .ok (.aload_n 2, 1) := by decide +kernel
theorem dL_sets_69 : decode cL_sets 69 = .ok (.bipush 8, 2) := by decide +kernel
theorem dL_sets_71 : decode cL_sets 71 = .ok (.iload_n 3, 1) := by decide +kernel
theorem dL_sets_72 : decode cL_sets 72 = .ok (.iadd, 1) := by decide +kernel
theorem dL_sets_73 : decode cL_sets 73 = .ok (.iaload, 1) := by decide +kernel
theorem dL_sets_74 : decode cL_sets 74 = .ok (.istore 4, 2) := by decide +kernel
theorem dL_sets_76 : decode cL_sets 76 = .ok (.aload_n 2, 1) := by decide +kernel
theorem dL_sets_77 : decode cL_sets 77 = .ok (.bipush 8, 2) := by decide +kernel
theorem dL_sets_79 : decode cL_sets 79 = .ok (.iload_n 3, 1) := by decide +kernel
theorem dL_sets_80 : decode cL_sets 80 = .ok (.iadd, 1) := by decide +kernel
theorem dL_sets_81 : decode cL_sets 81 = .ok (.iload_n 1, 1) := by decide +kernel
theorem dL_sets_82 : decode cL_sets 82 = .ok (.iconst 4, 1) := by decide +kernel
theorem dL_sets_83 : decode cL_sets 83 = .ok (.ishr, 1) := by decide +kernel
theorem dL_sets_84 : decode cL_sets 84 = .ok (.sipush 5001, 3) := by decide +kernel
theorem dL_sets_87 : decode cL_sets 87 = .ok (.invokestatic 89, 3) := by decide +kernel
theorem dL_sets_90 : decode cL_sets 90 = .ok (.iastore, 1) := by decide +kernel
theorem dL_sets_91 : decode cL_sets 91 = .ok (.aload_n 0, 1) := by decide +kernel
theorem dL_sets_92 : decode cL_sets 92 = .ok (.iload_n 3, 1) := by decide +kernel
theorem dL_sets_93 : decode cL_sets 93 = .ok (.iconst 1, 1) := by decide +kernel
theorem dL_sets_94 : decode cL_sets 94 = .ok (.iadd, 1) := by decide +kernel
theorem dL_sets_95 : decode cL_sets 95 = .ok (.aload_n 2, 1) := by decide +kernel
theorem dL_sets_96 : decode cL_sets 96 = .ok (.bipush 8, 2) := by decide +kernel
theorem dL_sets_98 : decode cL_sets 98 = .ok (.iload_n 3, 1) := by decide +kernel
theorem dL_sets_99 : decode cL_sets 99 = .ok (.iadd, 1) := by decide +kernel
theorem dL_sets_100 : decode cL_sets 100 = .ok (.iaload, 1) := by decide +kernel
theorem dL_sets_101 : decode cL_sets 101 = .ok (.invokevirtual 109, 3) := by decide +kernel
theorem dL_sets_104 : decode cL_sets 104 = .ok (.iload 4, 2) := by decide +kernel
theorem dL_sets_106 : decode cL_sets 106 = .ok (.if_icmp .ne 7, 3) := by decide +kernel
theorem dL_sets_109 : decode cL_sets 109 = .ok (.iconst 1, 1) := by decide +kernel
theorem dL_sets_110 : decode cL_sets 110 = .ok (.goto 4, 3) := by decide +kernel
theorem dL_sets_113 : decode cL_sets 113 = .ok (.iconst 0, 1) := by decide +kernel
theorem dL_sets_114 : decode cL_sets 114 = .ok (.ireturn, 1) := by decide +kernel
