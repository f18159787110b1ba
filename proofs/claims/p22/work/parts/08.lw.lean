theorem dL_below_0 : decode cL_below 0 = .ok (.iload_n 0, 1) := by decide +kernel
theorem dL_below_1 : decode cL_below 1 = .ok (.ldc 7, 2) := by decide +kernel
theorem dL_below_3 : decode cL_below 3 = .ok (.iand, 1) := by decide +kernel
theorem dL_below_4 : decode cL_below 4 = .ok (.iload_n 1, 1) := by decide +kernel
theorem dL_below_5 : decode cL_below 5 = .ok (.irem, 1) := by decide +kernel
theorem dL_below_6 : decode cL_below 6 = .ok (.ireturn, 1) := by decide +kernel
theorem dL_cell_0 : decode cL_cell 0 = .ok (.iload_n 1, 1) := by decide +kernel
theorem dL_cell_1 : decode cL_cell 1 = .ok (.aload_n 0, 1) := by decide +kernel
theorem dL_cell_2 : decode cL_cell 2 = .ok (.arraylength, 1) := by decide +kernel
theorem dL_cell_3 : decode cL_cell 3 = .ok (.if_icmp .ge 9, 3) := by decide +kernel
theorem dL_cell_6 : decode cL_cell 6 = .ok (.aload_n 0, 1) := by decide +kernel
theorem dL_cell_7 : decode cL_cell 7 = .ok (.iload_n 1, 1) := by decide +kernel
theorem dL_cell_8 : decode cL_cell 8 = .ok (.iaload, 1) := by decide +kernel
theorem dL_cell_9 : decode cL_cell 9 = .ok (.goto 9, 3) := by decide +kernel
theorem dL_cell_12 : decode cL_cell 12 = .ok (.ldc 8, 2) := by decide +kernel
theorem dL_cell_14 : decode cL_cell 14 = .ok (.iload_n 1, 1) := by decide +kernel
theorem dL_cell_15 : decode cL_cell 15 = .ok (.iconst 3, 1) := by decide +kernel
theorem dL_cell_16 : decode cL_cell 16 = .ok (.iadd, 1) := by decide +kernel
theorem dL_cell_17 : decode cL_cell 17 = .ok (.imul, 1) := by decide +kernel
theorem dL_cell_18 : decode cL_cell 18 = .ok (.ireturn, 1) := by decide +kernel
set_option maxRecDepth 20000 in
theorem ggL_act_L_below : GoodIn wsL_act wsL_below := goodIn_r _ [7, 8] (by decide +kernel) (by decide +kernel)
set_option maxRecDepth 20000 in
theorem gL_act_L_below : GoodIn wsL_act (va_wsS RL 15 yL_below wsL_below) := goodIn_app (goodIn_of _ (by decide +kernel)) ggL_act_L_below
set_option maxRecDepth 20000 in
theorem ggL_act_X2_add : GoodIn wsL_act wsX2_add := goodIn_r _ [13, 14, 15, 16, 95, 96, 97, 98, 99, 100, 101, 102, 103, 104] (by decide +kernel) (by decide +kernel)
set_option maxRecDepth 20000 in
theorem gL_act_X2_add : GoodIn wsL_act (wsV RL 21 RX2 yX2_add wsX2_add) := goodIn_app (goodIn_of _ (by decide +kernel)) ggL_act_X2_add
set_option maxRecDepth 20000 in
theorem ggL_act_X1_join : GoodIn wsL_act wsX1_join := goodIn_ca (goodIn_ca (goodIn_r _ [21, 22, 23, 20, 24, 25, 26, 27, 28, 29, 30, 31, 32, 33, 34, 35, 36, 37, 105, 106, 107, 108, 109, 110] (by decide +kernel) (by decide +kernel)) (goodIn_sub (fun _ h => List.mem_cons_of_mem _ (List.mem_append_left _ (List.mem_append_left _ (List.mem_append_right _ h)))) (by decide +kernel))) (goodIn_sub (fun _ h => List.mem_cons_of_mem _ (List.mem_append_left _ (List.mem_append_right _ h))) (by decide +kernel))
set_option maxRecDepth 20000 in
theorem gL_act_X1_join : GoodIn wsL_act (wsV RL 25 RX1 yX1_join wsX1_join) := goodIn_app (goodIn_of _ (by decide +kernel)) ggL_act_X1_join
set_option maxRecDepth 20000 in
theorem ggL_act_X1_toss : GoodIn wsL_act wsX1_toss := goodIn_ca (goodIn_ca (goodIn_ca (goodIn_r _ [41, 42, 43, 20, 44, 45, 46, 22, 23, 24, 25, 26, 27, 28, 29, 30, 31, 32, 33, 34, 35, 36, 37, 105, 106, 107, 108, 109, 110] (by decide +kernel) (by decide +kernel)) (goodIn_sub (fun _ h => List.mem_cons_of_mem _ (List.mem_append_right _ h)) (by decide +kernel))) (goodIn_sub (fun _ h => List.mem_cons_of_mem _ (List.mem_append_left _ (List.mem_append_left _ (List.mem_append_right _ h)))) (by decide +kernel))) (goodIn_sub (fun _ h => List.mem_cons_of_mem _ (List.mem_append_left _ (List.mem_append_right _ h))) (by decide +kernel))
set_option maxRecDepth 20000 in
theorem gL_act_X1_toss : GoodIn wsL_act (wsV RL 31 RX1 yX1_toss wsX1_toss) := goodIn_app (goodIn_of _ (by decide +kernel)) ggL_act_X1_toss
set_option maxRecDepth 20000 in
theorem ggL_act_X1_rest : GoodIn wsL_act wsX1_rest := goodIn_ca (goodIn_ca (goodIn_r _ [50, 42, 43, 20, 44, 45, 46, 27, 28, 29, 30, 31, 32, 33, 34, 35, 36, 37, 105, 106, 107, 108, 109, 110] (by decide +kernel) (by decide +kernel)) (goodIn_sub (fun _ h => List.mem_cons_of_mem _ (List.mem_append_right _ h)) (by decide +kernel))) (goodIn_sub (fun _ h => List.mem_cons_of_mem _ (List.mem_append_left _ (List.mem_append_right _ h))) (by decide +kernel))
set_option maxRecDepth 20000 in
theorem gL_act_X1_rest : GoodIn wsL_act (wsV RL 34 RX1 yX1_rest wsX1_rest) := goodIn_app (goodIn_of _ (by decide +kernel)) ggL_act_X1_rest
set_option maxRecDepth 20000 in
theorem ggL_act_X1_go : GoodIn wsL_act wsX1_go := goodIn_ca (goodIn_ca (goodIn_r _ [54, 42, 43, 20, 44, 45, 46, 27, 28, 29, 30, 31, 32, 33, 34, 35, 36, 37, 105, 106, 107, 108, 109, 110] (by decide +kernel) (by decide +kernel)) (goodIn_sub (fun _ h => List.mem_cons_of_mem _ (List.mem_append_right _ h)) (by decide +kernel))) (goodIn_sub (fun _ h => List.mem_cons_of_mem _ (List.mem_append_left _ (List.mem_append_right _ h))) (by decide +kernel))
set_option maxRecDepth 20000 in
theorem gL_act_X1_go : GoodIn wsL_act (wsV RL 37 RX1 yX1_go wsX1_go) := goodIn_app (goodIn_of _ (by decide +kernel)) ggL_act_X1_go
set_option maxRecDepth 20000 in
theorem ggL_act_X1_pay : GoodIn wsL_act wsX1_pay := goodIn_ca (goodIn_ca (goodIn_ca (goodIn_r _ [58, 42, 43, 20, 44, 45, 46, 22, 23, 24, 25, 26, 27, 28, 29, 30, 31, 32, 33, 34, 35, 36, 37, 105, 106, 107, 108, 109, 110] (by decide +kernel) (by decide +kernel)) (goodIn_sub (fun _ h => List.mem_cons_of_mem _ (List.mem_append_right _ h)) (by decide +kernel))) (goodIn_sub (fun _ h => List.mem_cons_of_mem _ (List.mem_append_left _ (List.mem_append_left _ (List.mem_append_right _ h)))) (by decide +kernel))) (goodIn_sub (fun _ h => List.mem_cons_of_mem _ (List.mem_append_left _ (List.mem_append_right _ h))) (by decide +kernel))
set_option maxRecDepth 20000 in
theorem gL_act_X1_pay : GoodIn wsL_act (wsV RL 40 RX1 yX1_pay wsX1_pay) := goodIn_app (goodIn_of _ (by decide +kernel)) ggL_act_X1_pay
set_option maxRecDepth 20000 in
theorem ggL_act_X1_buy : GoodIn wsL_act wsX1_buy := goodIn_ca (goodIn_ca (goodIn_r _ [62, 22, 23, 20, 24, 25, 26, 27, 28, 29, 30, 31, 32, 33, 34, 35, 36, 37, 105, 106, 107, 108, 109, 110] (by decide +kernel) (by decide +kernel)) (goodIn_sub (fun _ h => List.mem_cons_of_mem _ (List.mem_append_left _ (List.mem_append_left _ (List.mem_append_right _ h)))) (by decide +kernel))) (goodIn_sub (fun _ h => List.mem_cons_of_mem _ (List.mem_append_left _ (List.mem_append_right _ h))) (by decide +kernel))
set_option maxRecDepth 20000 in
theorem gL_act_X1_buy : GoodIn wsL_act (wsV RL 43 RX1 yX1_buy wsX1_buy) := goodIn_app (goodIn_of _ (by decide +kernel)) ggL_act_X1_buy
set_option maxRecDepth 20000 in
theorem ggL_act_X1_strike : GoodIn wsL_act wsX1_strike := goodIn_ca (goodIn_r _ [66, 33, 37, 42, 43, 20, 44, 45, 46, 105, 106, 107, 108, 109, 110] (by decide +kernel) (by decide +kernel)) (goodIn_sub (fun _ h => List.mem_cons_of_mem _ (List.mem_append_right _ h)) (by decide +kernel))
set_option maxRecDepth 20000 in
theorem gL_act_X1_strike : GoodIn wsL_act (wsV RL 46 RX1 yX1_strike wsX1_strike) := goodIn_app (goodIn_of _ (by decide +kernel)) ggL_act_X1_strike
set_option maxRecDepth 20000 in
theorem ggL_act_X2_take : GoodIn wsL_act wsX2_take := goodIn_r _ [70, 14, 15, 95, 96, 97, 98, 99, 100, 101, 102, 103, 104] (by decide +kernel) (by decide +kernel)
set_option maxRecDepth 20000 in
theorem gL_act_X2_take : GoodIn wsL_act (wsV RL 50 RX2 yX2_take wsX2_take) := goodIn_app (goodIn_of _ (by decide +kernel)) ggL_act_X2_take
set_option maxRecDepth 20000 in
theorem ggL_act_X2_put : GoodIn wsL_act wsX2_put := goodIn_r _ [74, 14, 15, 95, 96, 97, 98, 99, 100, 101, 102, 103, 104] (by decide +kernel) (by decide +kernel)
set_option maxRecDepth 20000 in
theorem gL_act_X2_put : GoodIn wsL_act (wsV RL 54 RX2 yX2_put wsX2_put) := goodIn_app (goodIn_of _ (by decide +kernel)) ggL_act_X2_put
set_option maxRecDepth 20000 in
theorem ggL_act_X1_shift : GoodIn wsL_act wsX1_shift := goodIn_ca (goodIn_r _ [78, 33, 34, 42, 43, 20, 44, 45, 46, 79, 80, 81, 82, 35, 36, 37, 83, 84, 85, 105, 106, 107, 108, 109, 110] (by decide +kernel) (by decide +kernel)) (goodIn_sub (fun _ h => List.mem_cons_of_mem _ (List.mem_append_right _ h)) (by decide +kernel))
set_option maxRecDepth 20000 in
theorem gL_act_X1_shift : GoodIn wsL_act (wsV RL 58 RX1 yX1_shift wsX1_shift) := goodIn_app (goodIn_of _ (by decide +kernel)) ggL_act_X1_shift
set_option maxRecDepth 20000 in
theorem ggL_act_X1_tear : GoodIn wsL_act wsX1_tear := goodIn_ca (goodIn_r _ [89, 31, 32, 33, 34, 105, 106, 107, 108, 109, 110] (by decide +kernel) (by decide +kernel)) (goodIn_sub (fun _ h => List.mem_cons_of_mem _ (List.mem_append_left _ (List.mem_append_right _ h))) (by decide +kernel))
set_option maxRecDepth 20000 in
theorem gL_act_X1_tear : GoodIn wsL_act (wsV RL 61 RX1 yX1_tear wsX1_tear) := goodIn_app (goodIn_of _ (by decide +kernel)) ggL_act_X1_tear
set_option maxRecDepth 20000 in
theorem ggL_act_X1_set : GoodIn wsL_act wsX1_set := goodIn_ca (goodIn_ca (goodIn_r _ [93, 94, 42, 43, 20, 44, 45, 46, 22, 23, 24, 25, 26, 105, 106, 107, 108, 109, 110, 111, 112, 113, 114, 115, 116, 117, 118, 119, 120, 121] (by decide +kernel) (by decide +kernel)) (goodIn_sub (fun _ h => List.mem_cons_of_mem _ (List.mem_append_right _ h)) (by decide +kernel))) (goodIn_sub (fun _ h => List.mem_cons_of_mem _ (List.mem_append_left _ (List.mem_append_left _ (List.mem_append_right _ h)))) (by decide +kernel))
set_option maxRecDepth 20000 in
theorem gL_act_X1_set : GoodIn wsL_act (wsV RL 72 RX1 yX1_set wsX1_set) := goodIn_app (goodIn_of _ (by decide +kernel)) ggL_act_X1_set
theorem dL_act_0 : decode cL_act 0 = .ok (.aload_n 1, 1) := by decide +kernel
theorem dL_act_1 : decode cL_act 1 = .ok (.getfield 9, 3) := by decide +kernel
theorem dL_act_4 : decode cL_act 4 = .ok (.arraylength, 1) := by decide +kernel
theorem dL_act_5 : decode cL_act 5 = .ok (.istore_n 3, 1) := by decide +kernel
theorem dL_act_6 : decode cL_act 6 = .ok (.iload_n 2, 1) := by decide +kernel
theorem dL_act_7 : decode cL_act 7 = .ok (.bipush 9, 2) := by decide +kernel
theorem dL_act_9 : decode cL_act 9 = .ok (.ishr, 1) := by decide +kernel
theorem dL_act_10 : decode cL_act 10 = .ok (.bipush 22, 2) := by decide +kernel
theorem dL_act_12 : decode cL_act 12 = .ok (.invokestatic 15, 3) := by decide +kernel
theorem dL_act_15 : decode cL_act 15 = .ok (.istore 4, 2) := by decide +kernel
theorem dL_act_17 : decode cL_act 17 = .ok (.iload_n 2, 1) := by decide +kernel
theorem dL_act_18 : decode cL_act 18 = .ok (.bipush 6, 2) := by decide +kernel
theorem dL_act_20 : decode cL_act 20 = .ok (.invokestatic 15, 3) := by decide +kernel
theorem dL_act_23 : decode cL_act 23 = .ok (.iconst 4, 1) := by decide +kernel
theorem dL_act_24 : decode cL_act 24 = .ok (.if_icmp .ge 11, 3) := by decide +kernel
theorem dL_act_27 : decode cL_act 27 = .ok (.iload_n 2, 1) := by decide +kernel
theorem dL_act_28 : decode cL_act 28 = .ok (.iconst 2, 1) := by decide +kernel
theorem dL_act_29 : decode cL_act 29 = .ok (.invokestatic 15, 3) := by decide +kernel
theorem dL_act_32 : decode cL_act 32 = .ok (.goto 11, 3) := by decide +kernel
theorem dL_act_35 : decode cL_act 35 = .ok (.iload_n 2, 1) := by decide +kernel
theorem dL_act_36 : decode cL_act 36 = .ok (.iconst 2, 1) := by decide +kernel
theorem dL_act_37 : decode cL_act 37 = .ok (.ishr, 1) := by decide +kernel
theorem dL_act_38 : decode cL_act 38 = .ok (.bipush 6, 2) := by decide +kernel
theorem dL_act_40 : decode cL_act 40 = .ok (.invokestatic 15, 3) := by decide +kernel
theorem dL_act_43 : decode cL_act 43 = .ok (.istore 5, 2) := by decide +kernel
theorem dL_act_45 : decode cL_act 45 = .ok (.iload_n 3, 1) := by decide +kernel
theorem dL_act_46 : decode cL_act 46 = .ok (.bipush 60, 2) := by decide +kernel
theorem dL_act_48 : decode cL_act 48 = .ok (.if_icmp .ne 12, 3) := by decide +kernel
theorem dL_act_51 : decode cL_act 51 = .ok (.iload 4, 2) := by decide +kernel
theorem dL_act_53 : decode cL_act 53 = .ok (.bipush 16, 2) := by decide +kernel
theorem dL_act_55 : decode cL_act 55 = .ok (.if_icmp .ge 5, 3) := by decide +kernel
theorem dL_act_58 : decode cL_act 58 = .ok (.iconst 1, 1) := by decide +kernel
theorem dL_act_59 : decode cL_act 59 = .ok (.ireturn, 1) := by decide +kernel
theorem dL_act_60 : decode cL_act 60 = .ok (.iload 4, 2) := by decide +kernel
theorem dL_act_62 : decode cL_act 62 = .ok (.tableswitch 522 0 19 #[94, 94, 130, 130, 130, 130, 130, 130, 189, 189, 213, 243, 243, 297, 297, 297, 347, 347, 406, 472], 94) := by decide +kernel
theorem dL_act_156 : decode cL_act 156 = .ok (.aload_n 1, 1) := by decide +kernel
theorem dL_act_157 : decode cL_act 157 = .ok (.iconst 0, 1) := by decide +kernel
theorem dL_act_158 : decode cL_act 158 = .ok (.iload_n 2, 1) := by decide +kernel
theorem dL_act_159 : decode cL_act 159 = .ok (.iconst 1, 1) := by decide +kernel
theorem dL_act_160 : decode cL_act 160 = .ok (.ishr, 1) := by decide +kernel
theorem dL_act_161 : decode cL_act 161 = .ok (.bipush 101, 2) := by decide +kernel
theorem dL_act_163 : decode cL_act 163 = .ok (.invokestatic 15, 3) := by decide +kernel
theorem dL_act_166 : decode cL_act 166 = .ok (.iconst 0, 1) := by decide +kernel
theorem dL_act_167 : decode cL_act 167 = .ok (.invokevirtual 21, 3) := by decide +kernel
theorem dL_act_170 : decode cL_act 170 = .ok (.aload_n 0, 1) := by decide +kernel
theorem dL_act_171 : decode cL_act 171 = .ok (.iload_n 2, 1) := by decide +kernel
theorem dL_act_172 : decode cL_act 172 = .ok (.iconst 1, 1) := by decide +kernel
theorem dL_act_173 : decode cL_act 173 = .ok (.ishr, 1) := by decide +kernel
theorem dL_act_174 : decode cL_act 174 = .ok (.bipush 101, 2) := by decide +kernel
theorem dL_act_176 : decode cL_act 176 = .ok (.invokestatic 15, 3) := by decide +kernel
theorem dL_act_179 : decode cL_act 179 = .ok (.invokevirtual 25, 3) := by decide +kernel
theorem dL_act_182 : decode cL_act 182 = .ok (.iload_n 3, 1) := by decide +kernel
theorem dL_act_183 : decode cL_act 183 = .ok (.if_icmp .ne 7, 3) := by decide +kernel
theorem dL_act_186 : decode cL_act 186 = .ok (.iconst 1, 1) := by decide +kernel
theorem dL_act_187 : decode cL_act 187 = .ok (.goto 4, 3) := by decide +kernel
theorem dL_act_190 : decode cL_act 190 = .ok (.iconst 0, 1) := by decide +kernel
theorem dL_act_191 : decode cL_act 191 = .ok (.ireturn, 1) := by decide +kernel
theorem dL_act_192 : decode cL_act 192 = .ok (.iload_n 2, 1) := by decide +kernel
theorem dL_act_193 : decode cL_act 193 = .ok (.bipush 6, 2) := by decide +kernel
theorem dL_act_195 : decode cL_act 195 = .ok (.ishr, 1) := by decide +kernel
theorem dL_act_196 : decode cL_act 196 = .ok (.iconst 3, 1) := by decide +kernel
theorem dL_act_197 : decode cL_act 197 = .ok (.invokestatic 15, 3) := by decide +kernel
theorem dL_act_200 : decode cL_act 200 = .ok (.ifCond .ne 14, 3) := by decide +kernel
theorem dL_act_203 : decode cL_act 203 = .ok (.iload_n 2, 1) := by decide +kernel
theorem dL_act_204 : decode cL_act 204 = .ok (.iconst 3, 1) := by decide +kernel
theorem dL_act_205 : decode cL_act 205 = .ok (.ishr, 1) := by decide +kernel
theorem dL_act_206 : decode cL_act 206 = .ok (.bipush 21, 2) := by decide +kernel
theorem dL_act_208 : decode cL_act 208 = .ok (.invokestatic 15, 3) := by decide +kernel
theorem dL_act_211 : decode cL_act 211 = .ok (.goto 11, 3) := by decide +kernel
theorem dL_act_214 : decode cL_act 214 = .ok (.iload_n 2, 1) := by decide +kernel
theorem dL_act_215 : decode cL_act 215 = .ok (.iconst 3, 1) := by decide +kernel
theorem dL_act_216 : decode cL_act 216 = .ok (.ishr, 1) := by decide +kernel
theorem dL_act_217 : decode cL_act 217 = .ok (.bipush 11, 2) := by decide +kernel
theorem dL_act_219 : decode cL_act 219 = .ok (.invokestatic 15, 3) := by decide +kernel
theorem dL_act_222 : decode cL_act 222 = .ok (.istore 6, 2) := by decide +kernel
theorem dL_act_224 : decode cL_act 224 = .ok (.aload_n 1, 1) := by decide +kernel
theorem dL_act_225 : decode cL_act 225 = .ok (.iconst 1, 1) := by decide +kernel
theorem dL_act_226 : decode cL_act 226 = .ok (.iload 5, 2) := by decide +kernel
theorem dL_act_228 : decode cL_act 228 = .ok (.iload 6, 2) := by decide +kernel
theorem dL_act_230 : decode cL_act 230 = .ok (.invokevirtual 21, 3) := by decide +kernel
theorem dL_act_233 : decode cL_act 233 = .ok (.aload_n 0, 1) := by decide +kernel
theorem dL_act_234 : decode cL_act 234 = .ok (.iload 5, 2) := by decide +kernel
theorem dL_act_236 : decode cL_act 236 = .ok (.iload 6, 2) := by decide +kernel
theorem dL_act_238 : decode cL_act 238 = .ok (.invokevirtual 31, 3) := by decide +kernel
theorem dL_act_241 : decode cL_act 241 = .ok (.iload_n 3, 1) := by decide +kernel
theorem dL_act_242 : decode cL_act 242 = .ok (.if_icmp .ne 7, 3) := by decide +kernel
theorem dL_act_245 : decode cL_act 245 = .ok (.iconst 1, 1) := by decide +kernel
theorem dL_act_246 : decode cL_act 246 = .ok (.goto 4, 3) := by decide +kernel
theorem dL_act_249 : decode cL_act 249 = .ok (.iconst 0, 1) := by decide +kernel
theorem dL_act_250 : decode cL_act 250 = .ok (.ireturn, 1) := by decide +kernel
theorem dL_act_251 : decode cL_act 251 = .ok (.aload_n 1, 1) := by decide +kernel
theorem dL_act_252 : decode cL_act 252 = .ok (.iconst 2, 1) := by decide +kernel
theorem dL_act_253 : decode cL_act 253 = .ok (.iload 5, 2) := by decide +kernel
theorem dL_act_255 : decode cL_act 255 = .ok (.iconst 0, 1) := by decide +kernel
theorem dL_act_256 : decode cL_act 256 = .ok (.invokevirtual 21, 3) := by decide +kernel
theorem dL_act_259 : decode cL_act 259 = .ok (.aload_n 0, 1) := by decide +kernel
theorem dL_act_260 : decode cL_act 260 = .ok (.iload 5, 2) := by decide +kernel
theorem dL_act_262 : decode cL_act 262 = .ok (.invokevirtual 34, 3) := by decide +kernel
theorem dL_act_265 : decode cL_act 265 = .ok (.iload_n 3, 1) := by decide +kernel
theorem dL_act_266 : decode cL_act 266 = .ok (.if_icmp .ne 7, 3) := by decide +kernel
theorem dL_act_269 : decode cL_act 269 = .ok (.iconst 1, 1) := by decide +kernel
theorem dL_act_270 : decode cL_act 270 = .ok (.goto 4, 3) := by decide +kernel
theorem dL_act_273 : decode cL_act 273 = .ok (.iconst 0, 1) := by decide +kernel
theorem dL_act_274 : decode cL_act 274 = .ok (.ireturn, 1) := by decide +kernel
theorem dL_act_275 : decode cL_act 275 = .ok (.aload_n 1, 1) := by decide +kernel
theorem dL_act_276 : decode cL_act 276 = .ok (.iconst 3, 1) := by decide +kernel
theorem dL_act_277 : decode cL_act 277 = .ok (.iload_n 2, 1) := by decide +kernel
theorem dL_act_278 : decode cL_act 278 = .ok (.iconst 4, 1) := by decide +kernel
theorem dL_act_279 : decode cL_act 279 = .ok (.invokestatic 15, 3) := by decide +kernel
theorem dL_act_282 : decode cL_act 282 = .ok (.iconst 0, 1) := by decide +kernel
theorem dL_act_283 : decode cL_act 283 = .ok (.invokevirtual 21, 3) := by decide +kernel
theorem dL_act_286 : decode cL_act 286 = .ok (.aload_n 0, 1) := by decide +kernel
theorem dL_act_287 : decode cL_act 287 = .ok (.iload_n 2, 1) := by decide +kernel
theorem dL_act_288 : decode cL_act 288 = .ok (.iconst 4, 1) := by decide +kernel
theorem dL_act_289 : decode cL_act 289 = .ok (.invokestatic 15, 3) := by decide +kernel
theorem dL_act_292 : decode cL_act 292 = .ok (.invokevirtual 37, 3) := by decide +kernel
theorem dL_act_295 : decode cL_act 295 = .ok (.iload_n 3, 1) := by decide +kernel
theorem dL_act_296 : decode cL_act 296 = .ok (.if_icmp .ne 7, 3) := by decide +kernel
theorem dL_act_299 : decode cL_act 299 = .ok (.iconst 1, 1) := by decide +kernel
theorem dL_act_300 : decode cL_act 300 = .ok (.goto 4, 3) := by decide +kernel
theorem dL_act_303 : decode cL_act 303 = .ok (.iconst 0, 1) := by decide +kernel
theorem dL_act_304 : decode cL_act 304 = .ok (.ireturn, 1) := by decide +kernel
theorem dL_act_305 : decode cL_act 305 = .ok (.iconst 1, 1) := by decide +kernel
theorem dL_act_306 : decode cL_act 306 = .ok (.iload_n 2, 1) := by decide +kernel
theorem dL_act_307 : decode cL_act 307 = .ok (.iconst 3, 1) := by decide +kernel
theorem dL_act_308 : decode cL_act 308 = .ok (.ishr, 1) := by decide +kernel
theorem dL_act_309 : decode cL_act 309 = .ok (.iload_n 2, 1) := by decide +kernel
theorem dL_act_310 : decode cL_act 310 = .ok (.iconst 5, 1) := by decide +kernel
theorem dL_act_311 : decode cL_act 311 = .ok (.ishr, 1) := by decide +kernel
theorem dL_act_312 : decode cL_act 312 = .ok (.iconst 2, 1) := by decide +kernel
theorem dL_act_313 : decode cL_act 313 = .ok (.invokestatic 15, 3) := by decide +kernel
theorem dL_act_316 : decode cL_act 316 = .ok (.ifCond .ne 8, 3) := by decide +kernel
theorem dL_act_319 : decode cL_act 319 = .ok (.bipush 99, 2) := by decide +kernel
theorem dL_act_321 : decode cL_act 321 = .ok (.goto 5, 3) := by decide +kernel
theorem dL_act_324 : decode cL_act 324 = .ok (.bipush 12, 2) := by decide +kernel
theorem dL_act_326 : decode cL_act 326 = .ok (.invokestatic 15, 3) := by decide +kernel
theorem dL_act_329 : decode cL_act 329 = .ok (.iadd, 1) := by decide +kernel
theorem dL_act_330 : decode cL_act 330 = .ok (.istore 7, 2) := by decide +kernel
theorem dL_act_332 : decode cL_act 332 = .ok (.aload_n 1, 1) := by decide +kernel
theorem dL_act_333 : decode cL_act 333 = .ok (.iconst 4, 1) := by decide +kernel
theorem dL_act_334 : decode cL_act 334 = .ok (.iload 5, 2) := by decide +kernel
theorem dL_act_336 : decode cL_act 336 = .ok (.iload 7, 2) := by decide +kernel
theorem dL_act_338 : decode cL_act 338 = .ok (.invokevirtual 21, 3) := by decide +kernel
theorem dL_act_341 : decode cL_act 341 = .ok (.aload_n 0, 1) := by decide +kernel
theorem dL_act_342 : decode cL_act 342 = .ok (.iload 5, 2) := by decide +kernel
theorem dL_act_344 : decode cL_act 344 = .ok (.iload 7, 2) := by decide +kernel
theorem dL_act_346 : decode cL_act 346 = .ok (.invokevirtual 40, 3) := by decide +kernel
theorem dL_act_349 : decode cL_act 349 = .ok (.iload_n 3, 1) := by decide +kernel
theorem dL_act_350 : decode cL_act 350 = .ok (.if_icmp .ne 7, 3) := by decide +kernel
theorem dL_act_353 : decode cL_act 353 = .ok (.iconst 1, 1) := by decide +kernel
theorem dL_act_354 : decode cL_act 354 = .ok (.goto 4, 3) := by decide +kernel
theorem dL_act_357 : decode cL_act 357 = .ok (.iconst 0, 1) := by decide +kernel
theorem dL_act_358 : decode cL_act 358 = .ok (.ireturn, 1) := by decide +kernel
theorem dL_act_359 : decode cL_act 359 = .ok (.iconst 1, 1) := by decide +kernel
theorem dL_act_360 : decode cL_act 360 = .ok (.iload_n 2, 1) := by decide +kernel
theorem dL_act_361 : decode cL_act 361 = .ok (.iconst 3, 1) := by decide +kernel
theorem dL_act_362 : decode cL_act 362 = .ok (.ishr, 1) := by decide +kernel
theorem dL_act_363 : decode cL_act 363 = .ok (.iload_n 2, 1) := by decide +kernel
theorem dL_act_364 : decode cL_act 364 = .ok (.iconst 5, 1) := by decide +kernel
theorem dL_act_365 : decode cL_act 365 = .ok (.ishr, 1) := by decide +kernel
theorem dL_act_366 : decode cL_act 366 = .ok (.iconst 2, 1) := by decide +kernel
theorem dL_act_367 : decode cL_act 367 = .ok (.invokestatic 15, 3) := by decide +kernel
theorem dL_act_370 : decode cL_act 370 = .ok (.ifCond .ne 8, 3) := by decide +kernel
theorem dL_act_373 : decode cL_act 373 = .ok (.bipush 20, 2) := by decide +kernel
theorem dL_act_375 : decode cL_act 375 = .ok (.goto 4, 3) := by decide +kernel
theorem dL_act_378 : decode cL_act 378 = .ok (.iconst 4, 1) := by decide +kernel
theorem dL_act_379 : decode cL_act 379 = .ok (.invokestatic 15, 3) := by decide +kernel
theorem dL_act_382 : decode cL_act 382 = .ok (.iadd, 1) := by decide +kernel
theorem dL_act_383 : decode cL_act 383 = .ok (.istore 8, 2) := by decide +kernel
theorem dL_act_385 : decode cL_act 385 = .ok (.aload_n 1, 1) := by decide +kernel
theorem dL_act_386 : decode cL_act 386 = .ok (.iconst 5, 1) := by decide +kernel
theorem dL_act_387 : decode cL_act 387 = .ok (.iload 8, 2) := by decide +kernel
theorem dL_act_389 : decode cL_act 389 = .ok (.iconst 0, 1) := by decide +kernel
theorem dL_act_390 : decode cL_act 390 = .ok (.invokevirtual 21, 3) := by decide +kernel
theorem dL_act_393 : decode cL_act 393 = .ok (.aload_n 0, 1) := by decide +kernel
theorem dL_act_394 : decode cL_act 394 = .ok (.iload 8, 2) := by decide +kernel
theorem dL_act_396 : decode cL_act 396 = .ok (.invokevirtual 43, 3) := by decide +kernel
theorem dL_act_399 : decode cL_act 399 = .ok (.iload_n 3, 1) := by decide +kernel
theorem dL_act_400 : decode cL_act 400 = .ok (.if_icmp .ne 7, 3) := by decide +kernel
theorem dL_act_403 : decode cL_act 403 = .ok (.iconst 1, 1) := by decide +kernel
theorem dL_act_404 : decode cL_act 404 = .ok (.goto 4, 3) := by decide +kernel
theorem dL_act_407 : decode cL_act 407 = .ok (.iconst 0, 1) := by decide +kernel
theorem dL_act_408 : decode cL_act 408 = .ok (.ireturn, 1) := by decide +kernel
theorem dL_act_409 : decode cL_act 409 = .ok (.iload_n 3, 1) := by decide +kernel
theorem dL_act_410 : decode cL_act 410 = .ok (.ifCond .ne 5, 3) := by decide +kernel
theorem dL_act_413 : decode cL_act 413 = .ok (.iconst 1, 1) := by decide +kernel
theorem dL_act_414 : decode cL_act 414 = .ok (.ireturn, 1) := by decide +kernel
theorem dL_act_415 : decode cL_act 415 = .ok (.aload_n 1, 1) := by decide +kernel
theorem dL_act_416 : decode cL_act 416 = .ok (.getfield 9, 3) := by decide +kernel
theorem dL_act_419 : decode cL_act 419 = .ok (.iload_n 2, 1) := by decide +kernel
theorem dL_act_420 : decode cL_act 420 = .ok (.iload_n 3, 1) := by decide +kernel
theorem dL_act_421 : decode cL_act 421 = .ok (.invokestatic 15, 3) := by decide +kernel
theorem dL_act_424 : decode cL_act 424 = .ok (.aaload, 1) := by decide +kernel
theorem dL_act_425 : decode cL_act 425 = .ok (.astore 9, 2) := by decide +kernel
theorem dL_act_427 : decode cL_act 427 = .ok (.aload 9, 2) := by decide +kernel
theorem dL_act_429 : decode cL_act 429 = .ok (.iconst 3, 1) := by decide +kernel
theorem dL_act_430 : decode cL_act 430 = .ok (.iconst 1, 1) := by decide +kernel
theorem dL_act_431 : decode cL_act 431 = .ok (.aload 9, 2) := by decide +kernel
theorem dL_act_433 : decode cL_act 433 = .ok (.iconst 3, 1) := by decide +kernel
theorem dL_act_434 : decode cL_act 434 = .ok (.iaload, 1) := by decide +kernel
theorem dL_act_435 : decode cL_act 435 = .ok (.isub, 1) := by decide +kernel
theorem dL_act_436 : decode cL_act 436 = .ok (.iastore, 1) := by decide +kernel
theorem dL_act_437 : decode cL_act 437 = .ok (.aload_n 0, 1) := by decide +kernel
theorem dL_act_438 : decode cL_act 438 = .ok (.iload_n 2, 1) := by decide +kernel
theorem dL_act_439 : decode cL_act 439 = .ok (.iload_n 3, 1) := by decide +kernel
theorem dL_act_440 : decode cL_act 440 = .ok (.invokestatic 15, 3) := by decide +kernel
theorem dL_act_443 : decode cL_act 443 = .ok (.invokevirtual 46, 3) := by decide +kernel
theorem dL_act_446 : decode cL_act 446 = .ok (.aload 9, 2) := by decide +kernel
theorem dL_act_448 : decode cL_act 448 = .ok (.iconst 3, 1) := by decide +kernel
theorem dL_act_449 : decode cL_act 449 = .ok (.iaload, 1) := by decide +kernel
theorem dL_act_450 : decode cL_act 450 = .ok (.iconst 1, 1) := by decide +kernel
theorem dL_act_451 : decode cL_act 451 = .ok (.if_icmp .ne 7, 3) := by decide +kernel
theorem dL_act_454 : decode cL_act 454 = .ok (.iconst 1, 1) := by decide +kernel
theorem dL_act_455 : decode cL_act 455 = .ok (.goto 4, 3) := by decide +kernel
theorem dL_act_458 : decode cL_act 458 = .ok (.iconst 0, 1) := by decide +kernel
theorem dL_act_459 : decode cL_act 459 = .ok (.if_icmp .ne 7, 3) := by decide +kernel
theorem dL_act_462 : decode cL_act 462 = .ok (.iconst 1, 1) := by decide +kernel
theorem dL_act_463 : decode cL_act 463 = .ok (.goto 4, 3) := by decide +kernel
theorem dL_act_466 : decode cL_act 466 = .ok (.iconst 0, 1) := by decide +kernel
theorem dL_act_467 : decode cL_act 467 = .ok (.ireturn, 1) := by decide +kernel
theorem dL_act_468 : decode cL_act 468 = .ok (.iload_n 3, 1) := by decide +kernel
theorem dL_act_469 : decode cL_act 469 = .ok (.ifCond .ne 5, 3) := by decide +kernel
theorem dL_act_472 : decode cL_act 472 = .ok (.iconst 1, 1) := by decide +kernel
theorem dL_act_473 : decode cL_act 473 = .ok (.ireturn, 1) := by decide +kernel
theorem dL_act_474 : decode cL_act 474 = .ok (.iload_n 2, 1) := by decide +kernel
theorem dL_act_475 : decode cL_act 475 = .ok (.iload_n 3, 1) := by decide +kernel
theorem dL_act_476 : decode cL_act 476 = .ok (.invokestatic 15, 3) := by decide +kernel
theorem dL_act_479 : decode cL_act 479 = .ok (.istore 10, 2) := by decide +kernel
theorem dL_act_481 : decode cL_act 481 = .ok (.iload_n 2, 1) := by decide +kernel
theorem dL_act_482 : decode cL_act 482 = .ok (.iconst 4, 1) := by decide +kernel
theorem dL_act_483 : decode cL_act 483 = .ok (.ishr, 1) := by decide +kernel
theorem dL_act_484 : decode cL_act 484 = .ok (.iload_n 3, 1) := by decide +kernel
theorem dL_act_485 : decode cL_act 485 = .ok (.invokestatic 15, 3) := by decide +kernel
theorem dL_act_488 : decode cL_act 488 = .ok (.istore 11, 2) := by decide +kernel
theorem dL_act_490 : decode cL_act 490 = .ok (.aload_n 1, 1) := by decide +kernel
theorem dL_act_491 : decode cL_act 491 = .ok (.getfield 9, 3) := by decide +kernel
theorem dL_act_494 : decode cL_act 494 = .ok (.iload 10, 2) := by decide +kernel
theorem dL_act_496 : decode cL_act 496 = .ok (.aaload, 1) := by decide +kernel
theorem dL_act_497 : decode cL_act 497 = .ok (.astore 12, 2) := by decide +kernel
theorem dL_act_499 : decode cL_act 499 = .ok (.aload_n 1, 1) := by decide +kernel
theorem dL_act_500 : decode cL_act 500 = .ok (.iload 10, 2) := by decide +kernel
theorem dL_act_502 : decode cL_act 502 = .ok (.invokevirtual 50, 3) := by decide +kernel
theorem dL_act_505 : decode cL_act 505 = .ok (.aload_n 1, 1) := by decide +kernel
theorem dL_act_506 : decode cL_act 506 = .ok (.iload 11, 2) := by decide +kernel
theorem dL_act_508 : decode cL_act 508 = .ok (.aload 12, 2) := by decide +kernel
theorem dL_act_510 : decode cL_act 510 = .ok (.invokevirtual 54, 3) := by decide +kernel
theorem dL_act_513 : decode cL_act 513 = .ok (.aload_n 0, 1) := by decide +kernel
theorem dL_act_514 : decode cL_act 514 = .ok (.iload 10, 2) := by decide +kernel
theorem dL_act_516 : decode cL_act 516 = .ok (.iload 11, 2) := by decide +kernel
theorem dL_act_518 : decode cL_act 518 = .ok (.invokevirtual 58, 3) := by decide +kernel
theorem dL_act_521 : decode cL_act 521 = .ok (.aload 12, 2) := by decide +kernel
theorem dL_act_523 : decode cL_act 523 = .ok (.iconst 0, 1) := by decide +kernel
theorem dL_act_524 : decode cL_act 524 = .ok (.iaload, 1) := by decide +kernel
theorem dL_act_525 : decode cL_act 525 = .ok (.if_icmp .ne 7, 3) := by decide +kernel
theorem dL_act_528 : decode cL_act 528 = .ok (.iconst 1, 1) := by decide +kernel
theorem dL_act_529 : decode cL_act 529 = .ok (.goto 4, 3) := by decide +kernel
theorem dL_act_532 : decode cL_act 532 = .ok (.iconst 0, 1) := by decide +kernel
theorem dL_act_533 : decode cL_act 533 = .ok (.ireturn, 1) := by decide +kernel
theorem dL_act_534 : decode cL_act 534 = .ok (.iload_n 3, 1) := by decide +kernel
theorem dL_act_535 : decode cL_act 535 = .ok (.ifCond .eq 13, 3) := by decide +kernel
theorem dL_act_538 : decode cL_act 538 = .ok (.iload_n 2, 1) := by decide +kernel
theorem dL_act_539 : decode cL_act 539 = .ok (.iconst 3, 1) := by decide +kernel
theorem dL_act_540 : decode cL_act 540 = .ok (.ishr, 1) := by decide +kernel
theorem dL_act_541 : decode cL_act 541 = .ok (.iconst 2, 1) := by decide +kernel
theorem dL_act_542 : decode cL_act 542 = .ok (.invokestatic 15, 3) := by decide +kernel
theorem dL_act_545 : decode cL_act 545 = .ok (.ifCond .ne 5, 3) := by decide +kernel
theorem dL_act_548 : decode cL_act 548 = .ok (.iconst 1, 1) := by decide +kernel
theorem dL_act_549 : decode cL_act 549 = .ok (.ireturn, 1) := by decide +kernel
theorem dL_act_550 : decode cL_act 550 = .ok (.aload_n 1, 1) := by decide +kernel
theorem dL_act_551 : decode cL_act 551 = .ok (.getfield 9, 3) := by decide +kernel
theorem dL_act_554 : decode cL_act 554 = .ok (.iload_n 3, 1) := by decide +kernel
theorem dL_act_555 : decode cL_act 555 = .ok (.iconst 1, 1) := by decide +kernel
theorem dL_act_556 : decode cL_act 556 = .ok (.isub, 1) := by decide +kernel
theorem dL_act_557 : decode cL_act 557 = .ok (.aaload, 1) := by decide +kernel
theorem dL_act_558 : decode cL_act 558 = .ok (.iconst 0, 1) := by decide +kernel
theorem dL_act_559 : decode cL_act 559 = .ok (.iaload, 1) := by decide +kernel
theorem dL_act_560 : decode cL_act 560 = .ok (.istore 13, 2) := by decide +kernel
theorem dL_act_562 : decode cL_act 562 = .ok (.aload_n 1, 1) := by decide +kernel
theorem dL_act_563 : decode cL_act 563 = .ok (.iload_n 3, 1) := by decide +kernel
theorem dL_act_564 : decode cL_act 564 = .ok (.iconst 1, 1) := by decide +kernel
theorem dL_act_565 : decode cL_act 565 = .ok (.isub, 1) := by decide +kernel
theorem dL_act_566 : decode cL_act 566 = .ok (.invokevirtual 50, 3) := by decide +kernel
theorem dL_act_569 : decode cL_act 569 = .ok (.aload_n 0, 1) := by decide +kernel
theorem dL_act_570 : decode cL_act 570 = .ok (.invokevirtual 61, 3) := by decide +kernel
theorem dL_act_573 : decode cL_act 573 = .ok (.iload 13, 2) := by decide +kernel
theorem dL_act_575 : decode cL_act 575 = .ok (.if_icmp .ne 7, 3) := by decide +kernel
theorem dL_act_578 : decode cL_act 578 = .ok (.iconst 1, 1) := by decide +kernel
theorem dL_act_579 : decode cL_act 579 = .ok (.goto 4, 3) := by decide +kernel
theorem dL_act_582 : decode cL_act 582 = .ok (.iconst 0, 1) := by decide +kernel
theorem dL_act_583 : decode cL_act 583 = .ok (.ireturn, 1) := by decide +kernel
theorem dL_act_584 : decode cL_act 584 = .ok (.iload_n 2, 1) := by decide +kernel
theorem dL_act_585 : decode cL_act 585 = .ok (.iconst 4, 1) := by decide +kernel
theorem dL_act_586 : decode cL_act 586 = .ok (.invokestatic 15, 3) := by decide +kernel
theorem dL_act_589 : decode cL_act 589 = .ok (.istore 14, 2) := by decide +kernel
theorem dL_act_591 : decode cL_act 591 = .ok (.bipush 10, 2) := by decide +kernel
theorem dL_act_593 : decode cL_act 593 = .ok (.aload_n 1, 1) := by decide +kernel
theorem dL_act_594 : decode cL_act 594 = .ok (.getfield 65, 3) := by decide +kernel
theorem dL_act_597 : decode cL_act 597 = .ok (.iload 14, 2) := by decide +kernel
theorem dL_act_599 : decode cL_act 599 = .ok (.iaload, 1) := by decide +kernel
theorem dL_act_600 : decode cL_act 600 = .ok (.imul, 1) := by decide +kernel
theorem dL_act_601 : decode cL_act 601 = .ok (.aload_n 1, 1) := by decide +kernel
theorem dL_act_602 : decode cL_act 602 = .ok (.getfield 69, 3) := by decide +kernel
theorem dL_act_605 : decode cL_act 605 = .ok (.iload 14, 2) := by decide +kernel
theorem dL_act_607 : decode cL_act 607 = .ok (.iaload, 1) := by decide +kernel
theorem dL_act_608 : decode cL_act 608 = .ok (.iadd, 1) := by decide +kernel
theorem dL_act_609 : decode cL_act 609 = .ok (.istore 15, 2) := by decide +kernel
theorem dL_act_611 : decode cL_act 611 = .ok (.aload_n 1, 1) := by decide +kernel
theorem dL_act_612 : decode cL_act 612 = .ok (.getfield 65, 3) := by decide +kernel
theorem dL_act_615 : decode cL_act 615 = .ok (.iload 14, 2) := by decide +kernel
theorem dL_act_617 : decode cL_act 617 = .ok (.iload_n 2, 1) := by decide +kernel
theorem dL_act_618 : decode cL_act 618 = .ok (.iconst 2, 1) := by decide +kernel
theorem dL_act_619 : decode cL_act 619 = .ok (.ishr, 1) := by decide +kernel
theorem dL_act_620 : decode cL_act 620 = .ok (.bipush 10, 2) := by decide +kernel
theorem dL_act_622 : decode cL_act 622 = .ok (.invokestatic 15, 3) := by decide +kernel
theorem dL_act_625 : decode cL_act 625 = .ok (.iastore, 1) := by decide +kernel
theorem dL_act_626 : decode cL_act 626 = .ok (.aload_n 1, 1) := by decide +kernel
theorem dL_act_627 : decode cL_act 627 = .ok (.getfield 69, 3) := by decide +kernel
theorem dL_act_630 : decode cL_act 630 = .ok (.iload 14, 2) := by decide +kernel
theorem dL_act_632 : decode cL_act 632 = .ok (.iload_n 2, 1) := by decide +kernel
theorem dL_act_633 : decode cL_act 633 = .ok (.iconst 4, 1) := by decide +kernel
theorem dL_act_634 : decode cL_act 634 = .ok (.ishr, 1) := by decide +kernel
theorem dL_act_635 : decode cL_act 635 = .ok (.bipush 10, 2) := by decide +kernel
theorem dL_act_637 : decode cL_act 637 = .ok (.invokestatic 15, 3) := by decide +kernel
theorem dL_act_640 : decode cL_act 640 = .ok (.iastore, 1) := by decide +kernel
theorem dL_act_641 : decode cL_act 641 = .ok (.aload_n 0, 1) := by decide +kernel
theorem dL_act_642 : decode cL_act 642 = .ok (.iload 14, 2) := by decide +kernel
theorem dL_act_644 : decode cL_act 644 = .ok (.aload_n 1, 1) := by decide +kernel
theorem dL_act_645 : decode cL_act 645 = .ok (.getfield 65, 3) := by decide +kernel
theorem dL_act_648 : decode cL_act 648 = .ok (.iload 14, 2) := by decide +kernel
theorem dL_act_650 : decode cL_act 650 = .ok (.iaload, 1) := by decide +kernel
theorem dL_act_651 : decode cL_act 651 = .ok (.aload_n 1, 1) := by decide +kernel
theorem dL_act_652 : decode cL_act 652 = .ok (.getfield 69, 3) := by decide +kernel
theorem dL_act_655 : decode cL_act 655 = .ok (.iload 14, 2) := by decide +kernel
theorem dL_act_657 : decode cL_act 657 = .ok (.iaload, 1) := by decide +kernel
theorem dL_act_658 : decode cL_act 658 = .ok (.invokevirtual 72, 3) := by decide +kernel
theorem dL_act_661 : decode cL_act 661 = .ok (.iload 15, 2) := by decide +kernel
theorem dL_act_663 : decode cL_act 663 = .ok (.if_icmp .ne 7, 3) := by decide +kernel
theorem dL_act_666 : decode cL_act 666 = .ok (.iconst 1, 1) := by decide +kernel
theorem dL_act_667 : decode cL_act 667 = .ok (.goto 4, 3) := by decide +kernel
theorem dL_act_670 : decode cL_act 670 = .ok (.iconst 0, 1) := by decide +kernel
theorem dL_act_671 : decode cL_act 671 = .ok (.ireturn, 1) := by decide +kernel
set_option maxRecDepth 20000 in
theorem ggL_build_X2_init : GoodIn wsL_build wsX2_init := goodIn_r _ [5, 6, 7, 8, 9, 10, 11, 12, 13, 111, 112, 113, 114, 115, 116, 117, 118, 119, 120] (by decide +kernel) (by decide +kernel)
set_option maxRecDepth 20000 in
theorem gL_build_X2_init_n76 : GoodIn wsL_build (wsX2_init) := ggL_build_X2_init
set_option maxRecDepth 20000 in
theorem ggL_build_L_cell : GoodIn wsL_build wsL_cell := goodIn_r _ [17, 18] (by decide +kernel) (by decide +kernel)
set_option maxRecDepth 20000 in
theorem gL_build_L_cell : GoodIn wsL_build (va_wsS RL 77 yL_cell wsL_cell) := goodIn_app (goodIn_of _ (by decide +kernel)) ggL_build_L_cell
set_option maxRecDepth 20000 in
theorem ggL_build_L_act : GoodIn wsL_build wsL_act := goodIn_ca (goodIn_ca (goodIn_ca (goodIn_ca (goodIn_ca (goodIn_ca (goodIn_ca (goodIn_r _ [21, 22, 23, 24, 25, 26, 16, 27, 28, 29, 30, 31, 3, 32, 13, 12, 9, 33, 34, 35, 36, 37, 38, 39, 40] rfl (by decide +kernel)) (goodIn_app (goodIn_r wsL_act_r2 [41, 42, 43, 44, 45, 46, 47, 48, 49, 50, 51, 52, 53, 54, 55, 56, 57, 58, 59, 60, 61, 62, 63, 64] rfl (by decide +kernel)) (goodIn_app (goodIn_r wsL_act_r3 [65, 66, 67, 68, 69, 70, 71, 72, 73, 74, 75, 76, 77, 78, 79, 80, 81, 82, 83, 84, 85, 86, 87, 88] rfl (by decide +kernel)) (goodIn_r wsL_act_r4 [89, 90, 91, 92, 93, 94, 95, 96, 97, 98, 99, 100, 101, 102, 103, 104, 105, 106, 107, 108, 109, 110] rfl (by decide +kernel))))) (goodIn_sub (fun _ h => List.mem_cons_of_mem _ (List.mem_append_left _ (List.mem_append_left _ (List.mem_append_left _ (List.mem_append_left _ (List.mem_append_left _ (List.mem_append_right _ (h)))))))) (by decide +kernel))) (goodIn_sub (fun _ h => List.mem_cons_of_mem _ (List.mem_append_left _ (List.mem_append_left _ (List.mem_append_left _ (List.mem_append_left _ (List.mem_append_right _ (h))))))) (by decide +kernel))) (goodIn_sub (fun _ h => List.mem_cons_of_mem _ (List.mem_append_left _ (List.mem_append_left _ (List.mem_append_left _ (List.mem_append_right _ (h)))))) (by decide +kernel))) (goodIn_sub (fun _ h => List.mem_cons_of_mem _ (List.mem_append_left _ (List.mem_append_left _ (List.mem_append_right _ (h))))) (by decide +kernel))) (goodIn_sub (fun _ h => List.mem_cons_of_mem _ (List.mem_append_left _ (List.mem_append_right _ (h)))) (by decide +kernel))) (goodIn_sub (fun _ h => List.mem_cons_of_mem _ (List.mem_append_right _ (h))) (by decide +kernel))
set_option maxRecDepth 20000 in
theorem gL_build_L_act : GoodIn wsL_build (va_wsS RL 81 yL_act wsL_act) := goodIn_app (goodIn_of _ (by decide +kernel)) ggL_build_L_act
theorem dL_build_0 : decode cL_build 0 = .ok (.new 10, 3) := by decide +kernel
theorem dL_build_3 : decode cL_build 3 = .ok (.dup, 1) := by decide +kernel
theorem dL_build_4 : decode cL_build 4 = .ok (.invokespecial 76, 3) := by decide +kernel
theorem dL_build_7 : decode cL_build 7 = .ok (.astore_n 2, 1) := by decide +kernel
theorem dL_build_8 : decode cL_build 8 = .ok (.iconst 0, 1) := by decide +kernel
theorem dL_build_9 : decode cL_build 9 = .ok (.istore_n 3, 1) := by decide +kernel
theorem dL_build_10 : decode cL_build 10 = .ok (.iload_n 3, 1) := by decide +kernel
theorem dL_build_11 : decode cL_build 11 = .ok (.bipush 26, 2) := by decide +kernel
theorem dL_build_13 : decode cL_build 13 = .ok (.if_icmp .ge 57, 3) := by decide +kernel
theorem dL_build_16 : decode cL_build 16 = .ok (.aload_n 0, 1) := by decide +kernel
theorem dL_build_17 : decode cL_build 17 = .ok (.aload_n 2, 1) := by decide +kernel
theorem dL_build_18 : decode cL_build 18 = .ok (.aload_n 1, 1) := by decide +kernel
theorem dL_build_19 : decode cL_build 19 = .ok (.iload_n 3, 1) := by decide +kernel
theorem dL_build_20 : decode cL_build 20 = .ok (.bipush 13, 2) := by decide +kernel
theorem dL_build_22 : decode cL_build 22 = .ok (.irem, 1) := by decide +kernel
theorem dL_build_23 : decode cL_build 23 = .ok (.invokestatic 77, 3) := by decide +kernel
theorem dL_build_26 : decode cL_build 26 = .ok (.iload_n 3, 1) := by decide +kernel
theorem dL_build_27 : decode cL_build 27 = .ok (.bipush 13, 2) := by decide +kernel
theorem dL_build_29 : decode cL_build 29 = .ok (.idiv, 1) := by decide +kernel
theorem dL_build_30 : decode cL_build 30 = .ok (.iconst 4, 1) := by decide +kernel
theorem dL_build_31 : decode cL_build 31 = .ok (.imul, 1) := by decide +kernel
theorem dL_build_32 : decode cL_build 32 = .ok (.ishr, 1) := by decide +kernel
theorem dL_build_33 : decode cL_build 33 = .ok (.sipush 197, 3) := by decide +kernel
theorem dL_build_36 : decode cL_build 36 = .ok (.iload_n 3, 1) := by decide +kernel
theorem dL_build_37 : decode cL_build 37 = .ok (.imul, 1) := by decide +kernel
theorem dL_build_38 : decode cL_build 38 = .ok (.iadd, 1) := by decide +kernel
theorem dL_build_39 : decode cL_build 39 = .ok (.iload_n 3, 1) := by decide +kernel
theorem dL_build_40 : decode cL_build 40 = .ok (.iconst 4, 1) := by decide +kernel
theorem dL_build_41 : decode cL_build 41 = .ok (.if_icmp .ge 13, 3) := by decide +kernel
theorem dL_build_44 : decode cL_build 44 = .ok (.sipush 1024, 3) := by decide +kernel
theorem dL_build_47 : decode cL_build 47 = .ok (.iload_n 3, 1) := by decide +kernel
theorem dL_build_48 : decode cL_build 48 = .ok (.iconst 2, 1) := by decide +kernel
theorem dL_build_49 : decode cL_build 49 = .ok (.irem, 1) := by decide +kernel
theorem dL_build_50 : decode cL_build 50 = .ok (.imul, 1) := by decide +kernel
theorem dL_build_51 : decode cL_build 51 = .ok (.goto 4, 3) := by decide +kernel
theorem dL_build_54 : decode cL_build 54 = .ok (.iconst 0, 1) := by decide +kernel
theorem dL_build_55 : decode cL_build 55 = .ok (.iadd, 1) := by decide +kernel
theorem dL_build_56 : decode cL_build 56 = .ok (.invokestatic 81, 3) := by decide +kernel
theorem dL_build_59 : decode cL_build 59 = .ok (.ifCond .ne 5, 3) := by decide +kernel
theorem dL_build_62 : decode cL_build 62 = .ok (.aconst_null, 1) := by decide +kernel
theorem dL_build_63 : decode cL_build 63 = .ok (.areturn, 1) := by decide +kernel
theorem dL_build_64 : decode cL_build 64 = .ok (.iinc 3 1, 3) := by decide +kernel
theorem dL_build_67 : decode cL_build 67 = .ok (.goto (-57), 3) := by decide +kernel
theorem dL_build_70 : decode cL_build 70 = .ok (.aload_n 2, 1) := by decide +kernel
theorem dL_build_71 : decode cL_build 71 = .ok (.areturn, 1) := by decide +kernel
