set_option maxRecDepth 20000 in
theorem ggX1_init_X0_init : GoodIn wsX1_init wsX0_init := goodIn_r _ [16, 17, 2, 3, 4, 18, 19, 20, 27, 28, 29, 30, 31, 32, 33, 34, 35, 36, 37] (by decide +kernel) (by decide +kernel)
set_option maxRecDepth 20000 in
theorem gX1_init_X0_init_n29 : GoodIn wsX1_init (wsX0_init) := ggX1_init_X0_init
theorem dX1_init_0 : decode cX1_init 0 = .ok (.aload_n 0, 1) := by decide +kernel
theorem dX1_init_1 : decode cX1_init 1 = .ok (.invokespecial 1, 3) := by decide +kernel
theorem dX1_init_4 : decode cX1_init 4 = .ok (.aload_n 0, 1) := by decide +kernel
theorem dX1_init_5 : decode cX1_init 5 = .ok (.bipush 60, 2) := by decide +kernel
theorem dX1_init_7 : decode cX1_init 7 = .ok (.newarray .int, 2) := by decide +kernel
theorem dX1_init_9 : decode cX1_init 9 = .ok (.putfield 9, 3) := by decide +kernel
theorem dX1_init_12 : decode cX1_init 12 = .ok (.aload_n 0, 1) := by decide +kernel
theorem dX1_init_13 : decode cX1_init 13 = .ok (.bipush 60, 2) := by decide +kernel
theorem dX1_init_15 : decode cX1_init 15 = .ok (.newarray .int, 2) := by decide +kernel
theorem dX1_init_17 : decode cX1_init 17 = .ok (.putfield 13, 3) := by decide +kernel
theorem dX1_init_20 : decode cX1_init 20 = .ok (.aload_n 0, 1) := by decide +kernel
theorem dX1_init_21 : decode cX1_init 21 = .ok (.bipush 60, 2) := by decide +kernel
theorem dX1_init_23 : decode cX1_init 23 = .ok (.newarray .int, 2) := by decide +kernel
theorem dX1_init_25 : decode cX1_init 25 = .ok (.putfield 16, 3) := by decide +kernel
theorem dX1_init_28 : decode cX1_init 28 = .ok (.aload_n 0, 1) := by decide +kernel
theorem dX1_init_29 : decode cX1_init 29 = .ok (.bipush 60, 2) := by decide +kernel
theorem dX1_init_31 : decode cX1_init 31 = .ok (.newarray .boolean, 2) := by decide +kernel
theorem dX1_init_33 : decode cX1_init 33 = .ok (.putfield 19, 3) := by decide +kernel
theorem dX1_init_36 : decode cX1_init 36 = .ok (.aload_n 0, 1) := by decide +kernel
theorem dX1_init_37 : decode cX1_init 37 = .ok (.iconst 0, 1) := by decide +kernel
theorem dX1_init_38 : decode cX1_init 38 = .ok (.putfield 23, 3) := by decide +kernel
theorem dX1_init_41 : decode cX1_init 41 = .ok (.aload_n 0, 1) := by decide +kernel
theorem dX1_init_42 : decode cX1_init 42 = .ok (.new 27, 3) := by decide +kernel
theorem dX1_init_45 : decode cX1_init 45 = .ok (.dup, 1) := by decide +kernel
theorem dX1_init_46 : decode cX1_init 46 = .ok (.invokespecial 29, 3) := by decide +kernel
theorem dX1_init_49 : decode cX1_init 49 = .ok (.putfield 30, 3) := by decide +kernel
theorem dX1_init_52 : decode cX1_init 52 = .ok (.return_, 1) := by decide +kernel
set_option maxRecDepth 20000 in
theorem ggX1_set_X1_needIndex : GoodIn wsX1_set wsX1_needIndex := goodIn_ca (goodIn_r _ [5, 6, 7] (by decide +kernel) (by decide +kernel)) (goodIn_sub (fun _ h => List.mem_cons_of_mem _ (List.mem_append_left _ (List.mem_append_right _ h))) (by decide +kernel))
set_option maxRecDepth 20000 in
theorem gX1_set_X1_needIndex : GoodIn wsX1_set (va_wsS RX1 34 yX1_needIndex wsX1_needIndex) := goodIn_app (goodIn_of _ (by decide +kernel)) ggX1_set_X1_needIndex
set_option maxRecDepth 20000 in
theorem ggX1_set_X1_needWithin : GoodIn wsX1_set wsX1_needWithin := goodIn_ca (goodIn_r _ [10, 11, 12] (by decide +kernel) (by decide +kernel)) (goodIn_sub (fun _ h => List.mem_cons_of_mem _ (List.mem_append_right _ h)) (by decide +kernel))
set_option maxRecDepth 20000 in
theorem gX1_set_X1_needWithin : GoodIn wsX1_set (va_wsS RX1 38 yX1_needWithin wsX1_needWithin) := goodIn_app (goodIn_of _ (by decide +kernel)) ggX1_set_X1_needWithin
theorem dX1_set_0 : decode cX1_set 0 = .ok (.iload_n 1, 1) := by decide +kernel
theorem dX1_set_1 : decode cX1_set 1 = .ok (.iconst 4, 1) := by decide +kernel
theorem dX1_set_2 : decode cX1_set 2 = .ok (.invokestatic 34, 3) := by decide +kernel
theorem dX1_set_5 : decode cX1_set 5 = .ok (.iload_n 2, 1) := by decide +kernel
theorem dX1_set_6 : decode cX1_set 6 = .ok (.iconst 0, 1) := by decide +kernel
theorem dX1_set_7 : decode cX1_set 7 = .ok (.bipush 9, 2) := by decide +kernel
theorem dX1_set_9 : decode cX1_set 9 = .ok (.invokestatic 38, 3) := by decide +kernel
theorem dX1_set_12 : decode cX1_set 12 = .ok (.iload_n 3, 1) := by decide +kernel
theorem dX1_set_13 : decode cX1_set 13 = .ok (.iconst 0, 1) := by decide +kernel
theorem dX1_set_14 : decode cX1_set 14 = .ok (.bipush 9, 2) := by decide +kernel
theorem dX1_set_16 : decode cX1_set 16 = .ok (.invokestatic 38, 3) := by decide +kernel
theorem dX1_set_19 : decode cX1_set 19 = .ok (.bipush 10, 2) := by decide +kernel
theorem dX1_set_21 : decode cX1_set 21 = .ok (.aload_n 0, 1) := by decide +kernel
theorem dX1_set_22 : decode cX1_set 22 = .ok (.getfield 30, 3) := by decide +kernel
theorem dX1_set_25 : decode cX1_set 25 = .ok (.getfield 42, 3) := by decide +kernel
theorem dX1_set_28 : decode cX1_set 28 = .ok (.iload_n 1, 1) := by decide +kernel
theorem dX1_set_29 : decode cX1_set 29 = .ok (.iaload, 1) := by decide +kernel
theorem dX1_set_30 : decode cX1_set 30 = .ok (.imul, 1) := by decide +kernel
theorem dX1_set_31 : decode cX1_set 31 = .ok (.aload_n 0, 1) := by decide +kernel
theorem dX1_set_32 : decode cX1_set 32 = .ok (.getfield 30, 3) := by decide +kernel
theorem dX1_set_35 : decode cX1_set 35 = .ok (.getfield 45, 3) := by decide +kernel
theorem dX1_set_38 : decode cX1_set 38 = .ok (.iload_n 1, 1) := by decide +kernel
theorem dX1_set_39 : decode cX1_set 39 = .ok (.iaload, 1) := by decide +kernel
theorem dX1_set_40 : decode cX1_set 40 = .ok (.iadd, 1) := by decide +kernel
theorem dX1_set_41 : decode cX1_set 41 = .ok (.istore 4, 2) := by decide +kernel
theorem dX1_set_43 : decode cX1_set 43 = .ok (.aload_n 0, 1) := by decide +kernel
theorem dX1_set_44 : decode cX1_set 44 = .ok (.getfield 30, 3) := by decide +kernel
theorem dX1_set_47 : decode cX1_set 47 = .ok (.getfield 42, 3) := by decide +kernel
theorem dX1_set_50 : decode cX1_set 50 = .ok (.iload_n 1, 1) := by decide +kernel
theorem dX1_set_51 : decode cX1_set 51 = .ok (.iload_n 2, 1) := by decide +kernel
theorem dX1_set_52 : decode cX1_set 52 = .ok (.iastore, 1) := by decide +kernel
theorem dX1_set_53 : decode cX1_set 53 = .ok (.aload_n 0, 1) := by decide +kernel
theorem dX1_set_54 : decode cX1_set 54 = .ok (.getfield 30, 3) := by decide +kernel
theorem dX1_set_57 : decode cX1_set 57 = .ok (.getfield 45, 3) := by decide +kernel
theorem dX1_set_60 : decode cX1_set 60 = .ok (.iload_n 1, 1) := by decide +kernel
theorem dX1_set_61 : decode cX1_set 61 = .ok (.iload_n 3, 1) := by decide +kernel
theorem dX1_set_62 : decode cX1_set 62 = .ok (.iastore, 1) := by decide +kernel
theorem dX1_set_63 : decode cX1_set 63 = .ok (.iload 4, 2) := by decide +kernel
theorem dX1_set_65 : decode cX1_set 65 = .ok (.ireturn, 1) := by decide +kernel
set_option maxRecDepth 20000 in
theorem ggX1_join_X1_needWithin : GoodIn wsX1_join wsX1_needWithin := goodIn_ca (goodIn_r _ [4, 5, 6] (by decide +kernel) (by decide +kernel)) (goodIn_sub (fun _ h => List.mem_cons_of_mem _ (List.mem_append_left _ (List.mem_append_right _ h))) (by decide +kernel))
set_option maxRecDepth 20000 in
theorem gX1_join_X1_needWithin : GoodIn wsX1_join (va_wsS RX1 38 yX1_needWithin wsX1_needWithin) := goodIn_app (goodIn_of _ (by decide +kernel)) ggX1_join_X1_needWithin
set_option maxRecDepth 20000 in
theorem ggX1_join_X1_append : GoodIn wsX1_join wsX1_append := goodIn_ca (goodIn_r _ [10, 11, 12, 13, 14, 15, 16, 17, 18, 19, 20, 21, 22, 23] (by decide +kernel) (by decide +kernel)) (goodIn_sub (fun _ h => List.mem_cons_of_mem _ (List.mem_append_right _ h)) (by decide +kernel))
set_option maxRecDepth 20000 in
theorem gX1_join_X1_append : GoodIn wsX1_join (wsV RX1 48 RX1 yX1_append wsX1_append) := goodIn_app (goodIn_of _ (by decide +kernel)) ggX1_join_X1_append
theorem dX1_join_0 : decode cX1_join 0 = .ok (.iload_n 1, 1) := by decide +kernel
theorem dX1_join_1 : decode cX1_join 1 = .ok (.iconst 0, 1) := by decide +kernel
theorem dX1_join_2 : decode cX1_join 2 = .ok (.bipush 100, 2) := by decide +kernel
theorem dX1_join_4 : decode cX1_join 4 = .ok (.invokestatic 38, 3) := by decide +kernel
theorem dX1_join_7 : decode cX1_join 7 = .ok (.aload_n 0, 1) := by decide +kernel
theorem dX1_join_8 : decode cX1_join 8 = .ok (.iconst 0, 1) := by decide +kernel
theorem dX1_join_9 : decode cX1_join 9 = .ok (.iload_n 1, 1) := by decide +kernel
theorem dX1_join_10 : decode cX1_join 10 = .ok (.iconst 0, 1) := by decide +kernel
theorem dX1_join_11 : decode cX1_join 11 = .ok (.invokevirtual 48, 3) := by decide +kernel
theorem dX1_join_14 : decode cX1_join 14 = .ok (.ireturn, 1) := by decide +kernel
set_option maxRecDepth 20000 in
theorem ggX1_toss_X1_needIndex : GoodIn wsX1_toss wsX1_needIndex := goodIn_ca (goodIn_r _ [4, 5, 6] (by decide +kernel) (by decide +kernel)) (goodIn_sub (fun _ h => List.mem_cons_of_mem _ (List.mem_append_left _ (List.mem_append_left _ (List.mem_append_right _ h)))) (by decide +kernel))
set_option maxRecDepth 20000 in
theorem gX1_toss_X1_needIndex : GoodIn wsX1_toss (va_wsS RX1 34 yX1_needIndex wsX1_needIndex) := goodIn_app (goodIn_of _ (by decide +kernel)) ggX1_toss_X1_needIndex
set_option maxRecDepth 20000 in
theorem ggX1_toss_X1_needWithin : GoodIn wsX1_toss wsX1_needWithin := goodIn_ca (goodIn_r _ [9, 10, 11] (by decide +kernel) (by decide +kernel)) (goodIn_sub (fun _ h => List.mem_cons_of_mem _ (List.mem_append_left _ (List.mem_append_right _ h))) (by decide +kernel))
set_option maxRecDepth 20000 in
theorem gX1_toss_X1_needWithin : GoodIn wsX1_toss (va_wsS RX1 38 yX1_needWithin wsX1_needWithin) := goodIn_app (goodIn_of _ (by decide +kernel)) ggX1_toss_X1_needWithin
set_option maxRecDepth 20000 in
theorem ggX1_toss_X1_append : GoodIn wsX1_toss wsX1_append := goodIn_ca (goodIn_r _ [15, 16, 17, 18, 19, 20, 21, 22, 23, 24, 25, 26, 27, 28] (by decide +kernel) (by decide +kernel)) (goodIn_sub (fun _ h => List.mem_cons_of_mem _ (List.mem_append_right _ h)) (by decide +kernel))
set_option maxRecDepth 20000 in
theorem gX1_toss_X1_append : GoodIn wsX1_toss (wsV RX1 48 RX1 yX1_append wsX1_append) := goodIn_app (goodIn_of _ (by decide +kernel)) ggX1_toss_X1_append
theorem dX1_toss_0 : decode cX1_toss 0 = .ok (.iload_n 1, 1) := by decide +kernel
theorem dX1_toss_1 : decode cX1_toss 1 = .ok (.bipush 6, 2) := by decide +kernel
theorem dX1_toss_3 : decode cX1_toss 3 = .ok (.invokestatic 34, 3) := by decide +kernel
theorem dX1_toss_6 : decode cX1_toss 6 = .ok (.iload_n 2, 1) := by decide +kernel
theorem dX1_toss_7 : decode cX1_toss 7 = .ok (.iconst 0, 1) := by decide +kernel
theorem dX1_toss_8 : decode cX1_toss 8 = .ok (.bipush 20, 2) := by decide +kernel
theorem dX1_toss_10 : decode cX1_toss 10 = .ok (.invokestatic 38, 3) := by decide +kernel
theorem dX1_toss_13 : decode cX1_toss 13 = .ok (.aload_n 0, 1) := by decide +kernel
theorem dX1_toss_14 : decode cX1_toss 14 = .ok (.iconst 1, 1) := by decide +kernel
theorem dX1_toss_15 : decode cX1_toss 15 = .ok (.iload_n 1, 1) := by decide +kernel
theorem dX1_toss_16 : decode cX1_toss 16 = .ok (.iload_n 2, 1) := by decide +kernel
theorem dX1_toss_17 : decode cX1_toss 17 = .ok (.invokevirtual 48, 3) := by decide +kernel
theorem dX1_toss_20 : decode cX1_toss 20 = .ok (.ireturn, 1) := by decide +kernel
set_option maxRecDepth 20000 in
theorem ggX1_rest_X1_needIndex : GoodIn wsX1_rest wsX1_needIndex := goodIn_ca (goodIn_r _ [4, 5, 6] (by decide +kernel) (by decide +kernel)) (goodIn_sub (fun _ h => List.mem_cons_of_mem _ (List.mem_append_left _ (List.mem_append_right _ h))) (by decide +kernel))
set_option maxRecDepth 20000 in
theorem gX1_rest_X1_needIndex : GoodIn wsX1_rest (va_wsS RX1 34 yX1_needIndex wsX1_needIndex) := goodIn_app (goodIn_of _ (by decide +kernel)) ggX1_rest_X1_needIndex
set_option maxRecDepth 20000 in
theorem ggX1_rest_X1_append : GoodIn wsX1_rest wsX1_append := goodIn_ca (goodIn_r _ [10, 11, 12, 13, 14, 15, 16, 17, 18, 19, 20, 21, 22, 23] (by decide +kernel) (by decide +kernel)) (goodIn_sub (fun _ h => List.mem_cons_of_mem _ (List.mem_append_right _ h)) (by decide +kernel))
set_option maxRecDepth 20000 in
theorem gX1_rest_X1_append : GoodIn wsX1_rest (wsV RX1 48 RX1 yX1_append wsX1_append) := goodIn_app (goodIn_of _ (by decide +kernel)) ggX1_rest_X1_append
theorem dX1_rest_0 : decode cX1_rest 0 = .ok (.iload_n 1, 1) := by decide +kernel
theorem dX1_rest_1 : decode cX1_rest 1 = .ok (.bipush 6, 2) := by decide +kernel
theorem dX1_rest_3 : decode cX1_rest 3 = .ok (.invokestatic 34, 3) := by decide +kernel
theorem dX1_rest_6 : decode cX1_rest 6 = .ok (.aload_n 0, 1) := by decide +kernel
theorem dX1_rest_7 : decode cX1_rest 7 = .ok (.iconst 2, 1) := by decide +kernel
theorem dX1_rest_8 : decode cX1_rest 8 = .ok (.iload_n 1, 1) := by decide +kernel
theorem dX1_rest_9 : decode cX1_rest 9 = .ok (.iconst 0, 1) := by decide +kernel
theorem dX1_rest_10 : decode cX1_rest 10 = .ok (.invokevirtual 48, 3) := by decide +kernel
theorem dX1_rest_13 : decode cX1_rest 13 = .ok (.ireturn, 1) := by decide +kernel
set_option maxRecDepth 20000 in
theorem ggX1_go_X1_needIndex : GoodIn wsX1_go wsX1_needIndex := goodIn_ca (goodIn_r _ [4, 5, 6] (by decide +kernel) (by decide +kernel)) (goodIn_sub (fun _ h => List.mem_cons_of_mem _ (List.mem_append_left _ (List.mem_append_right _ h))) (by decide +kernel))
set_option maxRecDepth 20000 in
theorem gX1_go_X1_needIndex : GoodIn wsX1_go (va_wsS RX1 34 yX1_needIndex wsX1_needIndex) := goodIn_app (goodIn_of _ (by decide +kernel)) ggX1_go_X1_needIndex
set_option maxRecDepth 20000 in
theorem ggX1_go_X1_append : GoodIn wsX1_go wsX1_append := goodIn_ca (goodIn_r _ [10, 11, 12, 13, 14, 15, 16, 17, 18, 19, 20, 21, 22, 23] (by decide +kernel) (by decide +kernel)) (goodIn_sub (fun _ h => List.mem_cons_of_mem _ (List.mem_append_right _ h)) (by decide +kernel))
set_option maxRecDepth 20000 in
theorem gX1_go_X1_append : GoodIn wsX1_go (wsV RX1 48 RX1 yX1_append wsX1_append) := goodIn_app (goodIn_of _ (by decide +kernel)) ggX1_go_X1_append
theorem dX1_go_0 : decode cX1_go 0 = .ok (.iload_n 1, 1) := by decide +kernel
theorem dX1_go_1 : decode cX1_go 1 = .ok (.iconst 4, 1) := by decide +kernel
theorem dX1_go_2 : decode cX1_go 2 = .ok (.invokestatic 34, 3) := by decide +kernel
theorem dX1_go_5 : decode cX1_go 5 = .ok (.aload_n 0, 1) := by decide +kernel
theorem dX1_go_6 : decode cX1_go 6 = .ok (.iconst 3, 1) := by decide +kernel
theorem dX1_go_7 : decode cX1_go 7 = .ok (.iload_n 1, 1) := by decide +kernel
theorem dX1_go_8 : decode cX1_go 8 = .ok (.iconst 0, 1) := by decide +kernel
theorem dX1_go_9 : decode cX1_go 9 = .ok (.invokevirtual 48, 3) := by decide +kernel
theorem dX1_go_12 : decode cX1_go 12 = .ok (.ireturn, 1) := by decide +kernel
set_option maxRecDepth 20000 in
theorem ggX1_pay_X1_needIndex : GoodIn wsX1_pay wsX1_needIndex := goodIn_ca (goodIn_r _ [4, 5, 6] (by decide +kernel) (by decide +kernel)) (goodIn_sub (fun _ h => List.mem_cons_of_mem _ (List.mem_append_left _ (List.mem_append_left _ (List.mem_append_right _ h)))) (by decide +kernel))
set_option maxRecDepth 20000 in
theorem gX1_pay_X1_needIndex : GoodIn wsX1_pay (va_wsS RX1 34 yX1_needIndex wsX1_needIndex) := goodIn_app (goodIn_of _ (by decide +kernel)) ggX1_pay_X1_needIndex
set_option maxRecDepth 20000 in
theorem ggX1_pay_X1_needWithin : GoodIn wsX1_pay wsX1_needWithin := goodIn_ca (goodIn_r _ [9, 10, 11] (by decide +kernel) (by decide +kernel)) (goodIn_sub (fun _ h => List.mem_cons_of_mem _ (List.mem_append_left _ (List.mem_append_right _ h))) (by decide +kernel))
set_option maxRecDepth 20000 in
theorem gX1_pay_X1_needWithin : GoodIn wsX1_pay (va_wsS RX1 38 yX1_needWithin wsX1_needWithin) := goodIn_app (goodIn_of _ (by decide +kernel)) ggX1_pay_X1_needWithin
set_option maxRecDepth 20000 in
theorem ggX1_pay_X1_append : GoodIn wsX1_pay wsX1_append := goodIn_ca (goodIn_r _ [15, 16, 17, 18, 19, 20, 21, 22, 23, 24, 25, 26, 27, 28] (by decide +kernel) (by decide +kernel)) (goodIn_sub (fun _ h => List.mem_cons_of_mem _ (List.mem_append_right _ h)) (by decide +kernel))
set_option maxRecDepth 20000 in
theorem gX1_pay_X1_append : GoodIn wsX1_pay (wsV RX1 48 RX1 yX1_append wsX1_append) := goodIn_app (goodIn_of _ (by decide +kernel)) ggX1_pay_X1_append
theorem dX1_pay_0 : decode cX1_pay 0 = .ok (.iload_n 1, 1) := by decide +kernel
theorem dX1_pay_1 : decode cX1_pay 1 = .ok (.bipush 6, 2) := by decide +kernel
theorem dX1_pay_3 : decode cX1_pay 3 = .ok (.invokestatic 34, 3) := by decide +kernel
theorem dX1_pay_6 : decode cX1_pay 6 = .ok (.iload_n 2, 1) := by decide +kernel
theorem dX1_pay_7 : decode cX1_pay 7 = .ok (.iconst 1, 1) := by decide +kernel
theorem dX1_pay_8 : decode cX1_pay 8 = .ok (.bipush 99, 2) := by decide +kernel
theorem dX1_pay_10 : decode cX1_pay 10 = .ok (.invokestatic 38, 3) := by decide +kernel
theorem dX1_pay_13 : decode cX1_pay 13 = .ok (.aload_n 0, 1) := by decide +kernel
theorem dX1_pay_14 : decode cX1_pay 14 = .ok (.iconst 4, 1) := by decide +kernel
theorem dX1_pay_15 : decode cX1_pay 15 = .ok (.iload_n 1, 1) := by decide +kernel
theorem dX1_pay_16 : decode cX1_pay 16 = .ok (.iload_n 2, 1) := by decide +kernel
theorem dX1_pay_17 : decode cX1_pay 17 = .ok (.invokevirtual 48, 3) := by decide +kernel
theorem dX1_pay_20 : decode cX1_pay 20 = .ok (.ireturn, 1) := by decide +kernel
set_option maxRecDepth 20000 in
theorem ggX1_buy_X1_needWithin : GoodIn wsX1_buy wsX1_needWithin := goodIn_ca (goodIn_r _ [4, 5, 6] (by decide +kernel) (by decide +kernel)) (goodIn_sub (fun _ h => List.mem_cons_of_mem _ (List.mem_append_left _ (List.mem_append_right _ h))) (by decide +kernel))
set_option maxRecDepth 20000 in
theorem gX1_buy_X1_needWithin : GoodIn wsX1_buy (va_wsS RX1 38 yX1_needWithin wsX1_needWithin) := goodIn_app (goodIn_of _ (by decide +kernel)) ggX1_buy_X1_needWithin
set_option maxRecDepth 20000 in
theorem ggX1_buy_X1_append : GoodIn wsX1_buy wsX1_append := goodIn_ca (goodIn_r _ [10, 11, 12, 13, 14, 15, 16, 17, 18, 19, 20, 21, 22, 23] (by decide +kernel) (by decide +kernel)) (goodIn_sub (fun _ h => List.mem_cons_of_mem _ (List.mem_append_right _ h)) (by decide +kernel))
set_option maxRecDepth 20000 in
theorem gX1_buy_X1_append : GoodIn wsX1_buy (wsV RX1 48 RX1 yX1_append wsX1_append) := goodIn_app (goodIn_of _ (by decide +kernel)) ggX1_buy_X1_append
theorem dX1_buy_0 : decode cX1_buy 0 = .ok (.iload_n 1, 1) := by decide +kernel
theorem dX1_buy_1 : decode cX1_buy 1 = .ok (.iconst 1, 1) := by decide +kernel
theorem dX1_buy_2 : decode cX1_buy 2 = .ok (.bipush 20, 2) := by decide +kernel
theorem dX1_buy_4 : decode cX1_buy 4 = .ok (.invokestatic 38, 3) := by decide +kernel
theorem dX1_buy_7 : decode cX1_buy 7 = .ok (.aload_n 0, 1) := by decide +kernel
theorem dX1_buy_8 : decode cX1_buy 8 = .ok (.iconst 5, 1) := by decide +kernel
theorem dX1_buy_9 : decode cX1_buy 9 = .ok (.iload_n 1, 1) := by decide +kernel
theorem dX1_buy_10 : decode cX1_buy 10 = .ok (.iconst 0, 1) := by decide +kernel
theorem dX1_buy_11 : decode cX1_buy 11 = .ok (.invokevirtual 48, 3) := by decide +kernel
theorem dX1_buy_14 : decode cX1_buy 14 = .ok (.ireturn, 1) := by decide +kernel
set_option maxRecDepth 20000 in
theorem ggX1_strike_X1_needIndex : GoodIn wsX1_strike wsX1_needIndex := goodIn_ca (goodIn_r _ [6, 7, 8] (by decide +kernel) (by decide +kernel)) (goodIn_sub (fun _ h => List.mem_cons_of_mem _ (List.mem_append_right _ h)) (by decide +kernel))
set_option maxRecDepth 20000 in
theorem gX1_strike_X1_needIndex : GoodIn wsX1_strike (va_wsS RX1 34 yX1_needIndex wsX1_needIndex) := goodIn_app (goodIn_of _ (by decide +kernel)) ggX1_strike_X1_needIndex
theorem dX1_strike_0 : decode cX1_strike 0 = .ok (.iload_n 1, 1) := by decide +kernel
theorem dX1_strike_1 : decode cX1_strike 1 = .ok (.aload_n 0, 1) := by decide +kernel
theorem dX1_strike_2 : decode cX1_strike 2 = .ok (.getfield 23, 3) := by decide +kernel
theorem dX1_strike_5 : decode cX1_strike 5 = .ok (.invokestatic 34, 3) := by decide +kernel
theorem dX1_strike_8 : decode cX1_strike 8 = .ok (.aload_n 0, 1) := by decide +kernel
theorem dX1_strike_9 : decode cX1_strike 9 = .ok (.getfield 19, 3) := by decide +kernel
theorem dX1_strike_12 : decode cX1_strike 12 = .ok (.iload_n 1, 1) := by decide +kernel
theorem dX1_strike_13 : decode cX1_strike 13 = .ok (.aload_n 0, 1) := by decide +kernel
theorem dX1_strike_14 : decode cX1_strike 14 = .ok (.getfield 19, 3) := by decide +kernel
theorem dX1_strike_17 : decode cX1_strike 17 = .ok (.iload_n 1, 1) := by decide +kernel
theorem dX1_strike_18 : decode cX1_strike 18 = .ok (.baload, 1) := by decide +kernel
theorem dX1_strike_19 : decode cX1_strike 19 = .ok (.ifCond .ne 7, 3) := by decide +kernel
theorem dX1_strike_22 : decode cX1_strike 22 = .ok (.iconst 1, 1) := by decide +kernel
theorem dX1_strike_23 : decode cX1_strike 23 = .ok (.goto 4, 3) := by decide +kernel
theorem dX1_strike_26 : decode cX1_strike 26 = .ok (.iconst 0, 1) := by decide +kernel
theorem dX1_strike_27 : decode cX1_strike 27 = .ok (.bastore, 1) := by decide +kernel
theorem dX1_strike_28 : decode cX1_strike 28 = .ok (.aload_n 0, 1) := by decide +kernel
theorem dX1_strike_29 : decode cX1_strike 29 = .ok (.getfield 19, 3) := by decide +kernel
theorem dX1_strike_32 : decode cX1_strike 32 = .ok (.iload_n 1, 1) := by decide +kernel
theorem dX1_strike_33 : decode cX1_strike 33 = .ok (.baload, 1) := by decide +kernel
theorem dX1_strike_34 : decode cX1_strike 34 = .ok (.ireturn, 1) := by decide +kernel
set_option maxRecDepth 20000 in
theorem ggX1_shift_X1_needIndex : GoodIn wsX1_shift wsX1_needIndex := goodIn_ca (goodIn_r _ [6, 7, 8] (by decide +kernel) (by decide +kernel)) (goodIn_sub (fun _ h => List.mem_cons_of_mem _ (List.mem_append_right _ h)) (by decide +kernel))
set_option maxRecDepth 20000 in
theorem gX1_shift_X1_needIndex : GoodIn wsX1_shift (va_wsS RX1 34 yX1_needIndex wsX1_needIndex) := goodIn_app (goodIn_of _ (by decide +kernel)) ggX1_shift_X1_needIndex
set_option maxRecDepth 20000 in
theorem ggX1_shift_X1_swap : GoodIn wsX1_shift wsX1_swap := goodIn_r _ [12, 2, 13, 14, 15, 16, 17, 5, 18, 19, 20, 21, 22, 23, 24] (by decide +kernel) (by decide +kernel)
set_option maxRecDepth 20000 in
theorem gX1_shift_X1_swap : GoodIn wsX1_shift (wsV RX1 52 RX1 yX1_swap wsX1_swap) := goodIn_app (goodIn_of _ (by decide +kernel)) ggX1_shift_X1_swap
theorem dX1_shift_0 : decode cX1_shift 0 = .ok (.iload_n 1, 1) := by decide +kernel
theorem dX1_shift_1 : decode cX1_shift 1 = .ok (.aload_n 0, 1) := by decide +kernel
theorem dX1_shift_2 : decode cX1_shift 2 = .ok (.getfield 23, 3) := by decide +kernel
theorem dX1_shift_5 : decode cX1_shift 5 = .ok (.invokestatic 34, 3) := by decide +kernel
theorem dX1_shift_8 : decode cX1_shift 8 = .ok (.iload_n 2, 1) := by decide +kernel
theorem dX1_shift_9 : decode cX1_shift 9 = .ok (.aload_n 0, 1) := by decide +kernel
theorem dX1_shift_10 : decode cX1_shift 10 = .ok (.getfield 23, 3) := by decide +kernel
theorem dX1_shift_13 : decode cX1_shift 13 = .ok (.invokestatic 34, 3) := by decide +kernel
theorem dX1_shift_16 : decode cX1_shift 16 = .ok (.aload_n 0, 1) := by decide +kernel
theorem dX1_shift_17 : decode cX1_shift 17 = .ok (.getfield 9, 3) := by decide +kernel
theorem dX1_shift_20 : decode cX1_shift 20 = .ok (.iload_n 1, 1) := by decide +kernel
theorem dX1_shift_21 : decode cX1_shift 21 = .ok (.iaload, 1) := by decide +kernel
theorem dX1_shift_22 : decode cX1_shift 22 = .ok (.istore_n 3, 1) := by decide +kernel
theorem dX1_shift_23 : decode cX1_shift 23 = .ok (.iload_n 1, 1) := by decide +kernel
theorem dX1_shift_24 : decode cX1_shift 24 = .ok (.istore 4, 2) := by decide +kernel
theorem dX1_shift_26 : decode cX1_shift 26 = .ok (.iload 4, 2) := by decide +kernel
theorem dX1_shift_28 : decode cX1_shift 28 = .ok (.iload_n 2, 1) := by decide +kernel
theorem dX1_shift_29 : decode cX1_shift 29 = .ok (.if_icmp .ge 19, 3) := by decide +kernel
theorem dX1_shift_32 : decode cX1_shift 32 = .ok (.aload_n 0, 1) := by decide +kernel
theorem dX1_shift_33 : decode cX1_shift 33 = .ok (.iload 4, 2) := by decide +kernel
theorem dX1_shift_35 : decode cX1_shift 35 = .ok (.iload 4, 2) := by decide +kernel
theorem dX1_shift_37 : decode cX1_shift 37 = .ok (.iconst 1, 1) := by decide +kernel
theorem dX1_shift_38 : decode cX1_shift 38 = .ok (.iadd, 1) := by decide +kernel
theorem dX1_shift_39 : decode cX1_shift 39 = .ok (.invokevirtual 52, 3) := by decide +kernel
theorem dX1_shift_42 : decode cX1_shift 42 = .ok (.iinc 4 1, 3) := by decide +kernel
theorem dX1_shift_45 : decode cX1_shift 45 = .ok (.goto (-19), 3) := by decide +kernel
theorem dX1_shift_48 : decode cX1_shift 48 = .ok (.iload_n 1, 1) := by decide +kernel
theorem dX1_shift_49 : decode cX1_shift 49 = .ok (.istore 4, 2) := by decide +kernel
theorem dX1_shift_51 : decode cX1_shift 51 = .ok (.iload 4, 2) := by decide +kernel
theorem dX1_shift_53 : decode cX1_shift 53 = .ok (.iload_n 2, 1) := by decide +kernel
theorem dX1_shift_54 : decode cX1_shift 54 = .ok (.if_icmp .le 19, 3) := by decide +kernel
theorem dX1_shift_57 : decode cX1_shift 57 = .ok (.aload_n 0, 1) := by decide +kernel
theorem dX1_shift_58 : decode cX1_shift 58 = .ok (.iload 4, 2) := by decide +kernel
theorem dX1_shift_60 : decode cX1_shift 60 = .ok (.iload 4, 2) := by decide +kernel
theorem dX1_shift_62 : decode cX1_shift 62 = .ok (.iconst 1, 1) := by decide +kernel
theorem dX1_shift_63 : decode cX1_shift 63 = .ok (.isub, 1) := by decide +kernel
theorem dX1_shift_64 : decode cX1_shift 64 = .ok (.invokevirtual 52, 3) := by decide +kernel
theorem dX1_shift_67 : decode cX1_shift 67 = .ok (.iinc 4 (-1), 3) := by decide +kernel
theorem dX1_shift_70 : decode cX1_shift 70 = .ok (.goto (-19), 3) := by decide +kernel
theorem dX1_shift_73 : decode cX1_shift 73 = .ok (.iload_n 3, 1) := by decide +kernel
theorem dX1_shift_74 : decode cX1_shift 74 = .ok (.ireturn, 1) := by decide +kernel
theorem dX1_tear_0 : decode cX1_tear 0 = .ok (.aload_n 0, 1) := by decide +kernel
theorem dX1_tear_1 : decode cX1_tear 1 = .ok (.getfield 23, 3) := by decide +kernel
theorem dX1_tear_4 : decode cX1_tear 4 = .ok (.ifCond .ne 13, 3) := by decide +kernel
theorem dX1_tear_7 : decode cX1_tear 7 = .ok (.new 55, 3) := by decide +kernel
theorem dX1_tear_10 : decode cX1_tear 10 = .ok (.dup, 1) := by decide +kernel
theorem dX1_tear_11 : decode cX1_tear 11 = .ok (.ldc 57, 2) := by decide +kernel
theorem dX1_tear_13 : decode cX1_tear 13 = .ok (.invokespecial 59, 3) := by decide +kernel
theorem dX1_tear_16 : decode cX1_tear 16 = .ok (.athrow, 1) := by decide +kernel
theorem dX1_tear_17 : decode cX1_tear 17 = .ok (.aload_n 0, 1) := by decide +kernel
theorem dX1_tear_18 : decode cX1_tear 18 = .ok (.dup, 1) := by decide +kernel
theorem dX1_tear_19 : decode cX1_tear 19 = .ok (.getfield 23, 3) := by decide +kernel
theorem dX1_tear_22 : decode cX1_tear 22 = .ok (.iconst 1, 1) := by decide +kernel
theorem dX1_tear_23 : decode cX1_tear 23 = .ok (.isub, 1) := by decide +kernel
theorem dX1_tear_24 : decode cX1_tear 24 = .ok (.putfield 23, 3) := by decide +kernel
theorem dX1_tear_27 : decode cX1_tear 27 = .ok (.aload_n 0, 1) := by decide +kernel
theorem dX1_tear_28 : decode cX1_tear 28 = .ok (.getfield 9, 3) := by decide +kernel
theorem dX1_tear_31 : decode cX1_tear 31 = .ok (.aload_n 0, 1) := by decide +kernel
theorem dX1_tear_32 : decode cX1_tear 32 = .ok (.getfield 23, 3) := by decide +kernel
theorem dX1_tear_35 : decode cX1_tear 35 = .ok (.iaload, 1) := by decide +kernel
theorem dX1_tear_36 : decode cX1_tear 36 = .ok (.ireturn, 1) := by decide +kernel
set_option maxRecDepth 20000 in
theorem ggX1_entry_X1_needIndex : GoodIn wsX1_entry wsX1_needIndex := goodIn_ca (goodIn_r _ [9, 10, 11] (by decide +kernel) (by decide +kernel)) (goodIn_sub (fun _ h => List.mem_cons_of_mem _ (List.mem_append_right _ h)) (by decide +kernel))
set_option maxRecDepth 20000 in
theorem gX1_entry_X1_needIndex : GoodIn wsX1_entry (va_wsS RX1 34 yX1_needIndex wsX1_needIndex) := goodIn_app (goodIn_of _ (by decide +kernel)) ggX1_entry_X1_needIndex
set_option maxRecDepth 20000 in
theorem ggX1_entry_X1_counts : GoodIn wsX1_entry wsX1_counts := goodIn_r _ [15, 5, 16, 2, 3, 4, 17, 18, 19, 8, 20, 21, 22, 23, 24, 25, 26, 27, 28, 29, 30, 31, 32, 33, 34, 35, 36, 37, 38, 39, 40, 41, 42, 43, 44, 45, 46, 47, 48, 49, 50, 51, 52, 53, 54, 55, 56, 57, 58, 59, 60, 61, 62, 63, 64, 65, 66, 67, 68, 69, 70, 71, 72, 73, 74, 75, 76, 77, 78, 79, 80, 81, 82, 83, 84, 85, 86, 87, 88, 89, 90, 91, 92, 93, 94, 95, 96, 97, 98, 99, 100, 101, 102, 103, 104, 105] (by decide +kernel) (by decide +kernel)
set_option maxRecDepth 20000 in
theorem gX1_entry_X1_counts : GoodIn wsX1_entry (wsV RX1 62 RX1 yX1_counts wsX1_counts) := goodIn_app (goodIn_of _ (by decide +kernel)) ggX1_entry_X1_counts
theorem dX1_entry_0 : decode cX1_entry 0 = .ok (.iload_n 1, 1) := by decide +kernel
theorem dX1_entry_1 : decode cX1_entry 1 = .ok (.aload_n 0, 1) := by decide +kernel
theorem dX1_entry_2 : decode cX1_entry 2 = .ok (.getfield 23, 3) := by decide +kernel
theorem dX1_entry_5 : decode cX1_entry 5 = .ok (.invokestatic 34, 3) := by decide +kernel
theorem dX1_entry_8 : decode cX1_entry 8 = .ok (.iload_n 2, 1) := by decide +kernel
theorem dX1_entry_9 : decode cX1_entry 9 = .ok (.iconst 5, 1) := by decide +kernel
theorem dX1_entry_10 : decode cX1_entry 10 = .ok (.invokestatic 34, 3) := by decide +kernel
theorem dX1_entry_13 : decode cX1_entry 13 = .ok (.iload_n 2, 1) := by decide +kernel
theorem dX1_entry_14 : decode cX1_entry 14 = .ok (.tableswitch 66 0 3 #[30, 37, 44, 51], 30) := by decide +kernel
theorem dX1_entry_44 : decode cX1_entry 44 = .ok (.aload_n 0, 1) := by decide +kernel
theorem dX1_entry_45 : decode cX1_entry 45 = .ok (.getfield 9, 3) := by decide +kernel
theorem dX1_entry_48 : decode cX1_entry 48 = .ok (.iload_n 1, 1) := by decide +kernel
theorem dX1_entry_49 : decode cX1_entry 49 = .ok (.iaload, 1) := by decide +kernel
theorem dX1_entry_50 : decode cX1_entry 50 = .ok (.ireturn, 1) := by decide +kernel
theorem dX1_entry_51 : decode cX1_entry 51 = .ok (.aload_n 0, 1) := by decide +kernel
theorem dX1_entry_52 : decode cX1_entry 52 = .ok (.getfield 13, 3) := by decide +kernel
theorem dX1_entry_55 : decode cX1_entry 55 = .ok (.iload_n 1, 1) := by decide +kernel
theorem dX1_entry_56 : decode cX1_entry 56 = .ok (.iaload, 1) := by decide +kernel
theorem dX1_entry_57 : decode cX1_entry 57 = .ok (.ireturn, 1) := by decide +kernel
theorem dX1_entry_58 : decode cX1_entry 58 = .ok (.aload_n 0, 1) := by decide +kernel
theorem dX1_entry_59 : decode cX1_entry 59 = .ok (.getfield 16, 3) := by decide +kernel
theorem dX1_entry_62 : decode cX1_entry 62 = .ok (.iload_n 1, 1) := by decide +kernel
theorem dX1_entry_63 : decode cX1_entry 63 = .ok (.iaload, 1) := by decide +kernel
theorem dX1_entry_64 : decode cX1_entry 64 = .ok (.ireturn, 1) := by decide +kernel
theorem dX1_entry_65 : decode cX1_entry 65 = .ok (.aload_n 0, 1) := by decide +kernel
theorem dX1_entry_66 : decode cX1_entry 66 = .ok (.getfield 19, 3) := by decide +kernel
theorem dX1_entry_69 : decode cX1_entry 69 = .ok (.iload_n 1, 1) := by decide +kernel
theorem dX1_entry_70 : decode cX1_entry 70 = .ok (.baload, 1) := by decide +kernel
theorem dX1_entry_71 : decode cX1_entry 71 = .ok (.ifCond .eq 7, 3) := by decide +kernel
theorem dX1_entry_74 : decode cX1_entry 74 = .ok (.iconst 1, 1) := by decide +kernel
theorem dX1_entry_75 : decode cX1_entry 75 = .ok (.goto 4, 3) := by decide +kernel
theorem dX1_entry_78 : decode cX1_entry 78 = .ok (.iconst 0, 1) := by decide +kernel
theorem dX1_entry_79 : decode cX1_entry 79 = .ok (.ireturn, 1) := by decide +kernel
theorem dX1_entry_80 : decode cX1_entry 80 = .ok (.aload_n 0, 1) := by decide +kernel
theorem dX1_entry_81 : decode cX1_entry 81 = .ok (.iload_n 1, 1) := by decide +kernel
theorem dX1_entry_82 : decode cX1_entry 82 = .ok (.invokevirtual 62, 3) := by decide +kernel
theorem dX1_entry_85 : decode cX1_entry 85 = .ok (.ifCond .eq 7, 3) := by decide +kernel
theorem dX1_entry_88 : decode cX1_entry 88 = .ok (.iconst 1, 1) := by decide +kernel
theorem dX1_entry_89 : decode cX1_entry 89 = .ok (.goto 4, 3) := by decide +kernel
theorem dX1_entry_92 : decode cX1_entry 92 = .ok (.iconst 0, 1) := by decide +kernel
theorem dX1_entry_93 : decode cX1_entry 93 = .ok (.ireturn, 1) := by decide +kernel
set_option maxRecDepth 20000 in
theorem ggX1_behind_X1_needWithin : GoodIn wsX1_behind wsX1_needWithin := goodIn_ca (goodIn_r _ [6, 7, 8] (by decide +kernel) (by decide +kernel)) (goodIn_sub (fun _ h => List.mem_cons_of_mem _ (List.mem_append_left _ (List.mem_append_right _ h))) (by decide +kernel))
set_option maxRecDepth 20000 in
theorem gX1_behind_X1_needWithin : GoodIn wsX1_behind (va_wsS RX1 38 yX1_needWithin wsX1_needWithin) := goodIn_app (goodIn_of _ (by decide +kernel)) ggX1_behind_X1_needWithin
set_option maxRecDepth 20000 in
theorem ggX1_behind_X1_needIndex : GoodIn wsX1_behind wsX1_needIndex := goodIn_ca (goodIn_r _ [11, 12, 13] (by decide +kernel) (by decide +kernel)) (goodIn_sub (fun _ h => List.mem_cons_of_mem _ (List.mem_append_right _ h)) (by decide +kernel))
set_option maxRecDepth 20000 in
theorem gX1_behind_X1_needIndex : GoodIn wsX1_behind (va_wsS RX1 34 yX1_needIndex wsX1_needIndex) := goodIn_app (goodIn_of _ (by decide +kernel)) ggX1_behind_X1_needIndex
set_option maxRecDepth 20000 in
theorem ggX1_behind_X1_reckon : GoodIn wsX1_behind wsX1_reckon := goodIn_r _ [17, 2, 18, 19, 20, 21, 22, 23, 24, 25, 26, 27, 28, 29, 30, 31, 32, 33, 34, 35, 36, 37, 38, 39, 40, 41, 42, 43, 44, 45, 46, 47, 48, 49, 50, 51, 52, 53, 54, 55, 56, 57, 58, 59, 60, 61, 62, 63, 64, 65, 66, 67, 68, 69, 70, 71, 72, 73, 74, 75, 76, 77, 78, 79, 80, 81, 82, 83, 84, 85, 86, 87, 88, 89, 93, 94, 95, 96, 97, 98, 99, 100, 101, 102, 103, 104, 105, 106, 107, 108, 109] (by decide +kernel) (by decide +kernel)
set_option maxRecDepth 20000 in
theorem gX1_behind_X1_reckon : GoodIn wsX1_behind (wsV RX1 66 RX1 yX1_reckon wsX1_reckon) := goodIn_app (goodIn_of _ (by decide +kernel)) ggX1_behind_X1_reckon
set_option maxRecDepth 20000 in
theorem ggX1_behind_X0_trustOfAll : GoodIn wsX1_behind wsX0_trustOfAll := goodIn_r _ [92, 29, 41, 99, 100, 101, 102, 103, 104, 105, 106, 107, 108, 109] (by decide +kernel) (by decide +kernel)
set_option maxRecDepth 20000 in
theorem gX1_behind_X0_trustOfAll_n81 : GoodIn wsX1_behind (wsX0_trustOfAll) := ggX1_behind_X0_trustOfAll
theorem dX1_behind_0 : decode cX1_behind 0 = .ok (.iload_n 1, 1) := by decide +kernel
theorem dX1_behind_1 : decode cX1_behind 1 = .ok (.iconst 0, 1) := by decide +kernel
theorem dX1_behind_2 : decode cX1_behind 2 = .ok (.aload_n 0, 1) := by decide +kernel
theorem dX1_behind_3 : decode cX1_behind 3 = .ok (.getfield 23, 3) := by decide +kernel
theorem dX1_behind_6 : decode cX1_behind 6 = .ok (.invokestatic 38, 3) := by decide +kernel
theorem dX1_behind_9 : decode cX1_behind 9 = .ok (.iload_n 2, 1) := by decide +kernel
theorem dX1_behind_10 : decode cX1_behind 10 = .ok (.bipush 7, 2) := by decide +kernel
theorem dX1_behind_12 : decode cX1_behind 12 = .ok (.invokestatic 34, 3) := by decide +kernel
theorem dX1_behind_15 : decode cX1_behind 15 = .ok (.aload_n 0, 1) := by decide +kernel
theorem dX1_behind_16 : decode cX1_behind 16 = .ok (.iload_n 1, 1) := by decide +kernel
theorem dX1_behind_17 : decode cX1_behind 17 = .ok (.iconst (-1), 1) := by decide +kernel
theorem dX1_behind_18 : decode cX1_behind 18 = .ok (.invokevirtual 66, 3) := by decide +kernel
theorem dX1_behind_21 : decode cX1_behind 21 = .ok (.iload_n 2, 1) := by decide +kernel
theorem dX1_behind_22 : decode cX1_behind 22 = .ok (.tableswitch 86 0 5 #[38, 46, 54, 62, 70, 78], 38) := by decide +kernel
theorem dX1_behind_60 : decode cX1_behind 60 = .ok (.aload_n 0, 1) := by decide +kernel
theorem dX1_behind_61 : decode cX1_behind 61 = .ok (.getfield 30, 3) := by decide +kernel
theorem dX1_behind_64 : decode cX1_behind 64 = .ok (.getfield 69, 3) := by decide +kernel
theorem dX1_behind_67 : decode cX1_behind 67 = .ok (.ireturn, 1) := by decide +kernel
theorem dX1_behind_68 : decode cX1_behind 68 = .ok (.aload_n 0, 1) := by decide +kernel
theorem dX1_behind_69 : decode cX1_behind 69 = .ok (.getfield 30, 3) := by decide +kernel
theorem dX1_behind_72 : decode cX1_behind 72 = .ok (.getfield 72, 3) := by decide +kernel
theorem dX1_behind_75 : decode cX1_behind 75 = .ok (.ireturn, 1) := by decide +kernel
theorem dX1_behind_76 : decode cX1_behind 76 = .ok (.aload_n 0, 1) := by decide +kernel
theorem dX1_behind_77 : decode cX1_behind 77 = .ok (.getfield 30, 3) := by decide +kernel
theorem dX1_behind_80 : decode cX1_behind 80 = .ok (.getfield 75, 3) := by decide +kernel
theorem dX1_behind_83 : decode cX1_behind 83 = .ok (.ireturn, 1) := by decide +kernel
theorem dX1_behind_84 : decode cX1_behind 84 = .ok (.aload_n 0, 1) := by decide +kernel
theorem dX1_behind_85 : decode cX1_behind 85 = .ok (.getfield 30, 3) := by decide +kernel
theorem dX1_behind_88 : decode cX1_behind 88 = .ok (.getfield 78, 3) := by decide +kernel
theorem dX1_behind_91 : decode cX1_behind 91 = .ok (.ireturn, 1) := by decide +kernel
theorem dX1_behind_92 : decode cX1_behind 92 = .ok (.aload_n 0, 1) := by decide +kernel
theorem dX1_behind_93 : decode cX1_behind 93 = .ok (.getfield 30, 3) := by decide +kernel
theorem dX1_behind_96 : decode cX1_behind 96 = .ok (.invokevirtual 81, 3) := by decide +kernel
theorem dX1_behind_99 : decode cX1_behind 99 = .ok (.ireturn, 1) := by decide +kernel
theorem dX1_behind_100 : decode cX1_behind 100 = .ok (.aload_n 0, 1) := by decide +kernel
theorem dX1_behind_101 : decode cX1_behind 101 = .ok (.getfield 30, 3) := by decide +kernel
theorem dX1_behind_104 : decode cX1_behind 104 = .ok (.getfield 85, 3) := by decide +kernel
theorem dX1_behind_107 : decode cX1_behind 107 = .ok (.ireturn, 1) := by decide +kernel
theorem dX1_behind_108 : decode cX1_behind 108 = .ok (.aload_n 0, 1) := by decide +kernel
theorem dX1_behind_109 : decode cX1_behind 109 = .ok (.getfield 30, 3) := by decide +kernel
theorem dX1_behind_112 : decode cX1_behind 112 = .ok (.getfield 88, 3) := by decide +kernel
theorem dX1_behind_115 : decode cX1_behind 115 = .ok (.ireturn, 1) := by decide +kernel
set_option maxRecDepth 20000 in
theorem ggX1_trust_X1_needIndex : GoodIn wsX1_trust wsX1_needIndex := goodIn_ca (goodIn_r _ [6, 7, 8] (by decide +kernel) (by decide +kernel)) (goodIn_sub (fun _ h => List.mem_cons_of_mem _ (List.mem_append_left _ (List.mem_append_right _ h))) (by decide +kernel))
set_option maxRecDepth 20000 in
theorem gX1_trust_X1_needIndex : GoodIn wsX1_trust (va_wsS RX1 34 yX1_needIndex wsX1_needIndex) := goodIn_app (goodIn_of _ (by decide +kernel)) ggX1_trust_X1_needIndex
set_option maxRecDepth 20000 in
theorem ggX1_trust_X1_needWithin : GoodIn wsX1_trust wsX1_needWithin := goodIn_ca (goodIn_r _ [11, 12, 13] (by decide +kernel) (by decide +kernel)) (goodIn_sub (fun _ h => List.mem_cons_of_mem _ (List.mem_append_right _ h)) (by decide +kernel))
set_option maxRecDepth 20000 in
theorem gX1_trust_X1_needWithin : GoodIn wsX1_trust (va_wsS RX1 38 yX1_needWithin wsX1_needWithin) := goodIn_app (goodIn_of _ (by decide +kernel)) ggX1_trust_X1_needWithin
set_option maxRecDepth 20000 in
theorem ggX1_trust_X1_reckon : GoodIn wsX1_trust wsX1_reckon := goodIn_r _ [17, 2, 18, 19, 20, 21, 22, 23, 24, 25, 26, 27, 28, 29, 30, 31, 32, 33, 34, 35, 36, 37, 38, 39, 40, 41, 42, 43, 44, 45, 46, 47, 48, 49, 50, 51, 52, 53, 54, 55, 56, 57, 58, 59, 60, 61, 62, 63, 64, 65, 66, 67, 68, 69, 70, 71, 72, 73, 74, 75, 76, 77, 78, 79, 80, 81, 82, 83, 84, 85, 86, 87, 88, 89, 90, 91, 92, 93, 94, 95, 96, 97, 98, 99, 100, 101, 102, 103, 104, 105, 106] (by decide +kernel) (by decide +kernel)
set_option maxRecDepth 20000 in
theorem gX1_trust_X1_reckon : GoodIn wsX1_trust (wsV RX1 66 RX1 yX1_reckon wsX1_reckon) := goodIn_app (goodIn_of _ (by decide +kernel)) ggX1_trust_X1_reckon
set_option maxRecDepth 20000 in
theorem ggX1_trust_X0_hasJoined : GoodIn wsX1_trust wsX0_hasJoined := goodIn_r _ [54, 29, 96, 97, 98, 99, 100, 101, 102, 103, 104, 105, 106] (by decide +kernel) (by decide +kernel)
set_option maxRecDepth 20000 in
theorem gX1_trust_X0_hasJoined_n91 : GoodIn wsX1_trust (wsX0_hasJoined) := ggX1_trust_X0_hasJoined
theorem dX1_trust_0 : decode cX1_trust 0 = .ok (.iload_n 1, 1) := by decide +kernel
theorem dX1_trust_1 : decode cX1_trust 1 = .ok (.bipush 6, 2) := by decide +kernel
theorem dX1_trust_3 : decode cX1_trust 3 = .ok (.invokestatic 34, 3) := by decide +kernel
theorem dX1_trust_6 : decode cX1_trust 6 = .ok (.iload_n 2, 1) := by decide +kernel
theorem dX1_trust_7 : decode cX1_trust 7 = .ok (.iconst 0, 1) := by decide +kernel
theorem dX1_trust_8 : decode cX1_trust 8 = .ok (.aload_n 0, 1) := by decide +kernel
theorem dX1_trust_9 : decode cX1_trust 9 = .ok (.getfield 23, 3) := by decide +kernel
theorem dX1_trust_12 : decode cX1_trust 12 = .ok (.invokestatic 38, 3) := by decide +kernel
theorem dX1_trust_15 : decode cX1_trust 15 = .ok (.aload_n 0, 1) := by decide +kernel
theorem dX1_trust_16 : decode cX1_trust 16 = .ok (.iload_n 2, 1) := by decide +kernel
theorem dX1_trust_17 : decode cX1_trust 17 = .ok (.iconst (-1), 1) := by decide +kernel
theorem dX1_trust_18 : decode cX1_trust 18 = .ok (.invokevirtual 66, 3) := by decide +kernel
theorem dX1_trust_21 : decode cX1_trust 21 = .ok (.aload_n 0, 1) := by decide +kernel
theorem dX1_trust_22 : decode cX1_trust 22 = .ok (.getfield 30, 3) := by decide +kernel
theorem dX1_trust_25 : decode cX1_trust 25 = .ok (.iload_n 1, 1) := by decide +kernel
theorem dX1_trust_26 : decode cX1_trust 26 = .ok (.invokevirtual 91, 3) := by decide +kernel
theorem dX1_trust_29 : decode cX1_trust 29 = .ok (.ifCond .eq 15, 3) := by decide +kernel
theorem dX1_trust_32 : decode cX1_trust 32 = .ok (.aload_n 0, 1) := by decide +kernel
theorem dX1_trust_33 : decode cX1_trust 33 = .ok (.getfield 30, 3) := by decide +kernel
theorem dX1_trust_36 : decode cX1_trust 36 = .ok (.getfield 94, 3) := by decide +kernel
theorem dX1_trust_39 : decode cX1_trust 39 = .ok (.iload_n 1, 1) := by decide +kernel
theorem dX1_trust_40 : decode cX1_trust 40 = .ok (.iaload, 1) := by decide +kernel
theorem dX1_trust_41 : decode cX1_trust 41 = .ok (.goto 4, 3) := by decide +kernel
theorem dX1_trust_44 : decode cX1_trust 44 = .ok (.iconst (-1), 1) := by decide +kernel
theorem dX1_trust_45 : decode cX1_trust 45 = .ok (.ireturn, 1) := by decide +kernel
set_option maxRecDepth 20000 in
theorem ggX1_count_X1_needIndex : GoodIn wsX1_count wsX1_needIndex := goodIn_ca (goodIn_r _ [6, 7, 8] (by decide +kernel) (by decide +kernel)) (goodIn_sub (fun _ h => List.mem_cons_of_mem _ (List.mem_append_right _ h)) (by decide +kernel))
set_option maxRecDepth 20000 in
theorem gX1_count_X1_needIndex : GoodIn wsX1_count (va_wsS RX1 34 yX1_needIndex wsX1_needIndex) := goodIn_app (goodIn_of _ (by decide +kernel)) ggX1_count_X1_needIndex
set_option maxRecDepth 20000 in
theorem ggX1_count_X1_reckon : GoodIn wsX1_count wsX1_reckon := goodIn_r _ [12, 2, 13, 14, 15, 16, 17, 18, 19, 20, 21, 22, 23, 24, 25, 26, 27, 28, 29, 30, 31, 32, 33, 34, 35, 36, 37, 38, 39, 40, 41, 42, 43, 44, 45, 46, 47, 48, 49, 50, 51, 52, 53, 54, 55, 56, 57, 58, 59, 60, 61, 62, 63, 64, 65, 66, 67, 68, 69, 70, 71, 72, 73, 74, 75, 76, 77, 78, 79, 80, 81, 82, 83, 84, 85, 86, 87, 88, 89, 90, 91, 92, 93, 94, 95, 96, 97, 98, 99, 100, 101] (by decide +kernel) (by decide +kernel)
set_option maxRecDepth 20000 in
theorem gX1_count_X1_reckon : GoodIn wsX1_count (wsV RX1 66 RX1 yX1_reckon wsX1_reckon) := goodIn_app (goodIn_of _ (by decide +kernel)) ggX1_count_X1_reckon
theorem dX1_count_0 : decode cX1_count 0 = .ok (.iload_n 1, 1) := by decide +kernel
theorem dX1_count_1 : decode cX1_count 1 = .ok (.bipush 6, 2) := by decide +kernel
theorem dX1_count_3 : decode cX1_count 3 = .ok (.invokestatic 34, 3) := by decide +kernel
theorem dX1_count_6 : decode cX1_count 6 = .ok (.aload_n 0, 1) := by decide +kernel
theorem dX1_count_7 : decode cX1_count 7 = .ok (.aload_n 0, 1) := by decide +kernel
theorem dX1_count_8 : decode cX1_count 8 = .ok (.getfield 23, 3) := by decide +kernel
theorem dX1_count_11 : decode cX1_count 11 = .ok (.iconst (-1), 1) := by decide +kernel
theorem dX1_count_12 : decode cX1_count 12 = .ok (.invokevirtual 66, 3) := by decide +kernel
theorem dX1_count_15 : decode cX1_count 15 = .ok (.iload_n 1, 1) := by decide +kernel
theorem dX1_count_16 : decode cX1_count 16 = .ok (.tableswitch 86 0 4 #[36, 41, 62, 70, 78], 36) := by decide +kernel
theorem dX1_count_52 : decode cX1_count 52 = .ok (.aload_n 0, 1) := by decide +kernel
theorem dX1_count_53 : decode cX1_count 53 = .ok (.getfield 23, 3) := by decide +kernel
theorem dX1_count_56 : decode cX1_count 56 = .ok (.ireturn, 1) := by decide +kernel
theorem dX1_count_57 : decode cX1_count 57 = .ok (.aload_n 0, 1) := by decide +kernel
theorem dX1_count_58 : decode cX1_count 58 = .ok (.getfield 23, 3) := by decide +kernel
theorem dX1_count_61 : decode cX1_count 61 = .ok (.aload_n 0, 1) := by decide +kernel
theorem dX1_count_62 : decode cX1_count 62 = .ok (.getfield 30, 3) := by decide +kernel
theorem dX1_count_65 : decode cX1_count 65 = .ok (.getfield 85, 3) := by decide +kernel
theorem dX1_count_68 : decode cX1_count 68 = .ok (.isub, 1) := by decide +kernel
theorem dX1_count_69 : decode cX1_count 69 = .ok (.aload_n 0, 1) := by decide +kernel
theorem dX1_count_70 : decode cX1_count 70 = .ok (.getfield 30, 3) := by decide +kernel
theorem dX1_count_73 : decode cX1_count 73 = .ok (.getfield 88, 3) := by decide +kernel
theorem dX1_count_76 : decode cX1_count 76 = .ok (.isub, 1) := by decide +kernel
theorem dX1_count_77 : decode cX1_count 77 = .ok (.ireturn, 1) := by decide +kernel
theorem dX1_count_78 : decode cX1_count 78 = .ok (.aload_n 0, 1) := by decide +kernel
theorem dX1_count_79 : decode cX1_count 79 = .ok (.getfield 30, 3) := by decide +kernel
theorem dX1_count_82 : decode cX1_count 82 = .ok (.getfield 85, 3) := by decide +kernel
theorem dX1_count_85 : decode cX1_count 85 = .ok (.ireturn, 1) := by decide +kernel
theorem dX1_count_86 : decode cX1_count 86 = .ok (.aload_n 0, 1) := by decide +kernel
theorem dX1_count_87 : decode cX1_count 87 = .ok (.getfield 30, 3) := by decide +kernel
theorem dX1_count_90 : decode cX1_count 90 = .ok (.getfield 69, 3) := by decide +kernel
theorem dX1_count_93 : decode cX1_count 93 = .ok (.ireturn, 1) := by decide +kernel
theorem dX1_count_94 : decode cX1_count 94 = .ok (.aload_n 0, 1) := by decide +kernel
theorem dX1_count_95 : decode cX1_count 95 = .ok (.getfield 30, 3) := by decide +kernel
theorem dX1_count_98 : decode cX1_count 98 = .ok (.getfield 97, 3) := by decide +kernel
theorem dX1_count_101 : decode cX1_count 101 = .ok (.ireturn, 1) := by decide +kernel
theorem dX1_count_102 : decode cX1_count 102 = .ok (.aload_n 0, 1) := by decide +kernel
theorem dX1_count_103 : decode cX1_count 103 = .ok (.getfield 30, 3) := by decide +kernel
theorem dX1_count_106 : decode cX1_count 106 = .ok (.getfield 100, 3) := by decide +kernel
theorem dX1_count_109 : decode cX1_count 109 = .ok (.ireturn, 1) := by decide +kernel
set_option maxRecDepth 20000 in
theorem ggX1_worth_X1_needIndex : GoodIn wsX1_worth wsX1_needIndex := goodIn_ca (goodIn_r _ [5, 6, 7] (by decide +kernel) (by decide +kernel)) (goodIn_sub (fun _ h => List.mem_cons_of_mem _ (List.mem_append_right _ h)) (by decide +kernel))
set_option maxRecDepth 20000 in
theorem gX1_worth_X1_needIndex : GoodIn wsX1_worth (va_wsS RX1 34 yX1_needIndex wsX1_needIndex) := goodIn_app (goodIn_of _ (by decide +kernel)) ggX1_worth_X1_needIndex
set_option maxRecDepth 20000 in
theorem ggX1_worth_X1_coinsBehindAll : GoodIn wsX1_worth wsX1_coinsBehindAll := goodIn_r _ [11, 1, 12, 13, 14, 15, 4, 16, 17, 18, 19, 20, 21, 22, 23, 24, 25, 26, 27, 28, 29, 30, 31, 32, 33, 34, 35, 36, 37, 38, 39, 40, 41, 42, 43, 44, 45, 46, 47, 48, 49, 50, 51, 52, 53, 54, 55, 56, 57, 58, 59, 60, 61, 62, 63, 64, 65, 66, 67, 68, 69, 70, 71, 72, 73, 74, 75, 76, 77, 78, 79, 80, 81, 82, 83, 84, 85, 86, 87, 88, 89, 90, 91, 92, 93, 94, 95, 96, 97, 98, 99, 100, 101, 102, 103, 104, 105] (by decide +kernel) (by decide +kernel)
set_option maxRecDepth 20000 in
theorem gX1_worth_X1_coinsBehindAll : GoodIn wsX1_worth (wsV RX1 103 RX1 yX1_coinsBehindAll wsX1_coinsBehindAll) := goodIn_app (goodIn_of _ (by decide +kernel)) ggX1_worth_X1_coinsBehindAll
theorem dX1_worth_0 : decode cX1_worth 0 = .ok (.iload_n 1, 1) := by decide +kernel
theorem dX1_worth_1 : decode cX1_worth 1 = .ok (.aload_n 0, 1) := by decide +kernel
theorem dX1_worth_2 : decode cX1_worth 2 = .ok (.getfield 23, 3) := by decide +kernel
theorem dX1_worth_5 : decode cX1_worth 5 = .ok (.invokestatic 34, 3) := by decide +kernel
theorem dX1_worth_8 : decode cX1_worth 8 = .ok (.aload_n 0, 1) := by decide +kernel
theorem dX1_worth_9 : decode cX1_worth 9 = .ok (.iconst (-1), 1) := by decide +kernel
theorem dX1_worth_10 : decode cX1_worth 10 = .ok (.invokevirtual 103, 3) := by decide +kernel
theorem dX1_worth_13 : decode cX1_worth 13 = .ok (.aload_n 0, 1) := by decide +kernel
theorem dX1_worth_14 : decode cX1_worth 14 = .ok (.iload_n 1, 1) := by decide +kernel
theorem dX1_worth_15 : decode cX1_worth 15 = .ok (.invokevirtual 103, 3) := by decide +kernel
theorem dX1_worth_18 : decode cX1_worth 18 = .ok (.isub, 1) := by decide +kernel
theorem dX1_worth_19 : decode cX1_worth 19 = .ok (.ireturn, 1) := by decide +kernel
set_option maxRecDepth 20000 in
theorem ggX1_best_X1_coinsBehindAll : GoodIn wsX1_best wsX1_coinsBehindAll := goodIn_r _ [7, 1, 8, 9, 10, 11, 6, 12, 2, 13, 14, 15, 16, 17, 18, 19, 20, 21, 22, 23, 24, 25, 26, 27, 28, 29, 30, 31, 32, 33, 34, 35, 36, 37, 38, 39, 40, 41, 42, 43, 44, 45, 46, 47, 48, 49, 50, 51, 52, 53, 54, 55, 56, 57, 58, 59, 60, 61, 62, 63, 64, 65, 66, 67, 68, 69, 70, 71, 72, 73, 74, 75, 76, 77, 78, 79, 80, 81, 82, 83, 84, 85, 86, 87, 88, 89, 90, 91, 92, 93, 94, 95, 96, 97, 98, 99, 100] (by decide +kernel) (by decide +kernel)
set_option maxRecDepth 20000 in
theorem gX1_best_X1_coinsBehindAll : GoodIn wsX1_best (wsV RX1 103 RX1 yX1_coinsBehindAll wsX1_coinsBehindAll) := goodIn_app (goodIn_of _ (by decide +kernel)) ggX1_best_X1_coinsBehindAll
theorem dX1_best_0 : decode cX1_best 0 = .ok (.iconst (-1), 1) := by decide +kernel
theorem dX1_best_1 : decode cX1_best 1 = .ok (.istore_n 1, 1) := by decide +kernel
theorem dX1_best_2 : decode cX1_best 2 = .ok (.aload_n 0, 1) := by decide +kernel
theorem dX1_best_3 : decode cX1_best 3 = .ok (.iconst (-1), 1) := by decide +kernel
theorem dX1_best_4 : decode cX1_best 4 = .ok (.invokevirtual 103, 3) := by decide +kernel
theorem dX1_best_7 : decode cX1_best 7 = .ok (.istore_n 2, 1) := by decide +kernel
theorem dX1_best_8 : decode cX1_best 8 = .ok (.iconst 0, 1) := by decide +kernel
theorem dX1_best_9 : decode cX1_best 9 = .ok (.istore_n 3, 1) := by decide +kernel
theorem dX1_best_10 : decode cX1_best 10 = .ok (.iload_n 3, 1) := by decide +kernel
theorem dX1_best_11 : decode cX1_best 11 = .ok (.aload_n 0, 1) := by decide +kernel
theorem dX1_best_12 : decode cX1_best 12 = .ok (.getfield 23, 3) := by decide +kernel
theorem dX1_best_15 : decode cX1_best 15 = .ok (.if_icmp .ge 39, 3) := by decide +kernel
theorem dX1_best_18 : decode cX1_best 18 = .ok (.aload_n 0, 1) := by decide +kernel
theorem dX1_best_19 : decode cX1_best 19 = .ok (.getfield 19, 3) := by decide +kernel
theorem dX1_best_22 : decode cX1_best 22 = .ok (.iload_n 3, 1) := by decide +kernel
theorem dX1_best_23 : decode cX1_best 23 = .ok (.baload, 1) := by decide +kernel
theorem dX1_best_24 : decode cX1_best 24 = .ok (.ifCond .eq 6, 3) := by decide +kernel
theorem dX1_best_27 : decode cX1_best 27 = .ok (.goto 21, 3) := by decide +kernel
theorem dX1_best_30 : decode cX1_best 30 = .ok (.aload_n 0, 1) := by decide +kernel
theorem dX1_best_31 : decode cX1_best 31 = .ok (.iload_n 3, 1) := by decide +kernel
theorem dX1_best_32 : decode cX1_best 32 = .ok (.invokevirtual 103, 3) := by decide +kernel
theorem dX1_best_35 : decode cX1_best 35 = .ok (.istore 4, 2) := by decide +kernel
theorem dX1_best_37 : decode cX1_best 37 = .ok (.iload 4, 2) := by decide +kernel
theorem dX1_best_39 : decode cX1_best 39 = .ok (.iload_n 2, 1) := by decide +kernel
theorem dX1_best_40 : decode cX1_best 40 = .ok (.if_icmp .le 8, 3) := by decide +kernel
theorem dX1_best_43 : decode cX1_best 43 = .ok (.iload 4, 2) := by decide +kernel
theorem dX1_best_45 : decode cX1_best 45 = .ok (.istore_n 2, 1) := by decide +kernel
theorem dX1_best_46 : decode cX1_best 46 = .ok (.iload_n 3, 1) := by decide +kernel
theorem dX1_best_47 : decode cX1_best 47 = .ok (.istore_n 1, 1) := by decide +kernel
theorem dX1_best_48 : decode cX1_best 48 = .ok (.iinc 3 1, 3) := by decide +kernel
theorem dX1_best_51 : decode cX1_best 51 = .ok (.goto (-41), 3) := by decide +kernel
theorem dX1_best_54 : decode cX1_best 54 = .ok (.iload_n 1, 1) := by decide +kernel
theorem dX1_best_55 : decode cX1_best 55 = .ok (.ireturn, 1) := by decide +kernel
set_option maxRecDepth 20000 in
theorem ggX1_mean_X1_reckon : GoodIn wsX1_mean wsX1_reckon := goodIn_r _ [7, 2, 8, 9, 10, 11, 12, 13, 14, 15, 16, 17, 18, 19, 20, 21, 22, 23, 24, 25, 26, 27, 28, 29, 30, 31, 32, 33, 34, 35, 36, 37, 38, 39, 40, 41, 42, 43, 44, 45, 46, 47, 48, 49, 50, 51, 52, 53, 54, 55, 56, 57, 58, 59, 60, 61, 62, 63, 64, 65, 66, 67, 68, 69, 70, 71, 72, 73, 74, 75, 76, 77, 78, 79, 83, 84, 85, 86, 87, 88, 89, 90, 91, 92, 93, 94, 95, 96, 97, 98, 99] (by decide +kernel) (by decide +kernel)
set_option maxRecDepth 20000 in
theorem gX1_mean_X1_reckon : GoodIn wsX1_mean (wsV RX1 66 RX1 yX1_reckon wsX1_reckon) := goodIn_app (goodIn_of _ (by decide +kernel)) ggX1_mean_X1_reckon
set_option maxRecDepth 20000 in
theorem ggX1_mean_X0_trustOfAll : GoodIn wsX1_mean wsX0_trustOfAll := goodIn_r _ [82, 19, 31, 89, 90, 91, 92, 93, 94, 95, 96, 97, 98, 99] (by decide +kernel) (by decide +kernel)
set_option maxRecDepth 20000 in
theorem gX1_mean_X0_trustOfAll_n81 : GoodIn wsX1_mean (wsX0_trustOfAll) := ggX1_mean_X0_trustOfAll
theorem dX1_mean_0 : decode cX1_mean 0 = .ok (.aload_n 0, 1) := by decide +kernel
theorem dX1_mean_1 : decode cX1_mean 1 = .ok (.aload_n 0, 1) := by decide +kernel
theorem dX1_mean_2 : decode cX1_mean 2 = .ok (.getfield 23, 3) := by decide +kernel
theorem dX1_mean_5 : decode cX1_mean 5 = .ok (.iconst (-1), 1) := by decide +kernel
theorem dX1_mean_6 : decode cX1_mean 6 = .ok (.invokevirtual 66, 3) := by decide +kernel
theorem dX1_mean_9 : decode cX1_mean 9 = .ok (.aload_n 0, 1) := by decide +kernel
theorem dX1_mean_10 : decode cX1_mean 10 = .ok (.getfield 30, 3) := by decide +kernel
theorem dX1_mean_13 : decode cX1_mean 13 = .ok (.getfield 78, 3) := by decide +kernel
theorem dX1_mean_16 : decode cX1_mean 16 = .ok (.ifCond .ne 5, 3) := by decide +kernel
theorem dX1_mean_19 : decode cX1_mean 19 = .ok (.dconst 0, 1) := by decide +kernel
theorem dX1_mean_20 : decode cX1_mean 20 = .ok (.dreturn, 1) := by decide +kernel
theorem dX1_mean_21 : decode cX1_mean 21 = .ok (.aload_n 0, 1) := by decide +kernel
theorem dX1_mean_22 : decode cX1_mean 22 = .ok (.getfield 30, 3) := by decide +kernel
theorem dX1_mean_25 : decode cX1_mean 25 = .ok (.invokevirtual 81, 3) := by decide +kernel
theorem dX1_mean_28 : decode cX1_mean 28 = .ok (.i2d, 1) := by decide +kernel
theorem dX1_mean_29 : decode cX1_mean 29 = .ok (.aload_n 0, 1) := by decide +kernel
theorem dX1_mean_30 : decode cX1_mean 30 = .ok (.getfield 30, 3) := by decide +kernel
theorem dX1_mean_33 : decode cX1_mean 33 = .ok (.getfield 78, 3) := by decide +kernel
theorem dX1_mean_36 : decode cX1_mean 36 = .ok (.i2d, 1) := by decide +kernel
theorem dX1_mean_37 : decode cX1_mean 37 = .ok (.ddiv, 1) := by decide +kernel
theorem dX1_mean_38 : decode cX1_mean 38 = .ok (.dreturn, 1) := by decide +kernel
theorem dX1_needIndex_0 : decode cX1_needIndex 0 = .ok (.iload_n 0, 1) := by decide +kernel
theorem dX1_needIndex_1 : decode cX1_needIndex 1 = .ok (.ifCond .lt 8, 3) := by decide +kernel
theorem dX1_needIndex_4 : decode cX1_needIndex 4 = .ok (.iload_n 0, 1) := by decide +kernel
theorem dX1_needIndex_5 : decode cX1_needIndex 5 = .ok (.iload_n 1, 1) := by decide +kernel
theorem dX1_needIndex_6 : decode cX1_needIndex 6 = .ok (.if_icmp .lt 13, 3) := by decide +kernel
theorem dX1_needIndex_9 : decode cX1_needIndex 9 = .ok (.new 130, 3) := by decide +kernel
theorem dX1_needIndex_12 : decode cX1_needIndex 12 = .ok (.dup, 1) := by decide +kernel
theorem dX1_needIndex_13 : decode cX1_needIndex 13 = .ok (.ldc 132, 2) := by decide +kernel
theorem dX1_needIndex_15 : decode cX1_needIndex 15 = .ok (.invokespecial 134, 3) := by decide +kernel
theorem dX1_needIndex_18 : decode cX1_needIndex 18 = .ok (.athrow, 1) := by decide +kernel
theorem dX1_needIndex_19 : decode cX1_needIndex 19 = .ok (.return_, 1) := by decide +kernel
theorem dX1_needWithin_0 : decode cX1_needWithin 0 = .ok (.iload_n 0, 1) := by decide +kernel
theorem dX1_needWithin_1 : decode cX1_needWithin 1 = .ok (.iload_n 1, 1) := by decide +kernel
theorem dX1_needWithin_2 : decode cX1_needWithin 2 = .ok (.if_icmp .lt 8, 3) := by decide +kernel
theorem dX1_needWithin_5 : decode cX1_needWithin 5 = .ok (.iload_n 0, 1) := by decide +kernel
theorem dX1_needWithin_6 : decode cX1_needWithin 6 = .ok (.iload_n 2, 1) := by decide +kernel
theorem dX1_needWithin_7 : decode cX1_needWithin 7 = .ok (.if_icmp .le 13, 3) := by decide +kernel
theorem dX1_needWithin_10 : decode cX1_needWithin 10 = .ok (.new 135, 3) := by decide +kernel
theorem dX1_needWithin_13 : decode cX1_needWithin 13 = .ok (.dup, 1) := by decide +kernel
theorem dX1_needWithin_14 : decode cX1_needWithin 14 = .ok (.ldc 137, 2) := by decide +kernel
theorem dX1_needWithin_16 : decode cX1_needWithin 16 = .ok (.invokespecial 139, 3) := by decide +kernel
theorem dX1_needWithin_19 : decode cX1_needWithin 19 = .ok (.athrow, 1) := by decide +kernel
theorem dX1_needWithin_20 : decode cX1_needWithin 20 = .ok (.return_, 1) := by decide +kernel
theorem dX1_append_0 : decode cX1_append 0 = .ok (.aload_n 0, 1) := by decide +kernel
theorem dX1_append_1 : decode cX1_append 1 = .ok (.getfield 23, 3) := by decide +kernel
theorem dX1_append_4 : decode cX1_append 4 = .ok (.bipush 60, 2) := by decide +kernel
theorem dX1_append_6 : decode cX1_append 6 = .ok (.if_icmp .lt 13, 3) := by decide +kernel
theorem dX1_append_9 : decode cX1_append 9 = .ok (.new 55, 3) := by decide +kernel
theorem dX1_append_12 : decode cX1_append 12 = .ok (.dup, 1) := by decide +kernel
theorem dX1_append_13 : decode cX1_append 13 = .ok (.ldc 140, 2) := by decide +kernel
theorem dX1_append_15 : decode cX1_append 15 = .ok (.invokespecial 59, 3) := by decide +kernel
theorem dX1_append_18 : decode cX1_append 18 = .ok (.athrow, 1) := by decide +kernel
theorem dX1_append_19 : decode cX1_append 19 = .ok (.aload_n 0, 1) := by decide +kernel
theorem dX1_append_20 : decode cX1_append 20 = .ok (.getfield 9, 3) := by decide +kernel
theorem dX1_append_23 : decode cX1_append 23 = .ok (.aload_n 0, 1) := by decide +kernel
theorem dX1_append_24 : decode cX1_append 24 = .ok (.getfield 23, 3) := by decide +kernel
theorem dX1_append_27 : decode cX1_append 27 = .ok (.iload_n 1, 1) := by decide +kernel
theorem dX1_append_28 : decode cX1_append 28 = .ok (.iastore, 1) := by decide +kernel
theorem dX1_append_29 : decode cX1_append 29 = .ok (.aload_n 0, 1) := by decide +kernel
theorem dX1_append_30 : decode cX1_append 30 = .ok (.getfield 13, 3) := by decide +kernel
theorem dX1_append_33 : decode cX1_append 33 = .ok (.aload_n 0, 1) := by decide +kernel
theorem dX1_append_34 : decode cX1_append 34 = .ok (.getfield 23, 3) := by decide +kernel
theorem dX1_append_37 : decode cX1_append 37 = .ok (.iload_n 2, 1) := by decide +kernel
theorem dX1_append_38 : decode cX1_append 38 = .ok (.iastore, 1) := by decide +kernel
theorem dX1_append_39 : decode cX1_append 39 = .ok (.aload_n 0, 1) := by decide +kernel
theorem dX1_append_40 : decode cX1_append 40 = .ok (.getfield 16, 3) := by decide +kernel
theorem dX1_append_43 : decode cX1_append 43 = .ok (.aload_n 0, 1) := by decide +kernel
theorem dX1_append_44 : decode cX1_append 44 = .ok (.getfield 23, 3) := by decide +kernel
theorem dX1_append_47 : decode cX1_append 47 = .ok (.iload_n 3, 1) := by decide +kernel
theorem dX1_append_48 : decode cX1_append 48 = .ok (.iastore, 1) := by decide +kernel
theorem dX1_append_49 : decode cX1_append 49 = .ok (.aload_n 0, 1) := by decide +kernel
theorem dX1_append_50 : decode cX1_append 50 = .ok (.getfield 19, 3) := by decide +kernel
theorem dX1_append_53 : decode cX1_append 53 = .ok (.aload_n 0, 1) := by decide +kernel
theorem dX1_append_54 : decode cX1_append 54 = .ok (.getfield 23, 3) := by decide +kernel
theorem dX1_append_57 : decode cX1_append 57 = .ok (.iconst 0, 1) := by decide +kernel
theorem dX1_append_58 : decode cX1_append 58 = .ok (.bastore, 1) := by decide +kernel
theorem dX1_append_59 : decode cX1_append 59 = .ok (.aload_n 0, 1) := by decide +kernel
theorem dX1_append_60 : decode cX1_append 60 = .ok (.dup, 1) := by decide +kernel
theorem dX1_append_61 : decode cX1_append 61 = .ok (.getfield 23, 3) := by decide +kernel
theorem dX1_append_64 : decode cX1_append 64 = .ok (.iconst 1, 1) := by decide +kernel
theorem dX1_append_65 : decode cX1_append 65 = .ok (.iadd, 1) := by decide +kernel
theorem dX1_append_66 : decode cX1_append 66 = .ok (.putfield 23, 3) := by decide +kernel
theorem dX1_append_69 : decode cX1_append 69 = .ok (.aload_n 0, 1) := by decide +kernel
theorem dX1_append_70 : decode cX1_append 70 = .ok (.getfield 23, 3) := by decide +kernel
theorem dX1_append_73 : decode cX1_append 73 = .ok (.iconst 1, 1) := by decide +kernel
theorem dX1_append_74 : decode cX1_append 74 = .ok (.isub, 1) := by decide +kernel
theorem dX1_append_75 : decode cX1_append 75 = .ok (.ireturn, 1) := by decide +kernel
set_option maxRecDepth 20000 in
theorem ggX1_swap_X1_swapNumbers : GoodIn wsX1_swap wsX1_swapNumbers := goodIn_r _ [8] (by decide +kernel) (by decide +kernel)
set_option maxRecDepth 20000 in
theorem gX1_swap_X1_swapNumbers : GoodIn wsX1_swap (va_wsS RX1 142 yX1_swapNumbers wsX1_swapNumbers) := goodIn_app (goodIn_of _ (by decide +kernel)) ggX1_swap_X1_swapNumbers
theorem dX1_swap_0 : decode cX1_swap 0 = .ok (.aload_n 0, 1) := by decide +kernel
theorem dX1_swap_1 : decode cX1_swap 1 = .ok (.getfield 9, 3) := by decide +kernel
theorem dX1_swap_4 : decode cX1_swap 4 = .ok (.iload_n 1, 1) := by decide +kernel
theorem dX1_swap_5 : decode cX1_swap 5 = .ok (.iload_n 2, 1) := by decide +kernel
theorem dX1_swap_6 : decode cX1_swap 6 = .ok (.invokestatic 142, 3) := by decide +kernel
theorem dX1_swap_9 : decode cX1_swap 9 = .ok (.aload_n 0, 1) := by decide +kernel
theorem dX1_swap_10 : decode cX1_swap 10 = .ok (.getfield 13, 3) := by decide +kernel
theorem dX1_swap_13 : decode cX1_swap 13 = .ok (.iload_n 1, 1) := by decide +kernel
theorem dX1_swap_14 : decode cX1_swap 14 = .ok (.iload_n 2, 1) := by decide +kernel
theorem dX1_swap_15 : decode cX1_swap 15 = .ok (.invokestatic 142, 3) := by decide +kernel
theorem dX1_swap_18 : decode cX1_swap 18 = .ok (.aload_n 0, 1) := by decide +kernel
theorem dX1_swap_19 : decode cX1_swap 19 = .ok (.getfield 16, 3) := by decide +kernel
theorem dX1_swap_22 : decode cX1_swap 22 = .ok (.iload_n 1, 1) := by decide +kernel
theorem dX1_swap_23 : decode cX1_swap 23 = .ok (.iload_n 2, 1) := by decide +kernel
theorem dX1_swap_24 : decode cX1_swap 24 = .ok (.invokestatic 142, 3) := by decide +kernel
theorem dX1_swap_27 : decode cX1_swap 27 = .ok (.aload_n 0, 1) := by decide +kernel
theorem dX1_swap_28 : decode cX1_swap 28 = .ok (.getfield 19, 3) := by decide +kernel
theorem dX1_swap_31 : decode cX1_swap 31 = .ok (.iload_n 1, 1) := by decide +kernel
theorem dX1_swap_32 : decode cX1_swap 32 = .ok (.baload, 1) := by decide +kernel
theorem dX1_swap_33 : decode cX1_swap 33 = .ok (.istore_n 3, 1) := by decide +kernel
theorem dX1_swap_34 : decode cX1_swap 34 = .ok (.aload_n 0, 1) := by decide +kernel
theorem dX1_swap_35 : decode cX1_swap 35 = .ok (.getfield 19, 3) := by decide +kernel
theorem dX1_swap_38 : decode cX1_swap 38 = .ok (.iload_n 1, 1) := by decide +kernel
theorem dX1_swap_39 : decode cX1_swap 39 = .ok (.aload_n 0, 1) := by decide +kernel
theorem dX1_swap_40 : decode cX1_swap 40 = .ok (.getfield 19, 3) := by decide +kernel
theorem dX1_swap_43 : decode cX1_swap 43 = .ok (.iload_n 2, 1) := by decide +kernel
theorem dX1_swap_44 : decode cX1_swap 44 = .ok (.baload, 1) := by decide +kernel
theorem dX1_swap_45 : decode cX1_swap 45 = .ok (.bastore, 1) := by decide +kernel
theorem dX1_swap_46 : decode cX1_swap 46 = .ok (.aload_n 0, 1) := by decide +kernel
theorem dX1_swap_47 : decode cX1_swap 47 = .ok (.getfield 19, 3) := by decide +kernel
theorem dX1_swap_50 : decode cX1_swap 50 = .ok (.iload_n 2, 1) := by decide +kernel
theorem dX1_swap_51 : decode cX1_swap 51 = .ok (.iload_n 3, 1) := by decide +kernel
theorem dX1_swap_52 : decode cX1_swap 52 = .ok (.bastore, 1) := by decide +kernel
theorem dX1_swap_53 : decode cX1_swap 53 = .ok (.return_, 1) := by decide +kernel
theorem dX1_swapNumbers_0 : decode cX1_swapNumbers 0 = .ok (.aload_n 0, 1) := by decide +kernel
theorem dX1_swapNumbers_1 : decode cX1_swapNumbers 1 = .ok (.iload_n 1, 1) := by decide +kernel
theorem dX1_swapNumbers_2 : decode cX1_swapNumbers 2 = .ok (.iaload, 1) := by decide +kernel
theorem dX1_swapNumbers_3 : decode cX1_swapNumbers 3 = .ok (.istore_n 3, 1) := by decide +kernel
theorem dX1_swapNumbers_4 : decode cX1_swapNumbers 4 = .ok (.aload_n 0, 1) := by decide +kernel
theorem dX1_swapNumbers_5 : decode cX1_swapNumbers 5 = .ok (.iload_n 1, 1) := by decide +kernel
theorem dX1_swapNumbers_6 : decode cX1_swapNumbers 6 = .ok (.aload_n 0, 1) := by decide +kernel
theorem dX1_swapNumbers_7 : decode cX1_swapNumbers 7 = .ok (.iload_n 2, 1) := by decide +kernel
theorem dX1_swapNumbers_8 : decode cX1_swapNumbers 8 = .ok (.iaload, 1) := by decide +kernel
theorem dX1_swapNumbers_9 : decode cX1_swapNumbers 9 = .ok (.iastore, 1) := by decide +kernel
theorem dX1_swapNumbers_10 : decode cX1_swapNumbers 10 = .ok (.aload_n 0, 1) := by decide +kernel
theorem dX1_swapNumbers_11 : decode cX1_swapNumbers 11 = .ok (.iload_n 2, 1) := by decide +kernel
theorem dX1_swapNumbers_12 : decode cX1_swapNumbers 12 = .ok (.iload_n 3, 1) := by decide +kernel
theorem dX1_swapNumbers_13 : decode cX1_swapNumbers 13 = .ok (.iastore, 1) := by decide +kernel
theorem dX1_swapNumbers_14 : decode cX1_swapNumbers 14 = .ok (.return_, 1) := by decide +kernel
set_option maxRecDepth 20000 in
theorem ggX1_reckon_X0_begin : GoodIn wsX1_reckon wsX0_begin := goodIn_r _ [9, 10, 11, 12, 13, 14, 15, 16, 17, 80, 81, 82, 83, 84, 85, 86, 87, 88, 89, 90] (by decide +kernel) (by decide +kernel)
set_option maxRecDepth 20000 in
theorem gX1_reckon_X0_begin_n146 : GoodIn wsX1_reckon (wsX0_begin) := ggX1_reckon_X0_begin
set_option maxRecDepth 20000 in
theorem ggX1_reckon_X0_happens : GoodIn wsX1_reckon wsX0_happens := goodIn_r _ [20, 12, 21, 22, 23, 7, 24, 13, 25, 26, 27, 28, 29, 10, 11, 30, 31, 32, 33, 34, 35, 36, 37, 38, 39, 40, 41, 42, 43, 44, 45, 46, 47, 48, 49, 50, 51, 52, 53, 54, 55, 56, 57, 58, 59, 60, 61, 62, 63, 64, 65, 66, 67, 68, 69, 70, 80, 81, 82, 83, 84, 85, 86, 87, 88, 89, 90] (by decide +kernel) (by decide +kernel)
set_option maxRecDepth 20000 in
theorem gX1_reckon_X0_happens_n149 : GoodIn wsX1_reckon (wsX0_happens) := ggX1_reckon_X0_happens
set_option maxRecDepth 20000 in
theorem ggX1_reckon_X0_tally : GoodIn wsX1_reckon wsX0_tally := goodIn_r _ [73, 14, 17, 10, 52, 53, 54, 55, 15, 16, 80, 81, 82, 83, 84, 85, 86, 87, 88, 89, 90] (by decide +kernel) (by decide +kernel)
set_option maxRecDepth 20000 in
theorem gX1_reckon_X0_tally_n153 : GoodIn wsX1_reckon (wsX0_tally) := ggX1_reckon_X0_tally
theorem dX1_reckon_0 : decode cX1_reckon 0 = .ok (.aload_n 0, 1) := by decide +kernel
theorem dX1_reckon_1 : decode cX1_reckon 1 = .ok (.getfield 30, 3) := by decide +kernel
theorem dX1_reckon_4 : decode cX1_reckon 4 = .ok (.invokevirtual 146, 3) := by decide +kernel
theorem dX1_reckon_7 : decode cX1_reckon 7 = .ok (.iconst 0, 1) := by decide +kernel
theorem dX1_reckon_8 : decode cX1_reckon 8 = .ok (.istore_n 3, 1) := by decide +kernel
theorem dX1_reckon_9 : decode cX1_reckon 9 = .ok (.iload_n 3, 1) := by decide +kernel
theorem dX1_reckon_10 : decode cX1_reckon 10 = .ok (.iload_n 1, 1) := by decide +kernel
theorem dX1_reckon_11 : decode cX1_reckon 11 = .ok (.if_icmp .ge 77, 3) := by decide +kernel
theorem dX1_reckon_14 : decode cX1_reckon 14 = .ok (.aload_n 0, 1) := by decide +kernel
theorem dX1_reckon_15 : decode cX1_reckon 15 = .ok (.getfield 19, 3) := by decide +kernel
theorem dX1_reckon_18 : decode cX1_reckon 18 = .ok (.iload_n 3, 1) := by decide +kernel
theorem dX1_reckon_19 : decode cX1_reckon 19 = .ok (.baload, 1) := by decide +kernel
theorem dX1_reckon_20 : decode cX1_reckon 20 = .ok (.iload_n 3, 1) := by decide +kernel
theorem dX1_reckon_21 : decode cX1_reckon 21 = .ok (.iload_n 2, 1) := by decide +kernel
theorem dX1_reckon_22 : decode cX1_reckon 22 = .ok (.if_icmp .ne 7, 3) := by decide +kernel
theorem dX1_reckon_25 : decode cX1_reckon 25 = .ok (.iconst 1, 1) := by decide +kernel
theorem dX1_reckon_26 : decode cX1_reckon 26 = .ok (.goto 4, 3) := by decide +kernel
theorem dX1_reckon_29 : decode cX1_reckon 29 = .ok (.iconst 0, 1) := by decide +kernel
theorem dX1_reckon_30 : decode cX1_reckon 30 = .ok (.if_icmp .eq 7, 3) := by decide +kernel
theorem dX1_reckon_33 : decode cX1_reckon 33 = .ok (.iconst 1, 1) := by decide +kernel
theorem dX1_reckon_34 : decode cX1_reckon 34 = .ok (.goto 4, 3) := by decide +kernel
theorem dX1_reckon_37 : decode cX1_reckon 37 = .ok (.iconst 0, 1) := by decide +kernel
theorem dX1_reckon_38 : decode cX1_reckon 38 = .ok (.istore 4, 2) := by decide +kernel
theorem dX1_reckon_40 : decode cX1_reckon 40 = .ok (.iload 4, 2) := by decide +kernel
theorem dX1_reckon_42 : decode cX1_reckon 42 = .ok (.ifCond .ne 40, 3) := by decide +kernel
theorem dX1_reckon_45 : decode cX1_reckon 45 = .ok (.aload_n 0, 1) := by decide +kernel
theorem dX1_reckon_46 : decode cX1_reckon 46 = .ok (.getfield 30, 3) := by decide +kernel
theorem dX1_reckon_49 : decode cX1_reckon 49 = .ok (.aload_n 0, 1) := by decide +kernel
theorem dX1_reckon_50 : decode cX1_reckon 50 = .ok (.getfield 9, 3) := by decide +kernel
theorem dX1_reckon_53 : decode cX1_reckon 53 = .ok (.iload_n 3, 1) := by decide +kernel
theorem dX1_reckon_54 : decode cX1_reckon 54 = .ok (.iaload, 1) := by decide +kernel
theorem dX1_reckon_55 : decode cX1_reckon 55 = .ok (.aload_n 0, 1) := by decide +kernel
theorem dX1_reckon_56 : decode cX1_reckon 56 = .ok (.getfield 13, 3) := by decide +kernel
theorem dX1_reckon_59 : decode cX1_reckon 59 = .ok (.iload_n 3, 1) := by decide +kernel
theorem dX1_reckon_60 : decode cX1_reckon 60 = .ok (.iaload, 1) := by decide +kernel
theorem dX1_reckon_61 : decode cX1_reckon 61 = .ok (.aload_n 0, 1) := by decide +kernel
theorem dX1_reckon_62 : decode cX1_reckon 62 = .ok (.getfield 16, 3) := by decide +kernel
theorem dX1_reckon_65 : decode cX1_reckon 65 = .ok (.iload_n 3, 1) := by decide +kernel
theorem dX1_reckon_66 : decode cX1_reckon 66 = .ok (.iaload, 1) := by decide +kernel
theorem dX1_reckon_67 : decode cX1_reckon 67 = .ok (.invokevirtual 149, 3) := by decide +kernel
theorem dX1_reckon_70 : decode cX1_reckon 70 = .ok (.istore 5, 2) := by decide +kernel
theorem dX1_reckon_72 : decode cX1_reckon 72 = .ok (.aload_n 0, 1) := by decide +kernel
theorem dX1_reckon_73 : decode cX1_reckon 73 = .ok (.getfield 30, 3) := by decide +kernel
theorem dX1_reckon_76 : decode cX1_reckon 76 = .ok (.iload_n 3, 1) := by decide +kernel
theorem dX1_reckon_77 : decode cX1_reckon 77 = .ok (.iload 5, 2) := by decide +kernel
theorem dX1_reckon_79 : decode cX1_reckon 79 = .ok (.invokevirtual 153, 3) := by decide +kernel
theorem dX1_reckon_82 : decode cX1_reckon 82 = .ok (.iinc 3 1, 3) := by decide +kernel
theorem dX1_reckon_85 : decode cX1_reckon 85 = .ok (.goto (-76), 3) := by decide +kernel
theorem dX1_reckon_88 : decode cX1_reckon 88 = .ok (.return_, 1) := by decide +kernel
set_option maxRecDepth 20000 in
theorem ggX1_coinsBehindAll_X1_reckon : GoodIn wsX1_coinsBehindAll wsX1_reckon := goodIn_r _ [7, 2, 8, 9, 10, 11, 12, 13, 14, 15, 16, 17, 18, 19, 20, 21, 22, 23, 24, 25, 26, 27, 28, 29, 30, 31, 32, 33, 34, 35, 36, 37, 38, 39, 40, 41, 42, 43, 44, 45, 46, 47, 48, 49, 50, 51, 52, 53, 54, 55, 56, 57, 58, 59, 60, 61, 62, 63, 64, 65, 66, 67, 68, 69, 70, 71, 72, 73, 74, 75, 76, 77, 78, 79, 80, 81, 82, 83, 84, 85, 86, 87, 88, 89, 90, 91, 92, 93, 94, 95, 96] (by decide +kernel) (by decide +kernel)
set_option maxRecDepth 20000 in
theorem gX1_coinsBehindAll_X1_reckon : GoodIn wsX1_coinsBehindAll (wsV RX1 66 RX1 yX1_reckon wsX1_reckon) := goodIn_app (goodIn_of _ (by decide +kernel)) ggX1_coinsBehindAll_X1_reckon
theorem dX1_coinsBehindAll_0 : decode cX1_coinsBehindAll 0 = .ok (.aload_n 0, 1) := by decide +kernel
theorem dX1_coinsBehindAll_1 : decode cX1_coinsBehindAll 1 = .ok (.aload_n 0, 1) := by decide +kernel
theorem dX1_coinsBehindAll_2 : decode cX1_coinsBehindAll 2 = .ok (.getfield 23, 3) := by decide +kernel
theorem dX1_coinsBehindAll_5 : decode cX1_coinsBehindAll 5 = .ok (.iload_n 1, 1) := by decide +kernel
theorem dX1_coinsBehindAll_6 : decode cX1_coinsBehindAll 6 = .ok (.invokevirtual 66, 3) := by decide +kernel
theorem dX1_coinsBehindAll_9 : decode cX1_coinsBehindAll 9 = .ok (.aload_n 0, 1) := by decide +kernel
theorem dX1_coinsBehindAll_10 : decode cX1_coinsBehindAll 10 = .ok (.getfield 30, 3) := by decide +kernel
theorem dX1_coinsBehindAll_13 : decode cX1_coinsBehindAll 13 = .ok (.getfield 69, 3) := by decide +kernel
theorem dX1_coinsBehindAll_16 : decode cX1_coinsBehindAll 16 = .ok (.ireturn, 1) := by decide +kernel
set_option maxRecDepth 20000 in
theorem ggX1_counts_X1_reckon : GoodIn wsX1_counts wsX1_reckon := goodIn_r _ [10, 2, 1, 3, 4, 5, 11, 12, 13, 14, 15, 16, 17, 18, 19, 20, 21, 22, 23, 24, 25, 26, 27, 28, 29, 30, 31, 32, 33, 34, 35, 36, 37, 38, 39, 40, 41, 42, 43, 44, 45, 46, 47, 48, 49, 50, 51, 52, 53, 54, 55, 56, 57, 58, 59, 60, 61, 62, 63, 64, 65, 66, 67, 68, 69, 70, 71, 72, 73, 74, 75, 76, 77, 78, 79, 80, 81, 82, 83, 84, 85, 86, 87, 88, 89, 90, 91, 92, 93, 94, 95] (by decide +kernel) (by decide +kernel)
set_option maxRecDepth 20000 in
theorem gX1_counts_X1_reckon : GoodIn wsX1_counts (wsV RX1 66 RX1 yX1_reckon wsX1_reckon) := goodIn_app (goodIn_of _ (by decide +kernel)) ggX1_counts_X1_reckon
set_option maxRecDepth 20000 in
theorem ggX1_counts_X0_happens : GoodIn wsX1_counts wsX0_happens := goodIn_r _ [25, 17, 26, 27, 28, 12, 29, 18, 30, 31, 32, 33, 34, 15, 16, 35, 36, 37, 38, 39, 40, 41, 42, 43, 44, 45, 46, 47, 48, 49, 50, 51, 52, 53, 54, 55, 56, 57, 58, 59, 60, 61, 62, 63, 64, 65, 66, 67, 68, 69, 70, 71, 72, 73, 74, 75, 85, 86, 87, 88, 89, 90, 91, 92, 93, 94, 95] (by decide +kernel) (by decide +kernel)
set_option maxRecDepth 20000 in
theorem gX1_counts_X0_happens_n149 : GoodIn wsX1_counts (wsX0_happens) := ggX1_counts_X0_happens
theorem dX1_counts_0 : decode cX1_counts 0 = .ok (.aload_n 0, 1) := by decide +kernel
theorem dX1_counts_1 : decode cX1_counts 1 = .ok (.getfield 19, 3) := by decide +kernel
theorem dX1_counts_4 : decode cX1_counts 4 = .ok (.iload_n 1, 1) := by decide +kernel
theorem dX1_counts_5 : decode cX1_counts 5 = .ok (.baload, 1) := by decide +kernel
theorem dX1_counts_6 : decode cX1_counts 6 = .ok (.ifCond .eq 5, 3) := by decide +kernel
theorem dX1_counts_9 : decode cX1_counts 9 = .ok (.iconst 0, 1) := by decide +kernel
theorem dX1_counts_10 : decode cX1_counts 10 = .ok (.ireturn, 1) := by decide +kernel
theorem dX1_counts_11 : decode cX1_counts 11 = .ok (.aload_n 0, 1) := by decide +kernel
theorem dX1_counts_12 : decode cX1_counts 12 = .ok (.iload_n 1, 1) := by decide +kernel
theorem dX1_counts_13 : decode cX1_counts 13 = .ok (.iconst (-1), 1) := by decide +kernel
theorem dX1_counts_14 : decode cX1_counts 14 = .ok (.invokevirtual 66, 3) := by decide +kernel
theorem dX1_counts_17 : decode cX1_counts 17 = .ok (.aload_n 0, 1) := by decide +kernel
theorem dX1_counts_18 : decode cX1_counts 18 = .ok (.getfield 30, 3) := by decide +kernel
theorem dX1_counts_21 : decode cX1_counts 21 = .ok (.aload_n 0, 1) := by decide +kernel
theorem dX1_counts_22 : decode cX1_counts 22 = .ok (.getfield 9, 3) := by decide +kernel
theorem dX1_counts_25 : decode cX1_counts 25 = .ok (.iload_n 1, 1) := by decide +kernel
theorem dX1_counts_26 : decode cX1_counts 26 = .ok (.iaload, 1) := by decide +kernel
theorem dX1_counts_27 : decode cX1_counts 27 = .ok (.aload_n 0, 1) := by decide +kernel
theorem dX1_counts_28 : decode cX1_counts 28 = .ok (.getfield 13, 3) := by decide +kernel
theorem dX1_counts_31 : decode cX1_counts 31 = .ok (.iload_n 1, 1) := by decide +kernel
theorem dX1_counts_32 : decode cX1_counts 32 = .ok (.iaload, 1) := by decide +kernel
theorem dX1_counts_33 : decode cX1_counts 33 = .ok (.aload_n 0, 1) := by decide +kernel
theorem dX1_counts_34 : decode cX1_counts 34 = .ok (.getfield 16, 3) := by decide +kernel
theorem dX1_counts_37 : decode cX1_counts 37 = .ok (.iload_n 1, 1) := by decide +kernel
theorem dX1_counts_38 : decode cX1_counts 38 = .ok (.iaload, 1) := by decide +kernel
theorem dX1_counts_39 : decode cX1_counts 39 = .ok (.invokevirtual 149, 3) := by decide +kernel
theorem dX1_counts_42 : decode cX1_counts 42 = .ok (.ireturn, 1) := by decide +kernel
