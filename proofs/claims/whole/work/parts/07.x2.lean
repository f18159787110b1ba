theorem dX2_init_0 : decode cX2_init 0 = .ok (.aload_n 0, 1) := by decide +kernel
theorem dX2_init_1 : decode cX2_init 1 = .ok (.invokespecial 1, 3) := by decide +kernel
theorem dX2_init_4 : decode cX2_init 4 = .ok (.aload_n 0, 1) := by decide +kernel
theorem dX2_init_5 : decode cX2_init 5 = .ok (.iconst 4, 1) := by decide +kernel
theorem dX2_init_6 : decode cX2_init 6 = .ok (.newarray .int, 2) := by decide +kernel
theorem dX2_init_8 : decode cX2_init 8 = .ok (.putfield 9, 3) := by decide +kernel
theorem dX2_init_11 : decode cX2_init 11 = .ok (.aload_n 0, 1) := by decide +kernel
theorem dX2_init_12 : decode cX2_init 12 = .ok (.iconst 4, 1) := by decide +kernel
theorem dX2_init_13 : decode cX2_init 13 = .ok (.newarray .int, 2) := by decide +kernel
theorem dX2_init_15 : decode cX2_init 15 = .ok (.putfield 13, 3) := by decide +kernel
theorem dX2_init_18 : decode cX2_init 18 = .ok (.aload_n 0, 1) := by decide +kernel
theorem dX2_init_19 : decode cX2_init 19 = .ok (.bipush 60, 2) := by decide +kernel
theorem dX2_init_21 : decode cX2_init 21 = .ok (.newarray .int, 2) := by decide +kernel
theorem dX2_init_23 : decode cX2_init 23 = .ok (.putfield 16, 3) := by decide +kernel
theorem dX2_init_26 : decode cX2_init 26 = .ok (.aload_n 0, 1) := by decide +kernel
theorem dX2_init_27 : decode cX2_init 27 = .ok (.bipush 60, 2) := by decide +kernel
theorem dX2_init_29 : decode cX2_init 29 = .ok (.newarray .int, 2) := by decide +kernel
theorem dX2_init_31 : decode cX2_init 31 = .ok (.putfield 19, 3) := by decide +kernel
theorem dX2_init_34 : decode cX2_init 34 = .ok (.aload_n 0, 1) := by decide +kernel
theorem dX2_init_35 : decode cX2_init 35 = .ok (.bipush 60, 2) := by decide +kernel
theorem dX2_init_37 : decode cX2_init 37 = .ok (.newarray .int, 2) := by decide +kernel
theorem dX2_init_39 : decode cX2_init 39 = .ok (.putfield 22, 3) := by decide +kernel
theorem dX2_init_42 : decode cX2_init 42 = .ok (.aload_n 0, 1) := by decide +kernel
theorem dX2_init_43 : decode cX2_init 43 = .ok (.bipush 60, 2) := by decide +kernel
theorem dX2_init_45 : decode cX2_init 45 = .ok (.newarray .boolean, 2) := by decide +kernel
theorem dX2_init_47 : decode cX2_init 47 = .ok (.putfield 25, 3) := by decide +kernel
theorem dX2_init_50 : decode cX2_init 50 = .ok (.aload_n 0, 1) := by decide +kernel
theorem dX2_init_51 : decode cX2_init 51 = .ok (.bipush 6, 2) := by decide +kernel
theorem dX2_init_53 : decode cX2_init 53 = .ok (.newarray .int, 2) := by decide +kernel
theorem dX2_init_55 : decode cX2_init 55 = .ok (.putfield 29, 3) := by decide +kernel
theorem dX2_init_58 : decode cX2_init 58 = .ok (.return_, 1) := by decide +kernel
theorem dX2_thrown_0 : decode cX2_thrown 0 = .ok (.aload_n 0, 1) := by decide +kernel
theorem dX2_thrown_1 : decode cX2_thrown 1 = .ok (.getfield 32, 3) := by decide +kernel
theorem dX2_thrown_4 : decode cX2_thrown 4 = .ok (.ireturn, 1) := by decide +kernel
theorem dX2_fail_0 : decode cX2_fail 0 = .ok (.aload_n 0, 1) := by decide +kernel
theorem dX2_fail_1 : decode cX2_fail 1 = .ok (.iload_n 1, 1) := by decide +kernel
theorem dX2_fail_2 : decode cX2_fail 2 = .ok (.putfield 32, 3) := by decide +kernel
theorem dX2_fail_5 : decode cX2_fail 5 = .ok (.iconst 0, 1) := by decide +kernel
theorem dX2_fail_6 : decode cX2_fail 6 = .ok (.ireturn, 1) := by decide +kernel
theorem dX2_isIn_0 : decode cX2_isIn 0 = .ok (.iload_n 0, 1) := by decide +kernel
theorem dX2_isIn_1 : decode cX2_isIn 1 = .ok (.iload_n 1, 1) := by decide +kernel
theorem dX2_isIn_2 : decode cX2_isIn 2 = .ok (.if_icmp .lt 12, 3) := by decide +kernel
theorem dX2_isIn_5 : decode cX2_isIn 5 = .ok (.iload_n 0, 1) := by decide +kernel
theorem dX2_isIn_6 : decode cX2_isIn 6 = .ok (.iload_n 2, 1) := by decide +kernel
theorem dX2_isIn_7 : decode cX2_isIn 7 = .ok (.if_icmp .gt 7, 3) := by decide +kernel
theorem dX2_isIn_10 : decode cX2_isIn 10 = .ok (.iconst 1, 1) := by decide +kernel
theorem dX2_isIn_11 : decode cX2_isIn 11 = .ok (.goto 4, 3) := by decide +kernel
theorem dX2_isIn_14 : decode cX2_isIn 14 = .ok (.iconst 0, 1) := by decide +kernel
theorem dX2_isIn_15 : decode cX2_isIn 15 = .ok (.ireturn, 1) := by decide +kernel
set_option maxRecDepth 20000 in
theorem ggX2_isEntry_X2_isIn : GoodIn wsX2_isEntry wsX2_isIn := goodIn_r _ [5] (by decide +kernel) (by decide +kernel)
set_option maxRecDepth 20000 in
theorem gX2_isEntry_X2_isIn : GoodIn wsX2_isEntry (va_wsS RX2 39 yX2_isIn wsX2_isIn) := goodIn_app (goodIn_of _ (by decide +kernel)) ggX2_isEntry_X2_isIn
theorem dX2_isEntry_0 : decode cX2_isEntry 0 = .ok (.iload_n 1, 1) := by decide +kernel
theorem dX2_isEntry_1 : decode cX2_isEntry 1 = .ok (.iconst 0, 1) := by decide +kernel
theorem dX2_isEntry_2 : decode cX2_isEntry 2 = .ok (.aload_n 0, 1) := by decide +kernel
theorem dX2_isEntry_3 : decode cX2_isEntry 3 = .ok (.getfield 36, 3) := by decide +kernel
theorem dX2_isEntry_6 : decode cX2_isEntry 6 = .ok (.iconst 1, 1) := by decide +kernel
theorem dX2_isEntry_7 : decode cX2_isEntry 7 = .ok (.isub, 1) := by decide +kernel
theorem dX2_isEntry_8 : decode cX2_isEntry 8 = .ok (.invokestatic 39, 3) := by decide +kernel
theorem dX2_isEntry_11 : decode cX2_isEntry 11 = .ok (.ireturn, 1) := by decide +kernel
set_option maxRecDepth 20000 in
theorem ggX2_set_X2_isIn : GoodIn wsX2_set wsX2_isIn := goodIn_r _ [7] (by decide +kernel) (by decide +kernel)
set_option maxRecDepth 20000 in
theorem gX2_set_X2_isIn : GoodIn wsX2_set (va_wsS RX2 39 yX2_isIn wsX2_isIn) := goodIn_app (goodIn_of _ (by decide +kernel)) ggX2_set_X2_isIn
set_option maxRecDepth 20000 in
theorem ggX2_set_X2_fail : GoodIn wsX2_set wsX2_fail := goodIn_r _ [11, 1, 12, 13, 14, 15, 16, 17, 18, 19, 20, 21, 22, 23, 24, 25, 26, 27, 28] (by decide +kernel) (by decide +kernel)
set_option maxRecDepth 20000 in
theorem gX2_set_X2_fail : GoodIn wsX2_set (wsV RX2 43 RX2 yX2_fail wsX2_fail) := goodIn_app (goodIn_of _ (by decide +kernel)) ggX2_set_X2_fail
theorem dX2_set_0 : decode cX2_set 0 = .ok (.aload_n 0, 1) := by decide +kernel
theorem dX2_set_1 : decode cX2_set 1 = .ok (.iconst 0, 1) := by decide +kernel
theorem dX2_set_2 : decode cX2_set 2 = .ok (.putfield 32, 3) := by decide +kernel
theorem dX2_set_5 : decode cX2_set 5 = .ok (.iload_n 1, 1) := by decide +kernel
theorem dX2_set_6 : decode cX2_set 6 = .ok (.iconst 0, 1) := by decide +kernel
theorem dX2_set_7 : decode cX2_set 7 = .ok (.iconst 3, 1) := by decide +kernel
theorem dX2_set_8 : decode cX2_set 8 = .ok (.invokestatic 39, 3) := by decide +kernel
theorem dX2_set_11 : decode cX2_set 11 = .ok (.ifCond .ne 9, 3) := by decide +kernel
theorem dX2_set_14 : decode cX2_set 14 = .ok (.aload_n 0, 1) := by decide +kernel
theorem dX2_set_15 : decode cX2_set 15 = .ok (.iconst 1, 1) := by decide +kernel
theorem dX2_set_16 : decode cX2_set 16 = .ok (.invokevirtual 43, 3) := by decide +kernel
theorem dX2_set_19 : decode cX2_set 19 = .ok (.ireturn, 1) := by decide +kernel
theorem dX2_set_20 : decode cX2_set 20 = .ok (.iload_n 2, 1) := by decide +kernel
theorem dX2_set_21 : decode cX2_set 21 = .ok (.iconst 0, 1) := by decide +kernel
theorem dX2_set_22 : decode cX2_set 22 = .ok (.bipush 9, 2) := by decide +kernel
theorem dX2_set_24 : decode cX2_set 24 = .ok (.invokestatic 39, 3) := by decide +kernel
theorem dX2_set_27 : decode cX2_set 27 = .ok (.ifCond .eq 13, 3) := by decide +kernel
theorem dX2_set_30 : decode cX2_set 30 = .ok (.iload_n 3, 1) := by decide +kernel
theorem dX2_set_31 : decode cX2_set 31 = .ok (.iconst 0, 1) := by decide +kernel
theorem dX2_set_32 : decode cX2_set 32 = .ok (.bipush 9, 2) := by decide +kernel
theorem dX2_set_34 : decode cX2_set 34 = .ok (.invokestatic 39, 3) := by decide +kernel
theorem dX2_set_37 : decode cX2_set 37 = .ok (.ifCond .ne 9, 3) := by decide +kernel
theorem dX2_set_40 : decode cX2_set 40 = .ok (.aload_n 0, 1) := by decide +kernel
theorem dX2_set_41 : decode cX2_set 41 = .ok (.iconst 2, 1) := by decide +kernel
theorem dX2_set_42 : decode cX2_set 42 = .ok (.invokevirtual 43, 3) := by decide +kernel
theorem dX2_set_45 : decode cX2_set 45 = .ok (.ireturn, 1) := by decide +kernel
theorem dX2_set_46 : decode cX2_set 46 = .ok (.bipush 10, 2) := by decide +kernel
theorem dX2_set_48 : decode cX2_set 48 = .ok (.aload_n 0, 1) := by decide +kernel
theorem dX2_set_49 : decode cX2_set 49 = .ok (.getfield 9, 3) := by decide +kernel
theorem dX2_set_52 : decode cX2_set 52 = .ok (.iload_n 1, 1) := by decide +kernel
theorem dX2_set_53 : decode cX2_set 53 = .ok (.iaload, 1) := by decide +kernel
theorem dX2_set_54 : decode cX2_set 54 = .ok (.imul, 1) := by decide +kernel
theorem dX2_set_55 : decode cX2_set 55 = .ok (.aload_n 0, 1) := by decide +kernel
theorem dX2_set_56 : decode cX2_set 56 = .ok (.getfield 13, 3) := by decide +kernel
theorem dX2_set_59 : decode cX2_set 59 = .ok (.iload_n 1, 1) := by decide +kernel
theorem dX2_set_60 : decode cX2_set 60 = .ok (.iaload, 1) := by decide +kernel
theorem dX2_set_61 : decode cX2_set 61 = .ok (.iadd, 1) := by decide +kernel
theorem dX2_set_62 : decode cX2_set 62 = .ok (.istore 4, 2) := by decide +kernel
theorem dX2_set_64 : decode cX2_set 64 = .ok (.aload_n 0, 1) := by decide +kernel
theorem dX2_set_65 : decode cX2_set 65 = .ok (.getfield 9, 3) := by decide +kernel
theorem dX2_set_68 : decode cX2_set 68 = .ok (.iload_n 1, 1) := by decide +kernel
theorem dX2_set_69 : decode cX2_set 69 = .ok (.iload_n 2, 1) := by decide +kernel
theorem dX2_set_70 : decode cX2_set 70 = .ok (.iastore, 1) := by decide +kernel
theorem dX2_set_71 : decode cX2_set 71 = .ok (.aload_n 0, 1) := by decide +kernel
theorem dX2_set_72 : decode cX2_set 72 = .ok (.getfield 13, 3) := by decide +kernel
theorem dX2_set_75 : decode cX2_set 75 = .ok (.iload_n 1, 1) := by decide +kernel
theorem dX2_set_76 : decode cX2_set 76 = .ok (.iload_n 3, 1) := by decide +kernel
theorem dX2_set_77 : decode cX2_set 77 = .ok (.iastore, 1) := by decide +kernel
theorem dX2_set_78 : decode cX2_set 78 = .ok (.iload 4, 2) := by decide +kernel
theorem dX2_set_80 : decode cX2_set 80 = .ok (.ireturn, 1) := by decide +kernel
theorem dX2_write_0 : decode cX2_write 0 = .ok (.aload_n 0, 1) := by decide +kernel
theorem dX2_write_1 : decode cX2_write 1 = .ok (.getfield 16, 3) := by decide +kernel
theorem dX2_write_4 : decode cX2_write 4 = .ok (.aload_n 0, 1) := by decide +kernel
theorem dX2_write_5 : decode cX2_write 5 = .ok (.getfield 36, 3) := by decide +kernel
theorem dX2_write_8 : decode cX2_write 8 = .ok (.iload_n 1, 1) := by decide +kernel
theorem dX2_write_9 : decode cX2_write 9 = .ok (.iastore, 1) := by decide +kernel
theorem dX2_write_10 : decode cX2_write 10 = .ok (.aload_n 0, 1) := by decide +kernel
theorem dX2_write_11 : decode cX2_write 11 = .ok (.getfield 19, 3) := by decide +kernel
theorem dX2_write_14 : decode cX2_write 14 = .ok (.aload_n 0, 1) := by decide +kernel
theorem dX2_write_15 : decode cX2_write 15 = .ok (.getfield 36, 3) := by decide +kernel
theorem dX2_write_18 : decode cX2_write 18 = .ok (.iload_n 2, 1) := by decide +kernel
theorem dX2_write_19 : decode cX2_write 19 = .ok (.iastore, 1) := by decide +kernel
theorem dX2_write_20 : decode cX2_write 20 = .ok (.aload_n 0, 1) := by decide +kernel
theorem dX2_write_21 : decode cX2_write 21 = .ok (.getfield 22, 3) := by decide +kernel
theorem dX2_write_24 : decode cX2_write 24 = .ok (.aload_n 0, 1) := by decide +kernel
theorem dX2_write_25 : decode cX2_write 25 = .ok (.getfield 36, 3) := by decide +kernel
theorem dX2_write_28 : decode cX2_write 28 = .ok (.iload_n 3, 1) := by decide +kernel
theorem dX2_write_29 : decode cX2_write 29 = .ok (.iastore, 1) := by decide +kernel
theorem dX2_write_30 : decode cX2_write 30 = .ok (.aload_n 0, 1) := by decide +kernel
theorem dX2_write_31 : decode cX2_write 31 = .ok (.getfield 25, 3) := by decide +kernel
theorem dX2_write_34 : decode cX2_write 34 = .ok (.aload_n 0, 1) := by decide +kernel
theorem dX2_write_35 : decode cX2_write 35 = .ok (.getfield 36, 3) := by decide +kernel
theorem dX2_write_38 : decode cX2_write 38 = .ok (.iconst 0, 1) := by decide +kernel
theorem dX2_write_39 : decode cX2_write 39 = .ok (.bastore, 1) := by decide +kernel
theorem dX2_write_40 : decode cX2_write 40 = .ok (.aload_n 0, 1) := by decide +kernel
theorem dX2_write_41 : decode cX2_write 41 = .ok (.dup, 1) := by decide +kernel
theorem dX2_write_42 : decode cX2_write 42 = .ok (.getfield 36, 3) := by decide +kernel
theorem dX2_write_45 : decode cX2_write 45 = .ok (.iconst 1, 1) := by decide +kernel
theorem dX2_write_46 : decode cX2_write 46 = .ok (.iadd, 1) := by decide +kernel
theorem dX2_write_47 : decode cX2_write 47 = .ok (.putfield 36, 3) := by decide +kernel
theorem dX2_write_50 : decode cX2_write 50 = .ok (.aload_n 0, 1) := by decide +kernel
theorem dX2_write_51 : decode cX2_write 51 = .ok (.getfield 36, 3) := by decide +kernel
theorem dX2_write_54 : decode cX2_write 54 = .ok (.iconst 1, 1) := by decide +kernel
theorem dX2_write_55 : decode cX2_write 55 = .ok (.isub, 1) := by decide +kernel
theorem dX2_write_56 : decode cX2_write 56 = .ok (.ireturn, 1) := by decide +kernel
set_option maxRecDepth 20000 in
theorem ggX2_join_X2_isIn : GoodIn wsX2_join wsX2_isIn := goodIn_r _ [6] (by decide +kernel) (by decide +kernel)
set_option maxRecDepth 20000 in
theorem gX2_join_X2_isIn : GoodIn wsX2_join (va_wsS RX2 39 yX2_isIn wsX2_isIn) := goodIn_app (goodIn_of _ (by decide +kernel)) ggX2_join_X2_isIn
set_option maxRecDepth 20000 in
theorem ggX2_join_X2_fail : GoodIn wsX2_join wsX2_fail := goodIn_r _ [10, 1, 19, 20, 21, 22, 23, 24, 25, 26, 27, 28, 29, 30, 31, 32, 33, 34, 35] (by decide +kernel) (by decide +kernel)
set_option maxRecDepth 20000 in
theorem gX2_join_X2_fail : GoodIn wsX2_join (wsV RX2 43 RX2 yX2_fail wsX2_fail) := goodIn_app (goodIn_of _ (by decide +kernel)) ggX2_join_X2_fail
set_option maxRecDepth 20000 in
theorem ggX2_join_X2_write : GoodIn wsX2_join wsX2_write := goodIn_r _ [14, 15, 2, 16, 17, 18, 19, 20, 21, 22, 23, 24, 25, 26, 27, 28, 29, 30, 31, 32, 33, 34, 35] (by decide +kernel) (by decide +kernel)
set_option maxRecDepth 20000 in
theorem gX2_join_X2_write : GoodIn wsX2_join (wsV RX2 47 RX2 yX2_write wsX2_write) := goodIn_app (goodIn_of _ (by decide +kernel)) ggX2_join_X2_write
theorem dX2_join_0 : decode cX2_join 0 = .ok (.aload_n 0, 1) := by decide +kernel
theorem dX2_join_1 : decode cX2_join 1 = .ok (.iconst 0, 1) := by decide +kernel
theorem dX2_join_2 : decode cX2_join 2 = .ok (.putfield 32, 3) := by decide +kernel
theorem dX2_join_5 : decode cX2_join 5 = .ok (.iload_n 1, 1) := by decide +kernel
theorem dX2_join_6 : decode cX2_join 6 = .ok (.iconst 0, 1) := by decide +kernel
theorem dX2_join_7 : decode cX2_join 7 = .ok (.bipush 100, 2) := by decide +kernel
theorem dX2_join_9 : decode cX2_join 9 = .ok (.invokestatic 39, 3) := by decide +kernel
theorem dX2_join_12 : decode cX2_join 12 = .ok (.ifCond .ne 9, 3) := by decide +kernel
theorem dX2_join_15 : decode cX2_join 15 = .ok (.aload_n 0, 1) := by decide +kernel
theorem dX2_join_16 : decode cX2_join 16 = .ok (.iconst 1, 1) := by decide +kernel
theorem dX2_join_17 : decode cX2_join 17 = .ok (.invokevirtual 43, 3) := by decide +kernel
theorem dX2_join_20 : decode cX2_join 20 = .ok (.ireturn, 1) := by decide +kernel
theorem dX2_join_21 : decode cX2_join 21 = .ok (.aload_n 0, 1) := by decide +kernel
theorem dX2_join_22 : decode cX2_join 22 = .ok (.getfield 36, 3) := by decide +kernel
theorem dX2_join_25 : decode cX2_join 25 = .ok (.bipush 60, 2) := by decide +kernel
theorem dX2_join_27 : decode cX2_join 27 = .ok (.if_icmp .ne 11, 3) := by decide +kernel
theorem dX2_join_30 : decode cX2_join 30 = .ok (.aload_n 0, 1) := by decide +kernel
theorem dX2_join_31 : decode cX2_join 31 = .ok (.iconst 2, 1) := by decide +kernel
theorem dX2_join_32 : decode cX2_join 32 = .ok (.invokevirtual 43, 3) := by decide +kernel
theorem dX2_join_35 : decode cX2_join 35 = .ok (.goto 10, 3) := by decide +kernel
theorem dX2_join_38 : decode cX2_join 38 = .ok (.aload_n 0, 1) := by decide +kernel
theorem dX2_join_39 : decode cX2_join 39 = .ok (.iconst 0, 1) := by decide +kernel
theorem dX2_join_40 : decode cX2_join 40 = .ok (.iload_n 1, 1) := by decide +kernel
theorem dX2_join_41 : decode cX2_join 41 = .ok (.iconst 0, 1) := by decide +kernel
theorem dX2_join_42 : decode cX2_join 42 = .ok (.invokevirtual 47, 3) := by decide +kernel
theorem dX2_join_45 : decode cX2_join 45 = .ok (.ireturn, 1) := by decide +kernel
set_option maxRecDepth 20000 in
theorem ggX2_toss_X2_isIn : GoodIn wsX2_toss wsX2_isIn := goodIn_r _ [6] (by decide +kernel) (by decide +kernel)
set_option maxRecDepth 20000 in
theorem gX2_toss_X2_isIn : GoodIn wsX2_toss (va_wsS RX2 39 yX2_isIn wsX2_isIn) := goodIn_app (goodIn_of _ (by decide +kernel)) ggX2_toss_X2_isIn
set_option maxRecDepth 20000 in
theorem ggX2_toss_X2_fail : GoodIn wsX2_toss wsX2_fail := goodIn_r _ [10, 1, 19, 20, 21, 22, 23, 24, 25, 26, 27, 28, 29, 30, 31, 32, 33, 34, 35] (by decide +kernel) (by decide +kernel)
set_option maxRecDepth 20000 in
theorem gX2_toss_X2_fail : GoodIn wsX2_toss (wsV RX2 43 RX2 yX2_fail wsX2_fail) := goodIn_app (goodIn_of _ (by decide +kernel)) ggX2_toss_X2_fail
set_option maxRecDepth 20000 in
theorem ggX2_toss_X2_write : GoodIn wsX2_toss wsX2_write := goodIn_r _ [14, 15, 2, 16, 17, 18, 19, 20, 21, 22, 23, 24, 25, 26, 27, 28, 29, 30, 31, 32, 33, 34, 35] (by decide +kernel) (by decide +kernel)
set_option maxRecDepth 20000 in
theorem gX2_toss_X2_write : GoodIn wsX2_toss (wsV RX2 47 RX2 yX2_write wsX2_write) := goodIn_app (goodIn_of _ (by decide +kernel)) ggX2_toss_X2_write
theorem dX2_toss_0 : decode cX2_toss 0 = .ok (.aload_n 0, 1) := by decide +kernel
theorem dX2_toss_1 : decode cX2_toss 1 = .ok (.iconst 0, 1) := by decide +kernel
theorem dX2_toss_2 : decode cX2_toss 2 = .ok (.putfield 32, 3) := by decide +kernel
theorem dX2_toss_5 : decode cX2_toss 5 = .ok (.iload_n 1, 1) := by decide +kernel
theorem dX2_toss_6 : decode cX2_toss 6 = .ok (.iconst 0, 1) := by decide +kernel
theorem dX2_toss_7 : decode cX2_toss 7 = .ok (.iconst 5, 1) := by decide +kernel
theorem dX2_toss_8 : decode cX2_toss 8 = .ok (.invokestatic 39, 3) := by decide +kernel
theorem dX2_toss_11 : decode cX2_toss 11 = .ok (.ifCond .ne 9, 3) := by decide +kernel
theorem dX2_toss_14 : decode cX2_toss 14 = .ok (.aload_n 0, 1) := by decide +kernel
theorem dX2_toss_15 : decode cX2_toss 15 = .ok (.iconst 1, 1) := by decide +kernel
theorem dX2_toss_16 : decode cX2_toss 16 = .ok (.invokevirtual 43, 3) := by decide +kernel
theorem dX2_toss_19 : decode cX2_toss 19 = .ok (.ireturn, 1) := by decide +kernel
theorem dX2_toss_20 : decode cX2_toss 20 = .ok (.iload_n 2, 1) := by decide +kernel
theorem dX2_toss_21 : decode cX2_toss 21 = .ok (.iconst 0, 1) := by decide +kernel
theorem dX2_toss_22 : decode cX2_toss 22 = .ok (.bipush 20, 2) := by decide +kernel
theorem dX2_toss_24 : decode cX2_toss 24 = .ok (.invokestatic 39, 3) := by decide +kernel
theorem dX2_toss_27 : decode cX2_toss 27 = .ok (.ifCond .ne 9, 3) := by decide +kernel
theorem dX2_toss_30 : decode cX2_toss 30 = .ok (.aload_n 0, 1) := by decide +kernel
theorem dX2_toss_31 : decode cX2_toss 31 = .ok (.iconst 2, 1) := by decide +kernel
theorem dX2_toss_32 : decode cX2_toss 32 = .ok (.invokevirtual 43, 3) := by decide +kernel
theorem dX2_toss_35 : decode cX2_toss 35 = .ok (.ireturn, 1) := by decide +kernel
theorem dX2_toss_36 : decode cX2_toss 36 = .ok (.aload_n 0, 1) := by decide +kernel
theorem dX2_toss_37 : decode cX2_toss 37 = .ok (.getfield 36, 3) := by decide +kernel
theorem dX2_toss_40 : decode cX2_toss 40 = .ok (.bipush 60, 2) := by decide +kernel
theorem dX2_toss_42 : decode cX2_toss 42 = .ok (.if_icmp .ne 11, 3) := by decide +kernel
theorem dX2_toss_45 : decode cX2_toss 45 = .ok (.aload_n 0, 1) := by decide +kernel
theorem dX2_toss_46 : decode cX2_toss 46 = .ok (.iconst 3, 1) := by decide +kernel
theorem dX2_toss_47 : decode cX2_toss 47 = .ok (.invokevirtual 43, 3) := by decide +kernel
theorem dX2_toss_50 : decode cX2_toss 50 = .ok (.goto 10, 3) := by decide +kernel
theorem dX2_toss_53 : decode cX2_toss 53 = .ok (.aload_n 0, 1) := by decide +kernel
theorem dX2_toss_54 : decode cX2_toss 54 = .ok (.iconst 1, 1) := by decide +kernel
theorem dX2_toss_55 : decode cX2_toss 55 = .ok (.iload_n 1, 1) := by decide +kernel
theorem dX2_toss_56 : decode cX2_toss 56 = .ok (.iload_n 2, 1) := by decide +kernel
theorem dX2_toss_57 : decode cX2_toss 57 = .ok (.invokevirtual 47, 3) := by decide +kernel
theorem dX2_toss_60 : decode cX2_toss 60 = .ok (.ireturn, 1) := by decide +kernel
set_option maxRecDepth 20000 in
theorem ggX2_rest_X2_isIn : GoodIn wsX2_rest wsX2_isIn := goodIn_r _ [6] (by decide +kernel) (by decide +kernel)
set_option maxRecDepth 20000 in
theorem gX2_rest_X2_isIn : GoodIn wsX2_rest (va_wsS RX2 39 yX2_isIn wsX2_isIn) := goodIn_app (goodIn_of _ (by decide +kernel)) ggX2_rest_X2_isIn
set_option maxRecDepth 20000 in
theorem ggX2_rest_X2_fail : GoodIn wsX2_rest wsX2_fail := goodIn_r _ [10, 1, 19, 20, 21, 22, 23, 24, 25, 26, 27, 28, 29, 30, 31, 32, 33, 34, 35] (by decide +kernel) (by decide +kernel)
set_option maxRecDepth 20000 in
theorem gX2_rest_X2_fail : GoodIn wsX2_rest (wsV RX2 43 RX2 yX2_fail wsX2_fail) := goodIn_app (goodIn_of _ (by decide +kernel)) ggX2_rest_X2_fail
set_option maxRecDepth 20000 in
theorem ggX2_rest_X2_write : GoodIn wsX2_rest wsX2_write := goodIn_r _ [14, 15, 2, 16, 17, 18, 19, 20, 21, 22, 23, 24, 25, 26, 27, 28, 29, 30, 31, 32, 33, 34, 35] (by decide +kernel) (by decide +kernel)
set_option maxRecDepth 20000 in
theorem gX2_rest_X2_write : GoodIn wsX2_rest (wsV RX2 47 RX2 yX2_write wsX2_write) := goodIn_app (goodIn_of _ (by decide +kernel)) ggX2_rest_X2_write
theorem dX2_rest_0 : decode cX2_rest 0 = .ok (.aload_n 0, 1) := by decide +kernel
theorem dX2_rest_1 : decode cX2_rest 1 = .ok (.iconst 0, 1) := by decide +kernel
theorem dX2_rest_2 : decode cX2_rest 2 = .ok (.putfield 32, 3) := by decide +kernel
theorem dX2_rest_5 : decode cX2_rest 5 = .ok (.iload_n 1, 1) := by decide +kernel
theorem dX2_rest_6 : decode cX2_rest 6 = .ok (.iconst 0, 1) := by decide +kernel
theorem dX2_rest_7 : decode cX2_rest 7 = .ok (.iconst 5, 1) := by decide +kernel
theorem dX2_rest_8 : decode cX2_rest 8 = .ok (.invokestatic 39, 3) := by decide +kernel
theorem dX2_rest_11 : decode cX2_rest 11 = .ok (.ifCond .ne 9, 3) := by decide +kernel
theorem dX2_rest_14 : decode cX2_rest 14 = .ok (.aload_n 0, 1) := by decide +kernel
theorem dX2_rest_15 : decode cX2_rest 15 = .ok (.iconst 1, 1) := by decide +kernel
theorem dX2_rest_16 : decode cX2_rest 16 = .ok (.invokevirtual 43, 3) := by decide +kernel
theorem dX2_rest_19 : decode cX2_rest 19 = .ok (.ireturn, 1) := by decide +kernel
theorem dX2_rest_20 : decode cX2_rest 20 = .ok (.aload_n 0, 1) := by decide +kernel
theorem dX2_rest_21 : decode cX2_rest 21 = .ok (.getfield 36, 3) := by decide +kernel
theorem dX2_rest_24 : decode cX2_rest 24 = .ok (.bipush 60, 2) := by decide +kernel
theorem dX2_rest_26 : decode cX2_rest 26 = .ok (.if_icmp .ne 11, 3) := by decide +kernel
theorem dX2_rest_29 : decode cX2_rest 29 = .ok (.aload_n 0, 1) := by decide +kernel
theorem dX2_rest_30 : decode cX2_rest 30 = .ok (.iconst 2, 1) := by decide +kernel
theorem dX2_rest_31 : decode cX2_rest 31 = .ok (.invokevirtual 43, 3) := by decide +kernel
theorem dX2_rest_34 : decode cX2_rest 34 = .ok (.goto 10, 3) := by decide +kernel
theorem dX2_rest_37 : decode cX2_rest 37 = .ok (.aload_n 0, 1) := by decide +kernel
theorem dX2_rest_38 : decode cX2_rest 38 = .ok (.iconst 2, 1) := by decide +kernel
theorem dX2_rest_39 : decode cX2_rest 39 = .ok (.iload_n 1, 1) := by decide +kernel
theorem dX2_rest_40 : decode cX2_rest 40 = .ok (.iconst 0, 1) := by decide +kernel
theorem dX2_rest_41 : decode cX2_rest 41 = .ok (.invokevirtual 47, 3) := by decide +kernel
theorem dX2_rest_44 : decode cX2_rest 44 = .ok (.ireturn, 1) := by decide +kernel
set_option maxRecDepth 20000 in
theorem ggX2_go_X2_isIn : GoodIn wsX2_go wsX2_isIn := goodIn_r _ [6] (by decide +kernel) (by decide +kernel)
set_option maxRecDepth 20000 in
theorem gX2_go_X2_isIn : GoodIn wsX2_go (va_wsS RX2 39 yX2_isIn wsX2_isIn) := goodIn_app (goodIn_of _ (by decide +kernel)) ggX2_go_X2_isIn
set_option maxRecDepth 20000 in
theorem ggX2_go_X2_fail : GoodIn wsX2_go wsX2_fail := goodIn_r _ [10, 1, 19, 20, 21, 22, 23, 24, 25, 26, 27, 28, 29, 30, 31, 32, 33, 34, 35] (by decide +kernel) (by decide +kernel)
set_option maxRecDepth 20000 in
theorem gX2_go_X2_fail : GoodIn wsX2_go (wsV RX2 43 RX2 yX2_fail wsX2_fail) := goodIn_app (goodIn_of _ (by decide +kernel)) ggX2_go_X2_fail
set_option maxRecDepth 20000 in
theorem ggX2_go_X2_write : GoodIn wsX2_go wsX2_write := goodIn_r _ [14, 15, 2, 16, 17, 18, 19, 20, 21, 22, 23, 24, 25, 26, 27, 28, 29, 30, 31, 32, 33, 34, 35] (by decide +kernel) (by decide +kernel)
set_option maxRecDepth 20000 in
theorem gX2_go_X2_write : GoodIn wsX2_go (wsV RX2 47 RX2 yX2_write wsX2_write) := goodIn_app (goodIn_of _ (by decide +kernel)) ggX2_go_X2_write
theorem dX2_go_0 : decode cX2_go 0 = .ok (.aload_n 0, 1) := by decide +kernel
theorem dX2_go_1 : decode cX2_go 1 = .ok (.iconst 0, 1) := by decide +kernel
theorem dX2_go_2 : decode cX2_go 2 = .ok (.putfield 32, 3) := by decide +kernel
theorem dX2_go_5 : decode cX2_go 5 = .ok (.iload_n 1, 1) := by decide +kernel
theorem dX2_go_6 : decode cX2_go 6 = .ok (.iconst 0, 1) := by decide +kernel
theorem dX2_go_7 : decode cX2_go 7 = .ok (.iconst 3, 1) := by decide +kernel
theorem dX2_go_8 : decode cX2_go 8 = .ok (.invokestatic 39, 3) := by decide +kernel
theorem dX2_go_11 : decode cX2_go 11 = .ok (.ifCond .ne 9, 3) := by decide +kernel
theorem dX2_go_14 : decode cX2_go 14 = .ok (.aload_n 0, 1) := by decide +kernel
theorem dX2_go_15 : decode cX2_go 15 = .ok (.iconst 1, 1) := by decide +kernel
theorem dX2_go_16 : decode cX2_go 16 = .ok (.invokevirtual 43, 3) := by decide +kernel
theorem dX2_go_19 : decode cX2_go 19 = .ok (.ireturn, 1) := by decide +kernel
theorem dX2_go_20 : decode cX2_go 20 = .ok (.aload_n 0, 1) := by decide +kernel
theorem dX2_go_21 : decode cX2_go 21 = .ok (.getfield 36, 3) := by decide +kernel
theorem dX2_go_24 : decode cX2_go 24 = .ok (.bipush 60, 2) := by decide +kernel
theorem dX2_go_26 : decode cX2_go 26 = .ok (.if_icmp .ne 11, 3) := by decide +kernel
theorem dX2_go_29 : decode cX2_go 29 = .ok (.aload_n 0, 1) := by decide +kernel
theorem dX2_go_30 : decode cX2_go 30 = .ok (.iconst 2, 1) := by decide +kernel
theorem dX2_go_31 : decode cX2_go 31 = .ok (.invokevirtual 43, 3) := by decide +kernel
theorem dX2_go_34 : decode cX2_go 34 = .ok (.goto 10, 3) := by decide +kernel
theorem dX2_go_37 : decode cX2_go 37 = .ok (.aload_n 0, 1) := by decide +kernel
theorem dX2_go_38 : decode cX2_go 38 = .ok (.iconst 3, 1) := by decide +kernel
theorem dX2_go_39 : decode cX2_go 39 = .ok (.iload_n 1, 1) := by decide +kernel
theorem dX2_go_40 : decode cX2_go 40 = .ok (.iconst 0, 1) := by decide +kernel
theorem dX2_go_41 : decode cX2_go 41 = .ok (.invokevirtual 47, 3) := by decide +kernel
theorem dX2_go_44 : decode cX2_go 44 = .ok (.ireturn, 1) := by decide +kernel
set_option maxRecDepth 20000 in
theorem ggX2_pay_X2_isIn : GoodIn wsX2_pay wsX2_isIn := goodIn_r _ [6] (by decide +kernel) (by decide +kernel)
set_option maxRecDepth 20000 in
theorem gX2_pay_X2_isIn : GoodIn wsX2_pay (va_wsS RX2 39 yX2_isIn wsX2_isIn) := goodIn_app (goodIn_of _ (by decide +kernel)) ggX2_pay_X2_isIn
set_option maxRecDepth 20000 in
theorem ggX2_pay_X2_fail : GoodIn wsX2_pay wsX2_fail := goodIn_r _ [10, 1, 19, 20, 21, 22, 23, 24, 25, 26, 27, 28, 29, 30, 31, 32, 33, 34, 35] (by decide +kernel) (by decide +kernel)
set_option maxRecDepth 20000 in
theorem gX2_pay_X2_fail : GoodIn wsX2_pay (wsV RX2 43 RX2 yX2_fail wsX2_fail) := goodIn_app (goodIn_of _ (by decide +kernel)) ggX2_pay_X2_fail
set_option maxRecDepth 20000 in
theorem ggX2_pay_X2_write : GoodIn wsX2_pay wsX2_write := goodIn_r _ [14, 15, 2, 16, 17, 18, 19, 20, 21, 22, 23, 24, 25, 26, 27, 28, 29, 30, 31, 32, 33, 34, 35] (by decide +kernel) (by decide +kernel)
set_option maxRecDepth 20000 in
theorem gX2_pay_X2_write : GoodIn wsX2_pay (wsV RX2 47 RX2 yX2_write wsX2_write) := goodIn_app (goodIn_of _ (by decide +kernel)) ggX2_pay_X2_write
theorem dX2_pay_0 : decode cX2_pay 0 = .ok (.aload_n 0, 1) := by decide +kernel
theorem dX2_pay_1 : decode cX2_pay 1 = .ok (.iconst 0, 1) := by decide +kernel
theorem dX2_pay_2 : decode cX2_pay 2 = .ok (.putfield 32, 3) := by decide +kernel
theorem dX2_pay_5 : decode cX2_pay 5 = .ok (.iload_n 1, 1) := by decide +kernel
theorem dX2_pay_6 : decode cX2_pay 6 = .ok (.iconst 0, 1) := by decide +kernel
theorem dX2_pay_7 : decode cX2_pay 7 = .ok (.iconst 5, 1) := by decide +kernel
theorem dX2_pay_8 : decode cX2_pay 8 = .ok (.invokestatic 39, 3) := by decide +kernel
theorem dX2_pay_11 : decode cX2_pay 11 = .ok (.ifCond .ne 9, 3) := by decide +kernel
theorem dX2_pay_14 : decode cX2_pay 14 = .ok (.aload_n 0, 1) := by decide +kernel
theorem dX2_pay_15 : decode cX2_pay 15 = .ok (.iconst 1, 1) := by decide +kernel
theorem dX2_pay_16 : decode cX2_pay 16 = .ok (.invokevirtual 43, 3) := by decide +kernel
theorem dX2_pay_19 : decode cX2_pay 19 = .ok (.ireturn, 1) := by decide +kernel
theorem dX2_pay_20 : decode cX2_pay 20 = .ok (.iload_n 2, 1) := by decide +kernel
theorem dX2_pay_21 : decode cX2_pay 21 = .ok (.iconst 1, 1) := by decide +kernel
theorem dX2_pay_22 : decode cX2_pay 22 = .ok (.bipush 99, 2) := by decide +kernel
theorem dX2_pay_24 : decode cX2_pay 24 = .ok (.invokestatic 39, 3) := by decide +kernel
theorem dX2_pay_27 : decode cX2_pay 27 = .ok (.ifCond .ne 9, 3) := by decide +kernel
theorem dX2_pay_30 : decode cX2_pay 30 = .ok (.aload_n 0, 1) := by decide +kernel
theorem dX2_pay_31 : decode cX2_pay 31 = .ok (.iconst 2, 1) := by decide +kernel
theorem dX2_pay_32 : decode cX2_pay 32 = .ok (.invokevirtual 43, 3) := by decide +kernel
theorem dX2_pay_35 : decode cX2_pay 35 = .ok (.ireturn, 1) := by decide +kernel
theorem dX2_pay_36 : decode cX2_pay 36 = .ok (.aload_n 0, 1) := by decide +kernel
theorem dX2_pay_37 : decode cX2_pay 37 = .ok (.getfield 36, 3) := by decide +kernel
theorem dX2_pay_40 : decode cX2_pay 40 = .ok (.bipush 60, 2) := by decide +kernel
theorem dX2_pay_42 : decode cX2_pay 42 = .ok (.if_icmp .ne 11, 3) := by decide +kernel
theorem dX2_pay_45 : decode cX2_pay 45 = .ok (.aload_n 0, 1) := by decide +kernel
theorem dX2_pay_46 : decode cX2_pay 46 = .ok (.iconst 3, 1) := by decide +kernel
theorem dX2_pay_47 : decode cX2_pay 47 = .ok (.invokevirtual 43, 3) := by decide +kernel
theorem dX2_pay_50 : decode cX2_pay 50 = .ok (.goto 10, 3) := by decide +kernel
theorem dX2_pay_53 : decode cX2_pay 53 = .ok (.aload_n 0, 1) := by decide +kernel
theorem dX2_pay_54 : decode cX2_pay 54 = .ok (.iconst 4, 1) := by decide +kernel
theorem dX2_pay_55 : decode cX2_pay 55 = .ok (.iload_n 1, 1) := by decide +kernel
theorem dX2_pay_56 : decode cX2_pay 56 = .ok (.iload_n 2, 1) := by decide +kernel
theorem dX2_pay_57 : decode cX2_pay 57 = .ok (.invokevirtual 47, 3) := by decide +kernel
theorem dX2_pay_60 : decode cX2_pay 60 = .ok (.ireturn, 1) := by decide +kernel
set_option maxRecDepth 20000 in
theorem ggX2_buy_X2_isIn : GoodIn wsX2_buy wsX2_isIn := goodIn_r _ [6] (by decide +kernel) (by decide +kernel)
set_option maxRecDepth 20000 in
theorem gX2_buy_X2_isIn : GoodIn wsX2_buy (va_wsS RX2 39 yX2_isIn wsX2_isIn) := goodIn_app (goodIn_of _ (by decide +kernel)) ggX2_buy_X2_isIn
set_option maxRecDepth 20000 in
theorem ggX2_buy_X2_fail : GoodIn wsX2_buy wsX2_fail := goodIn_r _ [10, 1, 19, 20, 21, 22, 23, 24, 25, 26, 27, 28, 29, 30, 31, 32, 33, 34, 35] (by decide +kernel) (by decide +kernel)
set_option maxRecDepth 20000 in
theorem gX2_buy_X2_fail : GoodIn wsX2_buy (wsV RX2 43 RX2 yX2_fail wsX2_fail) := goodIn_app (goodIn_of _ (by decide +kernel)) ggX2_buy_X2_fail
set_option maxRecDepth 20000 in
theorem ggX2_buy_X2_write : GoodIn wsX2_buy wsX2_write := goodIn_r _ [14, 15, 2, 16, 17, 18, 19, 20, 21, 22, 23, 24, 25, 26, 27, 28, 29, 30, 31, 32, 33, 34, 35] (by decide +kernel) (by decide +kernel)
set_option maxRecDepth 20000 in
theorem gX2_buy_X2_write : GoodIn wsX2_buy (wsV RX2 47 RX2 yX2_write wsX2_write) := goodIn_app (goodIn_of _ (by decide +kernel)) ggX2_buy_X2_write
theorem dX2_buy_0 : decode cX2_buy 0 = .ok (.aload_n 0, 1) := by decide +kernel
theorem dX2_buy_1 : decode cX2_buy 1 = .ok (.iconst 0, 1) := by decide +kernel
theorem dX2_buy_2 : decode cX2_buy 2 = .ok (.putfield 32, 3) := by decide +kernel
theorem dX2_buy_5 : decode cX2_buy 5 = .ok (.iload_n 1, 1) := by decide +kernel
theorem dX2_buy_6 : decode cX2_buy 6 = .ok (.iconst 1, 1) := by decide +kernel
theorem dX2_buy_7 : decode cX2_buy 7 = .ok (.bipush 20, 2) := by decide +kernel
theorem dX2_buy_9 : decode cX2_buy 9 = .ok (.invokestatic 39, 3) := by decide +kernel
theorem dX2_buy_12 : decode cX2_buy 12 = .ok (.ifCond .ne 9, 3) := by decide +kernel
theorem dX2_buy_15 : decode cX2_buy 15 = .ok (.aload_n 0, 1) := by decide +kernel
theorem dX2_buy_16 : decode cX2_buy 16 = .ok (.iconst 1, 1) := by decide +kernel
theorem dX2_buy_17 : decode cX2_buy 17 = .ok (.invokevirtual 43, 3) := by decide +kernel
theorem dX2_buy_20 : decode cX2_buy 20 = .ok (.ireturn, 1) := by decide +kernel
theorem dX2_buy_21 : decode cX2_buy 21 = .ok (.aload_n 0, 1) := by decide +kernel
theorem dX2_buy_22 : decode cX2_buy 22 = .ok (.getfield 36, 3) := by decide +kernel
theorem dX2_buy_25 : decode cX2_buy 25 = .ok (.bipush 60, 2) := by decide +kernel
theorem dX2_buy_27 : decode cX2_buy 27 = .ok (.if_icmp .ne 11, 3) := by decide +kernel
theorem dX2_buy_30 : decode cX2_buy 30 = .ok (.aload_n 0, 1) := by decide +kernel
theorem dX2_buy_31 : decode cX2_buy 31 = .ok (.iconst 2, 1) := by decide +kernel
theorem dX2_buy_32 : decode cX2_buy 32 = .ok (.invokevirtual 43, 3) := by decide +kernel
theorem dX2_buy_35 : decode cX2_buy 35 = .ok (.goto 10, 3) := by decide +kernel
theorem dX2_buy_38 : decode cX2_buy 38 = .ok (.aload_n 0, 1) := by decide +kernel
theorem dX2_buy_39 : decode cX2_buy 39 = .ok (.iconst 5, 1) := by decide +kernel
theorem dX2_buy_40 : decode cX2_buy 40 = .ok (.iload_n 1, 1) := by decide +kernel
theorem dX2_buy_41 : decode cX2_buy 41 = .ok (.iconst 0, 1) := by decide +kernel
theorem dX2_buy_42 : decode cX2_buy 42 = .ok (.invokevirtual 47, 3) := by decide +kernel
theorem dX2_buy_45 : decode cX2_buy 45 = .ok (.ireturn, 1) := by decide +kernel
theorem dX2_more_0 : decode cX2_more 0 = .ok (.aload_n 0, 1) := by decide +kernel
theorem dX2_more_1 : decode cX2_more 1 = .ok (.getfield 29, 3) := by decide +kernel
theorem dX2_more_4 : decode cX2_more 4 = .ok (.iload_n 1, 1) := by decide +kernel
theorem dX2_more_5 : decode cX2_more 5 = .ok (.iconst 0, 1) := by decide +kernel
theorem dX2_more_6 : decode cX2_more 6 = .ok (.bipush 100, 2) := by decide +kernel
theorem dX2_more_8 : decode cX2_more 8 = .ok (.aload_n 0, 1) := by decide +kernel
theorem dX2_more_9 : decode cX2_more 9 = .ok (.getfield 29, 3) := by decide +kernel
theorem dX2_more_12 : decode cX2_more 12 = .ok (.iload_n 1, 1) := by decide +kernel
theorem dX2_more_13 : decode cX2_more 13 = .ok (.iaload, 1) := by decide +kernel
theorem dX2_more_14 : decode cX2_more 14 = .ok (.iload_n 2, 1) := by decide +kernel
theorem dX2_more_15 : decode cX2_more 15 = .ok (.iadd, 1) := by decide +kernel
theorem dX2_more_16 : decode cX2_more 16 = .ok (.invokestatic 51, 3) := by decide +kernel
theorem dX2_more_19 : decode cX2_more 19 = .ok (.invokestatic 57, 3) := by decide +kernel
theorem dX2_more_22 : decode cX2_more 22 = .ok (.iastore, 1) := by decide +kernel
theorem dX2_more_23 : decode cX2_more 23 = .ok (.return_, 1) := by decide +kernel
theorem dX2_canToss_0 : decode cX2_canToss 0 = .ok (.iload_n 1, 1) := by decide +kernel
theorem dX2_canToss_1 : decode cX2_canToss 1 = .ok (.aload_n 0, 1) := by decide +kernel
theorem dX2_canToss_2 : decode cX2_canToss 2 = .ok (.getfield 60, 3) := by decide +kernel
theorem dX2_canToss_5 : decode cX2_canToss 5 = .ok (.if_icmp .ge 28, 3) := by decide +kernel
theorem dX2_canToss_8 : decode cX2_canToss 8 = .ok (.aload_n 0, 1) := by decide +kernel
theorem dX2_canToss_9 : decode cX2_canToss 9 = .ok (.getfield 29, 3) := by decide +kernel
theorem dX2_canToss_12 : decode cX2_canToss 12 = .ok (.iload_n 1, 1) := by decide +kernel
theorem dX2_canToss_13 : decode cX2_canToss 13 = .ok (.iaload, 1) := by decide +kernel
theorem dX2_canToss_14 : decode cX2_canToss 14 = .ok (.bipush 20, 2) := by decide +kernel
theorem dX2_canToss_16 : decode cX2_canToss 16 = .ok (.aload_n 0, 1) := by decide +kernel
theorem dX2_canToss_17 : decode cX2_canToss 17 = .ok (.getfield 13, 3) := by decide +kernel
theorem dX2_canToss_20 : decode cX2_canToss 20 = .ok (.aload_n 0, 1) := by decide +kernel
theorem dX2_canToss_21 : decode cX2_canToss 21 = .ok (.getfield 63, 3) := by decide +kernel
theorem dX2_canToss_24 : decode cX2_canToss 24 = .ok (.iaload, 1) := by decide +kernel
theorem dX2_canToss_25 : decode cX2_canToss 25 = .ok (.iadd, 1) := by decide +kernel
theorem dX2_canToss_26 : decode cX2_canToss 26 = .ok (.if_icmp .lt 7, 3) := by decide +kernel
theorem dX2_canToss_29 : decode cX2_canToss 29 = .ok (.iconst 1, 1) := by decide +kernel
theorem dX2_canToss_30 : decode cX2_canToss 30 = .ok (.goto 4, 3) := by decide +kernel
theorem dX2_canToss_33 : decode cX2_canToss 33 = .ok (.iconst 0, 1) := by decide +kernel
theorem dX2_canToss_34 : decode cX2_canToss 34 = .ok (.ireturn, 1) := by decide +kernel
theorem dX2_brings_0 : decode cX2_brings 0 = .ok (.iload_n 1, 1) := by decide +kernel
theorem dX2_brings_1 : decode cX2_brings 1 = .ok (.ifCond .ne 7, 3) := by decide +kernel
theorem dX2_brings_4 : decode cX2_brings 4 = .ok (.iconst 0, 1) := by decide +kernel
theorem dX2_brings_5 : decode cX2_brings 5 = .ok (.goto 46, 3) := by decide +kernel
theorem dX2_brings_8 : decode cX2_brings 8 = .ok (.iload_n 1, 1) := by decide +kernel
theorem dX2_brings_9 : decode cX2_brings 9 = .ok (.iconst 4, 1) := by decide +kernel
theorem dX2_brings_10 : decode cX2_brings 10 = .ok (.if_icmp .ge 18, 3) := by decide +kernel
theorem dX2_brings_13 : decode cX2_brings 13 = .ok (.bipush 12, 2) := by decide +kernel
theorem dX2_brings_15 : decode cX2_brings 15 = .ok (.aload_n 0, 1) := by decide +kernel
theorem dX2_brings_16 : decode cX2_brings 16 = .ok (.getfield 9, 3) := by decide +kernel
theorem dX2_brings_19 : decode cX2_brings 19 = .ok (.aload_n 0, 1) := by decide +kernel
theorem dX2_brings_20 : decode cX2_brings 20 = .ok (.getfield 63, 3) := by decide +kernel
theorem dX2_brings_23 : decode cX2_brings 23 = .ok (.iaload, 1) := by decide +kernel
theorem dX2_brings_24 : decode cX2_brings 24 = .ok (.iadd, 1) := by decide +kernel
theorem dX2_brings_25 : decode cX2_brings 25 = .ok (.goto 26, 3) := by decide +kernel
theorem dX2_brings_28 : decode cX2_brings 28 = .ok (.iload_n 1, 1) := by decide +kernel
theorem dX2_brings_29 : decode cX2_brings 29 = .ok (.bipush 10, 2) := by decide +kernel
theorem dX2_brings_31 : decode cX2_brings 31 = .ok (.if_icmp .ge 19, 3) := by decide +kernel
theorem dX2_brings_34 : decode cX2_brings 34 = .ok (.iconst 5, 1) := by decide +kernel
theorem dX2_brings_35 : decode cX2_brings 35 = .ok (.aload_n 0, 1) := by decide +kernel
theorem dX2_brings_36 : decode cX2_brings 36 = .ok (.getfield 9, 3) := by decide +kernel
theorem dX2_brings_39 : decode cX2_brings 39 = .ok (.aload_n 0, 1) := by decide +kernel
theorem dX2_brings_40 : decode cX2_brings 40 = .ok (.getfield 63, 3) := by decide +kernel
theorem dX2_brings_43 : decode cX2_brings 43 = .ok (.iaload, 1) := by decide +kernel
theorem dX2_brings_44 : decode cX2_brings 44 = .ok (.iconst 2, 1) := by decide +kernel
theorem dX2_brings_45 : decode cX2_brings 45 = .ok (.idiv, 1) := by decide +kernel
theorem dX2_brings_46 : decode cX2_brings 46 = .ok (.iadd, 1) := by decide +kernel
theorem dX2_brings_47 : decode cX2_brings 47 = .ok (.goto 4, 3) := by decide +kernel
theorem dX2_brings_50 : decode cX2_brings 50 = .ok (.iconst 1, 1) := by decide +kernel
theorem dX2_brings_51 : decode cX2_brings 51 = .ok (.ireturn, 1) := by decide +kernel
set_option maxRecDepth 20000 in
theorem ggX2_holds_X2_canToss : GoodIn wsX2_holds wsX2_canToss := goodIn_r _ [10, 3, 11, 12, 13, 14, 15, 16, 17, 18, 19, 20, 21, 22, 23, 24, 25, 26, 27, 28, 29, 30] (by decide +kernel) (by decide +kernel)
set_option maxRecDepth 20000 in
theorem gX2_holds_X2_canToss : GoodIn wsX2_holds (wsV RX2 66 RX2 yX2_canToss wsX2_canToss) := goodIn_app (goodIn_of _ (by decide +kernel)) ggX2_holds_X2_canToss
theorem dX2_holds_0 : decode cX2_holds 0 = .ok (.aload_n 0, 1) := by decide +kernel
theorem dX2_holds_1 : decode cX2_holds 1 = .ok (.getfield 19, 3) := by decide +kernel
theorem dX2_holds_4 : decode cX2_holds 4 = .ok (.iload_n 1, 1) := by decide +kernel
theorem dX2_holds_5 : decode cX2_holds 5 = .ok (.iaload, 1) := by decide +kernel
theorem dX2_holds_6 : decode cX2_holds 6 = .ok (.istore_n 2, 1) := by decide +kernel
theorem dX2_holds_7 : decode cX2_holds 7 = .ok (.aload_n 0, 1) := by decide +kernel
theorem dX2_holds_8 : decode cX2_holds 8 = .ok (.getfield 16, 3) := by decide +kernel
theorem dX2_holds_11 : decode cX2_holds 11 = .ok (.iload_n 1, 1) := by decide +kernel
theorem dX2_holds_12 : decode cX2_holds 12 = .ok (.iaload, 1) := by decide +kernel
theorem dX2_holds_13 : decode cX2_holds 13 = .ok (.tableswitch 99 0 4 #[35, 50, 56, 70, 72], 35) := by decide +kernel
theorem dX2_holds_48 : decode cX2_holds 48 = .ok (.aload_n 0, 1) := by decide +kernel
theorem dX2_holds_49 : decode cX2_holds 49 = .ok (.getfield 60, 3) := by decide +kernel
theorem dX2_holds_52 : decode cX2_holds 52 = .ok (.bipush 6, 2) := by decide +kernel
theorem dX2_holds_54 : decode cX2_holds 54 = .ok (.if_icmp .ge 7, 3) := by decide +kernel
theorem dX2_holds_57 : decode cX2_holds 57 = .ok (.iconst 1, 1) := by decide +kernel
theorem dX2_holds_58 : decode cX2_holds 58 = .ok (.goto 4, 3) := by decide +kernel
theorem dX2_holds_61 : decode cX2_holds 61 = .ok (.iconst 0, 1) := by decide +kernel
theorem dX2_holds_62 : decode cX2_holds 62 = .ok (.ireturn, 1) := by decide +kernel
theorem dX2_holds_63 : decode cX2_holds 63 = .ok (.aload_n 0, 1) := by decide +kernel
theorem dX2_holds_64 : decode cX2_holds 64 = .ok (.iload_n 2, 1) := by decide +kernel
theorem dX2_holds_65 : decode cX2_holds 65 = .ok (.invokevirtual 66, 3) := by decide +kernel
theorem dX2_holds_68 : decode cX2_holds 68 = .ok (.ireturn, 1) := by decide +kernel
theorem dX2_holds_69 : decode cX2_holds 69 = .ok (.iload_n 2, 1) := by decide +kernel
theorem dX2_holds_70 : decode cX2_holds 70 = .ok (.aload_n 0, 1) := by decide +kernel
theorem dX2_holds_71 : decode cX2_holds 71 = .ok (.getfield 60, 3) := by decide +kernel
theorem dX2_holds_74 : decode cX2_holds 74 = .ok (.if_icmp .ge 7, 3) := by decide +kernel
theorem dX2_holds_77 : decode cX2_holds 77 = .ok (.iconst 1, 1) := by decide +kernel
theorem dX2_holds_78 : decode cX2_holds 78 = .ok (.goto 4, 3) := by decide +kernel
theorem dX2_holds_81 : decode cX2_holds 81 = .ok (.iconst 0, 1) := by decide +kernel
theorem dX2_holds_82 : decode cX2_holds 82 = .ok (.ireturn, 1) := by decide +kernel
theorem dX2_holds_83 : decode cX2_holds 83 = .ok (.iconst 1, 1) := by decide +kernel
theorem dX2_holds_84 : decode cX2_holds 84 = .ok (.ireturn, 1) := by decide +kernel
theorem dX2_holds_85 : decode cX2_holds 85 = .ok (.iload_n 2, 1) := by decide +kernel
theorem dX2_holds_86 : decode cX2_holds 86 = .ok (.aload_n 0, 1) := by decide +kernel
theorem dX2_holds_87 : decode cX2_holds 87 = .ok (.getfield 60, 3) := by decide +kernel
theorem dX2_holds_90 : decode cX2_holds 90 = .ok (.if_icmp .ge 20, 3) := by decide +kernel
theorem dX2_holds_93 : decode cX2_holds 93 = .ok (.aload_n 0, 1) := by decide +kernel
theorem dX2_holds_94 : decode cX2_holds 94 = .ok (.getfield 70, 3) := by decide +kernel
theorem dX2_holds_97 : decode cX2_holds 97 = .ok (.aload_n 0, 1) := by decide +kernel
theorem dX2_holds_98 : decode cX2_holds 98 = .ok (.getfield 22, 3) := by decide +kernel
theorem dX2_holds_101 : decode cX2_holds 101 = .ok (.iload_n 1, 1) := by decide +kernel
theorem dX2_holds_102 : decode cX2_holds 102 = .ok (.iaload, 1) := by decide +kernel
theorem dX2_holds_103 : decode cX2_holds 103 = .ok (.if_icmp .lt 7, 3) := by decide +kernel
theorem dX2_holds_106 : decode cX2_holds 106 = .ok (.iconst 1, 1) := by decide +kernel
theorem dX2_holds_107 : decode cX2_holds 107 = .ok (.goto 4, 3) := by decide +kernel
theorem dX2_holds_110 : decode cX2_holds 110 = .ok (.iconst 0, 1) := by decide +kernel
theorem dX2_holds_111 : decode cX2_holds 111 = .ok (.ireturn, 1) := by decide +kernel
theorem dX2_holds_112 : decode cX2_holds 112 = .ok (.aload_n 0, 1) := by decide +kernel
theorem dX2_holds_113 : decode cX2_holds 113 = .ok (.getfield 70, 3) := by decide +kernel
theorem dX2_holds_116 : decode cX2_holds 116 = .ok (.iconst 2, 1) := by decide +kernel
theorem dX2_holds_117 : decode cX2_holds 117 = .ok (.iload_n 2, 1) := by decide +kernel
theorem dX2_holds_118 : decode cX2_holds 118 = .ok (.imul, 1) := by decide +kernel
theorem dX2_holds_119 : decode cX2_holds 119 = .ok (.if_icmp .lt 7, 3) := by decide +kernel
theorem dX2_holds_122 : decode cX2_holds 122 = .ok (.iconst 1, 1) := by decide +kernel
theorem dX2_holds_123 : decode cX2_holds 123 = .ok (.goto 4, 3) := by decide +kernel
theorem dX2_holds_126 : decode cX2_holds 126 = .ok (.iconst 0, 1) := by decide +kernel
theorem dX2_holds_127 : decode cX2_holds 127 = .ok (.ireturn, 1) := by decide +kernel
set_option maxRecDepth 20000 in
theorem ggX2_stick_X2_brings : GoodIn wsX2_stick wsX2_brings := goodIn_r _ [11, 12, 13, 22, 23, 24, 25, 26, 27, 28, 29, 30, 31, 32, 33, 34, 35, 36, 37, 38] (by decide +kernel) (by decide +kernel)
set_option maxRecDepth 20000 in
theorem gX2_stick_X2_brings : GoodIn wsX2_stick (wsV RX2 73 RX2 yX2_brings wsX2_brings) := goodIn_app (goodIn_of _ (by decide +kernel)) ggX2_stick_X2_brings
set_option maxRecDepth 20000 in
theorem ggX2_stick_X2_more : GoodIn wsX2_stick wsX2_more := goodIn_r _ [17, 18, 19, 20, 5, 21, 3, 4, 6, 22, 23, 24, 25, 26, 27, 28, 29, 30, 31, 32, 33, 34, 35, 36, 37, 38] (by decide +kernel) (by decide +kernel)
set_option maxRecDepth 20000 in
theorem gX2_stick_X2_more : GoodIn wsX2_stick (wsV RX2 76 RX2 yX2_more wsX2_more) := goodIn_app (goodIn_of _ (by decide +kernel)) ggX2_stick_X2_more
theorem dX2_stick_0 : decode cX2_stick 0 = .ok (.aload_n 0, 1) := by decide +kernel
theorem dX2_stick_1 : decode cX2_stick 1 = .ok (.dup, 1) := by decide +kernel
theorem dX2_stick_2 : decode cX2_stick 2 = .ok (.getfield 70, 3) := by decide +kernel
theorem dX2_stick_5 : decode cX2_stick 5 = .ok (.aload_n 0, 1) := by decide +kernel
theorem dX2_stick_6 : decode cX2_stick 6 = .ok (.iload_n 2, 1) := by decide +kernel
theorem dX2_stick_7 : decode cX2_stick 7 = .ok (.invokevirtual 73, 3) := by decide +kernel
theorem dX2_stick_10 : decode cX2_stick 10 = .ok (.iadd, 1) := by decide +kernel
theorem dX2_stick_11 : decode cX2_stick 11 = .ok (.putfield 70, 3) := by decide +kernel
theorem dX2_stick_14 : decode cX2_stick 14 = .ok (.iload_n 2, 1) := by decide +kernel
theorem dX2_stick_15 : decode cX2_stick 15 = .ok (.ifCond .le 32, 3) := by decide +kernel
theorem dX2_stick_18 : decode cX2_stick 18 = .ok (.aload_n 0, 1) := by decide +kernel
theorem dX2_stick_19 : decode cX2_stick 19 = .ok (.iload_n 1, 1) := by decide +kernel
theorem dX2_stick_20 : decode cX2_stick 20 = .ok (.iload_n 2, 1) := by decide +kernel
theorem dX2_stick_21 : decode cX2_stick 21 = .ok (.iconst 4, 1) := by decide +kernel
theorem dX2_stick_22 : decode cX2_stick 22 = .ok (.if_icmp .ge 8, 3) := by decide +kernel
theorem dX2_stick_25 : decode cX2_stick 25 = .ok (.bipush (-4), 2) := by decide +kernel
theorem dX2_stick_27 : decode cX2_stick 27 = .ok (.goto 14, 3) := by decide +kernel
theorem dX2_stick_30 : decode cX2_stick 30 = .ok (.iload_n 2, 1) := by decide +kernel
theorem dX2_stick_31 : decode cX2_stick 31 = .ok (.bipush 10, 2) := by decide +kernel
theorem dX2_stick_33 : decode cX2_stick 33 = .ok (.if_icmp .ge 7, 3) := by decide +kernel
theorem dX2_stick_36 : decode cX2_stick 36 = .ok (.iconst 1, 1) := by decide +kernel
theorem dX2_stick_37 : decode cX2_stick 37 = .ok (.goto 4, 3) := by decide +kernel
theorem dX2_stick_40 : decode cX2_stick 40 = .ok (.iconst 3, 1) := by decide +kernel
theorem dX2_stick_41 : decode cX2_stick 41 = .ok (.invokevirtual 76, 3) := by decide +kernel
theorem dX2_stick_44 : decode cX2_stick 44 = .ok (.goto 36, 3) := by decide +kernel
theorem dX2_stick_47 : decode cX2_stick 47 = .ok (.aload_n 0, 1) := by decide +kernel
theorem dX2_stick_48 : decode cX2_stick 48 = .ok (.iload_n 1, 1) := by decide +kernel
theorem dX2_stick_49 : decode cX2_stick 49 = .ok (.aload_n 0, 1) := by decide +kernel
theorem dX2_stick_50 : decode cX2_stick 50 = .ok (.getfield 80, 3) := by decide +kernel
theorem dX2_stick_53 : decode cX2_stick 53 = .ok (.ifCond .le 8, 3) := by decide +kernel
theorem dX2_stick_56 : decode cX2_stick 56 = .ok (.bipush (-30), 2) := by decide +kernel
theorem dX2_stick_58 : decode cX2_stick 58 = .ok (.goto 5, 3) := by decide +kernel
theorem dX2_stick_61 : decode cX2_stick 61 = .ok (.bipush (-60), 2) := by decide +kernel
theorem dX2_stick_63 : decode cX2_stick 63 = .ok (.invokevirtual 76, 3) := by decide +kernel
theorem dX2_stick_66 : decode cX2_stick 66 = .ok (.aload_n 0, 1) := by decide +kernel
theorem dX2_stick_67 : decode cX2_stick 67 = .ok (.iconst 0, 1) := by decide +kernel
theorem dX2_stick_68 : decode cX2_stick 68 = .ok (.aload_n 0, 1) := by decide +kernel
theorem dX2_stick_69 : decode cX2_stick 69 = .ok (.getfield 80, 3) := by decide +kernel
theorem dX2_stick_72 : decode cX2_stick 72 = .ok (.iconst 1, 1) := by decide +kernel
theorem dX2_stick_73 : decode cX2_stick 73 = .ok (.isub, 1) := by decide +kernel
theorem dX2_stick_74 : decode cX2_stick 74 = .ok (.invokestatic 57, 3) := by decide +kernel
theorem dX2_stick_77 : decode cX2_stick 77 = .ok (.putfield 80, 3) := by decide +kernel
theorem dX2_stick_80 : decode cX2_stick 80 = .ok (.return_, 1) := by decide +kernel
set_option maxRecDepth 20000 in
theorem ggX2_carryOut_X2_stick : GoodIn wsX2_carryOut wsX2_stick := goodIn_r _ [13, 7, 8, 14, 15, 16, 17, 18, 19, 20, 12, 21, 22, 6, 23, 24, 25, 26, 4, 27, 28, 29, 30, 31, 32, 33, 34, 35, 36, 37, 38, 39, 40, 41, 42, 43, 44, 45, 46] (by decide +kernel) (by decide +kernel)
set_option maxRecDepth 20000 in
theorem gX2_carryOut_X2_stick : GoodIn wsX2_carryOut (wsV RX2 83 RX2 yX2_stick wsX2_stick) := goodIn_app (goodIn_of _ (by decide +kernel)) ggX2_carryOut_X2_stick
set_option maxRecDepth 20000 in
theorem ggX2_carryOut_X2_more : GoodIn wsX2_carryOut wsX2_more := goodIn_r _ [26, 4, 27, 28, 16, 29, 14, 15, 17, 30, 31, 32, 33, 34, 35, 36, 37, 38, 39, 40, 41, 42, 43, 44, 45, 46] (by decide +kernel) (by decide +kernel)
set_option maxRecDepth 20000 in
theorem gX2_carryOut_X2_more : GoodIn wsX2_carryOut (wsV RX2 76 RX2 yX2_more wsX2_more) := goodIn_app (goodIn_of _ (by decide +kernel)) ggX2_carryOut_X2_more
theorem dX2_carryOut_0 : decode cX2_carryOut 0 = .ok (.aload_n 0, 1) := by decide +kernel
theorem dX2_carryOut_1 : decode cX2_carryOut 1 = .ok (.getfield 19, 3) := by decide +kernel
theorem dX2_carryOut_4 : decode cX2_carryOut 4 = .ok (.iload_n 1, 1) := by decide +kernel
theorem dX2_carryOut_5 : decode cX2_carryOut 5 = .ok (.iaload, 1) := by decide +kernel
theorem dX2_carryOut_6 : decode cX2_carryOut 6 = .ok (.istore_n 2, 1) := by decide +kernel
theorem dX2_carryOut_7 : decode cX2_carryOut 7 = .ok (.aload_n 0, 1) := by decide +kernel
theorem dX2_carryOut_8 : decode cX2_carryOut 8 = .ok (.getfield 22, 3) := by decide +kernel
theorem dX2_carryOut_11 : decode cX2_carryOut 11 = .ok (.iload_n 1, 1) := by decide +kernel
theorem dX2_carryOut_12 : decode cX2_carryOut 12 = .ok (.iaload, 1) := by decide +kernel
theorem dX2_carryOut_13 : decode cX2_carryOut 13 = .ok (.istore_n 3, 1) := by decide +kernel
theorem dX2_carryOut_14 : decode cX2_carryOut 14 = .ok (.aload_n 0, 1) := by decide +kernel
theorem dX2_carryOut_15 : decode cX2_carryOut 15 = .ok (.getfield 16, 3) := by decide +kernel
theorem dX2_carryOut_18 : decode cX2_carryOut 18 = .ok (.iload_n 1, 1) := by decide +kernel
theorem dX2_carryOut_19 : decode cX2_carryOut 19 = .ok (.iaload, 1) := by decide +kernel
theorem dX2_carryOut_20 : decode cX2_carryOut 20 = .ok (.tableswitch 97 0 4 #[36, 57, 64, 72, 78], 36) := by decide +kernel
theorem dX2_carryOut_56 : decode cX2_carryOut 56 = .ok (.aload_n 0, 1) := by decide +kernel
theorem dX2_carryOut_57 : decode cX2_carryOut 57 = .ok (.getfield 29, 3) := by decide +kernel
theorem dX2_carryOut_60 : decode cX2_carryOut 60 = .ok (.aload_n 0, 1) := by decide +kernel
theorem dX2_carryOut_61 : decode cX2_carryOut 61 = .ok (.getfield 60, 3) := by decide +kernel
theorem dX2_carryOut_64 : decode cX2_carryOut 64 = .ok (.iload_n 2, 1) := by decide +kernel
theorem dX2_carryOut_65 : decode cX2_carryOut 65 = .ok (.iastore, 1) := by decide +kernel
theorem dX2_carryOut_66 : decode cX2_carryOut 66 = .ok (.aload_n 0, 1) := by decide +kernel
theorem dX2_carryOut_67 : decode cX2_carryOut 67 = .ok (.dup, 1) := by decide +kernel
theorem dX2_carryOut_68 : decode cX2_carryOut 68 = .ok (.getfield 60, 3) := by decide +kernel
theorem dX2_carryOut_71 : decode cX2_carryOut 71 = .ok (.iconst 1, 1) := by decide +kernel
theorem dX2_carryOut_72 : decode cX2_carryOut 72 = .ok (.iadd, 1) := by decide +kernel
theorem dX2_carryOut_73 : decode cX2_carryOut 73 = .ok (.putfield 60, 3) := by decide +kernel
theorem dX2_carryOut_76 : decode cX2_carryOut 76 = .ok (.return_, 1) := by decide +kernel
theorem dX2_carryOut_77 : decode cX2_carryOut 77 = .ok (.aload_n 0, 1) := by decide +kernel
theorem dX2_carryOut_78 : decode cX2_carryOut 78 = .ok (.iload_n 2, 1) := by decide +kernel
theorem dX2_carryOut_79 : decode cX2_carryOut 79 = .ok (.iload_n 3, 1) := by decide +kernel
theorem dX2_carryOut_80 : decode cX2_carryOut 80 = .ok (.invokevirtual 83, 3) := by decide +kernel
theorem dX2_carryOut_83 : decode cX2_carryOut 83 = .ok (.return_, 1) := by decide +kernel
theorem dX2_carryOut_84 : decode cX2_carryOut 84 = .ok (.aload_n 0, 1) := by decide +kernel
theorem dX2_carryOut_85 : decode cX2_carryOut 85 = .ok (.iload_n 2, 1) := by decide +kernel
theorem dX2_carryOut_86 : decode cX2_carryOut 86 = .ok (.bipush 6, 2) := by decide +kernel
theorem dX2_carryOut_88 : decode cX2_carryOut 88 = .ok (.invokevirtual 76, 3) := by decide +kernel
theorem dX2_carryOut_91 : decode cX2_carryOut 91 = .ok (.return_, 1) := by decide +kernel
theorem dX2_carryOut_92 : decode cX2_carryOut 92 = .ok (.aload_n 0, 1) := by decide +kernel
theorem dX2_carryOut_93 : decode cX2_carryOut 93 = .ok (.iload_n 2, 1) := by decide +kernel
theorem dX2_carryOut_94 : decode cX2_carryOut 94 = .ok (.putfield 63, 3) := by decide +kernel
theorem dX2_carryOut_97 : decode cX2_carryOut 97 = .ok (.return_, 1) := by decide +kernel
theorem dX2_carryOut_98 : decode cX2_carryOut 98 = .ok (.aload_n 0, 1) := by decide +kernel
theorem dX2_carryOut_99 : decode cX2_carryOut 99 = .ok (.dup, 1) := by decide +kernel
theorem dX2_carryOut_100 : decode cX2_carryOut 100 = .ok (.getfield 70, 3) := by decide +kernel
theorem dX2_carryOut_103 : decode cX2_carryOut 103 = .ok (.iload_n 3, 1) := by decide +kernel
theorem dX2_carryOut_104 : decode cX2_carryOut 104 = .ok (.isub, 1) := by decide +kernel
theorem dX2_carryOut_105 : decode cX2_carryOut 105 = .ok (.putfield 70, 3) := by decide +kernel
theorem dX2_carryOut_108 : decode cX2_carryOut 108 = .ok (.aload_n 0, 1) := by decide +kernel
theorem dX2_carryOut_109 : decode cX2_carryOut 109 = .ok (.iload_n 2, 1) := by decide +kernel
theorem dX2_carryOut_110 : decode cX2_carryOut 110 = .ok (.iload_n 3, 1) := by decide +kernel
theorem dX2_carryOut_111 : decode cX2_carryOut 111 = .ok (.iconst 3, 1) := by decide +kernel
theorem dX2_carryOut_112 : decode cX2_carryOut 112 = .ok (.idiv, 1) := by decide +kernel
theorem dX2_carryOut_113 : decode cX2_carryOut 113 = .ok (.invokevirtual 76, 3) := by decide +kernel
theorem dX2_carryOut_116 : decode cX2_carryOut 116 = .ok (.return_, 1) := by decide +kernel
theorem dX2_carryOut_117 : decode cX2_carryOut 117 = .ok (.aload_n 0, 1) := by decide +kernel
theorem dX2_carryOut_118 : decode cX2_carryOut 118 = .ok (.dup, 1) := by decide +kernel
theorem dX2_carryOut_119 : decode cX2_carryOut 119 = .ok (.getfield 70, 3) := by decide +kernel
theorem dX2_carryOut_122 : decode cX2_carryOut 122 = .ok (.iconst 2, 1) := by decide +kernel
theorem dX2_carryOut_123 : decode cX2_carryOut 123 = .ok (.iload_n 2, 1) := by decide +kernel
theorem dX2_carryOut_124 : decode cX2_carryOut 124 = .ok (.imul, 1) := by decide +kernel
theorem dX2_carryOut_125 : decode cX2_carryOut 125 = .ok (.isub, 1) := by decide +kernel
theorem dX2_carryOut_126 : decode cX2_carryOut 126 = .ok (.putfield 70, 3) := by decide +kernel
theorem dX2_carryOut_129 : decode cX2_carryOut 129 = .ok (.aload_n 0, 1) := by decide +kernel
theorem dX2_carryOut_130 : decode cX2_carryOut 130 = .ok (.dup, 1) := by decide +kernel
theorem dX2_carryOut_131 : decode cX2_carryOut 131 = .ok (.getfield 80, 3) := by decide +kernel
theorem dX2_carryOut_134 : decode cX2_carryOut 134 = .ok (.iload_n 2, 1) := by decide +kernel
theorem dX2_carryOut_135 : decode cX2_carryOut 135 = .ok (.iadd, 1) := by decide +kernel
theorem dX2_carryOut_136 : decode cX2_carryOut 136 = .ok (.putfield 80, 3) := by decide +kernel
theorem dX2_carryOut_139 : decode cX2_carryOut 139 = .ok (.return_, 1) := by decide +kernel
set_option maxRecDepth 20000 in
theorem ggX2_reckon_X2_holds : GoodIn wsX2_reckon wsX2_holds := goodIn_r _ [18, 19, 20, 4, 1, 21, 22, 23, 24, 17, 25, 26, 27, 3, 48, 49, 50, 51, 52, 53, 54, 55, 56, 57, 58, 59, 60, 61, 62, 63, 64] (by decide +kernel) (by decide +kernel)
set_option maxRecDepth 20000 in
theorem gX2_reckon_X2_holds : GoodIn wsX2_reckon (wsV RX2 98 RX2 yX2_holds wsX2_holds) := goodIn_app (goodIn_of _ (by decide +kernel)) ggX2_reckon_X2_holds
set_option maxRecDepth 20000 in
theorem ggX2_reckon_X2_carryOut : GoodIn wsX2_reckon wsX2_carryOut := goodIn_r _ [31, 19, 21, 20, 26, 4, 3, 1, 2, 32, 33, 34, 17, 35, 36, 37, 12, 38, 39, 40, 41, 42, 43, 44, 45, 46, 47, 10, 11, 13, 48, 49, 50, 51, 52, 53, 54, 55, 56, 57, 58, 59, 60, 61, 62, 63, 64] (by decide +kernel) (by decide +kernel)
set_option maxRecDepth 20000 in
theorem gX2_reckon_X2_carryOut : GoodIn wsX2_reckon (wsV RX2 101 RX2 yX2_carryOut wsX2_carryOut) := goodIn_app (goodIn_of _ (by decide +kernel)) ggX2_reckon_X2_carryOut
theorem dX2_reckon_0 : decode cX2_reckon 0 = .ok (.aload_n 0, 1) := by decide +kernel
theorem dX2_reckon_1 : decode cX2_reckon 1 = .ok (.bipush 10, 2) := by decide +kernel
theorem dX2_reckon_3 : decode cX2_reckon 3 = .ok (.putfield 70, 3) := by decide +kernel
theorem dX2_reckon_6 : decode cX2_reckon 6 = .ok (.aload_n 0, 1) := by decide +kernel
theorem dX2_reckon_7 : decode cX2_reckon 7 = .ok (.iconst 0, 1) := by decide +kernel
theorem dX2_reckon_8 : decode cX2_reckon 8 = .ok (.putfield 80, 3) := by decide +kernel
theorem dX2_reckon_11 : decode cX2_reckon 11 = .ok (.aload_n 0, 1) := by decide +kernel
theorem dX2_reckon_12 : decode cX2_reckon 12 = .ok (.iconst 0, 1) := by decide +kernel
theorem dX2_reckon_13 : decode cX2_reckon 13 = .ok (.putfield 63, 3) := by decide +kernel
theorem dX2_reckon_16 : decode cX2_reckon 16 = .ok (.aload_n 0, 1) := by decide +kernel
theorem dX2_reckon_17 : decode cX2_reckon 17 = .ok (.iconst 0, 1) := by decide +kernel
theorem dX2_reckon_18 : decode cX2_reckon 18 = .ok (.putfield 60, 3) := by decide +kernel
theorem dX2_reckon_21 : decode cX2_reckon 21 = .ok (.aload_n 0, 1) := by decide +kernel
theorem dX2_reckon_22 : decode cX2_reckon 22 = .ok (.iconst 0, 1) := by decide +kernel
theorem dX2_reckon_23 : decode cX2_reckon 23 = .ok (.putfield 86, 3) := by decide +kernel
theorem dX2_reckon_26 : decode cX2_reckon 26 = .ok (.aload_n 0, 1) := by decide +kernel
theorem dX2_reckon_27 : decode cX2_reckon 27 = .ok (.iconst 0, 1) := by decide +kernel
theorem dX2_reckon_28 : decode cX2_reckon 28 = .ok (.putfield 89, 3) := by decide +kernel
theorem dX2_reckon_31 : decode cX2_reckon 31 = .ok (.aload_n 0, 1) := by decide +kernel
theorem dX2_reckon_32 : decode cX2_reckon 32 = .ok (.iconst (-1), 1) := by decide +kernel
theorem dX2_reckon_33 : decode cX2_reckon 33 = .ok (.putfield 92, 3) := by decide +kernel
theorem dX2_reckon_36 : decode cX2_reckon 36 = .ok (.aload_n 0, 1) := by decide +kernel
theorem dX2_reckon_37 : decode cX2_reckon 37 = .ok (.aload_n 0, 1) := by decide +kernel
theorem dX2_reckon_38 : decode cX2_reckon 38 = .ok (.getfield 70, 3) := by decide +kernel
theorem dX2_reckon_41 : decode cX2_reckon 41 = .ok (.putfield 95, 3) := by decide +kernel
theorem dX2_reckon_44 : decode cX2_reckon 44 = .ok (.iconst 0, 1) := by decide +kernel
theorem dX2_reckon_45 : decode cX2_reckon 45 = .ok (.istore_n 2, 1) := by decide +kernel
theorem dX2_reckon_46 : decode cX2_reckon 46 = .ok (.iconst 0, 1) := by decide +kernel
theorem dX2_reckon_47 : decode cX2_reckon 47 = .ok (.istore_n 3, 1) := by decide +kernel
theorem dX2_reckon_48 : decode cX2_reckon 48 = .ok (.iload_n 3, 1) := by decide +kernel
theorem dX2_reckon_49 : decode cX2_reckon 49 = .ok (.iload_n 1, 1) := by decide +kernel
theorem dX2_reckon_50 : decode cX2_reckon 50 = .ok (.if_icmp .ge 101, 3) := by decide +kernel
theorem dX2_reckon_53 : decode cX2_reckon 53 = .ok (.aload_n 0, 1) := by decide +kernel
theorem dX2_reckon_54 : decode cX2_reckon 54 = .ok (.getfield 25, 3) := by decide +kernel
theorem dX2_reckon_57 : decode cX2_reckon 57 = .ok (.iload_n 3, 1) := by decide +kernel
theorem dX2_reckon_58 : decode cX2_reckon 58 = .ok (.baload, 1) := by decide +kernel
theorem dX2_reckon_59 : decode cX2_reckon 59 = .ok (.ifCond .ne 15, 3) := by decide +kernel
theorem dX2_reckon_62 : decode cX2_reckon 62 = .ok (.aload_n 0, 1) := by decide +kernel
theorem dX2_reckon_63 : decode cX2_reckon 63 = .ok (.iload_n 3, 1) := by decide +kernel
theorem dX2_reckon_64 : decode cX2_reckon 64 = .ok (.invokevirtual 98, 3) := by decide +kernel
theorem dX2_reckon_67 : decode cX2_reckon 67 = .ok (.ifCond .eq 7, 3) := by decide +kernel
theorem dX2_reckon_70 : decode cX2_reckon 70 = .ok (.iconst 1, 1) := by decide +kernel
theorem dX2_reckon_71 : decode cX2_reckon 71 = .ok (.goto 4, 3) := by decide +kernel
theorem dX2_reckon_74 : decode cX2_reckon 74 = .ok (.iconst 0, 1) := by decide +kernel
theorem dX2_reckon_75 : decode cX2_reckon 75 = .ok (.istore_n 2, 1) := by decide +kernel
theorem dX2_reckon_76 : decode cX2_reckon 76 = .ok (.iload_n 2, 1) := by decide +kernel
theorem dX2_reckon_77 : decode cX2_reckon 77 = .ok (.ifCond .eq 36, 3) := by decide +kernel
theorem dX2_reckon_80 : decode cX2_reckon 80 = .ok (.aload_n 0, 1) := by decide +kernel
theorem dX2_reckon_81 : decode cX2_reckon 81 = .ok (.iload_n 3, 1) := by decide +kernel
theorem dX2_reckon_82 : decode cX2_reckon 82 = .ok (.invokevirtual 101, 3) := by decide +kernel
theorem dX2_reckon_85 : decode cX2_reckon 85 = .ok (.aload_n 0, 1) := by decide +kernel
theorem dX2_reckon_86 : decode cX2_reckon 86 = .ok (.dup, 1) := by decide +kernel
theorem dX2_reckon_87 : decode cX2_reckon 87 = .ok (.getfield 86, 3) := by decide +kernel
theorem dX2_reckon_90 : decode cX2_reckon 90 = .ok (.iconst 1, 1) := by decide +kernel
theorem dX2_reckon_91 : decode cX2_reckon 91 = .ok (.iadd, 1) := by decide +kernel
theorem dX2_reckon_92 : decode cX2_reckon 92 = .ok (.putfield 86, 3) := by decide +kernel
theorem dX2_reckon_95 : decode cX2_reckon 95 = .ok (.aload_n 0, 1) := by decide +kernel
theorem dX2_reckon_96 : decode cX2_reckon 96 = .ok (.aload_n 0, 1) := by decide +kernel
theorem dX2_reckon_97 : decode cX2_reckon 97 = .ok (.getfield 95, 3) := by decide +kernel
theorem dX2_reckon_100 : decode cX2_reckon 100 = .ok (.aload_n 0, 1) := by decide +kernel
theorem dX2_reckon_101 : decode cX2_reckon 101 = .ok (.getfield 70, 3) := by decide +kernel
theorem dX2_reckon_104 : decode cX2_reckon 104 = .ok (.invokestatic 51, 3) := by decide +kernel
theorem dX2_reckon_107 : decode cX2_reckon 107 = .ok (.putfield 95, 3) := by decide +kernel
theorem dX2_reckon_110 : decode cX2_reckon 110 = .ok (.goto 35, 3) := by decide +kernel
theorem dX2_reckon_113 : decode cX2_reckon 113 = .ok (.aload_n 0, 1) := by decide +kernel
theorem dX2_reckon_114 : decode cX2_reckon 114 = .ok (.getfield 25, 3) := by decide +kernel
theorem dX2_reckon_117 : decode cX2_reckon 117 = .ok (.iload_n 3, 1) := by decide +kernel
theorem dX2_reckon_118 : decode cX2_reckon 118 = .ok (.baload, 1) := by decide +kernel
theorem dX2_reckon_119 : decode cX2_reckon 119 = .ok (.ifCond .ne 26, 3) := by decide +kernel
theorem dX2_reckon_122 : decode cX2_reckon 122 = .ok (.aload_n 0, 1) := by decide +kernel
theorem dX2_reckon_123 : decode cX2_reckon 123 = .ok (.dup, 1) := by decide +kernel
theorem dX2_reckon_124 : decode cX2_reckon 124 = .ok (.getfield 89, 3) := by decide +kernel
theorem dX2_reckon_127 : decode cX2_reckon 127 = .ok (.iconst 1, 1) := by decide +kernel
theorem dX2_reckon_128 : decode cX2_reckon 128 = .ok (.iadd, 1) := by decide +kernel
theorem dX2_reckon_129 : decode cX2_reckon 129 = .ok (.putfield 89, 3) := by decide +kernel
theorem dX2_reckon_132 : decode cX2_reckon 132 = .ok (.aload_n 0, 1) := by decide +kernel
theorem dX2_reckon_133 : decode cX2_reckon 133 = .ok (.getfield 92, 3) := by decide +kernel
theorem dX2_reckon_136 : decode cX2_reckon 136 = .ok (.iconst (-1), 1) := by decide +kernel
theorem dX2_reckon_137 : decode cX2_reckon 137 = .ok (.if_icmp .ne 8, 3) := by decide +kernel
theorem dX2_reckon_140 : decode cX2_reckon 140 = .ok (.aload_n 0, 1) := by decide +kernel
theorem dX2_reckon_141 : decode cX2_reckon 141 = .ok (.iload_n 3, 1) := by decide +kernel
theorem dX2_reckon_142 : decode cX2_reckon 142 = .ok (.putfield 92, 3) := by decide +kernel
theorem dX2_reckon_145 : decode cX2_reckon 145 = .ok (.iinc 3 1, 3) := by decide +kernel
theorem dX2_reckon_148 : decode cX2_reckon 148 = .ok (.goto (-100), 3) := by decide +kernel
theorem dX2_reckon_151 : decode cX2_reckon 151 = .ok (.iload_n 2, 1) := by decide +kernel
theorem dX2_reckon_152 : decode cX2_reckon 152 = .ok (.ireturn, 1) := by decide +kernel
theorem dX2_trustAll_0 : decode cX2_trustAll 0 = .ok (.iconst 0, 1) := by decide +kernel
theorem dX2_trustAll_1 : decode cX2_trustAll 1 = .ok (.istore_n 1, 1) := by decide +kernel
theorem dX2_trustAll_2 : decode cX2_trustAll 2 = .ok (.iconst 0, 1) := by decide +kernel
theorem dX2_trustAll_3 : decode cX2_trustAll 3 = .ok (.istore_n 2, 1) := by decide +kernel
theorem dX2_trustAll_4 : decode cX2_trustAll 4 = .ok (.iload_n 2, 1) := by decide +kernel
theorem dX2_trustAll_5 : decode cX2_trustAll 5 = .ok (.aload_n 0, 1) := by decide +kernel
theorem dX2_trustAll_6 : decode cX2_trustAll 6 = .ok (.getfield 60, 3) := by decide +kernel
theorem dX2_trustAll_9 : decode cX2_trustAll 9 = .ok (.if_icmp .ge 18, 3) := by decide +kernel
theorem dX2_trustAll_12 : decode cX2_trustAll 12 = .ok (.iload_n 1, 1) := by decide +kernel
theorem dX2_trustAll_13 : decode cX2_trustAll 13 = .ok (.aload_n 0, 1) := by decide +kernel
theorem dX2_trustAll_14 : decode cX2_trustAll 14 = .ok (.getfield 29, 3) := by decide +kernel
theorem dX2_trustAll_17 : decode cX2_trustAll 17 = .ok (.iload_n 2, 1) := by decide +kernel
theorem dX2_trustAll_18 : decode cX2_trustAll 18 = .ok (.iaload, 1) := by decide +kernel
theorem dX2_trustAll_19 : decode cX2_trustAll 19 = .ok (.iadd, 1) := by decide +kernel
theorem dX2_trustAll_20 : decode cX2_trustAll 20 = .ok (.istore_n 1, 1) := by decide +kernel
theorem dX2_trustAll_21 : decode cX2_trustAll 21 = .ok (.iinc 2 1, 3) := by decide +kernel
theorem dX2_trustAll_24 : decode cX2_trustAll 24 = .ok (.goto (-20), 3) := by decide +kernel
theorem dX2_trustAll_27 : decode cX2_trustAll 27 = .ok (.iload_n 1, 1) := by decide +kernel
theorem dX2_trustAll_28 : decode cX2_trustAll 28 = .ok (.ireturn, 1) := by decide +kernel
set_option maxRecDepth 20000 in
theorem ggX2_strike_X2_isEntry : GoodIn wsX2_strike wsX2_isEntry := goodIn_r _ [7, 8, 9, 10, 6, 11, 12, 13, 14, 15, 16, 17, 18, 19, 20, 21, 22, 23, 24, 25, 26, 27, 28] (by decide +kernel) (by decide +kernel)
set_option maxRecDepth 20000 in
theorem gX2_strike_X2_isEntry : GoodIn wsX2_strike (wsV RX2 105 RX2 yX2_isEntry wsX2_isEntry) := goodIn_app (goodIn_of _ (by decide +kernel)) ggX2_strike_X2_isEntry
theorem dX2_strike_0 : decode cX2_strike 0 = .ok (.aload_n 0, 1) := by decide +kernel
theorem dX2_strike_1 : decode cX2_strike 1 = .ok (.aload_n 0, 1) := by decide +kernel
theorem dX2_strike_2 : decode cX2_strike 2 = .ok (.iload_n 1, 1) := by decide +kernel
theorem dX2_strike_3 : decode cX2_strike 3 = .ok (.invokevirtual 105, 3) := by decide +kernel
theorem dX2_strike_6 : decode cX2_strike 6 = .ok (.ifCond .eq 7, 3) := by decide +kernel
theorem dX2_strike_9 : decode cX2_strike 9 = .ok (.iconst 0, 1) := by decide +kernel
theorem dX2_strike_10 : decode cX2_strike 10 = .ok (.goto 4, 3) := by decide +kernel
theorem dX2_strike_13 : decode cX2_strike 13 = .ok (.iconst 1, 1) := by decide +kernel
theorem dX2_strike_14 : decode cX2_strike 14 = .ok (.putfield 32, 3) := by decide +kernel
theorem dX2_strike_17 : decode cX2_strike 17 = .ok (.aload_n 0, 1) := by decide +kernel
theorem dX2_strike_18 : decode cX2_strike 18 = .ok (.getfield 32, 3) := by decide +kernel
theorem dX2_strike_21 : decode cX2_strike 21 = .ok (.ifCond .eq 5, 3) := by decide +kernel
theorem dX2_strike_24 : decode cX2_strike 24 = .ok (.iconst 0, 1) := by decide +kernel
theorem dX2_strike_25 : decode cX2_strike 25 = .ok (.ireturn, 1) := by decide +kernel
theorem dX2_strike_26 : decode cX2_strike 26 = .ok (.aload_n 0, 1) := by decide +kernel
theorem dX2_strike_27 : decode cX2_strike 27 = .ok (.getfield 25, 3) := by decide +kernel
theorem dX2_strike_30 : decode cX2_strike 30 = .ok (.iload_n 1, 1) := by decide +kernel
theorem dX2_strike_31 : decode cX2_strike 31 = .ok (.aload_n 0, 1) := by decide +kernel
theorem dX2_strike_32 : decode cX2_strike 32 = .ok (.getfield 25, 3) := by decide +kernel
theorem dX2_strike_35 : decode cX2_strike 35 = .ok (.iload_n 1, 1) := by decide +kernel
theorem dX2_strike_36 : decode cX2_strike 36 = .ok (.baload, 1) := by decide +kernel
theorem dX2_strike_37 : decode cX2_strike 37 = .ok (.ifCond .ne 7, 3) := by decide +kernel
theorem dX2_strike_40 : decode cX2_strike 40 = .ok (.iconst 1, 1) := by decide +kernel
theorem dX2_strike_41 : decode cX2_strike 41 = .ok (.goto 4, 3) := by decide +kernel
theorem dX2_strike_44 : decode cX2_strike 44 = .ok (.iconst 0, 1) := by decide +kernel
theorem dX2_strike_45 : decode cX2_strike 45 = .ok (.bastore, 1) := by decide +kernel
theorem dX2_strike_46 : decode cX2_strike 46 = .ok (.aload_n 0, 1) := by decide +kernel
theorem dX2_strike_47 : decode cX2_strike 47 = .ok (.getfield 25, 3) := by decide +kernel
theorem dX2_strike_50 : decode cX2_strike 50 = .ok (.iload_n 1, 1) := by decide +kernel
theorem dX2_strike_51 : decode cX2_strike 51 = .ok (.baload, 1) := by decide +kernel
theorem dX2_strike_52 : decode cX2_strike 52 = .ok (.ireturn, 1) := by decide +kernel
theorem dX2_exchange_0 : decode cX2_exchange 0 = .ok (.aload_n 0, 1) := by decide +kernel
theorem dX2_exchange_1 : decode cX2_exchange 1 = .ok (.getfield 16, 3) := by decide +kernel
theorem dX2_exchange_4 : decode cX2_exchange 4 = .ok (.iload_n 1, 1) := by decide +kernel
theorem dX2_exchange_5 : decode cX2_exchange 5 = .ok (.iaload, 1) := by decide +kernel
theorem dX2_exchange_6 : decode cX2_exchange 6 = .ok (.istore_n 3, 1) := by decide +kernel
theorem dX2_exchange_7 : decode cX2_exchange 7 = .ok (.aload_n 0, 1) := by decide +kernel
theorem dX2_exchange_8 : decode cX2_exchange 8 = .ok (.getfield 19, 3) := by decide +kernel
theorem dX2_exchange_11 : decode cX2_exchange 11 = .ok (.iload_n 1, 1) := by decide +kernel
theorem dX2_exchange_12 : decode cX2_exchange 12 = .ok (.iaload, 1) := by decide +kernel
theorem dX2_exchange_13 : decode cX2_exchange 13 = .ok (.istore 4, 2) := by decide +kernel
theorem dX2_exchange_15 : decode cX2_exchange 15 = .ok (.aload_n 0, 1) := by decide +kernel
theorem dX2_exchange_16 : decode cX2_exchange 16 = .ok (.getfield 22, 3) := by decide +kernel
theorem dX2_exchange_19 : decode cX2_exchange 19 = .ok (.iload_n 1, 1) := by decide +kernel
theorem dX2_exchange_20 : decode cX2_exchange 20 = .ok (.iaload, 1) := by decide +kernel
theorem dX2_exchange_21 : decode cX2_exchange 21 = .ok (.istore 5, 2) := by decide +kernel
theorem dX2_exchange_23 : decode cX2_exchange 23 = .ok (.aload_n 0, 1) := by decide +kernel
theorem dX2_exchange_24 : decode cX2_exchange 24 = .ok (.getfield 25, 3) := by decide +kernel
theorem dX2_exchange_27 : decode cX2_exchange 27 = .ok (.iload_n 1, 1) := by decide +kernel
theorem dX2_exchange_28 : decode cX2_exchange 28 = .ok (.baload, 1) := by decide +kernel
theorem dX2_exchange_29 : decode cX2_exchange 29 = .ok (.istore 6, 2) := by decide +kernel
theorem dX2_exchange_31 : decode cX2_exchange 31 = .ok (.aload_n 0, 1) := by decide +kernel
theorem dX2_exchange_32 : decode cX2_exchange 32 = .ok (.getfield 16, 3) := by decide +kernel
theorem dX2_exchange_35 : decode cX2_exchange 35 = .ok (.iload_n 1, 1) := by decide +kernel
theorem dX2_exchange_36 : decode cX2_exchange 36 = .ok (.aload_n 0, 1) := by decide +kernel
theorem dX2_exchange_37 : decode cX2_exchange 37 = .ok (.getfield 16, 3) := by decide +kernel
theorem dX2_exchange_40 : decode cX2_exchange 40 = .ok (.iload_n 2, 1) := by decide +kernel
theorem dX2_exchange_41 : decode cX2_exchange 41 = .ok (.iaload, 1) := by decide +kernel
theorem dX2_exchange_42 : decode cX2_exchange 42 = .ok (.iastore, 1) := by decide +kernel
theorem dX2_exchange_43 : decode cX2_exchange 43 = .ok (.aload_n 0, 1) := by decide +kernel
theorem dX2_exchange_44 : decode cX2_exchange 44 = .ok (.getfield 19, 3) := by decide +kernel
theorem dX2_exchange_47 : decode cX2_exchange 47 = .ok (.iload_n 1, 1) := by decide +kernel
theorem dX2_exchange_48 : decode cX2_exchange 48 = .ok (.aload_n 0, 1) := by decide +kernel
theorem dX2_exchange_49 : decode cX2_exchange 49 = .ok (.getfield 19, 3) := by decide +kernel
theorem dX2_exchange_52 : decode cX2_exchange 52 = .ok (.iload_n 2, 1) := by decide +kernel
theorem dX2_exchange_53 : decode cX2_exchange 53 = .ok (.iaload, 1) := by decide +kernel
theorem dX2_exchange_54 : decode cX2_exchange 54 = .ok (.iastore, 1) := by decide +kernel
theorem dX2_exchange_55 : decode cX2_exchange 55 = .ok (.aload_n 0, 1) := by decide +kernel
theorem dX2_exchange_56 : decode cX2_exchange 56 = .ok (.getfield 22, 3) := by decide +kernel
theorem dX2_exchange_59 : decode cX2_exchange 59 = .ok (.iload_n 1, 1) := by decide +kernel
theorem dX2_exchange_60 : decode cX2_exchange 60 = .ok (.aload_n 0, 1) := by decide +kernel
theorem dX2_exchange_61 : decode cX2_exchange 61 = .ok (.getfield 22, 3) := by decide +kernel
theorem dX2_exchange_64 : decode cX2_exchange 64 = .ok (.iload_n 2, 1) := by decide +kernel
theorem dX2_exchange_65 : decode cX2_exchange 65 = .ok (.iaload, 1) := by decide +kernel
theorem dX2_exchange_66 : decode cX2_exchange 66 = .ok (.iastore, 1) := by decide +kernel
theorem dX2_exchange_67 : decode cX2_exchange 67 = .ok (.aload_n 0, 1) := by decide +kernel
theorem dX2_exchange_68 : decode cX2_exchange 68 = .ok (.getfield 25, 3) := by decide +kernel
theorem dX2_exchange_71 : decode cX2_exchange 71 = .ok (.iload_n 1, 1) := by decide +kernel
theorem dX2_exchange_72 : decode cX2_exchange 72 = .ok (.aload_n 0, 1) := by decide +kernel
theorem dX2_exchange_73 : decode cX2_exchange 73 = .ok (.getfield 25, 3) := by decide +kernel
theorem dX2_exchange_76 : decode cX2_exchange 76 = .ok (.iload_n 2, 1) := by decide +kernel
theorem dX2_exchange_77 : decode cX2_exchange 77 = .ok (.baload, 1) := by decide +kernel
theorem dX2_exchange_78 : decode cX2_exchange 78 = .ok (.bastore, 1) := by decide +kernel
theorem dX2_exchange_79 : decode cX2_exchange 79 = .ok (.aload_n 0, 1) := by decide +kernel
theorem dX2_exchange_80 : decode cX2_exchange 80 = .ok (.getfield 16, 3) := by decide +kernel
theorem dX2_exchange_83 : decode cX2_exchange 83 = .ok (.iload_n 2, 1) := by decide +kernel
theorem dX2_exchange_84 : decode cX2_exchange 84 = .ok (.iload_n 3, 1) := by decide +kernel
theorem dX2_exchange_85 : decode cX2_exchange 85 = .ok (.iastore, 1) := by decide +kernel
theorem dX2_exchange_86 : decode cX2_exchange 86 = .ok (.aload_n 0, 1) := by decide +kernel
theorem dX2_exchange_87 : decode cX2_exchange 87 = .ok (.getfield 19, 3) := by decide +kernel
theorem dX2_exchange_90 : decode cX2_exchange 90 = .ok (.iload_n 2, 1) := by decide +kernel
theorem dX2_exchange_91 : decode cX2_exchange 91 = .ok (.iload 4, 2) := by decide +kernel
theorem dX2_exchange_93 : decode cX2_exchange 93 = .ok (.iastore, 1) := by decide +kernel
theorem dX2_exchange_94 : decode cX2_exchange 94 = .ok (.aload_n 0, 1) := by decide +kernel
theorem dX2_exchange_95 : decode cX2_exchange 95 = .ok (.getfield 22, 3) := by decide +kernel
theorem dX2_exchange_98 : decode cX2_exchange 98 = .ok (.iload_n 2, 1) := by decide +kernel
theorem dX2_exchange_99 : decode cX2_exchange 99 = .ok (.iload 5, 2) := by decide +kernel
theorem dX2_exchange_101 : decode cX2_exchange 101 = .ok (.iastore, 1) := by decide +kernel
theorem dX2_exchange_102 : decode cX2_exchange 102 = .ok (.aload_n 0, 1) := by decide +kernel
theorem dX2_exchange_103 : decode cX2_exchange 103 = .ok (.getfield 25, 3) := by decide +kernel
theorem dX2_exchange_106 : decode cX2_exchange 106 = .ok (.iload_n 2, 1) := by decide +kernel
theorem dX2_exchange_107 : decode cX2_exchange 107 = .ok (.iload 6, 2) := by decide +kernel
theorem dX2_exchange_109 : decode cX2_exchange 109 = .ok (.bastore, 1) := by decide +kernel
theorem dX2_exchange_110 : decode cX2_exchange 110 = .ok (.return_, 1) := by decide +kernel
set_option maxRecDepth 20000 in
theorem ggX2_shift_X2_isEntry : GoodIn wsX2_shift wsX2_isEntry := goodIn_r _ [7, 8, 9, 10, 6, 11, 23, 24, 25, 26, 27, 28, 29, 30, 31, 32, 33, 34, 35, 36, 37, 38, 39] (by decide +kernel) (by decide +kernel)
set_option maxRecDepth 20000 in
theorem gX2_shift_X2_isEntry : GoodIn wsX2_shift (wsV RX2 105 RX2 yX2_isEntry wsX2_isEntry) := goodIn_app (goodIn_of _ (by decide +kernel)) ggX2_shift_X2_isEntry
set_option maxRecDepth 20000 in
theorem ggX2_shift_X2_fail : GoodIn wsX2_shift wsX2_fail := goodIn_r _ [15, 1, 23, 24, 25, 26, 27, 28, 29, 30, 31, 32, 33, 34, 35, 36, 37, 38, 39] (by decide +kernel) (by decide +kernel)
set_option maxRecDepth 20000 in
theorem gX2_shift_X2_fail : GoodIn wsX2_shift (wsV RX2 43 RX2 yX2_fail wsX2_fail) := goodIn_app (goodIn_of _ (by decide +kernel)) ggX2_shift_X2_fail
set_option maxRecDepth 20000 in
theorem ggX2_shift_X2_exchange : GoodIn wsX2_shift wsX2_exchange := goodIn_r _ [19, 2, 20, 21, 22, 23, 24, 25, 26, 27, 28, 29, 30, 31, 32, 33, 34, 35, 36, 37, 38, 39] (by decide +kernel) (by decide +kernel)
set_option maxRecDepth 20000 in
theorem gX2_shift_X2_exchange : GoodIn wsX2_shift (wsV RX2 108 RX2 yX2_exchange wsX2_exchange) := goodIn_app (goodIn_of _ (by decide +kernel)) ggX2_shift_X2_exchange
theorem dX2_shift_0 : decode cX2_shift 0 = .ok (.aload_n 0, 1) := by decide +kernel
theorem dX2_shift_1 : decode cX2_shift 1 = .ok (.iconst 0, 1) := by decide +kernel
theorem dX2_shift_2 : decode cX2_shift 2 = .ok (.putfield 32, 3) := by decide +kernel
theorem dX2_shift_5 : decode cX2_shift 5 = .ok (.aload_n 0, 1) := by decide +kernel
theorem dX2_shift_6 : decode cX2_shift 6 = .ok (.iload_n 1, 1) := by decide +kernel
theorem dX2_shift_7 : decode cX2_shift 7 = .ok (.invokevirtual 105, 3) := by decide +kernel
theorem dX2_shift_10 : decode cX2_shift 10 = .ok (.ifCond .eq 11, 3) := by decide +kernel
theorem dX2_shift_13 : decode cX2_shift 13 = .ok (.aload_n 0, 1) := by decide +kernel
theorem dX2_shift_14 : decode cX2_shift 14 = .ok (.iload_n 2, 1) := by decide +kernel
theorem dX2_shift_15 : decode cX2_shift 15 = .ok (.invokevirtual 105, 3) := by decide +kernel
theorem dX2_shift_18 : decode cX2_shift 18 = .ok (.ifCond .ne 9, 3) := by decide +kernel
theorem dX2_shift_21 : decode cX2_shift 21 = .ok (.aload_n 0, 1) := by decide +kernel
theorem dX2_shift_22 : decode cX2_shift 22 = .ok (.iconst 1, 1) := by decide +kernel
theorem dX2_shift_23 : decode cX2_shift 23 = .ok (.invokevirtual 43, 3) := by decide +kernel
theorem dX2_shift_26 : decode cX2_shift 26 = .ok (.ireturn, 1) := by decide +kernel
theorem dX2_shift_27 : decode cX2_shift 27 = .ok (.iload_n 1, 1) := by decide +kernel
theorem dX2_shift_28 : decode cX2_shift 28 = .ok (.istore_n 3, 1) := by decide +kernel
theorem dX2_shift_29 : decode cX2_shift 29 = .ok (.iload_n 3, 1) := by decide +kernel
theorem dX2_shift_30 : decode cX2_shift 30 = .ok (.iload_n 2, 1) := by decide +kernel
theorem dX2_shift_31 : decode cX2_shift 31 = .ok (.if_icmp .ge 17, 3) := by decide +kernel
theorem dX2_shift_34 : decode cX2_shift 34 = .ok (.aload_n 0, 1) := by decide +kernel
theorem dX2_shift_35 : decode cX2_shift 35 = .ok (.iload_n 3, 1) := by decide +kernel
theorem dX2_shift_36 : decode cX2_shift 36 = .ok (.iload_n 3, 1) := by decide +kernel
theorem dX2_shift_37 : decode cX2_shift 37 = .ok (.iconst 1, 1) := by decide +kernel
theorem dX2_shift_38 : decode cX2_shift 38 = .ok (.iadd, 1) := by decide +kernel
theorem dX2_shift_39 : decode cX2_shift 39 = .ok (.invokevirtual 108, 3) := by decide +kernel
theorem dX2_shift_42 : decode cX2_shift 42 = .ok (.iinc 3 1, 3) := by decide +kernel
theorem dX2_shift_45 : decode cX2_shift 45 = .ok (.goto (-16), 3) := by decide +kernel
theorem dX2_shift_48 : decode cX2_shift 48 = .ok (.iload_n 1, 1) := by decide +kernel
theorem dX2_shift_49 : decode cX2_shift 49 = .ok (.istore_n 3, 1) := by decide +kernel
theorem dX2_shift_50 : decode cX2_shift 50 = .ok (.iload_n 3, 1) := by decide +kernel
theorem dX2_shift_51 : decode cX2_shift 51 = .ok (.iload_n 2, 1) := by decide +kernel
theorem dX2_shift_52 : decode cX2_shift 52 = .ok (.if_icmp .le 17, 3) := by decide +kernel
theorem dX2_shift_55 : decode cX2_shift 55 = .ok (.aload_n 0, 1) := by decide +kernel
theorem dX2_shift_56 : decode cX2_shift 56 = .ok (.iload_n 3, 1) := by decide +kernel
theorem dX2_shift_57 : decode cX2_shift 57 = .ok (.iload_n 3, 1) := by decide +kernel
theorem dX2_shift_58 : decode cX2_shift 58 = .ok (.iconst 1, 1) := by decide +kernel
theorem dX2_shift_59 : decode cX2_shift 59 = .ok (.isub, 1) := by decide +kernel
theorem dX2_shift_60 : decode cX2_shift 60 = .ok (.invokevirtual 108, 3) := by decide +kernel
theorem dX2_shift_63 : decode cX2_shift 63 = .ok (.iinc 3 (-1), 3) := by decide +kernel
theorem dX2_shift_66 : decode cX2_shift 66 = .ok (.goto (-16), 3) := by decide +kernel
theorem dX2_shift_69 : decode cX2_shift 69 = .ok (.aload_n 0, 1) := by decide +kernel
theorem dX2_shift_70 : decode cX2_shift 70 = .ok (.getfield 16, 3) := by decide +kernel
theorem dX2_shift_73 : decode cX2_shift 73 = .ok (.iload_n 2, 1) := by decide +kernel
theorem dX2_shift_74 : decode cX2_shift 74 = .ok (.iaload, 1) := by decide +kernel
theorem dX2_shift_75 : decode cX2_shift 75 = .ok (.ireturn, 1) := by decide +kernel
set_option maxRecDepth 20000 in
theorem ggX2_tear_X2_fail : GoodIn wsX2_tear wsX2_fail := goodIn_r _ [8, 1, 9, 10, 11, 12, 13, 14, 15, 16, 17, 18, 19, 20, 21, 22, 23, 24, 25] (by decide +kernel) (by decide +kernel)
set_option maxRecDepth 20000 in
theorem gX2_tear_X2_fail : GoodIn wsX2_tear (wsV RX2 43 RX2 yX2_fail wsX2_fail) := goodIn_app (goodIn_of _ (by decide +kernel)) ggX2_tear_X2_fail
theorem dX2_tear_0 : decode cX2_tear 0 = .ok (.aload_n 0, 1) := by decide +kernel
theorem dX2_tear_1 : decode cX2_tear 1 = .ok (.iconst 0, 1) := by decide +kernel
theorem dX2_tear_2 : decode cX2_tear 2 = .ok (.putfield 32, 3) := by decide +kernel
theorem dX2_tear_5 : decode cX2_tear 5 = .ok (.aload_n 0, 1) := by decide +kernel
theorem dX2_tear_6 : decode cX2_tear 6 = .ok (.getfield 36, 3) := by decide +kernel
theorem dX2_tear_9 : decode cX2_tear 9 = .ok (.ifCond .ne 9, 3) := by decide +kernel
theorem dX2_tear_12 : decode cX2_tear 12 = .ok (.aload_n 0, 1) := by decide +kernel
theorem dX2_tear_13 : decode cX2_tear 13 = .ok (.iconst 1, 1) := by decide +kernel
theorem dX2_tear_14 : decode cX2_tear 14 = .ok (.invokevirtual 43, 3) := by decide +kernel
theorem dX2_tear_17 : decode cX2_tear 17 = .ok (.ireturn, 1) := by decide +kernel
theorem dX2_tear_18 : decode cX2_tear 18 = .ok (.aload_n 0, 1) := by decide +kernel
theorem dX2_tear_19 : decode cX2_tear 19 = .ok (.dup, 1) := by decide +kernel
theorem dX2_tear_20 : decode cX2_tear 20 = .ok (.getfield 36, 3) := by decide +kernel
theorem dX2_tear_23 : decode cX2_tear 23 = .ok (.iconst 1, 1) := by decide +kernel
theorem dX2_tear_24 : decode cX2_tear 24 = .ok (.isub, 1) := by decide +kernel
theorem dX2_tear_25 : decode cX2_tear 25 = .ok (.putfield 36, 3) := by decide +kernel
theorem dX2_tear_28 : decode cX2_tear 28 = .ok (.aload_n 0, 1) := by decide +kernel
theorem dX2_tear_29 : decode cX2_tear 29 = .ok (.getfield 16, 3) := by decide +kernel
theorem dX2_tear_32 : decode cX2_tear 32 = .ok (.aload_n 0, 1) := by decide +kernel
theorem dX2_tear_33 : decode cX2_tear 33 = .ok (.getfield 36, 3) := by decide +kernel
theorem dX2_tear_36 : decode cX2_tear 36 = .ok (.iaload, 1) := by decide +kernel
theorem dX2_tear_37 : decode cX2_tear 37 = .ok (.ireturn, 1) := by decide +kernel
set_option maxRecDepth 20000 in
theorem ggX2_entryTold_X2_reckon : GoodIn wsX2_entryTold wsX2_reckon := goodIn_r _ [9, 10, 11, 12, 13, 14, 15, 16, 17, 4, 18, 19, 20, 21, 22, 23, 24, 8, 25, 2, 1, 3, 26, 27, 28, 29, 30, 31, 32, 33, 34, 35, 36, 37, 38, 39, 40, 41, 42, 43, 44, 45, 46, 47, 48, 49, 50, 51, 52, 53, 54, 55, 56, 57, 58, 59, 60, 61, 62, 63, 64, 65, 66, 67, 68] (by decide +kernel) (by decide +kernel)
set_option maxRecDepth 20000 in
theorem gX2_entryTold_X2_reckon : GoodIn wsX2_entryTold (wsV RX2 111 RX2 yX2_reckon wsX2_reckon) := goodIn_app (goodIn_of _ (by decide +kernel)) ggX2_entryTold_X2_reckon
theorem dX2_entryTold_0 : decode cX2_entryTold 0 = .ok (.iload_n 2, 1) := by decide +kernel
theorem dX2_entryTold_1 : decode cX2_entryTold 1 = .ok (.tableswitch 67 0 3 #[31, 38, 45, 52], 31) := by decide +kernel
theorem dX2_entryTold_32 : decode cX2_entryTold 32 = .ok (.aload_n 0, 1) := by decide +kernel
theorem dX2_entryTold_33 : decode cX2_entryTold 33 = .ok (.getfield 16, 3) := by decide +kernel
theorem dX2_entryTold_36 : decode cX2_entryTold 36 = .ok (.iload_n 1, 1) := by decide +kernel
theorem dX2_entryTold_37 : decode cX2_entryTold 37 = .ok (.iaload, 1) := by decide +kernel
theorem dX2_entryTold_38 : decode cX2_entryTold 38 = .ok (.ireturn, 1) := by decide +kernel
theorem dX2_entryTold_39 : decode cX2_entryTold 39 = .ok (.aload_n 0, 1) := by decide +kernel
theorem dX2_entryTold_40 : decode cX2_entryTold 40 = .ok (.getfield 19, 3) := by decide +kernel
theorem dX2_entryTold_43 : decode cX2_entryTold 43 = .ok (.iload_n 1, 1) := by decide +kernel
theorem dX2_entryTold_44 : decode cX2_entryTold 44 = .ok (.iaload, 1) := by decide +kernel
theorem dX2_entryTold_45 : decode cX2_entryTold 45 = .ok (.ireturn, 1) := by decide +kernel
theorem dX2_entryTold_46 : decode cX2_entryTold 46 = .ok (.aload_n 0, 1) := by decide +kernel
theorem dX2_entryTold_47 : decode cX2_entryTold 47 = .ok (.getfield 22, 3) := by decide +kernel
theorem dX2_entryTold_50 : decode cX2_entryTold 50 = .ok (.iload_n 1, 1) := by decide +kernel
theorem dX2_entryTold_51 : decode cX2_entryTold 51 = .ok (.iaload, 1) := by decide +kernel
theorem dX2_entryTold_52 : decode cX2_entryTold 52 = .ok (.ireturn, 1) := by decide +kernel
theorem dX2_entryTold_53 : decode cX2_entryTold 53 = .ok (.aload_n 0, 1) := by decide +kernel
theorem dX2_entryTold_54 : decode cX2_entryTold 54 = .ok (.getfield 25, 3) := by decide +kernel
theorem dX2_entryTold_57 : decode cX2_entryTold 57 = .ok (.iload_n 1, 1) := by decide +kernel
theorem dX2_entryTold_58 : decode cX2_entryTold 58 = .ok (.baload, 1) := by decide +kernel
theorem dX2_entryTold_59 : decode cX2_entryTold 59 = .ok (.ifCond .eq 7, 3) := by decide +kernel
theorem dX2_entryTold_62 : decode cX2_entryTold 62 = .ok (.iconst 1, 1) := by decide +kernel
theorem dX2_entryTold_63 : decode cX2_entryTold 63 = .ok (.goto 4, 3) := by decide +kernel
theorem dX2_entryTold_66 : decode cX2_entryTold 66 = .ok (.iconst 0, 1) := by decide +kernel
theorem dX2_entryTold_67 : decode cX2_entryTold 67 = .ok (.ireturn, 1) := by decide +kernel
theorem dX2_entryTold_68 : decode cX2_entryTold 68 = .ok (.aload_n 0, 1) := by decide +kernel
theorem dX2_entryTold_69 : decode cX2_entryTold 69 = .ok (.iload_n 1, 1) := by decide +kernel
theorem dX2_entryTold_70 : decode cX2_entryTold 70 = .ok (.iconst 1, 1) := by decide +kernel
theorem dX2_entryTold_71 : decode cX2_entryTold 71 = .ok (.iadd, 1) := by decide +kernel
theorem dX2_entryTold_72 : decode cX2_entryTold 72 = .ok (.invokevirtual 111, 3) := by decide +kernel
theorem dX2_entryTold_75 : decode cX2_entryTold 75 = .ok (.ifCond .eq 7, 3) := by decide +kernel
theorem dX2_entryTold_78 : decode cX2_entryTold 78 = .ok (.iconst 1, 1) := by decide +kernel
theorem dX2_entryTold_79 : decode cX2_entryTold 79 = .ok (.goto 4, 3) := by decide +kernel
theorem dX2_entryTold_82 : decode cX2_entryTold 82 = .ok (.iconst 0, 1) := by decide +kernel
theorem dX2_entryTold_83 : decode cX2_entryTold 83 = .ok (.ireturn, 1) := by decide +kernel
set_option maxRecDepth 20000 in
theorem ggX2_entry_X2_isEntry : GoodIn wsX2_entry wsX2_isEntry := goodIn_r _ [6, 7, 8, 9, 5, 10, 69, 70, 71, 72, 73, 74, 75, 76, 77, 78, 79, 80, 81, 82, 83, 84, 85] (by decide +kernel) (by decide +kernel)
set_option maxRecDepth 20000 in
theorem gX2_entry_X2_isEntry : GoodIn wsX2_entry (wsV RX2 105 RX2 yX2_isEntry wsX2_isEntry) := goodIn_app (goodIn_of _ (by decide +kernel)) ggX2_entry_X2_isEntry
set_option maxRecDepth 20000 in
theorem ggX2_entry_X2_isIn : GoodIn wsX2_entry wsX2_isIn := goodIn_r _ [10] (by decide +kernel) (by decide +kernel)
set_option maxRecDepth 20000 in
theorem gX2_entry_X2_isIn : GoodIn wsX2_entry (va_wsS RX2 39 yX2_isIn wsX2_isIn) := goodIn_app (goodIn_of _ (by decide +kernel)) ggX2_entry_X2_isIn
set_option maxRecDepth 20000 in
theorem ggX2_entry_X2_entryTold : GoodIn wsX2_entry wsX2_entryTold := goodIn_r _ [14, 15, 16, 17, 18, 19, 20, 21, 5, 22, 23, 24, 25, 26, 27, 28, 29, 30, 31, 32, 33, 34, 35, 36, 37, 38, 39, 40, 41, 42, 43, 44, 45, 46, 47, 48, 49, 50, 51, 52, 53, 54, 55, 56, 57, 58, 59, 60, 61, 62, 63, 64, 69, 70, 71, 72, 73, 74, 75, 76, 77, 78, 79, 80, 81, 82, 83, 84, 85] (by decide +kernel) (by decide +kernel)
set_option maxRecDepth 20000 in
theorem gX2_entry_X2_entryTold : GoodIn wsX2_entry (wsV RX2 114 RX2 yX2_entryTold wsX2_entryTold) := goodIn_app (goodIn_of _ (by decide +kernel)) ggX2_entry_X2_entryTold
set_option maxRecDepth 20000 in
theorem ggX2_entry_X2_fail : GoodIn wsX2_entry wsX2_fail := goodIn_r _ [68, 1, 69, 70, 71, 72, 73, 74, 75, 76, 77, 78, 79, 80, 81, 82, 83, 84, 85] (by decide +kernel) (by decide +kernel)
set_option maxRecDepth 20000 in
theorem gX2_entry_X2_fail : GoodIn wsX2_entry (wsV RX2 43 RX2 yX2_fail wsX2_fail) := goodIn_app (goodIn_of _ (by decide +kernel)) ggX2_entry_X2_fail
theorem dX2_entry_0 : decode cX2_entry 0 = .ok (.aload_n 0, 1) := by decide +kernel
theorem dX2_entry_1 : decode cX2_entry 1 = .ok (.iconst 0, 1) := by decide +kernel
theorem dX2_entry_2 : decode cX2_entry 2 = .ok (.putfield 32, 3) := by decide +kernel
theorem dX2_entry_5 : decode cX2_entry 5 = .ok (.aload_n 0, 1) := by decide +kernel
theorem dX2_entry_6 : decode cX2_entry 6 = .ok (.iload_n 1, 1) := by decide +kernel
theorem dX2_entry_7 : decode cX2_entry 7 = .ok (.invokevirtual 105, 3) := by decide +kernel
theorem dX2_entry_10 : decode cX2_entry 10 = .ok (.ifCond .eq 21, 3) := by decide +kernel
theorem dX2_entry_13 : decode cX2_entry 13 = .ok (.iload_n 2, 1) := by decide +kernel
theorem dX2_entry_14 : decode cX2_entry 14 = .ok (.iconst 0, 1) := by decide +kernel
theorem dX2_entry_15 : decode cX2_entry 15 = .ok (.iconst 4, 1) := by decide +kernel
theorem dX2_entry_16 : decode cX2_entry 16 = .ok (.invokestatic 39, 3) := by decide +kernel
theorem dX2_entry_19 : decode cX2_entry 19 = .ok (.ifCond .eq 12, 3) := by decide +kernel
theorem dX2_entry_22 : decode cX2_entry 22 = .ok (.aload_n 0, 1) := by decide +kernel
theorem dX2_entry_23 : decode cX2_entry 23 = .ok (.iload_n 1, 1) := by decide +kernel
theorem dX2_entry_24 : decode cX2_entry 24 = .ok (.iload_n 2, 1) := by decide +kernel
theorem dX2_entry_25 : decode cX2_entry 25 = .ok (.invokevirtual 114, 3) := by decide +kernel
theorem dX2_entry_28 : decode cX2_entry 28 = .ok (.goto 8, 3) := by decide +kernel
theorem dX2_entry_31 : decode cX2_entry 31 = .ok (.aload_n 0, 1) := by decide +kernel
theorem dX2_entry_32 : decode cX2_entry 32 = .ok (.iconst 1, 1) := by decide +kernel
theorem dX2_entry_33 : decode cX2_entry 33 = .ok (.invokevirtual 43, 3) := by decide +kernel
theorem dX2_entry_36 : decode cX2_entry 36 = .ok (.ireturn, 1) := by decide +kernel
set_option maxRecDepth 20000 in
theorem ggX2_behind_X2_isIn : GoodIn wsX2_behind wsX2_isIn := goodIn_r _ [13] (by decide +kernel) (by decide +kernel)
set_option maxRecDepth 20000 in
theorem gX2_behind_X2_isIn : GoodIn wsX2_behind (va_wsS RX2 39 yX2_isIn wsX2_isIn) := goodIn_app (goodIn_of _ (by decide +kernel)) ggX2_behind_X2_isIn
set_option maxRecDepth 20000 in
theorem ggX2_behind_X2_fail : GoodIn wsX2_behind wsX2_fail := goodIn_r _ [17, 1, 66, 67, 68, 69, 70, 71, 72, 73, 74, 75, 76, 77, 78, 79, 80, 81, 82] (by decide +kernel) (by decide +kernel)
set_option maxRecDepth 20000 in
theorem gX2_behind_X2_fail : GoodIn wsX2_behind (wsV RX2 43 RX2 yX2_fail wsX2_fail) := goodIn_app (goodIn_of _ (by decide +kernel)) ggX2_behind_X2_fail
set_option maxRecDepth 20000 in
theorem ggX2_behind_X2_reckon : GoodIn wsX2_behind wsX2_reckon := goodIn_r _ [21, 4, 5, 6, 7, 8, 9, 22, 23, 24, 25, 26, 27, 28, 29, 30, 31, 12, 32, 33, 34, 35, 36, 37, 38, 39, 40, 41, 42, 43, 44, 45, 46, 47, 48, 49, 50, 51, 52, 53, 54, 55, 56, 57, 58, 59, 60, 61, 66, 67, 68, 69, 70, 71, 72, 73, 74, 75, 76, 77, 78, 79, 80, 81, 82] (by decide +kernel) (by decide +kernel)
set_option maxRecDepth 20000 in
theorem gX2_behind_X2_reckon : GoodIn wsX2_behind (wsV RX2 111 RX2 yX2_reckon wsX2_reckon) := goodIn_app (goodIn_of _ (by decide +kernel)) ggX2_behind_X2_reckon
set_option maxRecDepth 20000 in
theorem ggX2_behind_X2_trustAll : GoodIn wsX2_behind wsX2_trustAll := goodIn_r _ [65, 7, 40, 66, 67, 68, 69, 70, 71, 72, 73, 74, 75, 76, 77, 78, 79, 80, 81, 82] (by decide +kernel) (by decide +kernel)
set_option maxRecDepth 20000 in
theorem gX2_behind_X2_trustAll : GoodIn wsX2_behind (wsV RX2 117 RX2 yX2_trustAll wsX2_trustAll) := goodIn_app (goodIn_of _ (by decide +kernel)) ggX2_behind_X2_trustAll
theorem dX2_behind_0 : decode cX2_behind 0 = .ok (.aload_n 0, 1) := by decide +kernel
theorem dX2_behind_1 : decode cX2_behind 1 = .ok (.iconst 0, 1) := by decide +kernel
theorem dX2_behind_2 : decode cX2_behind 2 = .ok (.putfield 32, 3) := by decide +kernel
theorem dX2_behind_5 : decode cX2_behind 5 = .ok (.iload_n 1, 1) := by decide +kernel
theorem dX2_behind_6 : decode cX2_behind 6 = .ok (.iconst 0, 1) := by decide +kernel
theorem dX2_behind_7 : decode cX2_behind 7 = .ok (.aload_n 0, 1) := by decide +kernel
theorem dX2_behind_8 : decode cX2_behind 8 = .ok (.getfield 36, 3) := by decide +kernel
theorem dX2_behind_11 : decode cX2_behind 11 = .ok (.invokestatic 39, 3) := by decide +kernel
theorem dX2_behind_14 : decode cX2_behind 14 = .ok (.ifCond .ne 9, 3) := by decide +kernel
theorem dX2_behind_17 : decode cX2_behind 17 = .ok (.aload_n 0, 1) := by decide +kernel
theorem dX2_behind_18 : decode cX2_behind 18 = .ok (.iconst 1, 1) := by decide +kernel
theorem dX2_behind_19 : decode cX2_behind 19 = .ok (.invokevirtual 43, 3) := by decide +kernel
theorem dX2_behind_22 : decode cX2_behind 22 = .ok (.ireturn, 1) := by decide +kernel
theorem dX2_behind_23 : decode cX2_behind 23 = .ok (.iload_n 2, 1) := by decide +kernel
theorem dX2_behind_24 : decode cX2_behind 24 = .ok (.iconst 0, 1) := by decide +kernel
theorem dX2_behind_25 : decode cX2_behind 25 = .ok (.bipush 6, 2) := by decide +kernel
theorem dX2_behind_27 : decode cX2_behind 27 = .ok (.invokestatic 39, 3) := by decide +kernel
theorem dX2_behind_30 : decode cX2_behind 30 = .ok (.ifCond .ne 9, 3) := by decide +kernel
theorem dX2_behind_33 : decode cX2_behind 33 = .ok (.aload_n 0, 1) := by decide +kernel
theorem dX2_behind_34 : decode cX2_behind 34 = .ok (.iconst 2, 1) := by decide +kernel
theorem dX2_behind_35 : decode cX2_behind 35 = .ok (.invokevirtual 43, 3) := by decide +kernel
theorem dX2_behind_38 : decode cX2_behind 38 = .ok (.ireturn, 1) := by decide +kernel
theorem dX2_behind_39 : decode cX2_behind 39 = .ok (.aload_n 0, 1) := by decide +kernel
theorem dX2_behind_40 : decode cX2_behind 40 = .ok (.iload_n 1, 1) := by decide +kernel
theorem dX2_behind_41 : decode cX2_behind 41 = .ok (.invokevirtual 111, 3) := by decide +kernel
theorem dX2_behind_44 : decode cX2_behind 44 = .ok (.pop, 1) := by decide +kernel
theorem dX2_behind_45 : decode cX2_behind 45 = .ok (.bipush 7, 2) := by decide +kernel
theorem dX2_behind_47 : decode cX2_behind 47 = .ok (.newarray .int, 2) := by decide +kernel
theorem dX2_behind_49 : decode cX2_behind 49 = .ok (.dup, 1) := by decide +kernel
theorem dX2_behind_50 : decode cX2_behind 50 = .ok (.iconst 0, 1) := by decide +kernel
theorem dX2_behind_51 : decode cX2_behind 51 = .ok (.aload_n 0, 1) := by decide +kernel
theorem dX2_behind_52 : decode cX2_behind 52 = .ok (.getfield 70, 3) := by decide +kernel
theorem dX2_behind_55 : decode cX2_behind 55 = .ok (.iastore, 1) := by decide +kernel
theorem dX2_behind_56 : decode cX2_behind 56 = .ok (.dup, 1) := by decide +kernel
theorem dX2_behind_57 : decode cX2_behind 57 = .ok (.iconst 1, 1) := by decide +kernel
theorem dX2_behind_58 : decode cX2_behind 58 = .ok (.aload_n 0, 1) := by decide +kernel
theorem dX2_behind_59 : decode cX2_behind 59 = .ok (.getfield 80, 3) := by decide +kernel
theorem dX2_behind_62 : decode cX2_behind 62 = .ok (.iastore, 1) := by decide +kernel
theorem dX2_behind_63 : decode cX2_behind 63 = .ok (.dup, 1) := by decide +kernel
theorem dX2_behind_64 : decode cX2_behind 64 = .ok (.iconst 2, 1) := by decide +kernel
theorem dX2_behind_65 : decode cX2_behind 65 = .ok (.aload_n 0, 1) := by decide +kernel
theorem dX2_behind_66 : decode cX2_behind 66 = .ok (.getfield 63, 3) := by decide +kernel
theorem dX2_behind_69 : decode cX2_behind 69 = .ok (.iastore, 1) := by decide +kernel
theorem dX2_behind_70 : decode cX2_behind 70 = .ok (.dup, 1) := by decide +kernel
theorem dX2_behind_71 : decode cX2_behind 71 = .ok (.iconst 3, 1) := by decide +kernel
theorem dX2_behind_72 : decode cX2_behind 72 = .ok (.aload_n 0, 1) := by decide +kernel
theorem dX2_behind_73 : decode cX2_behind 73 = .ok (.getfield 60, 3) := by decide +kernel
theorem dX2_behind_76 : decode cX2_behind 76 = .ok (.iastore, 1) := by decide +kernel
theorem dX2_behind_77 : decode cX2_behind 77 = .ok (.dup, 1) := by decide +kernel
theorem dX2_behind_78 : decode cX2_behind 78 = .ok (.iconst 4, 1) := by decide +kernel
theorem dX2_behind_79 : decode cX2_behind 79 = .ok (.aload_n 0, 1) := by decide +kernel
theorem dX2_behind_80 : decode cX2_behind 80 = .ok (.invokevirtual 117, 3) := by decide +kernel
theorem dX2_behind_83 : decode cX2_behind 83 = .ok (.iastore, 1) := by decide +kernel
theorem dX2_behind_84 : decode cX2_behind 84 = .ok (.dup, 1) := by decide +kernel
theorem dX2_behind_85 : decode cX2_behind 85 = .ok (.iconst 5, 1) := by decide +kernel
theorem dX2_behind_86 : decode cX2_behind 86 = .ok (.aload_n 0, 1) := by decide +kernel
theorem dX2_behind_87 : decode cX2_behind 87 = .ok (.getfield 86, 3) := by decide +kernel
theorem dX2_behind_90 : decode cX2_behind 90 = .ok (.iastore, 1) := by decide +kernel
theorem dX2_behind_91 : decode cX2_behind 91 = .ok (.dup, 1) := by decide +kernel
theorem dX2_behind_92 : decode cX2_behind 92 = .ok (.bipush 6, 2) := by decide +kernel
theorem dX2_behind_94 : decode cX2_behind 94 = .ok (.aload_n 0, 1) := by decide +kernel
theorem dX2_behind_95 : decode cX2_behind 95 = .ok (.getfield 89, 3) := by decide +kernel
theorem dX2_behind_98 : decode cX2_behind 98 = .ok (.iastore, 1) := by decide +kernel
theorem dX2_behind_99 : decode cX2_behind 99 = .ok (.astore_n 3, 1) := by decide +kernel
theorem dX2_behind_100 : decode cX2_behind 100 = .ok (.aload_n 3, 1) := by decide +kernel
theorem dX2_behind_101 : decode cX2_behind 101 = .ok (.iload_n 2, 1) := by decide +kernel
theorem dX2_behind_102 : decode cX2_behind 102 = .ok (.iaload, 1) := by decide +kernel
theorem dX2_behind_103 : decode cX2_behind 103 = .ok (.ireturn, 1) := by decide +kernel
set_option maxRecDepth 20000 in
theorem ggX2_trust_X2_isIn : GoodIn wsX2_trust wsX2_isIn := goodIn_r _ [8] (by decide +kernel) (by decide +kernel)
set_option maxRecDepth 20000 in
theorem gX2_trust_X2_isIn : GoodIn wsX2_trust (va_wsS RX2 39 yX2_isIn wsX2_isIn) := goodIn_app (goodIn_of _ (by decide +kernel)) ggX2_trust_X2_isIn
set_option maxRecDepth 20000 in
theorem ggX2_trust_X2_fail : GoodIn wsX2_trust wsX2_fail := goodIn_r _ [12, 1, 61, 62, 63, 64, 65, 66, 67, 68, 69, 70, 71, 72, 73, 74, 75, 76, 77] (by decide +kernel) (by decide +kernel)
set_option maxRecDepth 20000 in
theorem gX2_trust_X2_fail : GoodIn wsX2_trust (wsV RX2 43 RX2 yX2_fail wsX2_fail) := goodIn_app (goodIn_of _ (by decide +kernel)) ggX2_trust_X2_fail
set_option maxRecDepth 20000 in
theorem ggX2_trust_X2_reckon : GoodIn wsX2_trust wsX2_reckon := goodIn_r _ [16, 17, 18, 19, 3, 20, 21, 22, 23, 24, 25, 26, 27, 28, 29, 30, 31, 7, 32, 33, 34, 35, 36, 37, 38, 39, 4, 40, 41, 42, 43, 44, 45, 46, 47, 48, 49, 50, 51, 52, 53, 54, 55, 56, 57, 58, 59, 60, 61, 62, 63, 64, 65, 66, 67, 68, 69, 70, 71, 72, 73, 74, 75, 76, 77] (by decide +kernel) (by decide +kernel)
set_option maxRecDepth 20000 in
theorem gX2_trust_X2_reckon : GoodIn wsX2_trust (wsV RX2 111 RX2 yX2_reckon wsX2_reckon) := goodIn_app (goodIn_of _ (by decide +kernel)) ggX2_trust_X2_reckon
theorem dX2_trust_0 : decode cX2_trust 0 = .ok (.aload_n 0, 1) := by decide +kernel
theorem dX2_trust_1 : decode cX2_trust 1 = .ok (.iconst 0, 1) := by decide +kernel
theorem dX2_trust_2 : decode cX2_trust 2 = .ok (.putfield 32, 3) := by decide +kernel
theorem dX2_trust_5 : decode cX2_trust 5 = .ok (.iload_n 1, 1) := by decide +kernel
theorem dX2_trust_6 : decode cX2_trust 6 = .ok (.iconst 0, 1) := by decide +kernel
theorem dX2_trust_7 : decode cX2_trust 7 = .ok (.iconst 5, 1) := by decide +kernel
theorem dX2_trust_8 : decode cX2_trust 8 = .ok (.invokestatic 39, 3) := by decide +kernel
theorem dX2_trust_11 : decode cX2_trust 11 = .ok (.ifCond .ne 9, 3) := by decide +kernel
theorem dX2_trust_14 : decode cX2_trust 14 = .ok (.aload_n 0, 1) := by decide +kernel
theorem dX2_trust_15 : decode cX2_trust 15 = .ok (.iconst 1, 1) := by decide +kernel
theorem dX2_trust_16 : decode cX2_trust 16 = .ok (.invokevirtual 43, 3) := by decide +kernel
theorem dX2_trust_19 : decode cX2_trust 19 = .ok (.ireturn, 1) := by decide +kernel
theorem dX2_trust_20 : decode cX2_trust 20 = .ok (.iload_n 2, 1) := by decide +kernel
theorem dX2_trust_21 : decode cX2_trust 21 = .ok (.iconst 0, 1) := by decide +kernel
theorem dX2_trust_22 : decode cX2_trust 22 = .ok (.aload_n 0, 1) := by decide +kernel
theorem dX2_trust_23 : decode cX2_trust 23 = .ok (.getfield 36, 3) := by decide +kernel
theorem dX2_trust_26 : decode cX2_trust 26 = .ok (.invokestatic 39, 3) := by decide +kernel
theorem dX2_trust_29 : decode cX2_trust 29 = .ok (.ifCond .ne 9, 3) := by decide +kernel
theorem dX2_trust_32 : decode cX2_trust 32 = .ok (.aload_n 0, 1) := by decide +kernel
theorem dX2_trust_33 : decode cX2_trust 33 = .ok (.iconst 2, 1) := by decide +kernel
theorem dX2_trust_34 : decode cX2_trust 34 = .ok (.invokevirtual 43, 3) := by decide +kernel
theorem dX2_trust_37 : decode cX2_trust 37 = .ok (.ireturn, 1) := by decide +kernel
theorem dX2_trust_38 : decode cX2_trust 38 = .ok (.aload_n 0, 1) := by decide +kernel
theorem dX2_trust_39 : decode cX2_trust 39 = .ok (.iload_n 2, 1) := by decide +kernel
theorem dX2_trust_40 : decode cX2_trust 40 = .ok (.invokevirtual 111, 3) := by decide +kernel
theorem dX2_trust_43 : decode cX2_trust 43 = .ok (.pop, 1) := by decide +kernel
theorem dX2_trust_44 : decode cX2_trust 44 = .ok (.iload_n 1, 1) := by decide +kernel
theorem dX2_trust_45 : decode cX2_trust 45 = .ok (.aload_n 0, 1) := by decide +kernel
theorem dX2_trust_46 : decode cX2_trust 46 = .ok (.getfield 60, 3) := by decide +kernel
theorem dX2_trust_49 : decode cX2_trust 49 = .ok (.if_icmp .ge 12, 3) := by decide +kernel
theorem dX2_trust_52 : decode cX2_trust 52 = .ok (.aload_n 0, 1) := by decide +kernel
theorem dX2_trust_53 : decode cX2_trust 53 = .ok (.getfield 29, 3) := by decide +kernel
theorem dX2_trust_56 : decode cX2_trust 56 = .ok (.iload_n 1, 1) := by decide +kernel
theorem dX2_trust_57 : decode cX2_trust 57 = .ok (.iaload, 1) := by decide +kernel
theorem dX2_trust_58 : decode cX2_trust 58 = .ok (.goto 4, 3) := by decide +kernel
theorem dX2_trust_61 : decode cX2_trust 61 = .ok (.iconst (-1), 1) := by decide +kernel
theorem dX2_trust_62 : decode cX2_trust 62 = .ok (.ireturn, 1) := by decide +kernel
set_option maxRecDepth 20000 in
theorem ggX2_counted_X2_reckon : GoodIn wsX2_counted wsX2_reckon := goodIn_r _ [11, 4, 12, 13, 14, 3, 15, 5, 6, 2, 16, 17, 18, 19, 20, 21, 22, 10, 23, 24, 25, 26, 27, 28, 29, 30, 31, 32, 33, 34, 35, 36, 37, 38, 39, 40, 41, 42, 43, 44, 45, 46, 47, 48, 49, 50, 51, 52, 53, 54, 55, 56, 57, 58, 59, 60, 61, 62, 63, 64, 65, 66, 67, 68, 69] (by decide +kernel) (by decide +kernel)
set_option maxRecDepth 20000 in
theorem gX2_counted_X2_reckon : GoodIn wsX2_counted (wsV RX2 111 RX2 yX2_reckon wsX2_reckon) := goodIn_app (goodIn_of _ (by decide +kernel)) ggX2_counted_X2_reckon
theorem dX2_counted_0 : decode cX2_counted 0 = .ok (.iconst 0, 1) := by decide +kernel
theorem dX2_counted_1 : decode cX2_counted 1 = .ok (.istore_n 2, 1) := by decide +kernel
theorem dX2_counted_2 : decode cX2_counted 2 = .ok (.aload_n 0, 1) := by decide +kernel
theorem dX2_counted_3 : decode cX2_counted 3 = .ok (.aload_n 0, 1) := by decide +kernel
theorem dX2_counted_4 : decode cX2_counted 4 = .ok (.getfield 36, 3) := by decide +kernel
theorem dX2_counted_7 : decode cX2_counted 7 = .ok (.invokevirtual 111, 3) := by decide +kernel
theorem dX2_counted_10 : decode cX2_counted 10 = .ok (.pop, 1) := by decide +kernel
theorem dX2_counted_11 : decode cX2_counted 11 = .ok (.iload_n 1, 1) := by decide +kernel
theorem dX2_counted_12 : decode cX2_counted 12 = .ok (.tableswitch 91 0 4 #[36, 41, 76, 81, 86], 36) := by decide +kernel
theorem dX2_counted_48 : decode cX2_counted 48 = .ok (.aload_n 0, 1) := by decide +kernel
theorem dX2_counted_49 : decode cX2_counted 49 = .ok (.getfield 36, 3) := by decide +kernel
theorem dX2_counted_52 : decode cX2_counted 52 = .ok (.ireturn, 1) := by decide +kernel
theorem dX2_counted_53 : decode cX2_counted 53 = .ok (.iconst 0, 1) := by decide +kernel
theorem dX2_counted_54 : decode cX2_counted 54 = .ok (.istore_n 3, 1) := by decide +kernel
theorem dX2_counted_55 : decode cX2_counted 55 = .ok (.iload_n 3, 1) := by decide +kernel
theorem dX2_counted_56 : decode cX2_counted 56 = .ok (.aload_n 0, 1) := by decide +kernel
theorem dX2_counted_57 : decode cX2_counted 57 = .ok (.getfield 36, 3) := by decide +kernel
theorem dX2_counted_60 : decode cX2_counted 60 = .ok (.if_icmp .ge 26, 3) := by decide +kernel
theorem dX2_counted_63 : decode cX2_counted 63 = .ok (.iload_n 2, 1) := by decide +kernel
theorem dX2_counted_64 : decode cX2_counted 64 = .ok (.aload_n 0, 1) := by decide +kernel
theorem dX2_counted_65 : decode cX2_counted 65 = .ok (.getfield 25, 3) := by decide +kernel
theorem dX2_counted_68 : decode cX2_counted 68 = .ok (.iload_n 3, 1) := by decide +kernel
theorem dX2_counted_69 : decode cX2_counted 69 = .ok (.baload, 1) := by decide +kernel
theorem dX2_counted_70 : decode cX2_counted 70 = .ok (.ifCond .eq 7, 3) := by decide +kernel
theorem dX2_counted_73 : decode cX2_counted 73 = .ok (.iconst 1, 1) := by decide +kernel
theorem dX2_counted_74 : decode cX2_counted 74 = .ok (.goto 4, 3) := by decide +kernel
theorem dX2_counted_77 : decode cX2_counted 77 = .ok (.iconst 0, 1) := by decide +kernel
theorem dX2_counted_78 : decode cX2_counted 78 = .ok (.iadd, 1) := by decide +kernel
theorem dX2_counted_79 : decode cX2_counted 79 = .ok (.istore_n 2, 1) := by decide +kernel
theorem dX2_counted_80 : decode cX2_counted 80 = .ok (.iinc 3 1, 3) := by decide +kernel
theorem dX2_counted_83 : decode cX2_counted 83 = .ok (.goto (-28), 3) := by decide +kernel
theorem dX2_counted_86 : decode cX2_counted 86 = .ok (.iload_n 2, 1) := by decide +kernel
theorem dX2_counted_87 : decode cX2_counted 87 = .ok (.ireturn, 1) := by decide +kernel
theorem dX2_counted_88 : decode cX2_counted 88 = .ok (.aload_n 0, 1) := by decide +kernel
theorem dX2_counted_89 : decode cX2_counted 89 = .ok (.getfield 86, 3) := by decide +kernel
theorem dX2_counted_92 : decode cX2_counted 92 = .ok (.ireturn, 1) := by decide +kernel
theorem dX2_counted_93 : decode cX2_counted 93 = .ok (.aload_n 0, 1) := by decide +kernel
theorem dX2_counted_94 : decode cX2_counted 94 = .ok (.getfield 70, 3) := by decide +kernel
theorem dX2_counted_97 : decode cX2_counted 97 = .ok (.ireturn, 1) := by decide +kernel
theorem dX2_counted_98 : decode cX2_counted 98 = .ok (.aload_n 0, 1) := by decide +kernel
theorem dX2_counted_99 : decode cX2_counted 99 = .ok (.getfield 92, 3) := by decide +kernel
theorem dX2_counted_102 : decode cX2_counted 102 = .ok (.ireturn, 1) := by decide +kernel
theorem dX2_counted_103 : decode cX2_counted 103 = .ok (.aload_n 0, 1) := by decide +kernel
theorem dX2_counted_104 : decode cX2_counted 104 = .ok (.getfield 95, 3) := by decide +kernel
theorem dX2_counted_107 : decode cX2_counted 107 = .ok (.ireturn, 1) := by decide +kernel
set_option maxRecDepth 20000 in
theorem ggX2_count_X2_isIn : GoodIn wsX2_count wsX2_isIn := goodIn_r _ [5] (by decide +kernel) (by decide +kernel)
set_option maxRecDepth 20000 in
theorem gX2_count_X2_isIn : GoodIn wsX2_count (va_wsS RX2 39 yX2_isIn wsX2_isIn) := goodIn_app (goodIn_of _ (by decide +kernel)) ggX2_count_X2_isIn
set_option maxRecDepth 20000 in
theorem ggX2_count_X2_counted : GoodIn wsX2_count wsX2_counted := goodIn_r _ [9, 10, 11, 12, 13, 14, 15, 16, 17, 18, 4, 19, 20, 21, 22, 23, 24, 25, 26, 27, 28, 29, 30, 31, 32, 33, 34, 35, 36, 37, 38, 39, 40, 41, 42, 43, 44, 45, 46, 47, 48, 49, 50, 51, 52, 53, 54, 55, 56, 57, 58, 59, 60, 65, 66, 67, 68, 69, 70, 71, 72, 73, 74, 75, 76, 77, 78, 79, 80, 81] (by decide +kernel) (by decide +kernel)
set_option maxRecDepth 20000 in
theorem gX2_count_X2_counted : GoodIn wsX2_count (wsV RX2 121 RX2 yX2_counted wsX2_counted) := goodIn_app (goodIn_of _ (by decide +kernel)) ggX2_count_X2_counted
set_option maxRecDepth 20000 in
theorem ggX2_count_X2_fail : GoodIn wsX2_count wsX2_fail := goodIn_r _ [64, 1, 65, 66, 67, 68, 69, 70, 71, 72, 73, 74, 75, 76, 77, 78, 79, 80, 81] (by decide +kernel) (by decide +kernel)
set_option maxRecDepth 20000 in
theorem gX2_count_X2_fail : GoodIn wsX2_count (wsV RX2 43 RX2 yX2_fail wsX2_fail) := goodIn_app (goodIn_of _ (by decide +kernel)) ggX2_count_X2_fail
theorem dX2_count_0 : decode cX2_count 0 = .ok (.aload_n 0, 1) := by decide +kernel
theorem dX2_count_1 : decode cX2_count 1 = .ok (.iconst 0, 1) := by decide +kernel
theorem dX2_count_2 : decode cX2_count 2 = .ok (.putfield 32, 3) := by decide +kernel
theorem dX2_count_5 : decode cX2_count 5 = .ok (.iload_n 1, 1) := by decide +kernel
theorem dX2_count_6 : decode cX2_count 6 = .ok (.iconst 0, 1) := by decide +kernel
theorem dX2_count_7 : decode cX2_count 7 = .ok (.iconst 5, 1) := by decide +kernel
theorem dX2_count_8 : decode cX2_count 8 = .ok (.invokestatic 39, 3) := by decide +kernel
theorem dX2_count_11 : decode cX2_count 11 = .ok (.ifCond .eq 11, 3) := by decide +kernel
theorem dX2_count_14 : decode cX2_count 14 = .ok (.aload_n 0, 1) := by decide +kernel
theorem dX2_count_15 : decode cX2_count 15 = .ok (.iload_n 1, 1) := by decide +kernel
theorem dX2_count_16 : decode cX2_count 16 = .ok (.invokevirtual 121, 3) := by decide +kernel
theorem dX2_count_19 : decode cX2_count 19 = .ok (.goto 8, 3) := by decide +kernel
theorem dX2_count_22 : decode cX2_count 22 = .ok (.aload_n 0, 1) := by decide +kernel
theorem dX2_count_23 : decode cX2_count 23 = .ok (.iconst 1, 1) := by decide +kernel
theorem dX2_count_24 : decode cX2_count 24 = .ok (.invokevirtual 43, 3) := by decide +kernel
theorem dX2_count_27 : decode cX2_count 27 = .ok (.ireturn, 1) := by decide +kernel
set_option maxRecDepth 20000 in
theorem ggX2_coinsNow_X2_reckon : GoodIn wsX2_coinsNow wsX2_reckon := goodIn_r _ [7, 2, 8, 9, 10, 11, 12, 13, 14, 15, 16, 17, 18, 19, 20, 21, 22, 6, 23, 24, 25, 26, 27, 28, 29, 30, 31, 32, 33, 34, 35, 36, 37, 38, 39, 40, 41, 42, 43, 44, 45, 46, 47, 48, 49, 50, 51, 52, 53, 54, 55, 56, 57, 58, 59, 60, 61, 62, 63, 64, 65, 66, 67, 68, 69] (by decide +kernel) (by decide +kernel)
set_option maxRecDepth 20000 in
theorem gX2_coinsNow_X2_reckon : GoodIn wsX2_coinsNow (wsV RX2 111 RX2 yX2_reckon wsX2_reckon) := goodIn_app (goodIn_of _ (by decide +kernel)) ggX2_coinsNow_X2_reckon
theorem dX2_coinsNow_0 : decode cX2_coinsNow 0 = .ok (.aload_n 0, 1) := by decide +kernel
theorem dX2_coinsNow_1 : decode cX2_coinsNow 1 = .ok (.aload_n 0, 1) := by decide +kernel
theorem dX2_coinsNow_2 : decode cX2_coinsNow 2 = .ok (.getfield 36, 3) := by decide +kernel
theorem dX2_coinsNow_5 : decode cX2_coinsNow 5 = .ok (.invokevirtual 111, 3) := by decide +kernel
theorem dX2_coinsNow_8 : decode cX2_coinsNow 8 = .ok (.pop, 1) := by decide +kernel
theorem dX2_coinsNow_9 : decode cX2_coinsNow 9 = .ok (.aload_n 0, 1) := by decide +kernel
theorem dX2_coinsNow_10 : decode cX2_coinsNow 10 = .ok (.getfield 70, 3) := by decide +kernel
theorem dX2_coinsNow_13 : decode cX2_coinsNow 13 = .ok (.ireturn, 1) := by decide +kernel
set_option maxRecDepth 20000 in
theorem ggX2_coinsOther_X2_coinsNow : GoodIn wsX2_coinsOther wsX2_coinsNow := goodIn_r _ [6, 7, 8, 9, 10, 11, 5, 12, 13, 14, 15, 16, 17, 18, 19, 1, 20, 21, 22, 23, 24, 25, 26, 27, 28, 29, 30, 31, 32, 33, 34, 35, 36, 37, 38, 39, 40, 41, 42, 43, 44, 45, 46, 47, 48, 49, 50, 51, 52, 53, 54, 55, 56, 57, 58, 59, 60, 61, 62, 63, 64, 65, 66, 67, 68, 69, 70, 71, 72, 73] (by decide +kernel) (by decide +kernel)
set_option maxRecDepth 20000 in
theorem gX2_coinsOther_X2_coinsNow : GoodIn wsX2_coinsOther (wsV RX2 124 RX2 yX2_coinsNow wsX2_coinsNow) := goodIn_app (goodIn_of _ (by decide +kernel)) ggX2_coinsOther_X2_coinsNow
theorem dX2_coinsOther_0 : decode cX2_coinsOther 0 = .ok (.aload_n 0, 1) := by decide +kernel
theorem dX2_coinsOther_1 : decode cX2_coinsOther 1 = .ok (.getfield 25, 3) := by decide +kernel
theorem dX2_coinsOther_4 : decode cX2_coinsOther 4 = .ok (.iload_n 1, 1) := by decide +kernel
theorem dX2_coinsOther_5 : decode cX2_coinsOther 5 = .ok (.aload_n 0, 1) := by decide +kernel
theorem dX2_coinsOther_6 : decode cX2_coinsOther 6 = .ok (.getfield 25, 3) := by decide +kernel
theorem dX2_coinsOther_9 : decode cX2_coinsOther 9 = .ok (.iload_n 1, 1) := by decide +kernel
theorem dX2_coinsOther_10 : decode cX2_coinsOther 10 = .ok (.baload, 1) := by decide +kernel
theorem dX2_coinsOther_11 : decode cX2_coinsOther 11 = .ok (.ifCond .ne 7, 3) := by decide +kernel
theorem dX2_coinsOther_14 : decode cX2_coinsOther 14 = .ok (.iconst 1, 1) := by decide +kernel
theorem dX2_coinsOther_15 : decode cX2_coinsOther 15 = .ok (.goto 4, 3) := by decide +kernel
theorem dX2_coinsOther_18 : decode cX2_coinsOther 18 = .ok (.iconst 0, 1) := by decide +kernel
theorem dX2_coinsOther_19 : decode cX2_coinsOther 19 = .ok (.bastore, 1) := by decide +kernel
theorem dX2_coinsOther_20 : decode cX2_coinsOther 20 = .ok (.aload_n 0, 1) := by decide +kernel
theorem dX2_coinsOther_21 : decode cX2_coinsOther 21 = .ok (.invokevirtual 124, 3) := by decide +kernel
theorem dX2_coinsOther_24 : decode cX2_coinsOther 24 = .ok (.istore_n 2, 1) := by decide +kernel
theorem dX2_coinsOther_25 : decode cX2_coinsOther 25 = .ok (.aload_n 0, 1) := by decide +kernel
theorem dX2_coinsOther_26 : decode cX2_coinsOther 26 = .ok (.getfield 25, 3) := by decide +kernel
theorem dX2_coinsOther_29 : decode cX2_coinsOther 29 = .ok (.iload_n 1, 1) := by decide +kernel
theorem dX2_coinsOther_30 : decode cX2_coinsOther 30 = .ok (.aload_n 0, 1) := by decide +kernel
theorem dX2_coinsOther_31 : decode cX2_coinsOther 31 = .ok (.getfield 25, 3) := by decide +kernel
theorem dX2_coinsOther_34 : decode cX2_coinsOther 34 = .ok (.iload_n 1, 1) := by decide +kernel
theorem dX2_coinsOther_35 : decode cX2_coinsOther 35 = .ok (.baload, 1) := by decide +kernel
theorem dX2_coinsOther_36 : decode cX2_coinsOther 36 = .ok (.ifCond .ne 7, 3) := by decide +kernel
theorem dX2_coinsOther_39 : decode cX2_coinsOther 39 = .ok (.iconst 1, 1) := by decide +kernel
theorem dX2_coinsOther_40 : decode cX2_coinsOther 40 = .ok (.goto 4, 3) := by decide +kernel
theorem dX2_coinsOther_43 : decode cX2_coinsOther 43 = .ok (.iconst 0, 1) := by decide +kernel
theorem dX2_coinsOther_44 : decode cX2_coinsOther 44 = .ok (.bastore, 1) := by decide +kernel
theorem dX2_coinsOther_45 : decode cX2_coinsOther 45 = .ok (.iload_n 2, 1) := by decide +kernel
theorem dX2_coinsOther_46 : decode cX2_coinsOther 46 = .ok (.ireturn, 1) := by decide +kernel
set_option maxRecDepth 20000 in
theorem ggX2_worth_X2_isEntry : GoodIn wsX2_worth wsX2_isEntry := goodIn_r _ [6, 7, 8, 9, 5, 10, 73, 74, 75, 76, 77, 78, 79, 80, 81, 82, 83, 84, 85, 86, 87, 88, 89] (by decide +kernel) (by decide +kernel)
set_option maxRecDepth 20000 in
theorem gX2_worth_X2_isEntry : GoodIn wsX2_worth (wsV RX2 105 RX2 yX2_isEntry wsX2_isEntry) := goodIn_app (goodIn_of _ (by decide +kernel)) ggX2_worth_X2_isEntry
set_option maxRecDepth 20000 in
theorem ggX2_worth_X2_coinsNow : GoodIn wsX2_worth wsX2_coinsNow := goodIn_r _ [14, 7, 15, 16, 17, 18, 5, 19, 20, 21, 22, 23, 24, 25, 26, 27, 28, 29, 30, 31, 32, 33, 34, 35, 36, 37, 38, 39, 40, 41, 42, 43, 44, 45, 46, 47, 48, 49, 50, 51, 52, 53, 54, 55, 56, 57, 58, 59, 60, 61, 62, 63, 64, 73, 74, 75, 76, 77, 78, 79, 80, 81, 82, 83, 84, 85, 86, 87, 88, 89] (by decide +kernel) (by decide +kernel)
set_option maxRecDepth 20000 in
theorem gX2_worth_X2_coinsNow : GoodIn wsX2_worth (wsV RX2 124 RX2 yX2_coinsNow wsX2_coinsNow) := goodIn_app (goodIn_of _ (by decide +kernel)) ggX2_worth_X2_coinsNow
set_option maxRecDepth 20000 in
theorem ggX2_worth_X2_coinsOther : GoodIn wsX2_worth wsX2_coinsOther := goodIn_r _ [68, 27, 11, 12, 13, 5, 14, 7, 15, 16, 17, 18, 19, 20, 21, 22, 23, 24, 25, 26, 28, 29, 30, 31, 32, 33, 34, 35, 36, 37, 38, 39, 40, 41, 42, 43, 44, 45, 46, 47, 48, 49, 50, 51, 52, 53, 54, 55, 56, 57, 58, 59, 60, 61, 62, 63, 64, 73, 74, 75, 76, 77, 78, 79, 80, 81, 82, 83, 84, 85, 86, 87, 88, 89] (by decide +kernel) (by decide +kernel)
set_option maxRecDepth 20000 in
theorem gX2_worth_X2_coinsOther : GoodIn wsX2_worth (wsV RX2 127 RX2 yX2_coinsOther wsX2_coinsOther) := goodIn_app (goodIn_of _ (by decide +kernel)) ggX2_worth_X2_coinsOther
set_option maxRecDepth 20000 in
theorem ggX2_worth_X2_fail : GoodIn wsX2_worth wsX2_fail := goodIn_r _ [72, 1, 73, 74, 75, 76, 77, 78, 79, 80, 81, 82, 83, 84, 85, 86, 87, 88, 89] (by decide +kernel) (by decide +kernel)
set_option maxRecDepth 20000 in
theorem gX2_worth_X2_fail : GoodIn wsX2_worth (wsV RX2 43 RX2 yX2_fail wsX2_fail) := goodIn_app (goodIn_of _ (by decide +kernel)) ggX2_worth_X2_fail
theorem dX2_worth_0 : decode cX2_worth 0 = .ok (.aload_n 0, 1) := by decide +kernel
theorem dX2_worth_1 : decode cX2_worth 1 = .ok (.iconst 0, 1) := by decide +kernel
theorem dX2_worth_2 : decode cX2_worth 2 = .ok (.putfield 32, 3) := by decide +kernel
theorem dX2_worth_5 : decode cX2_worth 5 = .ok (.aload_n 0, 1) := by decide +kernel
theorem dX2_worth_6 : decode cX2_worth 6 = .ok (.iload_n 1, 1) := by decide +kernel
theorem dX2_worth_7 : decode cX2_worth 7 = .ok (.invokevirtual 105, 3) := by decide +kernel
theorem dX2_worth_10 : decode cX2_worth 10 = .ok (.ifCond .eq 16, 3) := by decide +kernel
theorem dX2_worth_13 : decode cX2_worth 13 = .ok (.aload_n 0, 1) := by decide +kernel
theorem dX2_worth_14 : decode cX2_worth 14 = .ok (.invokevirtual 124, 3) := by decide +kernel
theorem dX2_worth_17 : decode cX2_worth 17 = .ok (.aload_n 0, 1) := by decide +kernel
theorem dX2_worth_18 : decode cX2_worth 18 = .ok (.iload_n 1, 1) := by decide +kernel
theorem dX2_worth_19 : decode cX2_worth 19 = .ok (.invokevirtual 127, 3) := by decide +kernel
theorem dX2_worth_22 : decode cX2_worth 22 = .ok (.isub, 1) := by decide +kernel
theorem dX2_worth_23 : decode cX2_worth 23 = .ok (.goto 8, 3) := by decide +kernel
theorem dX2_worth_26 : decode cX2_worth 26 = .ok (.aload_n 0, 1) := by decide +kernel
theorem dX2_worth_27 : decode cX2_worth 27 = .ok (.iconst 1, 1) := by decide +kernel
theorem dX2_worth_28 : decode cX2_worth 28 = .ok (.invokevirtual 43, 3) := by decide +kernel
theorem dX2_worth_31 : decode cX2_worth 31 = .ok (.ireturn, 1) := by decide +kernel
set_option maxRecDepth 20000 in
theorem ggX2_best_X2_coinsNow : GoodIn wsX2_best wsX2_coinsNow := goodIn_r _ [8, 2, 9, 10, 11, 12, 7, 13, 14, 15, 16, 17, 18, 19, 20, 3, 21, 22, 23, 24, 25, 26, 27, 28, 29, 30, 31, 32, 33, 34, 35, 36, 37, 38, 39, 40, 41, 42, 43, 44, 45, 46, 47, 48, 49, 50, 51, 52, 53, 54, 55, 56, 57, 62, 63, 64, 65, 66, 67, 68, 69, 70, 71, 72, 73, 74, 75, 76, 77, 78] (by decide +kernel) (by decide +kernel)
set_option maxRecDepth 20000 in
theorem gX2_best_X2_coinsNow : GoodIn wsX2_best (wsV RX2 124 RX2 yX2_coinsNow wsX2_coinsNow) := goodIn_app (goodIn_of _ (by decide +kernel)) ggX2_best_X2_coinsNow
set_option maxRecDepth 20000 in
theorem ggX2_best_X2_coinsOther : GoodIn wsX2_best wsX2_coinsOther := goodIn_r _ [61, 3, 4, 5, 6, 7, 8, 2, 9, 10, 11, 12, 13, 14, 15, 16, 17, 18, 19, 20, 21, 22, 23, 24, 25, 26, 27, 28, 29, 30, 31, 32, 33, 34, 35, 36, 37, 38, 39, 40, 41, 42, 43, 44, 45, 46, 47, 48, 49, 50, 51, 52, 53, 54, 55, 56, 57, 62, 63, 64, 65, 66, 67, 68, 69, 70, 71, 72, 73, 74, 75, 76, 77, 78] (by decide +kernel) (by decide +kernel)
set_option maxRecDepth 20000 in
theorem gX2_best_X2_coinsOther : GoodIn wsX2_best (wsV RX2 127 RX2 yX2_coinsOther wsX2_coinsOther) := goodIn_app (goodIn_of _ (by decide +kernel)) ggX2_best_X2_coinsOther
theorem dX2_best_0 : decode cX2_best 0 = .ok (.aload_n 0, 1) := by decide +kernel
theorem dX2_best_1 : decode cX2_best 1 = .ok (.iconst 0, 1) := by decide +kernel
theorem dX2_best_2 : decode cX2_best 2 = .ok (.putfield 32, 3) := by decide +kernel
theorem dX2_best_5 : decode cX2_best 5 = .ok (.iconst (-1), 1) := by decide +kernel
theorem dX2_best_6 : decode cX2_best 6 = .ok (.istore_n 1, 1) := by decide +kernel
theorem dX2_best_7 : decode cX2_best 7 = .ok (.aload_n 0, 1) := by decide +kernel
theorem dX2_best_8 : decode cX2_best 8 = .ok (.invokevirtual 124, 3) := by decide +kernel
theorem dX2_best_11 : decode cX2_best 11 = .ok (.istore_n 2, 1) := by decide +kernel
theorem dX2_best_12 : decode cX2_best 12 = .ok (.iconst 0, 1) := by decide +kernel
theorem dX2_best_13 : decode cX2_best 13 = .ok (.istore_n 3, 1) := by decide +kernel
theorem dX2_best_14 : decode cX2_best 14 = .ok (.iload_n 3, 1) := by decide +kernel
theorem dX2_best_15 : decode cX2_best 15 = .ok (.aload_n 0, 1) := by decide +kernel
theorem dX2_best_16 : decode cX2_best 16 = .ok (.getfield 36, 3) := by decide +kernel
theorem dX2_best_19 : decode cX2_best 19 = .ok (.if_icmp .ge 42, 3) := by decide +kernel
theorem dX2_best_22 : decode cX2_best 22 = .ok (.aload_n 0, 1) := by decide +kernel
theorem dX2_best_23 : decode cX2_best 23 = .ok (.getfield 25, 3) := by decide +kernel
theorem dX2_best_26 : decode cX2_best 26 = .ok (.iload_n 3, 1) := by decide +kernel
theorem dX2_best_27 : decode cX2_best 27 = .ok (.baload, 1) := by decide +kernel
theorem dX2_best_28 : decode cX2_best 28 = .ok (.ifCond .eq 6, 3) := by decide +kernel
theorem dX2_best_31 : decode cX2_best 31 = .ok (.goto 24, 3) := by decide +kernel
theorem dX2_best_34 : decode cX2_best 34 = .ok (.aload_n 0, 1) := by decide +kernel
theorem dX2_best_35 : decode cX2_best 35 = .ok (.iload_n 3, 1) := by decide +kernel
theorem dX2_best_36 : decode cX2_best 36 = .ok (.invokevirtual 127, 3) := by decide +kernel
theorem dX2_best_39 : decode cX2_best 39 = .ok (.istore 4, 2) := by decide +kernel
theorem dX2_best_41 : decode cX2_best 41 = .ok (.iload 4, 2) := by decide +kernel
theorem dX2_best_43 : decode cX2_best 43 = .ok (.iload_n 2, 1) := by decide +kernel
theorem dX2_best_44 : decode cX2_best 44 = .ok (.if_icmp .gt 6, 3) := by decide +kernel
theorem dX2_best_47 : decode cX2_best 47 = .ok (.goto 8, 3) := by decide +kernel
theorem dX2_best_50 : decode cX2_best 50 = .ok (.iload_n 3, 1) := by decide +kernel
theorem dX2_best_51 : decode cX2_best 51 = .ok (.istore_n 1, 1) := by decide +kernel
theorem dX2_best_52 : decode cX2_best 52 = .ok (.iload 4, 2) := by decide +kernel
theorem dX2_best_54 : decode cX2_best 54 = .ok (.istore_n 2, 1) := by decide +kernel
theorem dX2_best_55 : decode cX2_best 55 = .ok (.iinc 3 1, 3) := by decide +kernel
theorem dX2_best_58 : decode cX2_best 58 = .ok (.goto (-44), 3) := by decide +kernel
theorem dX2_best_61 : decode cX2_best 61 = .ok (.iload_n 1, 1) := by decide +kernel
theorem dX2_best_62 : decode cX2_best 62 = .ok (.ireturn, 1) := by decide +kernel
set_option maxRecDepth 20000 in
theorem ggX2_would_X2_isIn : GoodIn wsX2_would wsX2_isIn := goodIn_r _ [6] (by decide +kernel) (by decide +kernel)
set_option maxRecDepth 20000 in
theorem gX2_would_X2_isIn : GoodIn wsX2_would (va_wsS RX2 39 yX2_isIn wsX2_isIn) := goodIn_app (goodIn_of _ (by decide +kernel)) ggX2_would_X2_isIn
set_option maxRecDepth 20000 in
theorem ggX2_would_X2_fail : GoodIn wsX2_would wsX2_fail := goodIn_r _ [10, 1, 61, 62, 63, 64, 65, 66, 67, 68, 69, 70, 71, 72, 73, 74, 75, 76, 77] (by decide +kernel) (by decide +kernel)
set_option maxRecDepth 20000 in
theorem gX2_would_X2_fail : GoodIn wsX2_would (wsV RX2 43 RX2 yX2_fail wsX2_fail) := goodIn_app (goodIn_of _ (by decide +kernel)) ggX2_would_X2_fail
set_option maxRecDepth 20000 in
theorem ggX2_would_X2_reckon : GoodIn wsX2_would wsX2_reckon := goodIn_r _ [14, 15, 16, 17, 18, 19, 20, 21, 22, 23, 24, 25, 26, 27, 28, 29, 30, 5, 31, 32, 33, 34, 35, 36, 37, 38, 39, 40, 41, 42, 43, 44, 45, 46, 47, 48, 49, 50, 51, 52, 53, 54, 55, 56, 57, 58, 59, 60, 61, 62, 63, 64, 65, 66, 67, 68, 69, 70, 71, 72, 73, 74, 75, 76, 77] (by decide +kernel) (by decide +kernel)
set_option maxRecDepth 20000 in
theorem gX2_would_X2_reckon : GoodIn wsX2_would (wsV RX2 111 RX2 yX2_reckon wsX2_reckon) := goodIn_app (goodIn_of _ (by decide +kernel)) ggX2_would_X2_reckon
set_option maxRecDepth 20000 in
theorem ggX2_would_X2_canToss : GoodIn wsX2_would wsX2_canToss := goodIn_r _ [38, 18, 39, 40, 17, 61, 62, 63, 64, 65, 66, 67, 68, 69, 70, 71, 72, 73, 74, 75, 76, 77] (by decide +kernel) (by decide +kernel)
set_option maxRecDepth 20000 in
theorem gX2_would_X2_canToss : GoodIn wsX2_would (wsV RX2 66 RX2 yX2_canToss wsX2_canToss) := goodIn_app (goodIn_of _ (by decide +kernel)) ggX2_would_X2_canToss
set_option maxRecDepth 20000 in
theorem ggX2_would_X2_brings : GoodIn wsX2_would wsX2_brings := goodIn_r _ [55, 56, 17, 61, 62, 63, 64, 65, 66, 67, 68, 69, 70, 71, 72, 73, 74, 75, 76, 77] (by decide +kernel) (by decide +kernel)
set_option maxRecDepth 20000 in
theorem gX2_would_X2_brings : GoodIn wsX2_would (wsV RX2 73 RX2 yX2_brings wsX2_brings) := goodIn_app (goodIn_of _ (by decide +kernel)) ggX2_would_X2_brings
theorem dX2_would_0 : decode cX2_would 0 = .ok (.aload_n 0, 1) := by decide +kernel
theorem dX2_would_1 : decode cX2_would 1 = .ok (.iconst 0, 1) := by decide +kernel
theorem dX2_would_2 : decode cX2_would 2 = .ok (.putfield 32, 3) := by decide +kernel
theorem dX2_would_5 : decode cX2_would 5 = .ok (.iload_n 1, 1) := by decide +kernel
theorem dX2_would_6 : decode cX2_would 6 = .ok (.iconst 0, 1) := by decide +kernel
theorem dX2_would_7 : decode cX2_would 7 = .ok (.iconst 5, 1) := by decide +kernel
theorem dX2_would_8 : decode cX2_would 8 = .ok (.invokestatic 39, 3) := by decide +kernel
theorem dX2_would_11 : decode cX2_would 11 = .ok (.ifCond .ne 9, 3) := by decide +kernel
theorem dX2_would_14 : decode cX2_would 14 = .ok (.aload_n 0, 1) := by decide +kernel
theorem dX2_would_15 : decode cX2_would 15 = .ok (.iconst 1, 1) := by decide +kernel
theorem dX2_would_16 : decode cX2_would 16 = .ok (.invokevirtual 43, 3) := by decide +kernel
theorem dX2_would_19 : decode cX2_would 19 = .ok (.ireturn, 1) := by decide +kernel
theorem dX2_would_20 : decode cX2_would 20 = .ok (.iload_n 2, 1) := by decide +kernel
theorem dX2_would_21 : decode cX2_would 21 = .ok (.iconst 0, 1) := by decide +kernel
theorem dX2_would_22 : decode cX2_would 22 = .ok (.bipush 20, 2) := by decide +kernel
theorem dX2_would_24 : decode cX2_would 24 = .ok (.invokestatic 39, 3) := by decide +kernel
theorem dX2_would_27 : decode cX2_would 27 = .ok (.ifCond .ne 9, 3) := by decide +kernel
theorem dX2_would_30 : decode cX2_would 30 = .ok (.aload_n 0, 1) := by decide +kernel
theorem dX2_would_31 : decode cX2_would 31 = .ok (.iconst 2, 1) := by decide +kernel
theorem dX2_would_32 : decode cX2_would 32 = .ok (.invokevirtual 43, 3) := by decide +kernel
theorem dX2_would_35 : decode cX2_would 35 = .ok (.ireturn, 1) := by decide +kernel
theorem dX2_would_36 : decode cX2_would 36 = .ok (.aload_n 0, 1) := by decide +kernel
theorem dX2_would_37 : decode cX2_would 37 = .ok (.aload_n 0, 1) := by decide +kernel
theorem dX2_would_38 : decode cX2_would 38 = .ok (.getfield 36, 3) := by decide +kernel
theorem dX2_would_41 : decode cX2_would 41 = .ok (.invokevirtual 111, 3) := by decide +kernel
theorem dX2_would_44 : decode cX2_would 44 = .ok (.pop, 1) := by decide +kernel
theorem dX2_would_45 : decode cX2_would 45 = .ok (.aload_n 0, 1) := by decide +kernel
theorem dX2_would_46 : decode cX2_would 46 = .ok (.iload_n 1, 1) := by decide +kernel
theorem dX2_would_47 : decode cX2_would 47 = .ok (.invokevirtual 66, 3) := by decide +kernel
theorem dX2_would_50 : decode cX2_would 50 = .ok (.ifCond .eq 11, 3) := by decide +kernel
theorem dX2_would_53 : decode cX2_would 53 = .ok (.aload_n 0, 1) := by decide +kernel
theorem dX2_would_54 : decode cX2_would 54 = .ok (.iload_n 2, 1) := by decide +kernel
theorem dX2_would_55 : decode cX2_would 55 = .ok (.invokevirtual 73, 3) := by decide +kernel
theorem dX2_would_58 : decode cX2_would 58 = .ok (.goto 4, 3) := by decide +kernel
theorem dX2_would_61 : decode cX2_would 61 = .ok (.iconst (-1), 1) := by decide +kernel
theorem dX2_would_62 : decode cX2_would 62 = .ok (.ireturn, 1) := by decide +kernel
set_option maxRecDepth 20000 in
theorem ggX2_mean_X2_reckon : GoodIn wsX2_mean wsX2_reckon := goodIn_r _ [8, 9, 10, 11, 3, 12, 13, 14, 15, 16, 17, 18, 19, 20, 21, 22, 23, 7, 24, 25, 26, 27, 28, 29, 30, 31, 32, 33, 34, 35, 36, 37, 38, 39, 40, 41, 42, 43, 44, 45, 46, 47, 48, 49, 50, 51, 52, 53, 58, 59, 60, 61, 62, 63, 64, 65, 66, 67, 68, 69, 70, 71, 72, 73, 74] (by decide +kernel) (by decide +kernel)
set_option maxRecDepth 20000 in
theorem gX2_mean_X2_reckon : GoodIn wsX2_mean (wsV RX2 111 RX2 yX2_reckon wsX2_reckon) := goodIn_app (goodIn_of _ (by decide +kernel)) ggX2_mean_X2_reckon
set_option maxRecDepth 20000 in
theorem ggX2_mean_X2_trustAll : GoodIn wsX2_mean wsX2_trustAll := goodIn_r _ [57, 3, 32, 58, 59, 60, 61, 62, 63, 64, 65, 66, 67, 68, 69, 70, 71, 72, 73, 74] (by decide +kernel) (by decide +kernel)
set_option maxRecDepth 20000 in
theorem gX2_mean_X2_trustAll : GoodIn wsX2_mean (wsV RX2 117 RX2 yX2_trustAll wsX2_trustAll) := goodIn_app (goodIn_of _ (by decide +kernel)) ggX2_mean_X2_trustAll
theorem dX2_mean_0 : decode cX2_mean 0 = .ok (.aload_n 0, 1) := by decide +kernel
theorem dX2_mean_1 : decode cX2_mean 1 = .ok (.iconst 0, 1) := by decide +kernel
theorem dX2_mean_2 : decode cX2_mean 2 = .ok (.putfield 32, 3) := by decide +kernel
theorem dX2_mean_5 : decode cX2_mean 5 = .ok (.aload_n 0, 1) := by decide +kernel
theorem dX2_mean_6 : decode cX2_mean 6 = .ok (.aload_n 0, 1) := by decide +kernel
theorem dX2_mean_7 : decode cX2_mean 7 = .ok (.getfield 36, 3) := by decide +kernel
theorem dX2_mean_10 : decode cX2_mean 10 = .ok (.invokevirtual 111, 3) := by decide +kernel
theorem dX2_mean_13 : decode cX2_mean 13 = .ok (.pop, 1) := by decide +kernel
theorem dX2_mean_14 : decode cX2_mean 14 = .ok (.aload_n 0, 1) := by decide +kernel
theorem dX2_mean_15 : decode cX2_mean 15 = .ok (.getfield 60, 3) := by decide +kernel
theorem dX2_mean_18 : decode cX2_mean 18 = .ok (.ifCond .ne 7, 3) := by decide +kernel
theorem dX2_mean_21 : decode cX2_mean 21 = .ok (.dconst 0, 1) := by decide +kernel
theorem dX2_mean_22 : decode cX2_mean 22 = .ok (.goto 14, 3) := by decide +kernel
theorem dX2_mean_25 : decode cX2_mean 25 = .ok (.aload_n 0, 1) := by decide +kernel
theorem dX2_mean_26 : decode cX2_mean 26 = .ok (.invokevirtual 117, 3) := by decide +kernel
theorem dX2_mean_29 : decode cX2_mean 29 = .ok (.i2d, 1) := by decide +kernel
theorem dX2_mean_30 : decode cX2_mean 30 = .ok (.aload_n 0, 1) := by decide +kernel
theorem dX2_mean_31 : decode cX2_mean 31 = .ok (.getfield 60, 3) := by decide +kernel
theorem dX2_mean_34 : decode cX2_mean 34 = .ok (.i2d, 1) := by decide +kernel
theorem dX2_mean_35 : decode cX2_mean 35 = .ok (.ddiv, 1) := by decide +kernel
theorem dX2_mean_36 : decode cX2_mean 36 = .ok (.dreturn, 1) := by decide +kernel
set_option maxRecDepth 20000 in
theorem ggX2_digest_X2_counted : GoodIn wsX2_digest wsX2_counted := goodIn_r _ [14, 6, 15, 16, 7, 17, 18, 19, 20, 21, 13, 22, 23, 24, 8, 25, 26, 27, 28, 29, 30, 31, 32, 33, 34, 35, 36, 37, 38, 39, 40, 9, 5, 41, 42, 43, 44, 45, 46, 47, 48, 49, 50, 51, 52, 53, 54, 55, 4, 56, 57, 58, 59, 64, 65, 66, 67, 68, 69, 70, 71, 72, 73, 74, 75, 76, 77, 78, 79, 80] (by decide +kernel) (by decide +kernel)
set_option maxRecDepth 20000 in
theorem gX2_digest_X2_counted : GoodIn wsX2_digest (wsV RX2 121 RX2 yX2_counted wsX2_counted) := goodIn_app (goodIn_of _ (by decide +kernel)) ggX2_digest_X2_counted
set_option maxRecDepth 20000 in
theorem ggX2_digest_X2_entryTold : GoodIn wsX2_digest wsX2_entryTold := goodIn_r _ [63, 35, 34, 36, 15, 19, 20, 21, 13, 22, 7, 23, 24, 8, 16, 25, 17, 18, 26, 27, 28, 29, 30, 31, 32, 33, 37, 38, 39, 40, 9, 5, 41, 42, 43, 44, 45, 46, 47, 48, 49, 50, 51, 52, 53, 54, 55, 4, 56, 57, 58, 59, 64, 65, 66, 67, 68, 69, 70, 71, 72, 73, 74, 75, 76, 77, 78, 79, 80] (by decide +kernel) (by decide +kernel)
set_option maxRecDepth 20000 in
theorem gX2_digest_X2_entryTold : GoodIn wsX2_digest (wsV RX2 114 RX2 yX2_entryTold wsX2_entryTold) := goodIn_app (goodIn_of _ (by decide +kernel)) ggX2_digest_X2_entryTold
set_option maxRecDepth 20000 in
theorem ggX2_digest_X2_reckon : GoodIn wsX2_digest wsX2_reckon := goodIn_r _ [22, 7, 23, 24, 8, 16, 25, 17, 18, 15, 26, 27, 28, 29, 30, 31, 32, 13, 33, 34, 35, 36, 37, 38, 39, 40, 9, 5, 41, 42, 43, 44, 45, 46, 47, 48, 49, 50, 51, 52, 53, 54, 55, 4, 56, 57, 58, 59, 64, 65, 66, 67, 68, 69, 70, 71, 72, 73, 74, 75, 76, 77, 78, 79, 80] (by decide +kernel) (by decide +kernel)
set_option maxRecDepth 20000 in
theorem gX2_digest_X2_reckon : GoodIn wsX2_digest (wsV RX2 111 RX2 yX2_reckon wsX2_reckon) := goodIn_app (goodIn_of _ (by decide +kernel)) ggX2_digest_X2_reckon
theorem dX2_digest_0 : decode cX2_digest 0 = .ok (.aload_n 0, 1) := by decide +kernel
theorem dX2_digest_1 : decode cX2_digest 1 = .ok (.iconst 0, 1) := by decide +kernel
theorem dX2_digest_2 : decode cX2_digest 2 = .ok (.putfield 32, 3) := by decide +kernel
theorem dX2_digest_5 : decode cX2_digest 5 = .ok (.ldc2_w 130, 3) := by decide +kernel
theorem dX2_digest_8 : decode cX2_digest 8 = .ok (.lstore_n 1, 1) := by decide +kernel
theorem dX2_digest_9 : decode cX2_digest 9 = .ok (.iconst 0, 1) := by decide +kernel
theorem dX2_digest_10 : decode cX2_digest 10 = .ok (.istore_n 3, 1) := by decide +kernel
theorem dX2_digest_11 : decode cX2_digest 11 = .ok (.iload_n 3, 1) := by decide +kernel
theorem dX2_digest_12 : decode cX2_digest 12 = .ok (.bipush 6, 2) := by decide +kernel
theorem dX2_digest_14 : decode cX2_digest 14 = .ok (.if_icmp .ge 22, 3) := by decide +kernel
theorem dX2_digest_17 : decode cX2_digest 17 = .ok (.lload_n 1, 1) := by decide +kernel
theorem dX2_digest_18 : decode cX2_digest 18 = .ok (.ldc2_w 132, 3) := by decide +kernel
theorem dX2_digest_21 : decode cX2_digest 21 = .ok (.lmul, 1) := by decide +kernel
theorem dX2_digest_22 : decode cX2_digest 22 = .ok (.aload_n 0, 1) := by decide +kernel
theorem dX2_digest_23 : decode cX2_digest 23 = .ok (.iload_n 3, 1) := by decide +kernel
theorem dX2_digest_24 : decode cX2_digest 24 = .ok (.invokevirtual 121, 3) := by decide +kernel
theorem dX2_digest_27 : decode cX2_digest 27 = .ok (.i2l, 1) := by decide +kernel
theorem dX2_digest_28 : decode cX2_digest 28 = .ok (.ladd, 1) := by decide +kernel
theorem dX2_digest_29 : decode cX2_digest 29 = .ok (.lstore_n 1, 1) := by decide +kernel
theorem dX2_digest_30 : decode cX2_digest 30 = .ok (.iinc 3 1, 3) := by decide +kernel
theorem dX2_digest_33 : decode cX2_digest 33 = .ok (.goto (-22), 3) := by decide +kernel
theorem dX2_digest_36 : decode cX2_digest 36 = .ok (.iconst 0, 1) := by decide +kernel
theorem dX2_digest_37 : decode cX2_digest 37 = .ok (.istore_n 3, 1) := by decide +kernel
theorem dX2_digest_38 : decode cX2_digest 38 = .ok (.iload_n 3, 1) := by decide +kernel
theorem dX2_digest_39 : decode cX2_digest 39 = .ok (.iconst 4, 1) := by decide +kernel
theorem dX2_digest_40 : decode cX2_digest 40 = .ok (.if_icmp .ge 35, 3) := by decide +kernel
theorem dX2_digest_43 : decode cX2_digest 43 = .ok (.lload_n 1, 1) := by decide +kernel
theorem dX2_digest_44 : decode cX2_digest 44 = .ok (.ldc2_w 132, 3) := by decide +kernel
theorem dX2_digest_47 : decode cX2_digest 47 = .ok (.lmul, 1) := by decide +kernel
theorem dX2_digest_48 : decode cX2_digest 48 = .ok (.aload_n 0, 1) := by decide +kernel
theorem dX2_digest_49 : decode cX2_digest 49 = .ok (.getfield 9, 3) := by decide +kernel
theorem dX2_digest_52 : decode cX2_digest 52 = .ok (.iload_n 3, 1) := by decide +kernel
theorem dX2_digest_53 : decode cX2_digest 53 = .ok (.iaload, 1) := by decide +kernel
theorem dX2_digest_54 : decode cX2_digest 54 = .ok (.i2l, 1) := by decide +kernel
theorem dX2_digest_55 : decode cX2_digest 55 = .ok (.ladd, 1) := by decide +kernel
theorem dX2_digest_56 : decode cX2_digest 56 = .ok (.ldc2_w 132, 3) := by decide +kernel
theorem dX2_digest_59 : decode cX2_digest 59 = .ok (.lmul, 1) := by decide +kernel
theorem dX2_digest_60 : decode cX2_digest 60 = .ok (.aload_n 0, 1) := by decide +kernel
theorem dX2_digest_61 : decode cX2_digest 61 = .ok (.getfield 13, 3) := by decide +kernel
theorem dX2_digest_64 : decode cX2_digest 64 = .ok (.iload_n 3, 1) := by decide +kernel
theorem dX2_digest_65 : decode cX2_digest 65 = .ok (.iaload, 1) := by decide +kernel
theorem dX2_digest_66 : decode cX2_digest 66 = .ok (.i2l, 1) := by decide +kernel
theorem dX2_digest_67 : decode cX2_digest 67 = .ok (.ladd, 1) := by decide +kernel
theorem dX2_digest_68 : decode cX2_digest 68 = .ok (.lstore_n 1, 1) := by decide +kernel
theorem dX2_digest_69 : decode cX2_digest 69 = .ok (.iinc 3 1, 3) := by decide +kernel
theorem dX2_digest_72 : decode cX2_digest 72 = .ok (.goto (-34), 3) := by decide +kernel
theorem dX2_digest_75 : decode cX2_digest 75 = .ok (.iconst 0, 1) := by decide +kernel
theorem dX2_digest_76 : decode cX2_digest 76 = .ok (.istore_n 3, 1) := by decide +kernel
theorem dX2_digest_77 : decode cX2_digest 77 = .ok (.iload_n 3, 1) := by decide +kernel
theorem dX2_digest_78 : decode cX2_digest 78 = .ok (.aload_n 0, 1) := by decide +kernel
theorem dX2_digest_79 : decode cX2_digest 79 = .ok (.getfield 36, 3) := by decide +kernel
theorem dX2_digest_82 : decode cX2_digest 82 = .ok (.if_icmp .ge 51, 3) := by decide +kernel
theorem dX2_digest_85 : decode cX2_digest 85 = .ok (.iconst 0, 1) := by decide +kernel
theorem dX2_digest_86 : decode cX2_digest 86 = .ok (.istore 4, 2) := by decide +kernel
theorem dX2_digest_88 : decode cX2_digest 88 = .ok (.iload 4, 2) := by decide +kernel
theorem dX2_digest_90 : decode cX2_digest 90 = .ok (.iconst 5, 1) := by decide +kernel
theorem dX2_digest_91 : decode cX2_digest 91 = .ok (.if_icmp .ge 24, 3) := by decide +kernel
theorem dX2_digest_94 : decode cX2_digest 94 = .ok (.lload_n 1, 1) := by decide +kernel
theorem dX2_digest_95 : decode cX2_digest 95 = .ok (.ldc2_w 132, 3) := by decide +kernel
theorem dX2_digest_98 : decode cX2_digest 98 = .ok (.lmul, 1) := by decide +kernel
theorem dX2_digest_99 : decode cX2_digest 99 = .ok (.aload_n 0, 1) := by decide +kernel
theorem dX2_digest_100 : decode cX2_digest 100 = .ok (.iload_n 3, 1) := by decide +kernel
theorem dX2_digest_101 : decode cX2_digest 101 = .ok (.iload 4, 2) := by decide +kernel
theorem dX2_digest_103 : decode cX2_digest 103 = .ok (.invokevirtual 114, 3) := by decide +kernel
theorem dX2_digest_106 : decode cX2_digest 106 = .ok (.i2l, 1) := by decide +kernel
theorem dX2_digest_107 : decode cX2_digest 107 = .ok (.ladd, 1) := by decide +kernel
theorem dX2_digest_108 : decode cX2_digest 108 = .ok (.lstore_n 1, 1) := by decide +kernel
theorem dX2_digest_109 : decode cX2_digest 109 = .ok (.iinc 4 1, 3) := by decide +kernel
theorem dX2_digest_112 : decode cX2_digest 112 = .ok (.goto (-24), 3) := by decide +kernel
theorem dX2_digest_115 : decode cX2_digest 115 = .ok (.lload_n 1, 1) := by decide +kernel
theorem dX2_digest_116 : decode cX2_digest 116 = .ok (.ldc2_w 132, 3) := by decide +kernel
theorem dX2_digest_119 : decode cX2_digest 119 = .ok (.lmul, 1) := by decide +kernel
theorem dX2_digest_120 : decode cX2_digest 120 = .ok (.aload_n 0, 1) := by decide +kernel
theorem dX2_digest_121 : decode cX2_digest 121 = .ok (.getfield 70, 3) := by decide +kernel
theorem dX2_digest_124 : decode cX2_digest 124 = .ok (.i2l, 1) := by decide +kernel
theorem dX2_digest_125 : decode cX2_digest 125 = .ok (.ladd, 1) := by decide +kernel
theorem dX2_digest_126 : decode cX2_digest 126 = .ok (.lstore_n 1, 1) := by decide +kernel
theorem dX2_digest_127 : decode cX2_digest 127 = .ok (.iinc 3 1, 3) := by decide +kernel
theorem dX2_digest_130 : decode cX2_digest 130 = .ok (.goto (-53), 3) := by decide +kernel
theorem dX2_digest_133 : decode cX2_digest 133 = .ok (.aload_n 0, 1) := by decide +kernel
theorem dX2_digest_134 : decode cX2_digest 134 = .ok (.aload_n 0, 1) := by decide +kernel
theorem dX2_digest_135 : decode cX2_digest 135 = .ok (.getfield 36, 3) := by decide +kernel
theorem dX2_digest_138 : decode cX2_digest 138 = .ok (.invokevirtual 111, 3) := by decide +kernel
theorem dX2_digest_141 : decode cX2_digest 141 = .ok (.pop, 1) := by decide +kernel
theorem dX2_digest_142 : decode cX2_digest 142 = .ok (.iconst 0, 1) := by decide +kernel
theorem dX2_digest_143 : decode cX2_digest 143 = .ok (.istore_n 3, 1) := by decide +kernel
theorem dX2_digest_144 : decode cX2_digest 144 = .ok (.iload_n 3, 1) := by decide +kernel
theorem dX2_digest_145 : decode cX2_digest 145 = .ok (.bipush 6, 2) := by decide +kernel
theorem dX2_digest_147 : decode cX2_digest 147 = .ok (.if_icmp .ge 35, 3) := by decide +kernel
theorem dX2_digest_150 : decode cX2_digest 150 = .ok (.lload_n 1, 1) := by decide +kernel
theorem dX2_digest_151 : decode cX2_digest 151 = .ok (.ldc2_w 132, 3) := by decide +kernel
theorem dX2_digest_154 : decode cX2_digest 154 = .ok (.lmul, 1) := by decide +kernel
theorem dX2_digest_155 : decode cX2_digest 155 = .ok (.iload_n 3, 1) := by decide +kernel
theorem dX2_digest_156 : decode cX2_digest 156 = .ok (.aload_n 0, 1) := by decide +kernel
theorem dX2_digest_157 : decode cX2_digest 157 = .ok (.getfield 60, 3) := by decide +kernel
theorem dX2_digest_160 : decode cX2_digest 160 = .ok (.if_icmp .ge 12, 3) := by decide +kernel
theorem dX2_digest_163 : decode cX2_digest 163 = .ok (.aload_n 0, 1) := by decide +kernel
theorem dX2_digest_164 : decode cX2_digest 164 = .ok (.getfield 29, 3) := by decide +kernel
theorem dX2_digest_167 : decode cX2_digest 167 = .ok (.iload_n 3, 1) := by decide +kernel
theorem dX2_digest_168 : decode cX2_digest 168 = .ok (.iaload, 1) := by decide +kernel
theorem dX2_digest_169 : decode cX2_digest 169 = .ok (.goto 4, 3) := by decide +kernel
theorem dX2_digest_172 : decode cX2_digest 172 = .ok (.iconst (-1), 1) := by decide +kernel
theorem dX2_digest_173 : decode cX2_digest 173 = .ok (.i2l, 1) := by decide +kernel
theorem dX2_digest_174 : decode cX2_digest 174 = .ok (.ladd, 1) := by decide +kernel
theorem dX2_digest_175 : decode cX2_digest 175 = .ok (.lstore_n 1, 1) := by decide +kernel
theorem dX2_digest_176 : decode cX2_digest 176 = .ok (.iinc 3 1, 3) := by decide +kernel
theorem dX2_digest_179 : decode cX2_digest 179 = .ok (.goto (-35), 3) := by decide +kernel
theorem dX2_digest_182 : decode cX2_digest 182 = .ok (.lload_n 1, 1) := by decide +kernel
theorem dX2_digest_183 : decode cX2_digest 183 = .ok (.lreturn, 1) := by decide +kernel
theorem dJ9_max_7cf53_0 : decode cJ9_max_7cf53 0 = .ok (.iload_n 0, 1) := by decide +kernel
theorem dJ9_max_7cf53_1 : decode cJ9_max_7cf53 1 = .ok (.iload_n 1, 1) := by decide +kernel
theorem dJ9_max_7cf53_2 : decode cJ9_max_7cf53 2 = .ok (.if_icmp .lt 7, 3) := by decide +kernel
theorem dJ9_max_7cf53_5 : decode cJ9_max_7cf53 5 = .ok (.iload_n 0, 1) := by decide +kernel
theorem dJ9_max_7cf53_6 : decode cJ9_max_7cf53 6 = .ok (.goto 4, 3) := by decide +kernel
theorem dJ9_max_7cf53_9 : decode cJ9_max_7cf53 9 = .ok (.iload_n 1, 1) := by decide +kernel
theorem dJ9_max_7cf53_10 : decode cJ9_max_7cf53 10 = .ok (.ireturn, 1) := by decide +kernel
theorem dJ9_min_7cf53_0 : decode cJ9_min_7cf53 0 = .ok (.iload_n 0, 1) := by decide +kernel
theorem dJ9_min_7cf53_1 : decode cJ9_min_7cf53 1 = .ok (.iload_n 1, 1) := by decide +kernel
theorem dJ9_min_7cf53_2 : decode cJ9_min_7cf53 2 = .ok (.if_icmp .gt 7, 3) := by decide +kernel
theorem dJ9_min_7cf53_5 : decode cJ9_min_7cf53 5 = .ok (.iload_n 0, 1) := by decide +kernel
theorem dJ9_min_7cf53_6 : decode cJ9_min_7cf53 6 = .ok (.goto 4, 3) := by decide +kernel
theorem dJ9_min_7cf53_9 : decode cJ9_min_7cf53 9 = .ok (.iload_n 1, 1) := by decide +kernel
theorem dJ9_min_7cf53_10 : decode cJ9_min_7cf53 10 = .ok (.ireturn, 1) := by decide +kernel
