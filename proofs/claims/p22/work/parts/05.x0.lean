theorem dX0_init_0 : decode cX0_init 0 = .ok (.aload_n 0, 1) := by decide +kernel
theorem dX0_init_1 : decode cX0_init 1 = .ok (.invokespecial 3, 3) := by decide +kernel
theorem dX0_init_4 : decode cX0_init 4 = .ok (.aload_n 0, 1) := by decide +kernel
theorem dX0_init_5 : decode cX0_init 5 = .ok (.iconst 4, 1) := by decide +kernel
theorem dX0_init_6 : decode cX0_init 6 = .ok (.newarray .int, 2) := by decide +kernel
theorem dX0_init_8 : decode cX0_init 8 = .ok (.putfield 9, 3) := by decide +kernel
theorem dX0_init_11 : decode cX0_init 11 = .ok (.aload_n 0, 1) := by decide +kernel
theorem dX0_init_12 : decode cX0_init 12 = .ok (.iconst 4, 1) := by decide +kernel
theorem dX0_init_13 : decode cX0_init 13 = .ok (.newarray .int, 2) := by decide +kernel
theorem dX0_init_15 : decode cX0_init 15 = .ok (.putfield 15, 3) := by decide +kernel
theorem dX0_init_18 : decode cX0_init 18 = .ok (.aload_n 0, 1) := by decide +kernel
theorem dX0_init_19 : decode cX0_init 19 = .ok (.bipush 6, 2) := by decide +kernel
theorem dX0_init_21 : decode cX0_init 21 = .ok (.newarray .int, 2) := by decide +kernel
theorem dX0_init_23 : decode cX0_init 23 = .ok (.putfield 18, 3) := by decide +kernel
theorem dX0_init_26 : decode cX0_init 26 = .ok (.return_, 1) := by decide +kernel
theorem dX0_begin_0 : decode cX0_begin 0 = .ok (.aload_n 0, 1) := by decide +kernel
theorem dX0_begin_1 : decode cX0_begin 1 = .ok (.bipush 10, 2) := by decide +kernel
theorem dX0_begin_3 : decode cX0_begin 3 = .ok (.putfield 21, 3) := by decide +kernel
theorem dX0_begin_6 : decode cX0_begin 6 = .ok (.aload_n 0, 1) := by decide +kernel
theorem dX0_begin_7 : decode cX0_begin 7 = .ok (.iconst 0, 1) := by decide +kernel
theorem dX0_begin_8 : decode cX0_begin 8 = .ok (.putfield 25, 3) := by decide +kernel
theorem dX0_begin_11 : decode cX0_begin 11 = .ok (.aload_n 0, 1) := by decide +kernel
theorem dX0_begin_12 : decode cX0_begin 12 = .ok (.iconst 0, 1) := by decide +kernel
theorem dX0_begin_13 : decode cX0_begin 13 = .ok (.putfield 28, 3) := by decide +kernel
theorem dX0_begin_16 : decode cX0_begin 16 = .ok (.aload_n 0, 1) := by decide +kernel
theorem dX0_begin_17 : decode cX0_begin 17 = .ok (.iconst 0, 1) := by decide +kernel
theorem dX0_begin_18 : decode cX0_begin 18 = .ok (.putfield 31, 3) := by decide +kernel
theorem dX0_begin_21 : decode cX0_begin 21 = .ok (.aload_n 0, 1) := by decide +kernel
theorem dX0_begin_22 : decode cX0_begin 22 = .ok (.iconst 0, 1) := by decide +kernel
theorem dX0_begin_23 : decode cX0_begin 23 = .ok (.putfield 34, 3) := by decide +kernel
theorem dX0_begin_26 : decode cX0_begin 26 = .ok (.aload_n 0, 1) := by decide +kernel
theorem dX0_begin_27 : decode cX0_begin 27 = .ok (.iconst 0, 1) := by decide +kernel
theorem dX0_begin_28 : decode cX0_begin 28 = .ok (.putfield 37, 3) := by decide +kernel
theorem dX0_begin_31 : decode cX0_begin 31 = .ok (.aload_n 0, 1) := by decide +kernel
theorem dX0_begin_32 : decode cX0_begin 32 = .ok (.iconst (-1), 1) := by decide +kernel
theorem dX0_begin_33 : decode cX0_begin 33 = .ok (.putfield 40, 3) := by decide +kernel
theorem dX0_begin_36 : decode cX0_begin 36 = .ok (.aload_n 0, 1) := by decide +kernel
theorem dX0_begin_37 : decode cX0_begin 37 = .ok (.bipush 10, 2) := by decide +kernel
theorem dX0_begin_39 : decode cX0_begin 39 = .ok (.putfield 43, 3) := by decide +kernel
theorem dX0_begin_42 : decode cX0_begin 42 = .ok (.return_, 1) := by decide +kernel
theorem dX0_tally_0 : decode cX0_tally 0 = .ok (.iload_n 2, 1) := by decide +kernel
theorem dX0_tally_1 : decode cX0_tally 1 = .ok (.ifCond .eq 29, 3) := by decide +kernel
theorem dX0_tally_4 : decode cX0_tally 4 = .ok (.aload_n 0, 1) := by decide +kernel
theorem dX0_tally_5 : decode cX0_tally 5 = .ok (.dup, 1) := by decide +kernel
theorem dX0_tally_6 : decode cX0_tally 6 = .ok (.getfield 34, 3) := by decide +kernel
theorem dX0_tally_9 : decode cX0_tally 9 = .ok (.iconst 1, 1) := by decide +kernel
theorem dX0_tally_10 : decode cX0_tally 10 = .ok (.iadd, 1) := by decide +kernel
theorem dX0_tally_11 : decode cX0_tally 11 = .ok (.putfield 34, 3) := by decide +kernel
theorem dX0_tally_14 : decode cX0_tally 14 = .ok (.aload_n 0, 1) := by decide +kernel
theorem dX0_tally_15 : decode cX0_tally 15 = .ok (.aload_n 0, 1) := by decide +kernel
theorem dX0_tally_16 : decode cX0_tally 16 = .ok (.getfield 43, 3) := by decide +kernel
theorem dX0_tally_19 : decode cX0_tally 19 = .ok (.aload_n 0, 1) := by decide +kernel
theorem dX0_tally_20 : decode cX0_tally 20 = .ok (.getfield 21, 3) := by decide +kernel
theorem dX0_tally_23 : decode cX0_tally 23 = .ok (.invokestatic 46, 3) := by decide +kernel
theorem dX0_tally_26 : decode cX0_tally 26 = .ok (.putfield 43, 3) := by decide +kernel
theorem dX0_tally_29 : decode cX0_tally 29 = .ok (.return_, 1) := by decide +kernel
theorem dX0_tally_30 : decode cX0_tally 30 = .ok (.aload_n 0, 1) := by decide +kernel
theorem dX0_tally_31 : decode cX0_tally 31 = .ok (.getfield 37, 3) := by decide +kernel
theorem dX0_tally_34 : decode cX0_tally 34 = .ok (.ifCond .ne 8, 3) := by decide +kernel
theorem dX0_tally_37 : decode cX0_tally 37 = .ok (.aload_n 0, 1) := by decide +kernel
theorem dX0_tally_38 : decode cX0_tally 38 = .ok (.iload_n 1, 1) := by decide +kernel
theorem dX0_tally_39 : decode cX0_tally 39 = .ok (.putfield 40, 3) := by decide +kernel
theorem dX0_tally_42 : decode cX0_tally 42 = .ok (.aload_n 0, 1) := by decide +kernel
theorem dX0_tally_43 : decode cX0_tally 43 = .ok (.dup, 1) := by decide +kernel
theorem dX0_tally_44 : decode cX0_tally 44 = .ok (.getfield 37, 3) := by decide +kernel
theorem dX0_tally_47 : decode cX0_tally 47 = .ok (.iconst 1, 1) := by decide +kernel
theorem dX0_tally_48 : decode cX0_tally 48 = .ok (.iadd, 1) := by decide +kernel
theorem dX0_tally_49 : decode cX0_tally 49 = .ok (.putfield 37, 3) := by decide +kernel
theorem dX0_tally_52 : decode cX0_tally 52 = .ok (.return_, 1) := by decide +kernel
set_option maxRecDepth 20000 in
theorem ggX0_happens_X0_happensJoin : GoodIn wsX0_happens wsX0_happensJoin := goodIn_r _ [6, 7, 8, 56, 57, 58, 59, 60, 61, 62, 63, 64, 65, 66] (by decide +kernel) (by decide +kernel)
set_option maxRecDepth 20000 in
theorem gX0_happens_X0_happensJoin : GoodIn wsX0_happens (wsV RX0 52 RX0 yX0_happensJoin wsX0_happensJoin) := goodIn_app (goodIn_of _ (by decide +kernel)) ggX0_happens_X0_happensJoin
set_option maxRecDepth 20000 in
theorem ggX0_happens_X0_happensToss : GoodIn wsX0_happens wsX0_happensToss := goodIn_r _ [12, 13, 14, 15, 16, 17, 5, 18, 8, 19, 1, 20, 21, 22, 23, 7, 24, 25, 26, 27, 28, 29, 30, 31, 32, 33, 34, 35, 36, 37, 38, 39, 40, 41, 42, 43, 56, 57, 58, 59, 60, 61, 62, 63, 64, 65, 66] (by decide +kernel) (by decide +kernel)
set_option maxRecDepth 20000 in
theorem gX0_happens_X0_happensToss : GoodIn wsX0_happens (wsV RX0 56 RX0 yX0_happensToss wsX0_happensToss) := goodIn_app (goodIn_of _ (by decide +kernel)) ggX0_happens_X0_happensToss
set_option maxRecDepth 20000 in
theorem ggX0_happens_X0_happensRest : GoodIn wsX0_happens wsX0_happensRest := goodIn_r _ [47, 20, 21, 22, 5, 23, 7, 33, 34, 35, 36, 8, 37, 38, 39, 40, 41, 42, 43, 56, 57, 58, 59, 60, 61, 62, 63, 64, 65, 66] (by decide +kernel) (by decide +kernel)
set_option maxRecDepth 20000 in
theorem gX0_happens_X0_happensRest : GoodIn wsX0_happens (wsV RX0 60 RX0 yX0_happensRest wsX0_happensRest) := goodIn_app (goodIn_of _ (by decide +kernel)) ggX0_happens_X0_happensRest
set_option maxRecDepth 20000 in
theorem ggX0_happens_X0_happensPay : GoodIn wsX0_happens wsX0_happensPay := goodIn_r _ [51, 13, 20, 21, 22, 5, 23, 7, 33, 34, 35, 36, 8, 37, 38, 39, 40, 41, 42, 43, 56, 57, 58, 59, 60, 61, 62, 63, 64, 65, 66] (by decide +kernel) (by decide +kernel)
set_option maxRecDepth 20000 in
theorem gX0_happens_X0_happensPay : GoodIn wsX0_happens (wsV RX0 63 RX0 yX0_happensPay wsX0_happensPay) := goodIn_app (goodIn_of _ (by decide +kernel)) ggX0_happens_X0_happensPay
set_option maxRecDepth 20000 in
theorem ggX0_happens_X0_happensBuy : GoodIn wsX0_happens wsX0_happensBuy := goodIn_r _ [55, 13, 14, 56, 57, 58, 59, 60, 61, 62, 63, 64, 65, 66] (by decide +kernel) (by decide +kernel)
set_option maxRecDepth 20000 in
theorem gX0_happens_X0_happensBuy : GoodIn wsX0_happens (wsV RX0 66 RX0 yX0_happensBuy wsX0_happensBuy) := goodIn_app (goodIn_of _ (by decide +kernel)) ggX0_happens_X0_happensBuy
theorem dX0_happens_0 : decode cX0_happens 0 = .ok (.iload_n 1, 1) := by decide +kernel
theorem dX0_happens_1 : decode cX0_happens 1 = .ok (.tableswitch 68 0 4 #[35, 41, 48, 54, 61], 35) := by decide +kernel
theorem dX0_happens_36 : decode cX0_happens 36 = .ok (.aload_n 0, 1) := by decide +kernel
theorem dX0_happens_37 : decode cX0_happens 37 = .ok (.iload_n 2, 1) := by decide +kernel
theorem dX0_happens_38 : decode cX0_happens 38 = .ok (.invokevirtual 52, 3) := by decide +kernel
theorem dX0_happens_41 : decode cX0_happens 41 = .ok (.ireturn, 1) := by decide +kernel
theorem dX0_happens_42 : decode cX0_happens 42 = .ok (.aload_n 0, 1) := by decide +kernel
theorem dX0_happens_43 : decode cX0_happens 43 = .ok (.iload_n 2, 1) := by decide +kernel
theorem dX0_happens_44 : decode cX0_happens 44 = .ok (.iload_n 3, 1) := by decide +kernel
theorem dX0_happens_45 : decode cX0_happens 45 = .ok (.invokevirtual 56, 3) := by decide +kernel
theorem dX0_happens_48 : decode cX0_happens 48 = .ok (.ireturn, 1) := by decide +kernel
theorem dX0_happens_49 : decode cX0_happens 49 = .ok (.aload_n 0, 1) := by decide +kernel
theorem dX0_happens_50 : decode cX0_happens 50 = .ok (.iload_n 2, 1) := by decide +kernel
theorem dX0_happens_51 : decode cX0_happens 51 = .ok (.invokevirtual 60, 3) := by decide +kernel
theorem dX0_happens_54 : decode cX0_happens 54 = .ok (.ireturn, 1) := by decide +kernel
theorem dX0_happens_55 : decode cX0_happens 55 = .ok (.aload_n 0, 1) := by decide +kernel
theorem dX0_happens_56 : decode cX0_happens 56 = .ok (.iload_n 2, 1) := by decide +kernel
theorem dX0_happens_57 : decode cX0_happens 57 = .ok (.putfield 28, 3) := by decide +kernel
theorem dX0_happens_60 : decode cX0_happens 60 = .ok (.iconst 1, 1) := by decide +kernel
theorem dX0_happens_61 : decode cX0_happens 61 = .ok (.ireturn, 1) := by decide +kernel
theorem dX0_happens_62 : decode cX0_happens 62 = .ok (.aload_n 0, 1) := by decide +kernel
theorem dX0_happens_63 : decode cX0_happens 63 = .ok (.iload_n 2, 1) := by decide +kernel
theorem dX0_happens_64 : decode cX0_happens 64 = .ok (.iload_n 3, 1) := by decide +kernel
theorem dX0_happens_65 : decode cX0_happens 65 = .ok (.invokevirtual 63, 3) := by decide +kernel
theorem dX0_happens_68 : decode cX0_happens 68 = .ok (.ireturn, 1) := by decide +kernel
theorem dX0_happens_69 : decode cX0_happens 69 = .ok (.aload_n 0, 1) := by decide +kernel
theorem dX0_happens_70 : decode cX0_happens 70 = .ok (.iload_n 2, 1) := by decide +kernel
theorem dX0_happens_71 : decode cX0_happens 71 = .ok (.invokevirtual 66, 3) := by decide +kernel
theorem dX0_happens_74 : decode cX0_happens 74 = .ok (.ireturn, 1) := by decide +kernel
theorem dX0_happensJoin_0 : decode cX0_happensJoin 0 = .ok (.aload_n 0, 1) := by decide +kernel
theorem dX0_happensJoin_1 : decode cX0_happensJoin 1 = .ok (.getfield 31, 3) := by decide +kernel
theorem dX0_happensJoin_4 : decode cX0_happensJoin 4 = .ok (.bipush 6, 2) := by decide +kernel
theorem dX0_happensJoin_6 : decode cX0_happensJoin 6 = .ok (.if_icmp .lt 5, 3) := by decide +kernel
theorem dX0_happensJoin_9 : decode cX0_happensJoin 9 = .ok (.iconst 0, 1) := by decide +kernel
theorem dX0_happensJoin_10 : decode cX0_happensJoin 10 = .ok (.ireturn, 1) := by decide +kernel
theorem dX0_happensJoin_11 : decode cX0_happensJoin 11 = .ok (.aload_n 0, 1) := by decide +kernel
theorem dX0_happensJoin_12 : decode cX0_happensJoin 12 = .ok (.getfield 18, 3) := by decide +kernel
theorem dX0_happensJoin_15 : decode cX0_happensJoin 15 = .ok (.aload_n 0, 1) := by decide +kernel
theorem dX0_happensJoin_16 : decode cX0_happensJoin 16 = .ok (.getfield 31, 3) := by decide +kernel
theorem dX0_happensJoin_19 : decode cX0_happensJoin 19 = .ok (.iload_n 1, 1) := by decide +kernel
theorem dX0_happensJoin_20 : decode cX0_happensJoin 20 = .ok (.iastore, 1) := by decide +kernel
theorem dX0_happensJoin_21 : decode cX0_happensJoin 21 = .ok (.aload_n 0, 1) := by decide +kernel
theorem dX0_happensJoin_22 : decode cX0_happensJoin 22 = .ok (.dup, 1) := by decide +kernel
theorem dX0_happensJoin_23 : decode cX0_happensJoin 23 = .ok (.getfield 31, 3) := by decide +kernel
theorem dX0_happensJoin_26 : decode cX0_happensJoin 26 = .ok (.iconst 1, 1) := by decide +kernel
theorem dX0_happensJoin_27 : decode cX0_happensJoin 27 = .ok (.iadd, 1) := by decide +kernel
theorem dX0_happensJoin_28 : decode cX0_happensJoin 28 = .ok (.putfield 31, 3) := by decide +kernel
theorem dX0_happensJoin_31 : decode cX0_happensJoin 31 = .ok (.iconst 1, 1) := by decide +kernel
theorem dX0_happensJoin_32 : decode cX0_happensJoin 32 = .ok (.ireturn, 1) := by decide +kernel
set_option maxRecDepth 20000 in
theorem ggX0_happensToss_X0_standsFor : GoodIn wsX0_happensToss wsX0_standsFor := goodIn_r _ [7, 8, 9, 10, 11, 12, 13, 6, 14, 15, 36, 37, 38, 39, 40, 41, 42, 43, 44, 45, 46] (by decide +kernel) (by decide +kernel)
set_option maxRecDepth 20000 in
theorem gX0_happensToss_X0_standsFor : GoodIn wsX0_happensToss (wsV RX0 69 RX0 yX0_standsFor wsX0_standsFor) := goodIn_app (goodIn_of _ (by decide +kernel)) ggX0_happensToss_X0_standsFor
set_option maxRecDepth 20000 in
theorem ggX0_happensToss_X0_takings : GoodIn wsX0_happensToss wsX0_takings := goodIn_r _ [19, 20, 10, 36, 37, 38, 39, 40, 41, 42, 43, 44, 45, 46] (by decide +kernel) (by decide +kernel)
set_option maxRecDepth 20000 in
theorem gX0_happensToss_X0_takings : GoodIn wsX0_happensToss (wsV RX0 72 RX0 yX0_takings wsX0_takings) := goodIn_app (goodIn_of _ (by decide +kernel)) ggX0_happensToss_X0_takings
set_option maxRecDepth 20000 in
theorem ggX0_happensToss_X0_trustMore : GoodIn wsX0_happensToss wsX0_trustMore := goodIn_r _ [24, 2, 36, 37, 38, 39, 40, 41, 42, 43, 44, 45, 46] (by decide +kernel) (by decide +kernel)
set_option maxRecDepth 20000 in
theorem gX0_happensToss_X0_trustMore : GoodIn wsX0_happensToss (wsV RX0 76 RX0 yX0_trustMore wsX0_trustMore) := goodIn_app (goodIn_of _ (by decide +kernel)) ggX0_happensToss_X0_trustMore
set_option maxRecDepth 20000 in
theorem ggX0_happensToss_X0_addTrust : GoodIn wsX0_happensToss wsX0_addTrust := goodIn_r _ [28, 8, 29, 30, 31, 32, 33, 34, 35, 36, 37, 38, 39, 40, 41, 42, 43, 44, 45, 46] (by decide +kernel) (by decide +kernel)
set_option maxRecDepth 20000 in
theorem gX0_happensToss_X0_addTrust : GoodIn wsX0_happensToss (wsV RX0 79 RX0 yX0_addTrust wsX0_addTrust) := goodIn_app (goodIn_of _ (by decide +kernel)) ggX0_happensToss_X0_addTrust
theorem dX0_happensToss_0 : decode cX0_happensToss 0 = .ok (.aload_n 0, 1) := by decide +kernel
theorem dX0_happensToss_1 : decode cX0_happensToss 1 = .ok (.iload_n 1, 1) := by decide +kernel
theorem dX0_happensToss_2 : decode cX0_happensToss 2 = .ok (.invokevirtual 69, 3) := by decide +kernel
theorem dX0_happensToss_5 : decode cX0_happensToss 5 = .ok (.ifCond .ne 5, 3) := by decide +kernel
theorem dX0_happensToss_8 : decode cX0_happensToss 8 = .ok (.iconst 0, 1) := by decide +kernel
theorem dX0_happensToss_9 : decode cX0_happensToss 9 = .ok (.ireturn, 1) := by decide +kernel
theorem dX0_happensToss_10 : decode cX0_happensToss 10 = .ok (.aload_n 0, 1) := by decide +kernel
theorem dX0_happensToss_11 : decode cX0_happensToss 11 = .ok (.dup, 1) := by decide +kernel
theorem dX0_happensToss_12 : decode cX0_happensToss 12 = .ok (.getfield 21, 3) := by decide +kernel
theorem dX0_happensToss_15 : decode cX0_happensToss 15 = .ok (.aload_n 0, 1) := by decide +kernel
theorem dX0_happensToss_16 : decode cX0_happensToss 16 = .ok (.iload_n 2, 1) := by decide +kernel
theorem dX0_happensToss_17 : decode cX0_happensToss 17 = .ok (.invokevirtual 72, 3) := by decide +kernel
theorem dX0_happensToss_20 : decode cX0_happensToss 20 = .ok (.iadd, 1) := by decide +kernel
theorem dX0_happensToss_21 : decode cX0_happensToss 21 = .ok (.putfield 21, 3) := by decide +kernel
theorem dX0_happensToss_24 : decode cX0_happensToss 24 = .ok (.aload_n 0, 1) := by decide +kernel
theorem dX0_happensToss_25 : decode cX0_happensToss 25 = .ok (.iload_n 1, 1) := by decide +kernel
theorem dX0_happensToss_26 : decode cX0_happensToss 26 = .ok (.aload_n 0, 1) := by decide +kernel
theorem dX0_happensToss_27 : decode cX0_happensToss 27 = .ok (.iload_n 2, 1) := by decide +kernel
theorem dX0_happensToss_28 : decode cX0_happensToss 28 = .ok (.invokevirtual 76, 3) := by decide +kernel
theorem dX0_happensToss_31 : decode cX0_happensToss 31 = .ok (.invokevirtual 79, 3) := by decide +kernel
theorem dX0_happensToss_34 : decode cX0_happensToss 34 = .ok (.iload_n 2, 1) := by decide +kernel
theorem dX0_happensToss_35 : decode cX0_happensToss 35 = .ok (.ifCond .ne 20, 3) := by decide +kernel
theorem dX0_happensToss_38 : decode cX0_happensToss 38 = .ok (.aload_n 0, 1) := by decide +kernel
theorem dX0_happensToss_39 : decode cX0_happensToss 39 = .ok (.getfield 25, 3) := by decide +kernel
theorem dX0_happensToss_42 : decode cX0_happensToss 42 = .ok (.ifCond .le 13, 3) := by decide +kernel
theorem dX0_happensToss_45 : decode cX0_happensToss 45 = .ok (.aload_n 0, 1) := by decide +kernel
theorem dX0_happensToss_46 : decode cX0_happensToss 46 = .ok (.dup, 1) := by decide +kernel
theorem dX0_happensToss_47 : decode cX0_happensToss 47 = .ok (.getfield 25, 3) := by decide +kernel
theorem dX0_happensToss_50 : decode cX0_happensToss 50 = .ok (.iconst 1, 1) := by decide +kernel
theorem dX0_happensToss_51 : decode cX0_happensToss 51 = .ok (.isub, 1) := by decide +kernel
theorem dX0_happensToss_52 : decode cX0_happensToss 52 = .ok (.putfield 25, 3) := by decide +kernel
theorem dX0_happensToss_55 : decode cX0_happensToss 55 = .ok (.iconst 1, 1) := by decide +kernel
theorem dX0_happensToss_56 : decode cX0_happensToss 56 = .ok (.ireturn, 1) := by decide +kernel
set_option maxRecDepth 20000 in
theorem ggX0_happensRest_X0_hasJoined : GoodIn wsX0_happensRest wsX0_hasJoined := goodIn_r _ [5, 6, 19, 20, 21, 22, 23, 24, 25, 26, 27, 28, 29] (by decide +kernel) (by decide +kernel)
set_option maxRecDepth 20000 in
theorem gX0_happensRest_X0_hasJoined : GoodIn wsX0_happensRest (wsV RX0 83 RX0 yX0_hasJoined wsX0_hasJoined) := goodIn_app (goodIn_of _ (by decide +kernel)) ggX0_happensRest_X0_hasJoined
set_option maxRecDepth 20000 in
theorem ggX0_happensRest_X0_addTrust : GoodIn wsX0_happensRest wsX0_addTrust := goodIn_r _ [10, 11, 12, 13, 14, 15, 16, 17, 18, 19, 20, 21, 22, 23, 24, 25, 26, 27, 28, 29] (by decide +kernel) (by decide +kernel)
set_option maxRecDepth 20000 in
theorem gX0_happensRest_X0_addTrust : GoodIn wsX0_happensRest (wsV RX0 79 RX0 yX0_addTrust wsX0_addTrust) := goodIn_app (goodIn_of _ (by decide +kernel)) ggX0_happensRest_X0_addTrust
theorem dX0_happensRest_0 : decode cX0_happensRest 0 = .ok (.aload_n 0, 1) := by decide +kernel
theorem dX0_happensRest_1 : decode cX0_happensRest 1 = .ok (.iload_n 1, 1) := by decide +kernel
theorem dX0_happensRest_2 : decode cX0_happensRest 2 = .ok (.invokevirtual 83, 3) := by decide +kernel
theorem dX0_happensRest_5 : decode cX0_happensRest 5 = .ok (.ifCond .ne 5, 3) := by decide +kernel
theorem dX0_happensRest_8 : decode cX0_happensRest 8 = .ok (.iconst 0, 1) := by decide +kernel
theorem dX0_happensRest_9 : decode cX0_happensRest 9 = .ok (.ireturn, 1) := by decide +kernel
theorem dX0_happensRest_10 : decode cX0_happensRest 10 = .ok (.aload_n 0, 1) := by decide +kernel
theorem dX0_happensRest_11 : decode cX0_happensRest 11 = .ok (.iload_n 1, 1) := by decide +kernel
theorem dX0_happensRest_12 : decode cX0_happensRest 12 = .ok (.bipush 6, 2) := by decide +kernel
theorem dX0_happensRest_14 : decode cX0_happensRest 14 = .ok (.invokevirtual 79, 3) := by decide +kernel
theorem dX0_happensRest_17 : decode cX0_happensRest 17 = .ok (.iconst 1, 1) := by decide +kernel
theorem dX0_happensRest_18 : decode cX0_happensRest 18 = .ok (.ireturn, 1) := by decide +kernel
set_option maxRecDepth 20000 in
theorem ggX0_happensPay_X0_hasJoined : GoodIn wsX0_happensPay wsX0_hasJoined := goodIn_r _ [6, 7, 20, 21, 22, 23, 24, 25, 26, 27, 28, 29, 30] (by decide +kernel) (by decide +kernel)
set_option maxRecDepth 20000 in
theorem gX0_happensPay_X0_hasJoined : GoodIn wsX0_happensPay (wsV RX0 83 RX0 yX0_hasJoined wsX0_hasJoined) := goodIn_app (goodIn_of _ (by decide +kernel)) ggX0_happensPay_X0_hasJoined
set_option maxRecDepth 20000 in
theorem ggX0_happensPay_X0_addTrust : GoodIn wsX0_happensPay wsX0_addTrust := goodIn_r _ [11, 12, 13, 14, 15, 16, 17, 18, 19, 20, 21, 22, 23, 24, 25, 26, 27, 28, 29, 30] (by decide +kernel) (by decide +kernel)
set_option maxRecDepth 20000 in
theorem gX0_happensPay_X0_addTrust : GoodIn wsX0_happensPay (wsV RX0 79 RX0 yX0_addTrust wsX0_addTrust) := goodIn_app (goodIn_of _ (by decide +kernel)) ggX0_happensPay_X0_addTrust
theorem dX0_happensPay_0 : decode cX0_happensPay 0 = .ok (.aload_n 0, 1) := by decide +kernel
theorem dX0_happensPay_1 : decode cX0_happensPay 1 = .ok (.iload_n 1, 1) := by decide +kernel
theorem dX0_happensPay_2 : decode cX0_happensPay 2 = .ok (.invokevirtual 83, 3) := by decide +kernel
theorem dX0_happensPay_5 : decode cX0_happensPay 5 = .ok (.ifCond .eq 11, 3) := by decide +kernel
theorem dX0_happensPay_8 : decode cX0_happensPay 8 = .ok (.aload_n 0, 1) := by decide +kernel
theorem dX0_happensPay_9 : decode cX0_happensPay 9 = .ok (.getfield 21, 3) := by decide +kernel
theorem dX0_happensPay_12 : decode cX0_happensPay 12 = .ok (.iload_n 2, 1) := by decide +kernel
theorem dX0_happensPay_13 : decode cX0_happensPay 13 = .ok (.if_icmp .ge 5, 3) := by decide +kernel
theorem dX0_happensPay_16 : decode cX0_happensPay 16 = .ok (.iconst 0, 1) := by decide +kernel
theorem dX0_happensPay_17 : decode cX0_happensPay 17 = .ok (.ireturn, 1) := by decide +kernel
theorem dX0_happensPay_18 : decode cX0_happensPay 18 = .ok (.aload_n 0, 1) := by decide +kernel
theorem dX0_happensPay_19 : decode cX0_happensPay 19 = .ok (.dup, 1) := by decide +kernel
theorem dX0_happensPay_20 : decode cX0_happensPay 20 = .ok (.getfield 21, 3) := by decide +kernel
theorem dX0_happensPay_23 : decode cX0_happensPay 23 = .ok (.iload_n 2, 1) := by decide +kernel
theorem dX0_happensPay_24 : decode cX0_happensPay 24 = .ok (.isub, 1) := by decide +kernel
theorem dX0_happensPay_25 : decode cX0_happensPay 25 = .ok (.putfield 21, 3) := by decide +kernel
theorem dX0_happensPay_28 : decode cX0_happensPay 28 = .ok (.aload_n 0, 1) := by decide +kernel
theorem dX0_happensPay_29 : decode cX0_happensPay 29 = .ok (.iload_n 1, 1) := by decide +kernel
theorem dX0_happensPay_30 : decode cX0_happensPay 30 = .ok (.iload_n 2, 1) := by decide +kernel
theorem dX0_happensPay_31 : decode cX0_happensPay 31 = .ok (.iconst 3, 1) := by decide +kernel
theorem dX0_happensPay_32 : decode cX0_happensPay 32 = .ok (.idiv, 1) := by decide +kernel
theorem dX0_happensPay_33 : decode cX0_happensPay 33 = .ok (.invokevirtual 79, 3) := by decide +kernel
theorem dX0_happensPay_36 : decode cX0_happensPay 36 = .ok (.iconst 1, 1) := by decide +kernel
theorem dX0_happensPay_37 : decode cX0_happensPay 37 = .ok (.ireturn, 1) := by decide +kernel
theorem dX0_happensBuy_0 : decode cX0_happensBuy 0 = .ok (.iconst 2, 1) := by decide +kernel
theorem dX0_happensBuy_1 : decode cX0_happensBuy 1 = .ok (.iload_n 1, 1) := by decide +kernel
theorem dX0_happensBuy_2 : decode cX0_happensBuy 2 = .ok (.imul, 1) := by decide +kernel
theorem dX0_happensBuy_3 : decode cX0_happensBuy 3 = .ok (.istore_n 2, 1) := by decide +kernel
theorem dX0_happensBuy_4 : decode cX0_happensBuy 4 = .ok (.aload_n 0, 1) := by decide +kernel
theorem dX0_happensBuy_5 : decode cX0_happensBuy 5 = .ok (.getfield 21, 3) := by decide +kernel
theorem dX0_happensBuy_8 : decode cX0_happensBuy 8 = .ok (.iload_n 2, 1) := by decide +kernel
theorem dX0_happensBuy_9 : decode cX0_happensBuy 9 = .ok (.if_icmp .ge 5, 3) := by decide +kernel
theorem dX0_happensBuy_12 : decode cX0_happensBuy 12 = .ok (.iconst 0, 1) := by decide +kernel
theorem dX0_happensBuy_13 : decode cX0_happensBuy 13 = .ok (.ireturn, 1) := by decide +kernel
theorem dX0_happensBuy_14 : decode cX0_happensBuy 14 = .ok (.aload_n 0, 1) := by decide +kernel
theorem dX0_happensBuy_15 : decode cX0_happensBuy 15 = .ok (.dup, 1) := by decide +kernel
theorem dX0_happensBuy_16 : decode cX0_happensBuy 16 = .ok (.getfield 21, 3) := by decide +kernel
theorem dX0_happensBuy_19 : decode cX0_happensBuy 19 = .ok (.iload_n 2, 1) := by decide +kernel
theorem dX0_happensBuy_20 : decode cX0_happensBuy 20 = .ok (.isub, 1) := by decide +kernel
theorem dX0_happensBuy_21 : decode cX0_happensBuy 21 = .ok (.putfield 21, 3) := by decide +kernel
theorem dX0_happensBuy_24 : decode cX0_happensBuy 24 = .ok (.aload_n 0, 1) := by decide +kernel
theorem dX0_happensBuy_25 : decode cX0_happensBuy 25 = .ok (.dup, 1) := by decide +kernel
theorem dX0_happensBuy_26 : decode cX0_happensBuy 26 = .ok (.getfield 25, 3) := by decide +kernel
theorem dX0_happensBuy_29 : decode cX0_happensBuy 29 = .ok (.iload_n 1, 1) := by decide +kernel
theorem dX0_happensBuy_30 : decode cX0_happensBuy 30 = .ok (.iadd, 1) := by decide +kernel
theorem dX0_happensBuy_31 : decode cX0_happensBuy 31 = .ok (.putfield 25, 3) := by decide +kernel
theorem dX0_happensBuy_34 : decode cX0_happensBuy 34 = .ok (.iconst 1, 1) := by decide +kernel
theorem dX0_happensBuy_35 : decode cX0_happensBuy 35 = .ok (.ireturn, 1) := by decide +kernel
theorem dX0_hasJoined_0 : decode cX0_hasJoined 0 = .ok (.iload_n 1, 1) := by decide +kernel
theorem dX0_hasJoined_1 : decode cX0_hasJoined 1 = .ok (.aload_n 0, 1) := by decide +kernel
theorem dX0_hasJoined_2 : decode cX0_hasJoined 2 = .ok (.getfield 31, 3) := by decide +kernel
theorem dX0_hasJoined_5 : decode cX0_hasJoined 5 = .ok (.if_icmp .ge 7, 3) := by decide +kernel
theorem dX0_hasJoined_8 : decode cX0_hasJoined 8 = .ok (.iconst 1, 1) := by decide +kernel
theorem dX0_hasJoined_9 : decode cX0_hasJoined 9 = .ok (.goto 4, 3) := by decide +kernel
theorem dX0_hasJoined_12 : decode cX0_hasJoined 12 = .ok (.iconst 0, 1) := by decide +kernel
theorem dX0_hasJoined_13 : decode cX0_hasJoined 13 = .ok (.ireturn, 1) := by decide +kernel
set_option maxRecDepth 20000 in
theorem ggX0_standsFor_X0_hasJoined : GoodIn wsX0_standsFor wsX0_hasJoined := goodIn_r _ [8, 9, 10, 11, 12, 13, 14, 15, 16, 17, 18, 19, 20] (by decide +kernel) (by decide +kernel)
set_option maxRecDepth 20000 in
theorem gX0_standsFor_X0_hasJoined : GoodIn wsX0_standsFor (wsV RX0 83 RX0 yX0_hasJoined wsX0_hasJoined) := goodIn_app (goodIn_of _ (by decide +kernel)) ggX0_standsFor_X0_hasJoined
theorem dX0_standsFor_0 : decode cX0_standsFor 0 = .ok (.aload_n 0, 1) := by decide +kernel
theorem dX0_standsFor_1 : decode cX0_standsFor 1 = .ok (.iload_n 1, 1) := by decide +kernel
theorem dX0_standsFor_2 : decode cX0_standsFor 2 = .ok (.invokevirtual 83, 3) := by decide +kernel
theorem dX0_standsFor_5 : decode cX0_standsFor 5 = .ok (.ifCond .eq 28, 3) := by decide +kernel
theorem dX0_standsFor_8 : decode cX0_standsFor 8 = .ok (.aload_n 0, 1) := by decide +kernel
theorem dX0_standsFor_9 : decode cX0_standsFor 9 = .ok (.getfield 18, 3) := by decide +kernel
theorem dX0_standsFor_12 : decode cX0_standsFor 12 = .ok (.iload_n 1, 1) := by decide +kernel
theorem dX0_standsFor_13 : decode cX0_standsFor 13 = .ok (.iaload, 1) := by decide +kernel
theorem dX0_standsFor_14 : decode cX0_standsFor 14 = .ok (.bipush 20, 2) := by decide +kernel
theorem dX0_standsFor_16 : decode cX0_standsFor 16 = .ok (.aload_n 0, 1) := by decide +kernel
theorem dX0_standsFor_17 : decode cX0_standsFor 17 = .ok (.getfield 15, 3) := by decide +kernel
theorem dX0_standsFor_20 : decode cX0_standsFor 20 = .ok (.aload_n 0, 1) := by decide +kernel
theorem dX0_standsFor_21 : decode cX0_standsFor 21 = .ok (.getfield 28, 3) := by decide +kernel
theorem dX0_standsFor_24 : decode cX0_standsFor 24 = .ok (.iaload, 1) := by decide +kernel
theorem dX0_standsFor_25 : decode cX0_standsFor 25 = .ok (.iadd, 1) := by decide +kernel
theorem dX0_standsFor_26 : decode cX0_standsFor 26 = .ok (.if_icmp .lt 7, 3) := by decide +kernel
theorem dX0_standsFor_29 : decode cX0_standsFor 29 = .ok (.iconst 1, 1) := by decide +kernel
theorem dX0_standsFor_30 : decode cX0_standsFor 30 = .ok (.goto 4, 3) := by decide +kernel
theorem dX0_standsFor_33 : decode cX0_standsFor 33 = .ok (.iconst 0, 1) := by decide +kernel
theorem dX0_standsFor_34 : decode cX0_standsFor 34 = .ok (.ireturn, 1) := by decide +kernel
theorem dX0_takings_0 : decode cX0_takings 0 = .ok (.iload_n 1, 1) := by decide +kernel
theorem dX0_takings_1 : decode cX0_takings 1 = .ok (.ifCond .ne 5, 3) := by decide +kernel
theorem dX0_takings_4 : decode cX0_takings 4 = .ok (.iconst 0, 1) := by decide +kernel
theorem dX0_takings_5 : decode cX0_takings 5 = .ok (.ireturn, 1) := by decide +kernel
theorem dX0_takings_6 : decode cX0_takings 6 = .ok (.iload_n 1, 1) := by decide +kernel
theorem dX0_takings_7 : decode cX0_takings 7 = .ok (.iconst 3, 1) := by decide +kernel
theorem dX0_takings_8 : decode cX0_takings 8 = .ok (.if_icmp .gt 16, 3) := by decide +kernel
theorem dX0_takings_11 : decode cX0_takings 11 = .ok (.bipush 12, 2) := by decide +kernel
theorem dX0_takings_13 : decode cX0_takings 13 = .ok (.aload_n 0, 1) := by decide +kernel
theorem dX0_takings_14 : decode cX0_takings 14 = .ok (.getfield 9, 3) := by decide +kernel
theorem dX0_takings_17 : decode cX0_takings 17 = .ok (.aload_n 0, 1) := by decide +kernel
theorem dX0_takings_18 : decode cX0_takings 18 = .ok (.getfield 28, 3) := by decide +kernel
theorem dX0_takings_21 : decode cX0_takings 21 = .ok (.iaload, 1) := by decide +kernel
theorem dX0_takings_22 : decode cX0_takings 22 = .ok (.iadd, 1) := by decide +kernel
theorem dX0_takings_23 : decode cX0_takings 23 = .ok (.ireturn, 1) := by decide +kernel
theorem dX0_takings_24 : decode cX0_takings 24 = .ok (.iload_n 1, 1) := by decide +kernel
theorem dX0_takings_25 : decode cX0_takings 25 = .ok (.bipush 9, 2) := by decide +kernel
theorem dX0_takings_27 : decode cX0_takings 27 = .ok (.if_icmp .gt 17, 3) := by decide +kernel
theorem dX0_takings_30 : decode cX0_takings 30 = .ok (.iconst 5, 1) := by decide +kernel
theorem dX0_takings_31 : decode cX0_takings 31 = .ok (.aload_n 0, 1) := by decide +kernel
theorem dX0_takings_32 : decode cX0_takings 32 = .ok (.getfield 9, 3) := by decide +kernel
theorem dX0_takings_35 : decode cX0_takings 35 = .ok (.aload_n 0, 1) := by decide +kernel
theorem dX0_takings_36 : decode cX0_takings 36 = .ok (.getfield 28, 3) := by decide +kernel
theorem dX0_takings_39 : decode cX0_takings 39 = .ok (.iaload, 1) := by decide +kernel
theorem dX0_takings_40 : decode cX0_takings 40 = .ok (.iconst 2, 1) := by decide +kernel
theorem dX0_takings_41 : decode cX0_takings 41 = .ok (.idiv, 1) := by decide +kernel
theorem dX0_takings_42 : decode cX0_takings 42 = .ok (.iadd, 1) := by decide +kernel
theorem dX0_takings_43 : decode cX0_takings 43 = .ok (.ireturn, 1) := by decide +kernel
theorem dX0_takings_44 : decode cX0_takings 44 = .ok (.iconst 1, 1) := by decide +kernel
theorem dX0_takings_45 : decode cX0_takings 45 = .ok (.ireturn, 1) := by decide +kernel
theorem dX0_trustMore_0 : decode cX0_trustMore 0 = .ok (.iload_n 1, 1) := by decide +kernel
theorem dX0_trustMore_1 : decode cX0_trustMore 1 = .ok (.ifCond .ne 18, 3) := by decide +kernel
theorem dX0_trustMore_4 : decode cX0_trustMore 4 = .ok (.aload_n 0, 1) := by decide +kernel
theorem dX0_trustMore_5 : decode cX0_trustMore 5 = .ok (.getfield 25, 3) := by decide +kernel
theorem dX0_trustMore_8 : decode cX0_trustMore 8 = .ok (.ifCond .le 8, 3) := by decide +kernel
theorem dX0_trustMore_11 : decode cX0_trustMore 11 = .ok (.bipush (-30), 2) := by decide +kernel
theorem dX0_trustMore_13 : decode cX0_trustMore 13 = .ok (.goto 5, 3) := by decide +kernel
theorem dX0_trustMore_16 : decode cX0_trustMore 16 = .ok (.bipush (-60), 2) := by decide +kernel
theorem dX0_trustMore_18 : decode cX0_trustMore 18 = .ok (.ireturn, 1) := by decide +kernel
theorem dX0_trustMore_19 : decode cX0_trustMore 19 = .ok (.iload_n 1, 1) := by decide +kernel
theorem dX0_trustMore_20 : decode cX0_trustMore 20 = .ok (.iconst 3, 1) := by decide +kernel
theorem dX0_trustMore_21 : decode cX0_trustMore 21 = .ok (.if_icmp .gt 6, 3) := by decide +kernel
theorem dX0_trustMore_24 : decode cX0_trustMore 24 = .ok (.bipush (-4), 2) := by decide +kernel
theorem dX0_trustMore_26 : decode cX0_trustMore 26 = .ok (.ireturn, 1) := by decide +kernel
theorem dX0_trustMore_27 : decode cX0_trustMore 27 = .ok (.iload_n 1, 1) := by decide +kernel
theorem dX0_trustMore_28 : decode cX0_trustMore 28 = .ok (.bipush 9, 2) := by decide +kernel
theorem dX0_trustMore_30 : decode cX0_trustMore 30 = .ok (.if_icmp .gt 5, 3) := by decide +kernel
theorem dX0_trustMore_33 : decode cX0_trustMore 33 = .ok (.iconst 1, 1) := by decide +kernel
theorem dX0_trustMore_34 : decode cX0_trustMore 34 = .ok (.ireturn, 1) := by decide +kernel
theorem dX0_trustMore_35 : decode cX0_trustMore 35 = .ok (.iconst 3, 1) := by decide +kernel
theorem dX0_trustMore_36 : decode cX0_trustMore 36 = .ok (.ireturn, 1) := by decide +kernel
theorem dX0_addTrust_0 : decode cX0_addTrust 0 = .ok (.aload_n 0, 1) := by decide +kernel
theorem dX0_addTrust_1 : decode cX0_addTrust 1 = .ok (.getfield 18, 3) := by decide +kernel
theorem dX0_addTrust_4 : decode cX0_addTrust 4 = .ok (.iload_n 1, 1) := by decide +kernel
theorem dX0_addTrust_5 : decode cX0_addTrust 5 = .ok (.iconst 0, 1) := by decide +kernel
theorem dX0_addTrust_6 : decode cX0_addTrust 6 = .ok (.bipush 100, 2) := by decide +kernel
theorem dX0_addTrust_8 : decode cX0_addTrust 8 = .ok (.aload_n 0, 1) := by decide +kernel
theorem dX0_addTrust_9 : decode cX0_addTrust 9 = .ok (.getfield 18, 3) := by decide +kernel
theorem dX0_addTrust_12 : decode cX0_addTrust 12 = .ok (.iload_n 1, 1) := by decide +kernel
theorem dX0_addTrust_13 : decode cX0_addTrust 13 = .ok (.iaload, 1) := by decide +kernel
theorem dX0_addTrust_14 : decode cX0_addTrust 14 = .ok (.iload_n 2, 1) := by decide +kernel
theorem dX0_addTrust_15 : decode cX0_addTrust 15 = .ok (.iadd, 1) := by decide +kernel
theorem dX0_addTrust_16 : decode cX0_addTrust 16 = .ok (.invokestatic 46, 3) := by decide +kernel
theorem dX0_addTrust_19 : decode cX0_addTrust 19 = .ok (.invokestatic 86, 3) := by decide +kernel
theorem dX0_addTrust_22 : decode cX0_addTrust 22 = .ok (.iastore, 1) := by decide +kernel
theorem dX0_addTrust_23 : decode cX0_addTrust 23 = .ok (.return_, 1) := by decide +kernel
theorem dX0_trustOfAll_0 : decode cX0_trustOfAll 0 = .ok (.iconst 0, 1) := by decide +kernel
theorem dX0_trustOfAll_1 : decode cX0_trustOfAll 1 = .ok (.istore_n 1, 1) := by decide +kernel
theorem dX0_trustOfAll_2 : decode cX0_trustOfAll 2 = .ok (.iconst 0, 1) := by decide +kernel
theorem dX0_trustOfAll_3 : decode cX0_trustOfAll 3 = .ok (.istore_n 2, 1) := by decide +kernel
theorem dX0_trustOfAll_4 : decode cX0_trustOfAll 4 = .ok (.iload_n 2, 1) := by decide +kernel
theorem dX0_trustOfAll_5 : decode cX0_trustOfAll 5 = .ok (.aload_n 0, 1) := by decide +kernel
theorem dX0_trustOfAll_6 : decode cX0_trustOfAll 6 = .ok (.getfield 31, 3) := by decide +kernel
theorem dX0_trustOfAll_9 : decode cX0_trustOfAll 9 = .ok (.if_icmp .ge 18, 3) := by decide +kernel
theorem dX0_trustOfAll_12 : decode cX0_trustOfAll 12 = .ok (.iload_n 1, 1) := by decide +kernel
theorem dX0_trustOfAll_13 : decode cX0_trustOfAll 13 = .ok (.aload_n 0, 1) := by decide +kernel
theorem dX0_trustOfAll_14 : decode cX0_trustOfAll 14 = .ok (.getfield 18, 3) := by decide +kernel
theorem dX0_trustOfAll_17 : decode cX0_trustOfAll 17 = .ok (.iload_n 2, 1) := by decide +kernel
theorem dX0_trustOfAll_18 : decode cX0_trustOfAll 18 = .ok (.iaload, 1) := by decide +kernel
theorem dX0_trustOfAll_19 : decode cX0_trustOfAll 19 = .ok (.iadd, 1) := by decide +kernel
theorem dX0_trustOfAll_20 : decode cX0_trustOfAll 20 = .ok (.istore_n 1, 1) := by decide +kernel
theorem dX0_trustOfAll_21 : decode cX0_trustOfAll 21 = .ok (.iinc 2 1, 3) := by decide +kernel
theorem dX0_trustOfAll_24 : decode cX0_trustOfAll 24 = .ok (.goto (-20), 3) := by decide +kernel
theorem dX0_trustOfAll_27 : decode cX0_trustOfAll 27 = .ok (.iload_n 1, 1) := by decide +kernel
theorem dX0_trustOfAll_28 : decode cX0_trustOfAll 28 = .ok (.ireturn, 1) := by decide +kernel
