theorem dX2_init_0 : decode cX2_init 0 = .ok (.aload_n 0, 1) := by decide +kernel
theorem dX2_init_1 : decode cX2_init 1 = .ok (.invokespecial 1, 3) := by decide +kernel
theorem dX2_init_4 : decode cX2_init 4 = .ok (.aload_n 0, 1) := by decide +kernel
theorem dX2_init_5 : decode cX2_init 5 = .ok (.iconst 4, 1) := by decide +kernel
theorem dX2_init_6 : decode cX2_init 6 = .ok (.newarray .int, 2) := by decide +kernel
theorem dX2_init_8 : decode cX2_init 8 = .ok (.putfield 7, 3) := by decide +kernel
theorem dX2_init_11 : decode cX2_init 11 = .ok (.aload_n 0, 1) := by decide +kernel
theorem dX2_init_12 : decode cX2_init 12 = .ok (.iconst 4, 1) := by decide +kernel
theorem dX2_init_13 : decode cX2_init 13 = .ok (.newarray .int, 2) := by decide +kernel
theorem dX2_init_15 : decode cX2_init 15 = .ok (.putfield 13, 3) := by decide +kernel
theorem dX2_init_18 : decode cX2_init 18 = .ok (.aload_n 0, 1) := by decide +kernel
theorem dX2_init_19 : decode cX2_init 19 = .ok (.iconst 0, 1) := by decide +kernel
theorem dX2_init_20 : decode cX2_init 20 = .ok (.anewarray 16, 3) := by decide +kernel
theorem dX2_init_23 : decode cX2_init 23 = .ok (.putfield 17, 3) := by decide +kernel
theorem dX2_init_26 : decode cX2_init 26 = .ok (.return_, 1) := by decide +kernel
theorem dX2_add_0 : decode cX2_add 0 = .ok (.aload_n 0, 1) := by decide +kernel
theorem dX2_add_1 : decode cX2_add 1 = .ok (.getfield 17, 3) := by decide +kernel
theorem dX2_add_4 : decode cX2_add 4 = .ok (.arraylength, 1) := by decide +kernel
theorem dX2_add_5 : decode cX2_add 5 = .ok (.iconst 1, 1) := by decide +kernel
theorem dX2_add_6 : decode cX2_add 6 = .ok (.iadd, 1) := by decide +kernel
theorem dX2_add_7 : decode cX2_add 7 = .ok (.anewarray 16, 3) := by decide +kernel
theorem dX2_add_10 : decode cX2_add 10 = .ok (.astore 4, 2) := by decide +kernel
theorem dX2_add_12 : decode cX2_add 12 = .ok (.iconst 0, 1) := by decide +kernel
theorem dX2_add_13 : decode cX2_add 13 = .ok (.istore 5, 2) := by decide +kernel
theorem dX2_add_15 : decode cX2_add 15 = .ok (.iload 5, 2) := by decide +kernel
theorem dX2_add_17 : decode cX2_add 17 = .ok (.aload_n 0, 1) := by decide +kernel
theorem dX2_add_18 : decode cX2_add 18 = .ok (.getfield 17, 3) := by decide +kernel
theorem dX2_add_21 : decode cX2_add 21 = .ok (.arraylength, 1) := by decide +kernel
theorem dX2_add_22 : decode cX2_add 22 = .ok (.if_icmp .ge 21, 3) := by decide +kernel
theorem dX2_add_25 : decode cX2_add 25 = .ok (.aload 4, 2) := by decide +kernel
theorem dX2_add_27 : decode cX2_add 27 = .ok (.iload 5, 2) := by decide +kernel
theorem dX2_add_29 : decode cX2_add 29 = .ok (.aload_n 0, 1) := by decide +kernel
theorem dX2_add_30 : decode cX2_add 30 = .ok (.getfield 17, 3) := by decide +kernel
theorem dX2_add_33 : decode cX2_add 33 = .ok (.iload 5, 2) := by decide +kernel
theorem dX2_add_35 : decode cX2_add 35 = .ok (.aaload, 1) := by decide +kernel
theorem dX2_add_36 : decode cX2_add 36 = .ok (.aastore, 1) := by decide +kernel
theorem dX2_add_37 : decode cX2_add 37 = .ok (.iinc 5 1, 3) := by decide +kernel
theorem dX2_add_40 : decode cX2_add 40 = .ok (.goto (-25), 3) := by decide +kernel
theorem dX2_add_43 : decode cX2_add 43 = .ok (.aload 4, 2) := by decide +kernel
theorem dX2_add_45 : decode cX2_add 45 = .ok (.aload_n 0, 1) := by decide +kernel
theorem dX2_add_46 : decode cX2_add 46 = .ok (.getfield 17, 3) := by decide +kernel
theorem dX2_add_49 : decode cX2_add 49 = .ok (.arraylength, 1) := by decide +kernel
theorem dX2_add_50 : decode cX2_add 50 = .ok (.iconst 4, 1) := by decide +kernel
theorem dX2_add_51 : decode cX2_add 51 = .ok (.newarray .int, 2) := by decide +kernel
theorem dX2_add_53 : decode cX2_add 53 = .ok (.dup, 1) := by decide +kernel
theorem dX2_add_54 : decode cX2_add 54 = .ok (.iconst 0, 1) := by decide +kernel
theorem dX2_add_55 : decode cX2_add 55 = .ok (.iload_n 1, 1) := by decide +kernel
theorem dX2_add_56 : decode cX2_add 56 = .ok (.iastore, 1) := by decide +kernel
theorem dX2_add_57 : decode cX2_add 57 = .ok (.dup, 1) := by decide +kernel
theorem dX2_add_58 : decode cX2_add 58 = .ok (.iconst 1, 1) := by decide +kernel
theorem dX2_add_59 : decode cX2_add 59 = .ok (.iload_n 2, 1) := by decide +kernel
theorem dX2_add_60 : decode cX2_add 60 = .ok (.iastore, 1) := by decide +kernel
theorem dX2_add_61 : decode cX2_add 61 = .ok (.dup, 1) := by decide +kernel
theorem dX2_add_62 : decode cX2_add 62 = .ok (.iconst 2, 1) := by decide +kernel
theorem dX2_add_63 : decode cX2_add 63 = .ok (.iload_n 3, 1) := by decide +kernel
theorem dX2_add_64 : decode cX2_add 64 = .ok (.iastore, 1) := by decide +kernel
theorem dX2_add_65 : decode cX2_add 65 = .ok (.dup, 1) := by decide +kernel
theorem dX2_add_66 : decode cX2_add 66 = .ok (.iconst 3, 1) := by decide +kernel
theorem dX2_add_67 : decode cX2_add 67 = .ok (.iconst 0, 1) := by decide +kernel
theorem dX2_add_68 : decode cX2_add 68 = .ok (.iastore, 1) := by decide +kernel
theorem dX2_add_69 : decode cX2_add 69 = .ok (.aastore, 1) := by decide +kernel
theorem dX2_add_70 : decode cX2_add 70 = .ok (.aload_n 0, 1) := by decide +kernel
theorem dX2_add_71 : decode cX2_add 71 = .ok (.aload 4, 2) := by decide +kernel
theorem dX2_add_73 : decode cX2_add 73 = .ok (.putfield 17, 3) := by decide +kernel
theorem dX2_add_76 : decode cX2_add 76 = .ok (.return_, 1) := by decide +kernel
theorem dX2_take_0 : decode cX2_take 0 = .ok (.aload_n 0, 1) := by decide +kernel
theorem dX2_take_1 : decode cX2_take 1 = .ok (.getfield 17, 3) := by decide +kernel
theorem dX2_take_4 : decode cX2_take 4 = .ok (.arraylength, 1) := by decide +kernel
theorem dX2_take_5 : decode cX2_take 5 = .ok (.iconst 1, 1) := by decide +kernel
theorem dX2_take_6 : decode cX2_take 6 = .ok (.isub, 1) := by decide +kernel
theorem dX2_take_7 : decode cX2_take 7 = .ok (.anewarray 16, 3) := by decide +kernel
theorem dX2_take_10 : decode cX2_take 10 = .ok (.astore_n 2, 1) := by decide +kernel
theorem dX2_take_11 : decode cX2_take 11 = .ok (.iconst 0, 1) := by decide +kernel
theorem dX2_take_12 : decode cX2_take 12 = .ok (.istore_n 3, 1) := by decide +kernel
theorem dX2_take_13 : decode cX2_take 13 = .ok (.iload_n 3, 1) := by decide +kernel
theorem dX2_take_14 : decode cX2_take 14 = .ok (.aload_n 2, 1) := by decide +kernel
theorem dX2_take_15 : decode cX2_take 15 = .ok (.arraylength, 1) := by decide +kernel
theorem dX2_take_16 : decode cX2_take 16 = .ok (.if_icmp .ge 29, 3) := by decide +kernel
theorem dX2_take_19 : decode cX2_take 19 = .ok (.aload_n 2, 1) := by decide +kernel
theorem dX2_take_20 : decode cX2_take 20 = .ok (.iload_n 3, 1) := by decide +kernel
theorem dX2_take_21 : decode cX2_take 21 = .ok (.aload_n 0, 1) := by decide +kernel
theorem dX2_take_22 : decode cX2_take 22 = .ok (.getfield 17, 3) := by decide +kernel
theorem dX2_take_25 : decode cX2_take 25 = .ok (.iload_n 3, 1) := by decide +kernel
theorem dX2_take_26 : decode cX2_take 26 = .ok (.iload_n 1, 1) := by decide +kernel
theorem dX2_take_27 : decode cX2_take 27 = .ok (.if_icmp .ge 7, 3) := by decide +kernel
theorem dX2_take_30 : decode cX2_take 30 = .ok (.iload_n 3, 1) := by decide +kernel
theorem dX2_take_31 : decode cX2_take 31 = .ok (.goto 6, 3) := by decide +kernel
theorem dX2_take_34 : decode cX2_take 34 = .ok (.iload_n 3, 1) := by decide +kernel
theorem dX2_take_35 : decode cX2_take 35 = .ok (.iconst 1, 1) := by decide +kernel
theorem dX2_take_36 : decode cX2_take 36 = .ok (.iadd, 1) := by decide +kernel
theorem dX2_take_37 : decode cX2_take 37 = .ok (.aaload, 1) := by decide +kernel
theorem dX2_take_38 : decode cX2_take 38 = .ok (.aastore, 1) := by decide +kernel
theorem dX2_take_39 : decode cX2_take 39 = .ok (.iinc 3 1, 3) := by decide +kernel
theorem dX2_take_42 : decode cX2_take 42 = .ok (.goto (-29), 3) := by decide +kernel
theorem dX2_take_45 : decode cX2_take 45 = .ok (.aload_n 0, 1) := by decide +kernel
theorem dX2_take_46 : decode cX2_take 46 = .ok (.aload_n 2, 1) := by decide +kernel
theorem dX2_take_47 : decode cX2_take 47 = .ok (.putfield 17, 3) := by decide +kernel
theorem dX2_take_50 : decode cX2_take 50 = .ok (.return_, 1) := by decide +kernel
theorem dX2_put_0 : decode cX2_put 0 = .ok (.aload_n 0, 1) := by decide +kernel
theorem dX2_put_1 : decode cX2_put 1 = .ok (.getfield 17, 3) := by decide +kernel
theorem dX2_put_4 : decode cX2_put 4 = .ok (.arraylength, 1) := by decide +kernel
theorem dX2_put_5 : decode cX2_put 5 = .ok (.iconst 1, 1) := by decide +kernel
theorem dX2_put_6 : decode cX2_put 6 = .ok (.iadd, 1) := by decide +kernel
theorem dX2_put_7 : decode cX2_put 7 = .ok (.anewarray 16, 3) := by decide +kernel
theorem dX2_put_10 : decode cX2_put 10 = .ok (.astore_n 3, 1) := by decide +kernel
theorem dX2_put_11 : decode cX2_put 11 = .ok (.iconst 0, 1) := by decide +kernel
theorem dX2_put_12 : decode cX2_put 12 = .ok (.istore 4, 2) := by decide +kernel
theorem dX2_put_14 : decode cX2_put 14 = .ok (.iload 4, 2) := by decide +kernel
theorem dX2_put_16 : decode cX2_put 16 = .ok (.aload_n 3, 1) := by decide +kernel
theorem dX2_put_17 : decode cX2_put 17 = .ok (.arraylength, 1) := by decide +kernel
theorem dX2_put_18 : decode cX2_put 18 = .ok (.if_icmp .ge 48, 3) := by decide +kernel
theorem dX2_put_21 : decode cX2_put 21 = .ok (.aload_n 3, 1) := by decide +kernel
theorem dX2_put_22 : decode cX2_put 22 = .ok (.iload 4, 2) := by decide +kernel
theorem dX2_put_24 : decode cX2_put 24 = .ok (.iload 4, 2) := by decide +kernel
theorem dX2_put_26 : decode cX2_put 26 = .ok (.iload_n 1, 1) := by decide +kernel
theorem dX2_put_27 : decode cX2_put 27 = .ok (.if_icmp .ge 13, 3) := by decide +kernel
theorem dX2_put_30 : decode cX2_put 30 = .ok (.aload_n 0, 1) := by decide +kernel
theorem dX2_put_31 : decode cX2_put 31 = .ok (.getfield 17, 3) := by decide +kernel
theorem dX2_put_34 : decode cX2_put 34 = .ok (.iload 4, 2) := by decide +kernel
theorem dX2_put_36 : decode cX2_put 36 = .ok (.aaload, 1) := by decide +kernel
theorem dX2_put_37 : decode cX2_put 37 = .ok (.goto 22, 3) := by decide +kernel
theorem dX2_put_40 : decode cX2_put 40 = .ok (.iload 4, 2) := by decide +kernel
theorem dX2_put_42 : decode cX2_put 42 = .ok (.iload_n 1, 1) := by decide +kernel
theorem dX2_put_43 : decode cX2_put 43 = .ok (.if_icmp .ne 7, 3) := by decide +kernel
theorem dX2_put_46 : decode cX2_put 46 = .ok (.aload_n 2, 1) := by decide +kernel
theorem dX2_put_47 : decode cX2_put 47 = .ok (.goto 12, 3) := by decide +kernel
theorem dX2_put_50 : decode cX2_put 50 = .ok (.aload_n 0, 1) := by decide +kernel
theorem dX2_put_51 : decode cX2_put 51 = .ok (.getfield 17, 3) := by decide +kernel
theorem dX2_put_54 : decode cX2_put 54 = .ok (.iload 4, 2) := by decide +kernel
theorem dX2_put_56 : decode cX2_put 56 = .ok (.iconst 1, 1) := by decide +kernel
theorem dX2_put_57 : decode cX2_put 57 = .ok (.isub, 1) := by decide +kernel
theorem dX2_put_58 : decode cX2_put 58 = .ok (.aaload, 1) := by decide +kernel
theorem dX2_put_59 : decode cX2_put 59 = .ok (.aastore, 1) := by decide +kernel
theorem dX2_put_60 : decode cX2_put 60 = .ok (.iinc 4 1, 3) := by decide +kernel
theorem dX2_put_63 : decode cX2_put 63 = .ok (.goto (-49), 3) := by decide +kernel
theorem dX2_put_66 : decode cX2_put 66 = .ok (.aload_n 0, 1) := by decide +kernel
theorem dX2_put_67 : decode cX2_put 67 = .ok (.aload_n 3, 1) := by decide +kernel
theorem dX2_put_68 : decode cX2_put 68 = .ok (.putfield 17, 3) := by decide +kernel
theorem dX2_put_71 : decode cX2_put 71 = .ok (.return_, 1) := by decide +kernel
theorem dX2_joined_0 : decode cX2_joined 0 = .ok (.iconst 0, 1) := by decide +kernel
theorem dX2_joined_1 : decode cX2_joined 1 = .ok (.istore_n 1, 1) := by decide +kernel
theorem dX2_joined_2 : decode cX2_joined 2 = .ok (.aload_n 0, 1) := by decide +kernel
theorem dX2_joined_3 : decode cX2_joined 3 = .ok (.getfield 21, 3) := by decide +kernel
theorem dX2_joined_6 : decode cX2_joined 6 = .ok (.astore_n 2, 1) := by decide +kernel
theorem dX2_joined_7 : decode cX2_joined 7 = .ok (.aload_n 2, 1) := by decide +kernel
theorem dX2_joined_8 : decode cX2_joined 8 = .ok (.arraylength, 1) := by decide +kernel
theorem dX2_joined_9 : decode cX2_joined 9 = .ok (.istore_n 3, 1) := by decide +kernel
theorem dX2_joined_10 : decode cX2_joined 10 = .ok (.iconst 0, 1) := by decide +kernel
theorem dX2_joined_11 : decode cX2_joined 11 = .ok (.istore 4, 2) := by decide +kernel
theorem dX2_joined_13 : decode cX2_joined 13 = .ok (.iload 4, 2) := by decide +kernel
theorem dX2_joined_15 : decode cX2_joined 15 = .ok (.iload_n 3, 1) := by decide +kernel
theorem dX2_joined_16 : decode cX2_joined 16 = .ok (.if_icmp .ge 28, 3) := by decide +kernel
theorem dX2_joined_19 : decode cX2_joined 19 = .ok (.aload_n 2, 1) := by decide +kernel
theorem dX2_joined_20 : decode cX2_joined 20 = .ok (.iload 4, 2) := by decide +kernel
theorem dX2_joined_22 : decode cX2_joined 22 = .ok (.iaload, 1) := by decide +kernel
theorem dX2_joined_23 : decode cX2_joined 23 = .ok (.istore 5, 2) := by decide +kernel
theorem dX2_joined_25 : decode cX2_joined 25 = .ok (.iload_n 1, 1) := by decide +kernel
theorem dX2_joined_26 : decode cX2_joined 26 = .ok (.iload 5, 2) := by decide +kernel
theorem dX2_joined_28 : decode cX2_joined 28 = .ok (.ifCond .ge 7, 3) := by decide +kernel
theorem dX2_joined_31 : decode cX2_joined 31 = .ok (.iconst 0, 1) := by decide +kernel
theorem dX2_joined_32 : decode cX2_joined 32 = .ok (.goto 4, 3) := by decide +kernel
theorem dX2_joined_35 : decode cX2_joined 35 = .ok (.iconst 1, 1) := by decide +kernel
theorem dX2_joined_36 : decode cX2_joined 36 = .ok (.iadd, 1) := by decide +kernel
theorem dX2_joined_37 : decode cX2_joined 37 = .ok (.istore_n 1, 1) := by decide +kernel
theorem dX2_joined_38 : decode cX2_joined 38 = .ok (.iinc 4 1, 3) := by decide +kernel
theorem dX2_joined_41 : decode cX2_joined 41 = .ok (.goto (-28), 3) := by decide +kernel
theorem dX2_joined_44 : decode cX2_joined 44 = .ok (.iload_n 1, 1) := by decide +kernel
theorem dX2_joined_45 : decode cX2_joined 45 = .ok (.ireturn, 1) := by decide +kernel
theorem dX2_trusts_0 : decode cX2_trusts 0 = .ok (.aload_n 0, 1) := by decide +kernel
theorem dX2_trusts_1 : decode cX2_trusts 1 = .ok (.getfield 21, 3) := by decide +kernel
theorem dX2_trusts_4 : decode cX2_trusts 4 = .ok (.iload_n 1, 1) := by decide +kernel
theorem dX2_trusts_5 : decode cX2_trusts 5 = .ok (.iaload, 1) := by decide +kernel
theorem dX2_trusts_6 : decode cX2_trusts 6 = .ok (.iload_n 2, 1) := by decide +kernel
theorem dX2_trusts_7 : decode cX2_trusts 7 = .ok (.iadd, 1) := by decide +kernel
theorem dX2_trusts_8 : decode cX2_trusts 8 = .ok (.istore_n 3, 1) := by decide +kernel
theorem dX2_trusts_9 : decode cX2_trusts 9 = .ok (.aload_n 0, 1) := by decide +kernel
theorem dX2_trusts_10 : decode cX2_trusts 10 = .ok (.getfield 21, 3) := by decide +kernel
theorem dX2_trusts_13 : decode cX2_trusts 13 = .ok (.iload_n 1, 1) := by decide +kernel
theorem dX2_trusts_14 : decode cX2_trusts 14 = .ok (.iload_n 3, 1) := by decide +kernel
theorem dX2_trusts_15 : decode cX2_trusts 15 = .ok (.ifCond .ge 7, 3) := by decide +kernel
theorem dX2_trusts_18 : decode cX2_trusts 18 = .ok (.iconst 0, 1) := by decide +kernel
theorem dX2_trusts_19 : decode cX2_trusts 19 = .ok (.goto 15, 3) := by decide +kernel
theorem dX2_trusts_22 : decode cX2_trusts 22 = .ok (.iload_n 3, 1) := by decide +kernel
theorem dX2_trusts_23 : decode cX2_trusts 23 = .ok (.bipush 100, 2) := by decide +kernel
theorem dX2_trusts_25 : decode cX2_trusts 25 = .ok (.if_icmp .le 8, 3) := by decide +kernel
theorem dX2_trusts_28 : decode cX2_trusts 28 = .ok (.bipush 100, 2) := by decide +kernel
theorem dX2_trusts_30 : decode cX2_trusts 30 = .ok (.goto 4, 3) := by decide +kernel
theorem dX2_trusts_33 : decode cX2_trusts 33 = .ok (.iload_n 3, 1) := by decide +kernel
theorem dX2_trusts_34 : decode cX2_trusts 34 = .ok (.iastore, 1) := by decide +kernel
theorem dX2_trusts_35 : decode cX2_trusts 35 = .ok (.return_, 1) := by decide +kernel
theorem dX2_brings_0 : decode cX2_brings 0 = .ok (.iload_n 1, 1) := by decide +kernel
theorem dX2_brings_1 : decode cX2_brings 1 = .ok (.bipush 9, 2) := by decide +kernel
theorem dX2_brings_3 : decode cX2_brings 3 = .ok (.if_icmp .le 7, 3) := by decide +kernel
theorem dX2_brings_6 : decode cX2_brings 6 = .ok (.iconst 1, 1) := by decide +kernel
theorem dX2_brings_7 : decode cX2_brings 7 = .ok (.goto 44, 3) := by decide +kernel
theorem dX2_brings_10 : decode cX2_brings 10 = .ok (.iload_n 1, 1) := by decide +kernel
theorem dX2_brings_11 : decode cX2_brings 11 = .ok (.iconst 3, 1) := by decide +kernel
theorem dX2_brings_12 : decode cX2_brings 12 = .ok (.if_icmp .le 19, 3) := by decide +kernel
theorem dX2_brings_15 : decode cX2_brings 15 = .ok (.iconst 5, 1) := by decide +kernel
theorem dX2_brings_16 : decode cX2_brings 16 = .ok (.aload_n 0, 1) := by decide +kernel
theorem dX2_brings_17 : decode cX2_brings 17 = .ok (.getfield 7, 3) := by decide +kernel
theorem dX2_brings_20 : decode cX2_brings 20 = .ok (.aload_n 0, 1) := by decide +kernel
theorem dX2_brings_21 : decode cX2_brings 21 = .ok (.getfield 24, 3) := by decide +kernel
theorem dX2_brings_24 : decode cX2_brings 24 = .ok (.iaload, 1) := by decide +kernel
theorem dX2_brings_25 : decode cX2_brings 25 = .ok (.iconst 2, 1) := by decide +kernel
theorem dX2_brings_26 : decode cX2_brings 26 = .ok (.idiv, 1) := by decide +kernel
theorem dX2_brings_27 : decode cX2_brings 27 = .ok (.iadd, 1) := by decide +kernel
theorem dX2_brings_28 : decode cX2_brings 28 = .ok (.goto 23, 3) := by decide +kernel
theorem dX2_brings_31 : decode cX2_brings 31 = .ok (.iload_n 1, 1) := by decide +kernel
theorem dX2_brings_32 : decode cX2_brings 32 = .ok (.ifCond .le 18, 3) := by decide +kernel
theorem dX2_brings_35 : decode cX2_brings 35 = .ok (.bipush 12, 2) := by decide +kernel
theorem dX2_brings_37 : decode cX2_brings 37 = .ok (.aload_n 0, 1) := by decide +kernel
theorem dX2_brings_38 : decode cX2_brings 38 = .ok (.getfield 7, 3) := by decide +kernel
theorem dX2_brings_41 : decode cX2_brings 41 = .ok (.aload_n 0, 1) := by decide +kernel
theorem dX2_brings_42 : decode cX2_brings 42 = .ok (.getfield 24, 3) := by decide +kernel
theorem dX2_brings_45 : decode cX2_brings 45 = .ok (.iaload, 1) := by decide +kernel
theorem dX2_brings_46 : decode cX2_brings 46 = .ok (.iadd, 1) := by decide +kernel
theorem dX2_brings_47 : decode cX2_brings 47 = .ok (.goto 4, 3) := by decide +kernel
theorem dX2_brings_50 : decode cX2_brings 50 = .ok (.iconst 0, 1) := by decide +kernel
theorem dX2_brings_51 : decode cX2_brings 51 = .ok (.ireturn, 1) := by decide +kernel
theorem dX2_dares_0 : decode cX2_dares 0 = .ok (.aload_n 0, 1) := by decide +kernel
theorem dX2_dares_1 : decode cX2_dares 1 = .ok (.getfield 21, 3) := by decide +kernel
theorem dX2_dares_4 : decode cX2_dares 4 = .ok (.iload_n 1, 1) := by decide +kernel
theorem dX2_dares_5 : decode cX2_dares 5 = .ok (.iaload, 1) := by decide +kernel
theorem dX2_dares_6 : decode cX2_dares 6 = .ok (.bipush 20, 2) := by decide +kernel
theorem dX2_dares_8 : decode cX2_dares 8 = .ok (.aload_n 0, 1) := by decide +kernel
theorem dX2_dares_9 : decode cX2_dares 9 = .ok (.getfield 13, 3) := by decide +kernel
theorem dX2_dares_12 : decode cX2_dares 12 = .ok (.aload_n 0, 1) := by decide +kernel
theorem dX2_dares_13 : decode cX2_dares 13 = .ok (.getfield 24, 3) := by decide +kernel
theorem dX2_dares_16 : decode cX2_dares 16 = .ok (.iaload, 1) := by decide +kernel
theorem dX2_dares_17 : decode cX2_dares 17 = .ok (.iadd, 1) := by decide +kernel
theorem dX2_dares_18 : decode cX2_dares 18 = .ok (.if_icmp .lt 7, 3) := by decide +kernel
theorem dX2_dares_21 : decode cX2_dares 21 = .ok (.iconst 1, 1) := by decide +kernel
theorem dX2_dares_22 : decode cX2_dares 22 = .ok (.goto 4, 3) := by decide +kernel
theorem dX2_dares_25 : decode cX2_dares 25 = .ok (.iconst 0, 1) := by decide +kernel
theorem dX2_dares_26 : decode cX2_dares 26 = .ok (.ireturn, 1) := by decide +kernel
set_option maxRecDepth 20000 in
theorem ggX2_does_X2_joined : GoodIn wsX2_does wsX2_joined := goodIn_r _ [9, 1, 24, 25, 26, 27, 28, 29, 30, 31, 32, 33] (by decide +kernel) (by decide +kernel)
set_option maxRecDepth 20000 in
theorem gX2_does_X2_joined : GoodIn wsX2_does (wsV RX2 28 RX2 yX2_joined wsX2_joined) := goodIn_app (goodIn_of _ (by decide +kernel)) ggX2_does_X2_joined
set_option maxRecDepth 20000 in
theorem ggX2_does_X2_dares : GoodIn wsX2_does wsX2_dares := goodIn_r _ [13, 1, 14, 4, 24, 25, 26, 27, 28, 29, 30, 31, 32, 33] (by decide +kernel) (by decide +kernel)
set_option maxRecDepth 20000 in
theorem gX2_does_X2_dares : GoodIn wsX2_does (wsV RX2 32 RX2 yX2_dares wsX2_dares) := goodIn_app (goodIn_of _ (by decide +kernel)) ggX2_does_X2_dares
set_option maxRecDepth 20000 in
theorem ggX2_does_X2_brings : GoodIn wsX2_does wsX2_brings := goodIn_r _ [18, 19, 4, 24, 25, 26, 27, 28, 29, 30, 31, 32, 33] (by decide +kernel) (by decide +kernel)
set_option maxRecDepth 20000 in
theorem gX2_does_X2_brings : GoodIn wsX2_does (wsV RX2 39 RX2 yX2_brings wsX2_brings) := goodIn_app (goodIn_of _ (by decide +kernel)) ggX2_does_X2_brings
set_option maxRecDepth 20000 in
theorem ggX2_does_X2_trusts : GoodIn wsX2_does wsX2_trusts := goodIn_r _ [23, 1, 24, 25, 26, 27, 28, 29, 30, 31, 32, 33] (by decide +kernel) (by decide +kernel)
set_option maxRecDepth 20000 in
theorem gX2_does_X2_trusts : GoodIn wsX2_does (wsV RX2 46 RX2 yX2_trusts wsX2_trusts) := goodIn_app (goodIn_of _ (by decide +kernel)) ggX2_does_X2_trusts
theorem dX2_does_0 : decode cX2_does 0 = .ok (.aload_n 1, 1) := by decide +kernel
theorem dX2_does_1 : decode cX2_does 1 = .ok (.iconst 1, 1) := by decide +kernel
theorem dX2_does_2 : decode cX2_does 2 = .ok (.iaload, 1) := by decide +kernel
theorem dX2_does_3 : decode cX2_does 3 = .ok (.istore_n 2, 1) := by decide +kernel
theorem dX2_does_4 : decode cX2_does 4 = .ok (.aload_n 1, 1) := by decide +kernel
theorem dX2_does_5 : decode cX2_does 5 = .ok (.iconst 0, 1) := by decide +kernel
theorem dX2_does_6 : decode cX2_does 6 = .ok (.iaload, 1) := by decide +kernel
theorem dX2_does_7 : decode cX2_does 7 = .ok (.ifCond .ne 26, 3) := by decide +kernel
theorem dX2_does_10 : decode cX2_does 10 = .ok (.aload_n 0, 1) := by decide +kernel
theorem dX2_does_11 : decode cX2_does 11 = .ok (.invokevirtual 28, 3) := by decide +kernel
theorem dX2_does_14 : decode cX2_does 14 = .ok (.istore_n 3, 1) := by decide +kernel
theorem dX2_does_15 : decode cX2_does 15 = .ok (.iload_n 3, 1) := by decide +kernel
theorem dX2_does_16 : decode cX2_does 16 = .ok (.bipush 6, 2) := by decide +kernel
theorem dX2_does_18 : decode cX2_does 18 = .ok (.if_icmp .ne 5, 3) := by decide +kernel
theorem dX2_does_21 : decode cX2_does 21 = .ok (.iconst 0, 1) := by decide +kernel
theorem dX2_does_22 : decode cX2_does 22 = .ok (.ireturn, 1) := by decide +kernel
theorem dX2_does_23 : decode cX2_does 23 = .ok (.aload_n 0, 1) := by decide +kernel
theorem dX2_does_24 : decode cX2_does 24 = .ok (.getfield 21, 3) := by decide +kernel
theorem dX2_does_27 : decode cX2_does 27 = .ok (.iload_n 3, 1) := by decide +kernel
theorem dX2_does_28 : decode cX2_does 28 = .ok (.iload_n 2, 1) := by decide +kernel
theorem dX2_does_29 : decode cX2_does 29 = .ok (.iastore, 1) := by decide +kernel
theorem dX2_does_30 : decode cX2_does 30 = .ok (.goto 244, 3) := by decide +kernel
theorem dX2_does_33 : decode cX2_does 33 = .ok (.aload_n 1, 1) := by decide +kernel
theorem dX2_does_34 : decode cX2_does 34 = .ok (.iconst 0, 1) := by decide +kernel
theorem dX2_does_35 : decode cX2_does 35 = .ok (.iaload, 1) := by decide +kernel
theorem dX2_does_36 : decode cX2_does 36 = .ok (.iconst 1, 1) := by decide +kernel
theorem dX2_does_37 : decode cX2_does 37 = .ok (.if_icmp .ne 107, 3) := by decide +kernel
theorem dX2_does_40 : decode cX2_does 40 = .ok (.aload_n 0, 1) := by decide +kernel
theorem dX2_does_41 : decode cX2_does 41 = .ok (.iload_n 2, 1) := by decide +kernel
theorem dX2_does_42 : decode cX2_does 42 = .ok (.invokevirtual 32, 3) := by decide +kernel
theorem dX2_does_45 : decode cX2_does 45 = .ok (.ifCond .ne 5, 3) := by decide +kernel
theorem dX2_does_48 : decode cX2_does 48 = .ok (.iconst 0, 1) := by decide +kernel
theorem dX2_does_49 : decode cX2_does 49 = .ok (.ireturn, 1) := by decide +kernel
theorem dX2_does_50 : decode cX2_does 50 = .ok (.aload_n 0, 1) := by decide +kernel
theorem dX2_does_51 : decode cX2_does 51 = .ok (.dup, 1) := by decide +kernel
theorem dX2_does_52 : decode cX2_does 52 = .ok (.getfield 36, 3) := by decide +kernel
theorem dX2_does_55 : decode cX2_does 55 = .ok (.aload_n 0, 1) := by decide +kernel
theorem dX2_does_56 : decode cX2_does 56 = .ok (.aload_n 1, 1) := by decide +kernel
theorem dX2_does_57 : decode cX2_does 57 = .ok (.iconst 2, 1) := by decide +kernel
theorem dX2_does_58 : decode cX2_does 58 = .ok (.iaload, 1) := by decide +kernel
theorem dX2_does_59 : decode cX2_does 59 = .ok (.invokevirtual 39, 3) := by decide +kernel
theorem dX2_does_62 : decode cX2_does 62 = .ok (.iadd, 1) := by decide +kernel
theorem dX2_does_63 : decode cX2_does 63 = .ok (.putfield 36, 3) := by decide +kernel
theorem dX2_does_66 : decode cX2_does 66 = .ok (.aload_n 1, 1) := by decide +kernel
theorem dX2_does_67 : decode cX2_does 67 = .ok (.iconst 2, 1) := by decide +kernel
theorem dX2_does_68 : decode cX2_does 68 = .ok (.iaload, 1) := by decide +kernel
theorem dX2_does_69 : decode cX2_does 69 = .ok (.ifCond .ne 42, 3) := by decide +kernel
theorem dX2_does_72 : decode cX2_does 72 = .ok (.aload_n 0, 1) := by decide +kernel
theorem dX2_does_73 : decode cX2_does 73 = .ok (.iload_n 2, 1) := by decide +kernel
theorem dX2_does_74 : decode cX2_does 74 = .ok (.aload_n 0, 1) := by decide +kernel
theorem dX2_does_75 : decode cX2_does 75 = .ok (.getfield 43, 3) := by decide +kernel
theorem dX2_does_78 : decode cX2_does 78 = .ok (.ifCond .ne 8, 3) := by decide +kernel
theorem dX2_does_81 : decode cX2_does 81 = .ok (.bipush (-60), 2) := by decide +kernel
theorem dX2_does_83 : decode cX2_does 83 = .ok (.goto 5, 3) := by decide +kernel
theorem dX2_does_86 : decode cX2_does 86 = .ok (.bipush (-30), 2) := by decide +kernel
theorem dX2_does_88 : decode cX2_does 88 = .ok (.invokevirtual 46, 3) := by decide +kernel
theorem dX2_does_91 : decode cX2_does 91 = .ok (.aload_n 0, 1) := by decide +kernel
theorem dX2_does_92 : decode cX2_does 92 = .ok (.getfield 43, 3) := by decide +kernel
theorem dX2_does_95 : decode cX2_does 95 = .ok (.ifCond .le 179, 3) := by decide +kernel
theorem dX2_does_98 : decode cX2_does 98 = .ok (.aload_n 0, 1) := by decide +kernel
theorem dX2_does_99 : decode cX2_does 99 = .ok (.dup, 1) := by decide +kernel
theorem dX2_does_100 : decode cX2_does 100 = .ok (.getfield 43, 3) := by decide +kernel
theorem dX2_does_103 : decode cX2_does 103 = .ok (.iconst 1, 1) := by decide +kernel
theorem dX2_does_104 : decode cX2_does 104 = .ok (.isub, 1) := by decide +kernel
theorem dX2_does_105 : decode cX2_does 105 = .ok (.putfield 43, 3) := by decide +kernel
theorem dX2_does_108 : decode cX2_does 108 = .ok (.goto 166, 3) := by decide +kernel
theorem dX2_does_111 : decode cX2_does 111 = .ok (.aload_n 0, 1) := by decide +kernel
theorem dX2_does_112 : decode cX2_does 112 = .ok (.iload_n 2, 1) := by decide +kernel
theorem dX2_does_113 : decode cX2_does 113 = .ok (.aload_n 1, 1) := by decide +kernel
theorem dX2_does_114 : decode cX2_does 114 = .ok (.iconst 2, 1) := by decide +kernel
theorem dX2_does_115 : decode cX2_does 115 = .ok (.iaload, 1) := by decide +kernel
theorem dX2_does_116 : decode cX2_does 116 = .ok (.iconst 4, 1) := by decide +kernel
theorem dX2_does_117 : decode cX2_does 117 = .ok (.if_icmp .ge 8, 3) := by decide +kernel
theorem dX2_does_120 : decode cX2_does 120 = .ok (.bipush (-4), 2) := by decide +kernel
theorem dX2_does_122 : decode cX2_does 122 = .ok (.goto 16, 3) := by decide +kernel
theorem dX2_does_125 : decode cX2_does 125 = .ok (.aload_n 1, 1) := by decide +kernel
theorem dX2_does_126 : decode cX2_does 126 = .ok (.iconst 2, 1) := by decide +kernel
theorem dX2_does_127 : decode cX2_does 127 = .ok (.iaload, 1) := by decide +kernel
theorem dX2_does_128 : decode cX2_does 128 = .ok (.bipush 10, 2) := by decide +kernel
theorem dX2_does_130 : decode cX2_does 130 = .ok (.if_icmp .ge 7, 3) := by decide +kernel
theorem dX2_does_133 : decode cX2_does 133 = .ok (.iconst 1, 1) := by decide +kernel
theorem dX2_does_134 : decode cX2_does 134 = .ok (.goto 4, 3) := by decide +kernel
theorem dX2_does_137 : decode cX2_does 137 = .ok (.iconst 3, 1) := by decide +kernel
theorem dX2_does_138 : decode cX2_does 138 = .ok (.invokevirtual 46, 3) := by decide +kernel
theorem dX2_does_141 : decode cX2_does 141 = .ok (.goto 133, 3) := by decide +kernel
theorem dX2_does_144 : decode cX2_does 144 = .ok (.aload_n 1, 1) := by decide +kernel
theorem dX2_does_145 : decode cX2_does 145 = .ok (.iconst 0, 1) := by decide +kernel
theorem dX2_does_146 : decode cX2_does 146 = .ok (.iaload, 1) := by decide +kernel
theorem dX2_does_147 : decode cX2_does 147 = .ok (.iconst 2, 1) := by decide +kernel
theorem dX2_does_148 : decode cX2_does 148 = .ok (.if_icmp .ne 24, 3) := by decide +kernel
theorem dX2_does_151 : decode cX2_does 151 = .ok (.aload_n 0, 1) := by decide +kernel
theorem dX2_does_152 : decode cX2_does 152 = .ok (.getfield 21, 3) := by decide +kernel
theorem dX2_does_155 : decode cX2_does 155 = .ok (.iload_n 2, 1) := by decide +kernel
theorem dX2_does_156 : decode cX2_does 156 = .ok (.iaload, 1) := by decide +kernel
theorem dX2_does_157 : decode cX2_does 157 = .ok (.ifCond .ge 5, 3) := by decide +kernel
theorem dX2_does_160 : decode cX2_does 160 = .ok (.iconst 0, 1) := by decide +kernel
theorem dX2_does_161 : decode cX2_does 161 = .ok (.ireturn, 1) := by decide +kernel
theorem dX2_does_162 : decode cX2_does 162 = .ok (.aload_n 0, 1) := by decide +kernel
theorem dX2_does_163 : decode cX2_does 163 = .ok (.iload_n 2, 1) := by decide +kernel
theorem dX2_does_164 : decode cX2_does 164 = .ok (.bipush 6, 2) := by decide +kernel
theorem dX2_does_166 : decode cX2_does 166 = .ok (.invokevirtual 46, 3) := by decide +kernel
theorem dX2_does_169 : decode cX2_does 169 = .ok (.goto 105, 3) := by decide +kernel
theorem dX2_does_172 : decode cX2_does 172 = .ok (.aload_n 1, 1) := by decide +kernel
theorem dX2_does_173 : decode cX2_does 173 = .ok (.iconst 0, 1) := by decide +kernel
theorem dX2_does_174 : decode cX2_does 174 = .ok (.iaload, 1) := by decide +kernel
theorem dX2_does_175 : decode cX2_does 175 = .ok (.iconst 3, 1) := by decide +kernel
theorem dX2_does_176 : decode cX2_does 176 = .ok (.if_icmp .ne 11, 3) := by decide +kernel
theorem dX2_does_179 : decode cX2_does 179 = .ok (.aload_n 0, 1) := by decide +kernel
theorem dX2_does_180 : decode cX2_does 180 = .ok (.iload_n 2, 1) := by decide +kernel
theorem dX2_does_181 : decode cX2_does 181 = .ok (.putfield 24, 3) := by decide +kernel
theorem dX2_does_184 : decode cX2_does 184 = .ok (.goto 90, 3) := by decide +kernel
theorem dX2_does_187 : decode cX2_does 187 = .ok (.aload_n 1, 1) := by decide +kernel
theorem dX2_does_188 : decode cX2_does 188 = .ok (.iconst 0, 1) := by decide +kernel
theorem dX2_does_189 : decode cX2_does 189 = .ok (.iaload, 1) := by decide +kernel
theorem dX2_does_190 : decode cX2_does 190 = .ok (.iconst 4, 1) := by decide +kernel
theorem dX2_does_191 : decode cX2_does 191 = .ok (.if_icmp .ne 49, 3) := by decide +kernel
theorem dX2_does_194 : decode cX2_does 194 = .ok (.aload_n 0, 1) := by decide +kernel
theorem dX2_does_195 : decode cX2_does 195 = .ok (.getfield 21, 3) := by decide +kernel
theorem dX2_does_198 : decode cX2_does 198 = .ok (.iload_n 2, 1) := by decide +kernel
theorem dX2_does_199 : decode cX2_does 199 = .ok (.iaload, 1) := by decide +kernel
theorem dX2_does_200 : decode cX2_does 200 = .ok (.ifCond .lt 13, 3) := by decide +kernel
theorem dX2_does_203 : decode cX2_does 203 = .ok (.aload_n 1, 1) := by decide +kernel
theorem dX2_does_204 : decode cX2_does 204 = .ok (.iconst 2, 1) := by decide +kernel
theorem dX2_does_205 : decode cX2_does 205 = .ok (.iaload, 1) := by decide +kernel
theorem dX2_does_206 : decode cX2_does 206 = .ok (.aload_n 0, 1) := by decide +kernel
theorem dX2_does_207 : decode cX2_does 207 = .ok (.getfield 36, 3) := by decide +kernel
theorem dX2_does_210 : decode cX2_does 210 = .ok (.if_icmp .le 5, 3) := by decide +kernel
theorem dX2_does_213 : decode cX2_does 213 = .ok (.iconst 0, 1) := by decide +kernel
theorem dX2_does_214 : decode cX2_does 214 = .ok (.ireturn, 1) := by decide +kernel
theorem dX2_does_215 : decode cX2_does 215 = .ok (.aload_n 0, 1) := by decide +kernel
theorem dX2_does_216 : decode cX2_does 216 = .ok (.dup, 1) := by decide +kernel
theorem dX2_does_217 : decode cX2_does 217 = .ok (.getfield 36, 3) := by decide +kernel
theorem dX2_does_220 : decode cX2_does 220 = .ok (.aload_n 1, 1) := by decide +kernel
theorem dX2_does_221 : decode cX2_does 221 = .ok (.iconst 2, 1) := by decide +kernel
theorem dX2_does_222 : decode cX2_does 222 = .ok (.iaload, 1) := by decide +kernel
theorem dX2_does_223 : decode cX2_does 223 = .ok (.isub, 1) := by decide +kernel
theorem dX2_does_224 : decode cX2_does 224 = .ok (.putfield 36, 3) := by decide +kernel
theorem dX2_does_227 : decode cX2_does 227 = .ok (.aload_n 0, 1) := by decide +kernel
theorem dX2_does_228 : decode cX2_does 228 = .ok (.iload_n 2, 1) := by decide +kernel
theorem dX2_does_229 : decode cX2_does 229 = .ok (.aload_n 1, 1) := by decide +kernel
theorem dX2_does_230 : decode cX2_does 230 = .ok (.iconst 2, 1) := by decide +kernel
theorem dX2_does_231 : decode cX2_does 231 = .ok (.iaload, 1) := by decide +kernel
theorem dX2_does_232 : decode cX2_does 232 = .ok (.iconst 3, 1) := by decide +kernel
theorem dX2_does_233 : decode cX2_does 233 = .ok (.idiv, 1) := by decide +kernel
theorem dX2_does_234 : decode cX2_does 234 = .ok (.invokevirtual 46, 3) := by decide +kernel
theorem dX2_does_237 : decode cX2_does 237 = .ok (.goto 37, 3) := by decide +kernel
theorem dX2_does_240 : decode cX2_does 240 = .ok (.iconst 2, 1) := by decide +kernel
theorem dX2_does_241 : decode cX2_does 241 = .ok (.iload_n 2, 1) := by decide +kernel
theorem dX2_does_242 : decode cX2_does 242 = .ok (.imul, 1) := by decide +kernel
theorem dX2_does_243 : decode cX2_does 243 = .ok (.aload_n 0, 1) := by decide +kernel
theorem dX2_does_244 : decode cX2_does 244 = .ok (.getfield 36, 3) := by decide +kernel
theorem dX2_does_247 : decode cX2_does 247 = .ok (.if_icmp .le 5, 3) := by decide +kernel
theorem dX2_does_250 : decode cX2_does 250 = .ok (.iconst 0, 1) := by decide +kernel
theorem dX2_does_251 : decode cX2_does 251 = .ok (.ireturn, 1) := by decide +kernel
theorem dX2_does_252 : decode cX2_does 252 = .ok (.aload_n 0, 1) := by decide +kernel
theorem dX2_does_253 : decode cX2_does 253 = .ok (.dup, 1) := by decide +kernel
theorem dX2_does_254 : decode cX2_does 254 = .ok (.getfield 36, 3) := by decide +kernel
theorem dX2_does_257 : decode cX2_does 257 = .ok (.iconst 2, 1) := by decide +kernel
theorem dX2_does_258 : decode cX2_does 258 = .ok (.iload_n 2, 1) := by decide +kernel
theorem dX2_does_259 : decode cX2_does 259 = .ok (.imul, 1) := by decide +kernel
theorem dX2_does_260 : decode cX2_does 260 = .ok (.isub, 1) := by decide +kernel
theorem dX2_does_261 : decode cX2_does 261 = .ok (.putfield 36, 3) := by decide +kernel
theorem dX2_does_264 : decode cX2_does 264 = .ok (.aload_n 0, 1) := by decide +kernel
theorem dX2_does_265 : decode cX2_does 265 = .ok (.dup, 1) := by decide +kernel
theorem dX2_does_266 : decode cX2_does 266 = .ok (.getfield 43, 3) := by decide +kernel
theorem dX2_does_269 : decode cX2_does 269 = .ok (.iload_n 2, 1) := by decide +kernel
theorem dX2_does_270 : decode cX2_does 270 = .ok (.iadd, 1) := by decide +kernel
theorem dX2_does_271 : decode cX2_does 271 = .ok (.putfield 43, 3) := by decide +kernel
theorem dX2_does_274 : decode cX2_does 274 = .ok (.iconst 1, 1) := by decide +kernel
theorem dX2_does_275 : decode cX2_does 275 = .ok (.ireturn, 1) := by decide +kernel
set_option maxRecDepth 20000 in
theorem ggX2_reckon_X2_does : GoodIn wsX2_reckon wsX2_does := goodIn_r _ [14, 5, 1, 2, 3, 15, 16, 17, 13, 18, 19, 20, 21, 22, 23, 24, 25, 26, 27, 28, 29, 30, 31, 32, 33, 34, 35, 36, 37, 38, 39, 40, 41, 42] (by decide +kernel) (by decide +kernel)
set_option maxRecDepth 20000 in
theorem gX2_reckon_X2_does : GoodIn wsX2_reckon (wsV RX2 60 RX2 yX2_does wsX2_does) := goodIn_app (goodIn_of _ (by decide +kernel)) ggX2_reckon_X2_does
theorem dX2_reckon_0 : decode cX2_reckon 0 = .ok (.aload_n 0, 1) := by decide +kernel
theorem dX2_reckon_1 : decode cX2_reckon 1 = .ok (.bipush 10, 2) := by decide +kernel
theorem dX2_reckon_3 : decode cX2_reckon 3 = .ok (.putfield 36, 3) := by decide +kernel
theorem dX2_reckon_6 : decode cX2_reckon 6 = .ok (.aload_n 0, 1) := by decide +kernel
theorem dX2_reckon_7 : decode cX2_reckon 7 = .ok (.iconst 0, 1) := by decide +kernel
theorem dX2_reckon_8 : decode cX2_reckon 8 = .ok (.putfield 43, 3) := by decide +kernel
theorem dX2_reckon_11 : decode cX2_reckon 11 = .ok (.aload_n 0, 1) := by decide +kernel
theorem dX2_reckon_12 : decode cX2_reckon 12 = .ok (.iconst 0, 1) := by decide +kernel
theorem dX2_reckon_13 : decode cX2_reckon 13 = .ok (.putfield 24, 3) := by decide +kernel
theorem dX2_reckon_16 : decode cX2_reckon 16 = .ok (.aload_n 0, 1) := by decide +kernel
theorem dX2_reckon_17 : decode cX2_reckon 17 = .ok (.bipush 6, 2) := by decide +kernel
theorem dX2_reckon_19 : decode cX2_reckon 19 = .ok (.newarray .int, 2) := by decide +kernel
theorem dX2_reckon_21 : decode cX2_reckon 21 = .ok (.dup, 1) := by decide +kernel
theorem dX2_reckon_22 : decode cX2_reckon 22 = .ok (.iconst 0, 1) := by decide +kernel
theorem dX2_reckon_23 : decode cX2_reckon 23 = .ok (.iconst (-1), 1) := by decide +kernel
theorem dX2_reckon_24 : decode cX2_reckon 24 = .ok (.iastore, 1) := by decide +kernel
theorem dX2_reckon_25 : decode cX2_reckon 25 = .ok (.dup, 1) := by decide +kernel
theorem dX2_reckon_26 : decode cX2_reckon 26 = .ok (.iconst 1, 1) := by decide +kernel
theorem dX2_reckon_27 : decode cX2_reckon 27 = .ok (.iconst (-1), 1) := by decide +kernel
theorem dX2_reckon_28 : decode cX2_reckon 28 = .ok (.iastore, 1) := by decide +kernel
theorem dX2_reckon_29 : decode cX2_reckon 29 = .ok (.dup, 1) := by decide +kernel
theorem dX2_reckon_30 : decode cX2_reckon 30 = .ok (.iconst 2, 1) := by decide +kernel
theorem dX2_reckon_31 : decode cX2_reckon 31 = .ok (.iconst (-1), 1) := by decide +kernel
theorem dX2_reckon_32 : decode cX2_reckon 32 = .ok (.iastore, 1) := by decide +kernel
theorem dX2_reckon_33 : decode cX2_reckon 33 = .ok (.dup, 1) := by decide +kernel
theorem dX2_reckon_34 : decode cX2_reckon 34 = .ok (.iconst 3, 1) := by decide +kernel
theorem dX2_reckon_35 : decode cX2_reckon 35 = .ok (.iconst (-1), 1) := by decide +kernel
theorem dX2_reckon_36 : decode cX2_reckon 36 = .ok (.iastore, 1) := by decide +kernel
theorem dX2_reckon_37 : decode cX2_reckon 37 = .ok (.dup, 1) := by decide +kernel
theorem dX2_reckon_38 : decode cX2_reckon 38 = .ok (.iconst 4, 1) := by decide +kernel
theorem dX2_reckon_39 : decode cX2_reckon 39 = .ok (.iconst (-1), 1) := by decide +kernel
theorem dX2_reckon_40 : decode cX2_reckon 40 = .ok (.iastore, 1) := by decide +kernel
theorem dX2_reckon_41 : decode cX2_reckon 41 = .ok (.dup, 1) := by decide +kernel
theorem dX2_reckon_42 : decode cX2_reckon 42 = .ok (.iconst 5, 1) := by decide +kernel
theorem dX2_reckon_43 : decode cX2_reckon 43 = .ok (.iconst (-1), 1) := by decide +kernel
theorem dX2_reckon_44 : decode cX2_reckon 44 = .ok (.iastore, 1) := by decide +kernel
theorem dX2_reckon_45 : decode cX2_reckon 45 = .ok (.putfield 21, 3) := by decide +kernel
theorem dX2_reckon_48 : decode cX2_reckon 48 = .ok (.aload_n 0, 1) := by decide +kernel
theorem dX2_reckon_49 : decode cX2_reckon 49 = .ok (.iconst 0, 1) := by decide +kernel
theorem dX2_reckon_50 : decode cX2_reckon 50 = .ok (.putfield 50, 3) := by decide +kernel
theorem dX2_reckon_53 : decode cX2_reckon 53 = .ok (.aload_n 0, 1) := by decide +kernel
theorem dX2_reckon_54 : decode cX2_reckon 54 = .ok (.iconst 0, 1) := by decide +kernel
theorem dX2_reckon_55 : decode cX2_reckon 55 = .ok (.putfield 53, 3) := by decide +kernel
theorem dX2_reckon_58 : decode cX2_reckon 58 = .ok (.aload_n 0, 1) := by decide +kernel
theorem dX2_reckon_59 : decode cX2_reckon 59 = .ok (.iconst 0, 1) := by decide +kernel
theorem dX2_reckon_60 : decode cX2_reckon 60 = .ok (.putfield 56, 3) := by decide +kernel
theorem dX2_reckon_63 : decode cX2_reckon 63 = .ok (.iconst 0, 1) := by decide +kernel
theorem dX2_reckon_64 : decode cX2_reckon 64 = .ok (.istore_n 2, 1) := by decide +kernel
theorem dX2_reckon_65 : decode cX2_reckon 65 = .ok (.iload_n 2, 1) := by decide +kernel
theorem dX2_reckon_66 : decode cX2_reckon 66 = .ok (.iload_n 1, 1) := by decide +kernel
theorem dX2_reckon_67 : decode cX2_reckon 67 = .ok (.if_icmp .ge 83, 3) := by decide +kernel
theorem dX2_reckon_70 : decode cX2_reckon 70 = .ok (.aload_n 0, 1) := by decide +kernel
theorem dX2_reckon_71 : decode cX2_reckon 71 = .ok (.aload_n 0, 1) := by decide +kernel
theorem dX2_reckon_72 : decode cX2_reckon 72 = .ok (.getfield 17, 3) := by decide +kernel
theorem dX2_reckon_75 : decode cX2_reckon 75 = .ok (.iload_n 2, 1) := by decide +kernel
theorem dX2_reckon_76 : decode cX2_reckon 76 = .ok (.aaload, 1) := by decide +kernel
theorem dX2_reckon_77 : decode cX2_reckon 77 = .ok (.iconst 3, 1) := by decide +kernel
theorem dX2_reckon_78 : decode cX2_reckon 78 = .ok (.iaload, 1) := by decide +kernel
theorem dX2_reckon_79 : decode cX2_reckon 79 = .ok (.ifCond .ne 20, 3) := by decide +kernel
theorem dX2_reckon_82 : decode cX2_reckon 82 = .ok (.aload_n 0, 1) := by decide +kernel
theorem dX2_reckon_83 : decode cX2_reckon 83 = .ok (.aload_n 0, 1) := by decide +kernel
theorem dX2_reckon_84 : decode cX2_reckon 84 = .ok (.getfield 17, 3) := by decide +kernel
theorem dX2_reckon_87 : decode cX2_reckon 87 = .ok (.iload_n 2, 1) := by decide +kernel
theorem dX2_reckon_88 : decode cX2_reckon 88 = .ok (.aaload, 1) := by decide +kernel
theorem dX2_reckon_89 : decode cX2_reckon 89 = .ok (.invokevirtual 60, 3) := by decide +kernel
theorem dX2_reckon_92 : decode cX2_reckon 92 = .ok (.ifCond .eq 7, 3) := by decide +kernel
theorem dX2_reckon_95 : decode cX2_reckon 95 = .ok (.iconst 1, 1) := by decide +kernel
theorem dX2_reckon_96 : decode cX2_reckon 96 = .ok (.goto 4, 3) := by decide +kernel
theorem dX2_reckon_99 : decode cX2_reckon 99 = .ok (.iconst 0, 1) := by decide +kernel
theorem dX2_reckon_100 : decode cX2_reckon 100 = .ok (.putfield 56, 3) := by decide +kernel
theorem dX2_reckon_103 : decode cX2_reckon 103 = .ok (.aload_n 0, 1) := by decide +kernel
theorem dX2_reckon_104 : decode cX2_reckon 104 = .ok (.getfield 56, 3) := by decide +kernel
theorem dX2_reckon_107 : decode cX2_reckon 107 = .ok (.ifCond .eq 16, 3) := by decide +kernel
theorem dX2_reckon_110 : decode cX2_reckon 110 = .ok (.aload_n 0, 1) := by decide +kernel
theorem dX2_reckon_111 : decode cX2_reckon 111 = .ok (.dup, 1) := by decide +kernel
theorem dX2_reckon_112 : decode cX2_reckon 112 = .ok (.getfield 50, 3) := by decide +kernel
theorem dX2_reckon_115 : decode cX2_reckon 115 = .ok (.iconst 1, 1) := by decide +kernel
theorem dX2_reckon_116 : decode cX2_reckon 116 = .ok (.iadd, 1) := by decide +kernel
theorem dX2_reckon_117 : decode cX2_reckon 117 = .ok (.putfield 50, 3) := by decide +kernel
theorem dX2_reckon_120 : decode cX2_reckon 120 = .ok (.goto 24, 3) := by decide +kernel
theorem dX2_reckon_123 : decode cX2_reckon 123 = .ok (.aload_n 0, 1) := by decide +kernel
theorem dX2_reckon_124 : decode cX2_reckon 124 = .ok (.getfield 17, 3) := by decide +kernel
theorem dX2_reckon_127 : decode cX2_reckon 127 = .ok (.iload_n 2, 1) := by decide +kernel
theorem dX2_reckon_128 : decode cX2_reckon 128 = .ok (.aaload, 1) := by decide +kernel
theorem dX2_reckon_129 : decode cX2_reckon 129 = .ok (.iconst 3, 1) := by decide +kernel
theorem dX2_reckon_130 : decode cX2_reckon 130 = .ok (.iaload, 1) := by decide +kernel
theorem dX2_reckon_131 : decode cX2_reckon 131 = .ok (.ifCond .ne 13, 3) := by decide +kernel
theorem dX2_reckon_134 : decode cX2_reckon 134 = .ok (.aload_n 0, 1) := by decide +kernel
theorem dX2_reckon_135 : decode cX2_reckon 135 = .ok (.dup, 1) := by decide +kernel
theorem dX2_reckon_136 : decode cX2_reckon 136 = .ok (.getfield 53, 3) := by decide +kernel
theorem dX2_reckon_139 : decode cX2_reckon 139 = .ok (.iconst 1, 1) := by decide +kernel
theorem dX2_reckon_140 : decode cX2_reckon 140 = .ok (.iadd, 1) := by decide +kernel
theorem dX2_reckon_141 : decode cX2_reckon 141 = .ok (.putfield 53, 3) := by decide +kernel
theorem dX2_reckon_144 : decode cX2_reckon 144 = .ok (.iinc 2 1, 3) := by decide +kernel
theorem dX2_reckon_147 : decode cX2_reckon 147 = .ok (.goto (-82), 3) := by decide +kernel
theorem dX2_reckon_150 : decode cX2_reckon 150 = .ok (.aload_n 0, 1) := by decide +kernel
theorem dX2_reckon_151 : decode cX2_reckon 151 = .ok (.getfield 36, 3) := by decide +kernel
theorem dX2_reckon_154 : decode cX2_reckon 154 = .ok (.ireturn, 1) := by decide +kernel
theorem dX2_trustAll_0 : decode cX2_trustAll 0 = .ok (.iconst 0, 1) := by decide +kernel
theorem dX2_trustAll_1 : decode cX2_trustAll 1 = .ok (.istore_n 1, 1) := by decide +kernel
theorem dX2_trustAll_2 : decode cX2_trustAll 2 = .ok (.aload_n 0, 1) := by decide +kernel
theorem dX2_trustAll_3 : decode cX2_trustAll 3 = .ok (.getfield 21, 3) := by decide +kernel
theorem dX2_trustAll_6 : decode cX2_trustAll 6 = .ok (.astore_n 2, 1) := by decide +kernel
theorem dX2_trustAll_7 : decode cX2_trustAll 7 = .ok (.aload_n 2, 1) := by decide +kernel
theorem dX2_trustAll_8 : decode cX2_trustAll 8 = .ok (.arraylength, 1) := by decide +kernel
theorem dX2_trustAll_9 : decode cX2_trustAll 9 = .ok (.istore_n 3, 1) := by decide +kernel
theorem dX2_trustAll_10 : decode cX2_trustAll 10 = .ok (.iconst 0, 1) := by decide +kernel
theorem dX2_trustAll_11 : decode cX2_trustAll 11 = .ok (.istore 4, 2) := by decide +kernel
theorem dX2_trustAll_13 : decode cX2_trustAll 13 = .ok (.iload 4, 2) := by decide +kernel
theorem dX2_trustAll_15 : decode cX2_trustAll 15 = .ok (.iload_n 3, 1) := by decide +kernel
theorem dX2_trustAll_16 : decode cX2_trustAll 16 = .ok (.if_icmp .ge 29, 3) := by decide +kernel
theorem dX2_trustAll_19 : decode cX2_trustAll 19 = .ok (.aload_n 2, 1) := by decide +kernel
theorem dX2_trustAll_20 : decode cX2_trustAll 20 = .ok (.iload 4, 2) := by decide +kernel
theorem dX2_trustAll_22 : decode cX2_trustAll 22 = .ok (.iaload, 1) := by decide +kernel
theorem dX2_trustAll_23 : decode cX2_trustAll 23 = .ok (.istore 5, 2) := by decide +kernel
theorem dX2_trustAll_25 : decode cX2_trustAll 25 = .ok (.iload_n 1, 1) := by decide +kernel
theorem dX2_trustAll_26 : decode cX2_trustAll 26 = .ok (.iload 5, 2) := by decide +kernel
theorem dX2_trustAll_28 : decode cX2_trustAll 28 = .ok (.ifCond .ge 7, 3) := by decide +kernel
theorem dX2_trustAll_31 : decode cX2_trustAll 31 = .ok (.iconst 0, 1) := by decide +kernel
theorem dX2_trustAll_32 : decode cX2_trustAll 32 = .ok (.goto 5, 3) := by decide +kernel
theorem dX2_trustAll_35 : decode cX2_trustAll 35 = .ok (.iload 5, 2) := by decide +kernel
theorem dX2_trustAll_37 : decode cX2_trustAll 37 = .ok (.iadd, 1) := by decide +kernel
theorem dX2_trustAll_38 : decode cX2_trustAll 38 = .ok (.istore_n 1, 1) := by decide +kernel
theorem dX2_trustAll_39 : decode cX2_trustAll 39 = .ok (.iinc 4 1, 3) := by decide +kernel
theorem dX2_trustAll_42 : decode cX2_trustAll 42 = .ok (.goto (-29), 3) := by decide +kernel
theorem dX2_trustAll_45 : decode cX2_trustAll 45 = .ok (.iload_n 1, 1) := by decide +kernel
theorem dX2_trustAll_46 : decode cX2_trustAll 46 = .ok (.ireturn, 1) := by decide +kernel
set_option maxRecDepth 20000 in
theorem ggX2_isSame_X2_reckon : GoodIn wsX2_isSame wsX2_reckon := goodIn_r _ [14, 3, 4, 5, 2, 8, 6, 7, 9, 1, 15, 16, 17, 13, 18, 19, 20, 21, 22, 23, 24, 25, 26, 27, 28, 29, 30, 31, 32, 33, 34, 35, 36, 157, 158, 159, 160, 161, 162, 163, 164, 165, 166] (by decide +kernel) (by decide +kernel)
set_option maxRecDepth 20000 in
theorem gX2_isSame_X2_reckon : GoodIn wsX2_isSame (wsV RX2 64 RX2 yX2_reckon wsX2_reckon) := goodIn_app (goodIn_of _ (by decide +kernel)) ggX2_isSame_X2_reckon
set_option maxRecDepth 20000 in
theorem ggX2_isSame_X2_joined : GoodIn wsX2_isSame wsX2_joined := goodIn_r _ [22, 8, 157, 158, 159, 160, 161, 162, 163, 164, 165, 166] (by decide +kernel) (by decide +kernel)
set_option maxRecDepth 20000 in
theorem gX2_isSame_X2_joined : GoodIn wsX2_isSame (wsV RX2 28 RX2 yX2_joined wsX2_joined) := goodIn_app (goodIn_of _ (by decide +kernel)) ggX2_isSame_X2_joined
set_option maxRecDepth 20000 in
theorem ggX2_isSame_X2_trustAll : GoodIn wsX2_isSame wsX2_trustAll := goodIn_r _ [40, 8, 157, 158, 159, 160, 161, 162, 163, 164, 165, 166] (by decide +kernel) (by decide +kernel)
set_option maxRecDepth 20000 in
theorem gX2_isSame_X2_trustAll : GoodIn wsX2_isSame (wsV RX2 67 RX2 yX2_trustAll wsX2_trustAll) := goodIn_app (goodIn_of _ (by decide +kernel)) ggX2_isSame_X2_trustAll
set_option maxRecDepth 20000 in
theorem ggX2_isSame_X1_behind : GoodIn wsX2_isSame wsX1_behind := goodIn_ca (goodIn_ca (goodIn_ca (goodIn_ca (goodIn_ca (goodIn_r _ [45, 46, 47, 48, 49, 44, 50, 51, 52, 53, 54, 55, 56, 57, 58, 59, 60, 61, 62, 63, 64, 65, 66, 67, 68] rfl (by decide +kernel)) (goodIn_app (goodIn_r wsX1_behind_r2 [69, 70, 71, 72, 73, 74, 75, 76, 77, 78, 79, 80, 81, 82, 83, 84, 85, 86, 87, 88, 89, 90, 91, 92] rfl (by decide +kernel)) (goodIn_app (goodIn_r wsX1_behind_r3 [93, 94, 95, 96, 97, 98, 99, 100, 101, 102, 103, 104, 105, 106, 107, 108, 109, 110, 111, 112, 113, 114, 115, 116] rfl (by decide +kernel)) (goodIn_r wsX1_behind_r4 [117, 118, 119, 120, 121, 122, 123, 124, 125, 126, 127, 128, 129, 130, 131, 132, 133, 134, 135, 136] rfl (by decide +kernel))))) (goodIn_sub (fun _ h => List.mem_cons_of_mem _ (List.mem_append_left _ (List.mem_append_left _ (List.mem_append_left _ (List.mem_append_right _ (h)))))) (by decide +kernel))) (goodIn_sub (fun _ h => List.mem_cons_of_mem _ (List.mem_append_left _ (List.mem_append_left _ (List.mem_append_right _ (h))))) (by decide +kernel))) (goodIn_sub (fun _ h => List.mem_cons_of_mem _ (List.mem_append_left _ (List.mem_append_right _ (h)))) (by decide +kernel))) (goodIn_sub (fun _ h => List.mem_cons_of_mem _ (List.mem_append_right _ (h))) (by decide +kernel))
set_option maxRecDepth 20000 in
theorem gX2_isSame_X1_behind : GoodIn wsX2_isSame (wsV RX2 70 RX1 yX1_behind wsX1_behind) := goodIn_app (goodIn_of _ (by decide +kernel)) ggX2_isSame_X1_behind
set_option maxRecDepth 20000 in
theorem ggX2_isSame_X1_trust : GoodIn wsX2_isSame wsX1_trust := goodIn_ca (goodIn_ca (goodIn_ca (goodIn_ca (goodIn_ca (goodIn_r _ [140, 46, 47, 53, 54, 44, 55, 56, 57, 48, 49, 50, 51, 52, 58, 59, 60, 61, 62, 63, 64, 65, 66, 67, 68] rfl (by decide +kernel)) (goodIn_app (goodIn_r wsX1_trust_r2 [69, 70, 71, 72, 73, 74, 75, 76, 77, 78, 79, 80, 81, 82, 83, 84, 85, 86, 87, 88, 89, 90, 91, 92] rfl (by decide +kernel)) (goodIn_app (goodIn_r wsX1_trust_r3 [93, 94, 95, 96, 97, 98, 99, 100, 101, 102, 103, 104, 105, 106, 107, 108, 109, 110, 111, 112, 113, 114, 115, 116] rfl (by decide +kernel)) (goodIn_r wsX1_trust_r4 [117, 118, 119, 120, 121, 122, 123, 124, 125, 126, 127, 128, 129, 130, 131, 132, 133] rfl (by decide +kernel))))) (goodIn_sub (fun _ h => List.mem_cons_of_mem _ (List.mem_append_left _ (List.mem_append_left _ (List.mem_append_left _ (List.mem_append_right _ (h)))))) (by decide +kernel))) (goodIn_sub (fun _ h => List.mem_cons_of_mem _ (List.mem_append_left _ (List.mem_append_left _ (List.mem_append_right _ (h))))) (by decide +kernel))) (goodIn_sub (fun _ h => List.mem_cons_of_mem _ (List.mem_append_right _ (h))) (by decide +kernel))) (goodIn_sub (fun _ h => List.mem_cons_of_mem _ (List.mem_append_left _ (List.mem_append_right _ (h)))) (by decide +kernel))
set_option maxRecDepth 20000 in
theorem gX2_isSame_X1_trust : GoodIn wsX2_isSame (wsV RX2 76 RX1 yX1_trust wsX1_trust) := goodIn_app (goodIn_of _ (by decide +kernel)) ggX2_isSame_X1_trust
set_option maxRecDepth 20000 in
theorem ggX2_isSame_X1_entry : GoodIn wsX2_isSame wsX1_entry := goodIn_ca (goodIn_ca (goodIn_ca (goodIn_ca (goodIn_r _ [144, 46, 63, 64, 65, 62, 53, 54, 44, 55, 56, 57, 145, 146, 147, 148, 47, 58, 59, 60, 61, 66, 67, 68, 69] rfl (by decide +kernel)) (goodIn_app (goodIn_r wsX1_entry_r2 [70, 71, 72, 73, 74, 75, 76, 77, 78, 79, 80, 81, 82, 83, 84, 85, 86, 87, 88, 89, 90, 91, 92, 93] rfl (by decide +kernel)) (goodIn_app (goodIn_r wsX1_entry_r3 [94, 95, 96, 97, 98, 99, 100, 101, 102, 103, 104, 105, 106, 107, 108, 109, 110, 111, 112, 113, 114, 115, 116, 117] rfl (by decide +kernel)) (goodIn_r wsX1_entry_r4 [118, 119, 120, 121, 122, 123, 124, 125, 126, 127, 128, 129, 130, 131, 132, 133] rfl (by decide +kernel))))) (goodIn_sub (fun _ h => List.mem_cons_of_mem _ (List.mem_append_left _ (List.mem_append_left _ (List.mem_append_left _ (List.mem_append_right _ (h)))))) (by decide +kernel))) (goodIn_sub (fun _ h => List.mem_cons_of_mem _ (List.mem_append_left _ (List.mem_append_left _ (List.mem_append_right _ (h))))) (by decide +kernel))) (goodIn_sub (fun _ h => List.mem_cons_of_mem _ (List.mem_append_right _ (h))) (by decide +kernel))
set_option maxRecDepth 20000 in
theorem gX2_isSame_X1_entry : GoodIn wsX2_isSame (wsV RX2 78 RX1 yX1_entry wsX1_entry) := goodIn_app (goodIn_of _ (by decide +kernel)) ggX2_isSame_X1_entry
set_option maxRecDepth 20000 in
theorem ggX2_isSame_X1_count : GoodIn wsX2_isSame wsX1_count := goodIn_ca (goodIn_ca (goodIn_ca (goodIn_ca (goodIn_r _ [152, 46, 47, 53, 54, 44, 55, 56, 57, 58, 59, 60, 61, 62, 63, 64, 65, 66, 67, 68, 69, 70, 71, 72, 73] rfl (by decide +kernel)) (goodIn_app (goodIn_r wsX1_count_r2 [74, 75, 76, 77, 78, 79, 80, 81, 82, 83, 84, 85, 86, 87, 88, 89, 90, 91, 92, 93, 94, 95, 96, 97] rfl (by decide +kernel)) (goodIn_app (goodIn_r wsX1_count_r3 [98, 99, 100, 101, 102, 103, 104, 105, 106, 107, 108, 109, 110, 111, 112, 113, 114, 115, 116, 117, 118, 119, 120, 121] rfl (by decide +kernel)) (goodIn_r wsX1_count_r4 [122, 123, 124, 125, 126, 127, 128, 129, 130, 131, 132, 133] rfl (by decide +kernel))))) (goodIn_sub (fun _ h => List.mem_cons_of_mem _ (List.mem_append_left _ (List.mem_append_left _ (List.mem_append_left _ (List.mem_append_right _ (h)))))) (by decide +kernel))) (goodIn_sub (fun _ h => List.mem_cons_of_mem _ (List.mem_append_left _ (List.mem_append_left _ (List.mem_append_right _ (h))))) (by decide +kernel))) (goodIn_sub (fun _ h => List.mem_cons_of_mem _ (List.mem_append_right _ (h))) (by decide +kernel))
set_option maxRecDepth 20000 in
theorem gX2_isSame_X1_count : GoodIn wsX2_isSame (wsV RX2 81 RX1 yX1_count wsX1_count) := goodIn_app (goodIn_of _ (by decide +kernel)) ggX2_isSame_X1_count
set_option maxRecDepth 20000 in
theorem ggX2_isSame_X1_mean : GoodIn wsX2_isSame wsX1_mean := goodIn_r _ [156, 46, 47, 58, 59, 60, 44, 61, 62, 63, 64, 65, 66, 67, 68, 69, 70, 71, 72, 73, 74, 75, 76, 77, 78, 79, 80, 81, 82, 83, 84, 85, 86, 87, 88, 89, 90, 91, 92, 93, 94, 95, 96, 97, 98, 99, 100, 101, 102, 103, 104, 105, 106, 107, 108, 109, 110, 111, 112, 113, 114, 115, 116, 117, 118, 119, 120, 121, 122, 123, 124, 125, 126, 127, 128, 129, 130, 131, 132, 133, 134, 135, 136, 167, 168, 169, 170, 171, 172, 173, 174, 175, 176, 177, 178, 179, 180, 181, 182, 183] (by decide +kernel) (by decide +kernel)
set_option maxRecDepth 20000 in
theorem gX2_isSame_X1_mean : GoodIn wsX2_isSame (wsV RX2 84 RX1 yX1_mean wsX1_mean) := goodIn_app (goodIn_of _ (by decide +kernel)) ggX2_isSame_X1_mean
theorem dX2_isSame_0 : decode cX2_isSame 0 = .ok (.iconst 0, 1) := by decide +kernel
theorem dX2_isSame_1 : decode cX2_isSame 1 = .ok (.istore_n 2, 1) := by decide +kernel
theorem dX2_isSame_2 : decode cX2_isSame 2 = .ok (.iconst (-1), 1) := by decide +kernel
theorem dX2_isSame_3 : decode cX2_isSame 3 = .ok (.istore_n 3, 1) := by decide +kernel
theorem dX2_isSame_4 : decode cX2_isSame 4 = .ok (.bipush 10, 2) := by decide +kernel
theorem dX2_isSame_6 : decode cX2_isSame 6 = .ok (.istore 4, 2) := by decide +kernel
theorem dX2_isSame_8 : decode cX2_isSame 8 = .ok (.iconst 0, 1) := by decide +kernel
theorem dX2_isSame_9 : decode cX2_isSame 9 = .ok (.istore 5, 2) := by decide +kernel
theorem dX2_isSame_11 : decode cX2_isSame 11 = .ok (.iload 5, 2) := by decide +kernel
theorem dX2_isSame_13 : decode cX2_isSame 13 = .ok (.aload_n 0, 1) := by decide +kernel
theorem dX2_isSame_14 : decode cX2_isSame 14 = .ok (.getfield 17, 3) := by decide +kernel
theorem dX2_isSame_17 : decode cX2_isSame 17 = .ok (.arraylength, 1) := by decide +kernel
theorem dX2_isSame_18 : decode cX2_isSame 18 = .ok (.if_icmp .gt 289, 3) := by decide +kernel
theorem dX2_isSame_21 : decode cX2_isSame 21 = .ok (.aload_n 0, 1) := by decide +kernel
theorem dX2_isSame_22 : decode cX2_isSame 22 = .ok (.iload 5, 2) := by decide +kernel
theorem dX2_isSame_24 : decode cX2_isSame 24 = .ok (.invokevirtual 64, 3) := by decide +kernel
theorem dX2_isSame_27 : decode cX2_isSame 27 = .ok (.pop, 1) := by decide +kernel
theorem dX2_isSame_28 : decode cX2_isSame 28 = .ok (.bipush 7, 2) := by decide +kernel
theorem dX2_isSame_30 : decode cX2_isSame 30 = .ok (.newarray .int, 2) := by decide +kernel
theorem dX2_isSame_32 : decode cX2_isSame 32 = .ok (.dup, 1) := by decide +kernel
theorem dX2_isSame_33 : decode cX2_isSame 33 = .ok (.iconst 0, 1) := by decide +kernel
theorem dX2_isSame_34 : decode cX2_isSame 34 = .ok (.aload_n 0, 1) := by decide +kernel
theorem dX2_isSame_35 : decode cX2_isSame 35 = .ok (.getfield 36, 3) := by decide +kernel
theorem dX2_isSame_38 : decode cX2_isSame 38 = .ok (.iastore, 1) := by decide +kernel
theorem dX2_isSame_39 : decode cX2_isSame 39 = .ok (.dup, 1) := by decide +kernel
theorem dX2_isSame_40 : decode cX2_isSame 40 = .ok (.iconst 1, 1) := by decide +kernel
theorem dX2_isSame_41 : decode cX2_isSame 41 = .ok (.aload_n 0, 1) := by decide +kernel
theorem dX2_isSame_42 : decode cX2_isSame 42 = .ok (.getfield 43, 3) := by decide +kernel
theorem dX2_isSame_45 : decode cX2_isSame 45 = .ok (.iastore, 1) := by decide +kernel
theorem dX2_isSame_46 : decode cX2_isSame 46 = .ok (.dup, 1) := by decide +kernel
theorem dX2_isSame_47 : decode cX2_isSame 47 = .ok (.iconst 2, 1) := by decide +kernel
theorem dX2_isSame_48 : decode cX2_isSame 48 = .ok (.aload_n 0, 1) := by decide +kernel
theorem dX2_isSame_49 : decode cX2_isSame 49 = .ok (.getfield 24, 3) := by decide +kernel
theorem dX2_isSame_52 : decode cX2_isSame 52 = .ok (.iastore, 1) := by decide +kernel
theorem dX2_isSame_53 : decode cX2_isSame 53 = .ok (.dup, 1) := by decide +kernel
theorem dX2_isSame_54 : decode cX2_isSame 54 = .ok (.iconst 3, 1) := by decide +kernel
theorem dX2_isSame_55 : decode cX2_isSame 55 = .ok (.aload_n 0, 1) := by decide +kernel
theorem dX2_isSame_56 : decode cX2_isSame 56 = .ok (.invokevirtual 28, 3) := by decide +kernel
theorem dX2_isSame_59 : decode cX2_isSame 59 = .ok (.iastore, 1) := by decide +kernel
theorem dX2_isSame_60 : decode cX2_isSame 60 = .ok (.dup, 1) := by decide +kernel
theorem dX2_isSame_61 : decode cX2_isSame 61 = .ok (.iconst 4, 1) := by decide +kernel
theorem dX2_isSame_62 : decode cX2_isSame 62 = .ok (.aload_n 0, 1) := by decide +kernel
theorem dX2_isSame_63 : decode cX2_isSame 63 = .ok (.invokevirtual 67, 3) := by decide +kernel
theorem dX2_isSame_66 : decode cX2_isSame 66 = .ok (.iastore, 1) := by decide +kernel
theorem dX2_isSame_67 : decode cX2_isSame 67 = .ok (.dup, 1) := by decide +kernel
theorem dX2_isSame_68 : decode cX2_isSame 68 = .ok (.iconst 5, 1) := by decide +kernel
theorem dX2_isSame_69 : decode cX2_isSame 69 = .ok (.aload_n 0, 1) := by decide +kernel
theorem dX2_isSame_70 : decode cX2_isSame 70 = .ok (.getfield 50, 3) := by decide +kernel
theorem dX2_isSame_73 : decode cX2_isSame 73 = .ok (.iastore, 1) := by decide +kernel
theorem dX2_isSame_74 : decode cX2_isSame 74 = .ok (.dup, 1) := by decide +kernel
theorem dX2_isSame_75 : decode cX2_isSame 75 = .ok (.bipush 6, 2) := by decide +kernel
theorem dX2_isSame_77 : decode cX2_isSame 77 = .ok (.aload_n 0, 1) := by decide +kernel
theorem dX2_isSame_78 : decode cX2_isSame 78 = .ok (.getfield 53, 3) := by decide +kernel
theorem dX2_isSame_81 : decode cX2_isSame 81 = .ok (.iastore, 1) := by decide +kernel
theorem dX2_isSame_82 : decode cX2_isSame 82 = .ok (.astore 6, 2) := by decide +kernel
theorem dX2_isSame_84 : decode cX2_isSame 84 = .ok (.iconst 0, 1) := by decide +kernel
theorem dX2_isSame_85 : decode cX2_isSame 85 = .ok (.istore 7, 2) := by decide +kernel
theorem dX2_isSame_87 : decode cX2_isSame 87 = .ok (.iload 7, 2) := by decide +kernel
theorem dX2_isSame_89 : decode cX2_isSame 89 = .ok (.bipush 7, 2) := by decide +kernel
theorem dX2_isSame_91 : decode cX2_isSame 91 = .ok (.if_icmp .ge 27, 3) := by decide +kernel
theorem dX2_isSame_94 : decode cX2_isSame 94 = .ok (.aload_n 1, 1) := by decide +kernel
theorem dX2_isSame_95 : decode cX2_isSame 95 = .ok (.iload 5, 2) := by decide +kernel
theorem dX2_isSame_97 : decode cX2_isSame 97 = .ok (.iload 7, 2) := by decide +kernel
theorem dX2_isSame_99 : decode cX2_isSame 99 = .ok (.invokevirtual 70, 3) := by decide +kernel
theorem dX2_isSame_102 : decode cX2_isSame 102 = .ok (.aload 6, 2) := by decide +kernel
theorem dX2_isSame_104 : decode cX2_isSame 104 = .ok (.iload 7, 2) := by decide +kernel
theorem dX2_isSame_106 : decode cX2_isSame 106 = .ok (.iaload, 1) := by decide +kernel
theorem dX2_isSame_107 : decode cX2_isSame 107 = .ok (.if_icmp .eq 5, 3) := by decide +kernel
theorem dX2_isSame_110 : decode cX2_isSame 110 = .ok (.iconst 0, 1) := by decide +kernel
theorem dX2_isSame_111 : decode cX2_isSame 111 = .ok (.ireturn, 1) := by decide +kernel
theorem dX2_isSame_112 : decode cX2_isSame 112 = .ok (.iinc 7 1, 3) := by decide +kernel
theorem dX2_isSame_115 : decode cX2_isSame 115 = .ok (.goto (-28), 3) := by decide +kernel
theorem dX2_isSame_118 : decode cX2_isSame 118 = .ok (.iconst 0, 1) := by decide +kernel
theorem dX2_isSame_119 : decode cX2_isSame 119 = .ok (.istore 7, 2) := by decide +kernel
theorem dX2_isSame_121 : decode cX2_isSame 121 = .ok (.iload 7, 2) := by decide +kernel
theorem dX2_isSame_123 : decode cX2_isSame 123 = .ok (.bipush 6, 2) := by decide +kernel
theorem dX2_isSame_125 : decode cX2_isSame 125 = .ok (.if_icmp .ge 29, 3) := by decide +kernel
theorem dX2_isSame_128 : decode cX2_isSame 128 = .ok (.aload_n 1, 1) := by decide +kernel
theorem dX2_isSame_129 : decode cX2_isSame 129 = .ok (.iload 7, 2) := by decide +kernel
theorem dX2_isSame_131 : decode cX2_isSame 131 = .ok (.iload 5, 2) := by decide +kernel
theorem dX2_isSame_133 : decode cX2_isSame 133 = .ok (.invokevirtual 76, 3) := by decide +kernel
theorem dX2_isSame_136 : decode cX2_isSame 136 = .ok (.aload_n 0, 1) := by decide +kernel
theorem dX2_isSame_137 : decode cX2_isSame 137 = .ok (.getfield 21, 3) := by decide +kernel
theorem dX2_isSame_140 : decode cX2_isSame 140 = .ok (.iload 7, 2) := by decide +kernel
theorem dX2_isSame_142 : decode cX2_isSame 142 = .ok (.iaload, 1) := by decide +kernel
theorem dX2_isSame_143 : decode cX2_isSame 143 = .ok (.if_icmp .eq 5, 3) := by decide +kernel
theorem dX2_isSame_146 : decode cX2_isSame 146 = .ok (.iconst 0, 1) := by decide +kernel
theorem dX2_isSame_147 : decode cX2_isSame 147 = .ok (.ireturn, 1) := by decide +kernel
theorem dX2_isSame_148 : decode cX2_isSame 148 = .ok (.iinc 7 1, 3) := by decide +kernel
theorem dX2_isSame_151 : decode cX2_isSame 151 = .ok (.goto (-30), 3) := by decide +kernel
theorem dX2_isSame_154 : decode cX2_isSame 154 = .ok (.aload_n 0, 1) := by decide +kernel
theorem dX2_isSame_155 : decode cX2_isSame 155 = .ok (.getfield 36, 3) := by decide +kernel
theorem dX2_isSame_158 : decode cX2_isSame 158 = .ok (.iload 4, 2) := by decide +kernel
theorem dX2_isSame_160 : decode cX2_isSame 160 = .ok (.if_icmp .ge 9, 3) := by decide +kernel
theorem dX2_isSame_163 : decode cX2_isSame 163 = .ok (.aload_n 0, 1) := by decide +kernel
theorem dX2_isSame_164 : decode cX2_isSame 164 = .ok (.getfield 36, 3) := by decide +kernel
theorem dX2_isSame_167 : decode cX2_isSame 167 = .ok (.istore 4, 2) := by decide +kernel
theorem dX2_isSame_169 : decode cX2_isSame 169 = .ok (.iload 5, 2) := by decide +kernel
theorem dX2_isSame_171 : decode cX2_isSame 171 = .ok (.ifCond .ne 6, 3) := by decide +kernel
theorem dX2_isSame_174 : decode cX2_isSame 174 = .ok (.goto 127, 3) := by decide +kernel
theorem dX2_isSame_177 : decode cX2_isSame 177 = .ok (.aload_n 0, 1) := by decide +kernel
theorem dX2_isSame_178 : decode cX2_isSame 178 = .ok (.getfield 17, 3) := by decide +kernel
theorem dX2_isSame_181 : decode cX2_isSame 181 = .ok (.iload 5, 2) := by decide +kernel
theorem dX2_isSame_183 : decode cX2_isSame 183 = .ok (.iconst 1, 1) := by decide +kernel
theorem dX2_isSame_184 : decode cX2_isSame 184 = .ok (.isub, 1) := by decide +kernel
theorem dX2_isSame_185 : decode cX2_isSame 185 = .ok (.aaload, 1) := by decide +kernel
theorem dX2_isSame_186 : decode cX2_isSame 186 = .ok (.astore 7, 2) := by decide +kernel
theorem dX2_isSame_188 : decode cX2_isSame 188 = .ok (.iconst 5, 1) := by decide +kernel
theorem dX2_isSame_189 : decode cX2_isSame 189 = .ok (.newarray .int, 2) := by decide +kernel
theorem dX2_isSame_191 : decode cX2_isSame 191 = .ok (.dup, 1) := by decide +kernel
theorem dX2_isSame_192 : decode cX2_isSame 192 = .ok (.iconst 0, 1) := by decide +kernel
theorem dX2_isSame_193 : decode cX2_isSame 193 = .ok (.aload 7, 2) := by decide +kernel
theorem dX2_isSame_195 : decode cX2_isSame 195 = .ok (.iconst 0, 1) := by decide +kernel
theorem dX2_isSame_196 : decode cX2_isSame 196 = .ok (.iaload, 1) := by decide +kernel
theorem dX2_isSame_197 : decode cX2_isSame 197 = .ok (.iastore, 1) := by decide +kernel
theorem dX2_isSame_198 : decode cX2_isSame 198 = .ok (.dup, 1) := by decide +kernel
theorem dX2_isSame_199 : decode cX2_isSame 199 = .ok (.iconst 1, 1) := by decide +kernel
theorem dX2_isSame_200 : decode cX2_isSame 200 = .ok (.aload 7, 2) := by decide +kernel
theorem dX2_isSame_202 : decode cX2_isSame 202 = .ok (.iconst 1, 1) := by decide +kernel
theorem dX2_isSame_203 : decode cX2_isSame 203 = .ok (.iaload, 1) := by decide +kernel
theorem dX2_isSame_204 : decode cX2_isSame 204 = .ok (.iastore, 1) := by decide +kernel
theorem dX2_isSame_205 : decode cX2_isSame 205 = .ok (.dup, 1) := by decide +kernel
theorem dX2_isSame_206 : decode cX2_isSame 206 = .ok (.iconst 2, 1) := by decide +kernel
theorem dX2_isSame_207 : decode cX2_isSame 207 = .ok (.aload 7, 2) := by decide +kernel
theorem dX2_isSame_209 : decode cX2_isSame 209 = .ok (.iconst 2, 1) := by decide +kernel
theorem dX2_isSame_210 : decode cX2_isSame 210 = .ok (.iaload, 1) := by decide +kernel
theorem dX2_isSame_211 : decode cX2_isSame 211 = .ok (.iastore, 1) := by decide +kernel
theorem dX2_isSame_212 : decode cX2_isSame 212 = .ok (.dup, 1) := by decide +kernel
theorem dX2_isSame_213 : decode cX2_isSame 213 = .ok (.iconst 3, 1) := by decide +kernel
theorem dX2_isSame_214 : decode cX2_isSame 214 = .ok (.aload 7, 2) := by decide +kernel
theorem dX2_isSame_216 : decode cX2_isSame 216 = .ok (.iconst 3, 1) := by decide +kernel
theorem dX2_isSame_217 : decode cX2_isSame 217 = .ok (.iaload, 1) := by decide +kernel
theorem dX2_isSame_218 : decode cX2_isSame 218 = .ok (.iastore, 1) := by decide +kernel
theorem dX2_isSame_219 : decode cX2_isSame 219 = .ok (.dup, 1) := by decide +kernel
theorem dX2_isSame_220 : decode cX2_isSame 220 = .ok (.iconst 4, 1) := by decide +kernel
theorem dX2_isSame_221 : decode cX2_isSame 221 = .ok (.aload_n 0, 1) := by decide +kernel
theorem dX2_isSame_222 : decode cX2_isSame 222 = .ok (.getfield 56, 3) := by decide +kernel
theorem dX2_isSame_225 : decode cX2_isSame 225 = .ok (.ifCond .eq 7, 3) := by decide +kernel
theorem dX2_isSame_228 : decode cX2_isSame 228 = .ok (.iconst 1, 1) := by decide +kernel
theorem dX2_isSame_229 : decode cX2_isSame 229 = .ok (.goto 4, 3) := by decide +kernel
theorem dX2_isSame_232 : decode cX2_isSame 232 = .ok (.iconst 0, 1) := by decide +kernel
theorem dX2_isSame_233 : decode cX2_isSame 233 = .ok (.iastore, 1) := by decide +kernel
theorem dX2_isSame_234 : decode cX2_isSame 234 = .ok (.astore 8, 2) := by decide +kernel
theorem dX2_isSame_236 : decode cX2_isSame 236 = .ok (.iconst 0, 1) := by decide +kernel
theorem dX2_isSame_237 : decode cX2_isSame 237 = .ok (.istore 9, 2) := by decide +kernel
theorem dX2_isSame_239 : decode cX2_isSame 239 = .ok (.iload 9, 2) := by decide +kernel
theorem dX2_isSame_241 : decode cX2_isSame 241 = .ok (.iconst 5, 1) := by decide +kernel
theorem dX2_isSame_242 : decode cX2_isSame 242 = .ok (.if_icmp .ge 29, 3) := by decide +kernel
theorem dX2_isSame_245 : decode cX2_isSame 245 = .ok (.aload_n 1, 1) := by decide +kernel
theorem dX2_isSame_246 : decode cX2_isSame 246 = .ok (.iload 5, 2) := by decide +kernel
theorem dX2_isSame_248 : decode cX2_isSame 248 = .ok (.iconst 1, 1) := by decide +kernel
theorem dX2_isSame_249 : decode cX2_isSame 249 = .ok (.isub, 1) := by decide +kernel
theorem dX2_isSame_250 : decode cX2_isSame 250 = .ok (.iload 9, 2) := by decide +kernel
theorem dX2_isSame_252 : decode cX2_isSame 252 = .ok (.invokevirtual 78, 3) := by decide +kernel
theorem dX2_isSame_255 : decode cX2_isSame 255 = .ok (.aload 8, 2) := by decide +kernel
theorem dX2_isSame_257 : decode cX2_isSame 257 = .ok (.iload 9, 2) := by decide +kernel
theorem dX2_isSame_259 : decode cX2_isSame 259 = .ok (.iaload, 1) := by decide +kernel
theorem dX2_isSame_260 : decode cX2_isSame 260 = .ok (.if_icmp .eq 5, 3) := by decide +kernel
theorem dX2_isSame_263 : decode cX2_isSame 263 = .ok (.iconst 0, 1) := by decide +kernel
theorem dX2_isSame_264 : decode cX2_isSame 264 = .ok (.ireturn, 1) := by decide +kernel
theorem dX2_isSame_265 : decode cX2_isSame 265 = .ok (.iinc 9 1, 3) := by decide +kernel
theorem dX2_isSame_268 : decode cX2_isSame 268 = .ok (.goto (-29), 3) := by decide +kernel
theorem dX2_isSame_271 : decode cX2_isSame 271 = .ok (.iload_n 2, 1) := by decide +kernel
theorem dX2_isSame_272 : decode cX2_isSame 272 = .ok (.aload 7, 2) := by decide +kernel
theorem dX2_isSame_274 : decode cX2_isSame 274 = .ok (.iconst 3, 1) := by decide +kernel
theorem dX2_isSame_275 : decode cX2_isSame 275 = .ok (.iaload, 1) := by decide +kernel
theorem dX2_isSame_276 : decode cX2_isSame 276 = .ok (.iadd, 1) := by decide +kernel
theorem dX2_isSame_277 : decode cX2_isSame 277 = .ok (.istore_n 2, 1) := by decide +kernel
theorem dX2_isSame_278 : decode cX2_isSame 278 = .ok (.iload_n 3, 1) := by decide +kernel
theorem dX2_isSame_279 : decode cX2_isSame 279 = .ok (.ifCond .ge 22, 3) := by decide +kernel
theorem dX2_isSame_282 : decode cX2_isSame 282 = .ok (.aload 7, 2) := by decide +kernel
theorem dX2_isSame_284 : decode cX2_isSame 284 = .ok (.iconst 3, 1) := by decide +kernel
theorem dX2_isSame_285 : decode cX2_isSame 285 = .ok (.iaload, 1) := by decide +kernel
theorem dX2_isSame_286 : decode cX2_isSame 286 = .ok (.ifCond .ne 15, 3) := by decide +kernel
theorem dX2_isSame_289 : decode cX2_isSame 289 = .ok (.aload_n 0, 1) := by decide +kernel
theorem dX2_isSame_290 : decode cX2_isSame 290 = .ok (.getfield 56, 3) := by decide +kernel
theorem dX2_isSame_293 : decode cX2_isSame 293 = .ok (.ifCond .ne 8, 3) := by decide +kernel
theorem dX2_isSame_296 : decode cX2_isSame 296 = .ok (.iload 5, 2) := by decide +kernel
theorem dX2_isSame_298 : decode cX2_isSame 298 = .ok (.iconst 1, 1) := by decide +kernel
theorem dX2_isSame_299 : decode cX2_isSame 299 = .ok (.isub, 1) := by decide +kernel
theorem dX2_isSame_300 : decode cX2_isSame 300 = .ok (.istore_n 3, 1) := by decide +kernel
theorem dX2_isSame_301 : decode cX2_isSame 301 = .ok (.iinc 5 1, 3) := by decide +kernel
theorem dX2_isSame_304 : decode cX2_isSame 304 = .ok (.goto (-293), 3) := by decide +kernel
theorem dX2_isSame_307 : decode cX2_isSame 307 = .ok (.bipush 6, 2) := by decide +kernel
theorem dX2_isSame_309 : decode cX2_isSame 309 = .ok (.newarray .int, 2) := by decide +kernel
theorem dX2_isSame_311 : decode cX2_isSame 311 = .ok (.dup, 1) := by decide +kernel
theorem dX2_isSame_312 : decode cX2_isSame 312 = .ok (.iconst 0, 1) := by decide +kernel
theorem dX2_isSame_313 : decode cX2_isSame 313 = .ok (.aload_n 0, 1) := by decide +kernel
theorem dX2_isSame_314 : decode cX2_isSame 314 = .ok (.getfield 17, 3) := by decide +kernel
theorem dX2_isSame_317 : decode cX2_isSame 317 = .ok (.arraylength, 1) := by decide +kernel
theorem dX2_isSame_318 : decode cX2_isSame 318 = .ok (.iastore, 1) := by decide +kernel
theorem dX2_isSame_319 : decode cX2_isSame 319 = .ok (.dup, 1) := by decide +kernel
theorem dX2_isSame_320 : decode cX2_isSame 320 = .ok (.iconst 1, 1) := by decide +kernel
theorem dX2_isSame_321 : decode cX2_isSame 321 = .ok (.iload_n 2, 1) := by decide +kernel
theorem dX2_isSame_322 : decode cX2_isSame 322 = .ok (.iastore, 1) := by decide +kernel
theorem dX2_isSame_323 : decode cX2_isSame 323 = .ok (.dup, 1) := by decide +kernel
theorem dX2_isSame_324 : decode cX2_isSame 324 = .ok (.iconst 2, 1) := by decide +kernel
theorem dX2_isSame_325 : decode cX2_isSame 325 = .ok (.aload_n 0, 1) := by decide +kernel
theorem dX2_isSame_326 : decode cX2_isSame 326 = .ok (.getfield 50, 3) := by decide +kernel
theorem dX2_isSame_329 : decode cX2_isSame 329 = .ok (.iastore, 1) := by decide +kernel
theorem dX2_isSame_330 : decode cX2_isSame 330 = .ok (.dup, 1) := by decide +kernel
theorem dX2_isSame_331 : decode cX2_isSame 331 = .ok (.iconst 3, 1) := by decide +kernel
theorem dX2_isSame_332 : decode cX2_isSame 332 = .ok (.aload_n 0, 1) := by decide +kernel
theorem dX2_isSame_333 : decode cX2_isSame 333 = .ok (.getfield 36, 3) := by decide +kernel
theorem dX2_isSame_336 : decode cX2_isSame 336 = .ok (.iastore, 1) := by decide +kernel
theorem dX2_isSame_337 : decode cX2_isSame 337 = .ok (.dup, 1) := by decide +kernel
theorem dX2_isSame_338 : decode cX2_isSame 338 = .ok (.iconst 4, 1) := by decide +kernel
theorem dX2_isSame_339 : decode cX2_isSame 339 = .ok (.iload_n 3, 1) := by decide +kernel
theorem dX2_isSame_340 : decode cX2_isSame 340 = .ok (.iastore, 1) := by decide +kernel
theorem dX2_isSame_341 : decode cX2_isSame 341 = .ok (.dup, 1) := by decide +kernel
theorem dX2_isSame_342 : decode cX2_isSame 342 = .ok (.iconst 5, 1) := by decide +kernel
theorem dX2_isSame_343 : decode cX2_isSame 343 = .ok (.iload 4, 2) := by decide +kernel
theorem dX2_isSame_345 : decode cX2_isSame 345 = .ok (.iastore, 1) := by decide +kernel
theorem dX2_isSame_346 : decode cX2_isSame 346 = .ok (.astore 5, 2) := by decide +kernel
theorem dX2_isSame_348 : decode cX2_isSame 348 = .ok (.iconst 0, 1) := by decide +kernel
theorem dX2_isSame_349 : decode cX2_isSame 349 = .ok (.istore 6, 2) := by decide +kernel
theorem dX2_isSame_351 : decode cX2_isSame 351 = .ok (.iload 6, 2) := by decide +kernel
theorem dX2_isSame_353 : decode cX2_isSame 353 = .ok (.bipush 6, 2) := by decide +kernel
theorem dX2_isSame_355 : decode cX2_isSame 355 = .ok (.if_icmp .ge 25, 3) := by decide +kernel
theorem dX2_isSame_358 : decode cX2_isSame 358 = .ok (.aload_n 1, 1) := by decide +kernel
theorem dX2_isSame_359 : decode cX2_isSame 359 = .ok (.iload 6, 2) := by decide +kernel
theorem dX2_isSame_361 : decode cX2_isSame 361 = .ok (.invokevirtual 81, 3) := by decide +kernel
theorem dX2_isSame_364 : decode cX2_isSame 364 = .ok (.aload 5, 2) := by decide +kernel
theorem dX2_isSame_366 : decode cX2_isSame 366 = .ok (.iload 6, 2) := by decide +kernel
theorem dX2_isSame_368 : decode cX2_isSame 368 = .ok (.iaload, 1) := by decide +kernel
theorem dX2_isSame_369 : decode cX2_isSame 369 = .ok (.if_icmp .eq 5, 3) := by decide +kernel
theorem dX2_isSame_372 : decode cX2_isSame 372 = .ok (.iconst 0, 1) := by decide +kernel
theorem dX2_isSame_373 : decode cX2_isSame 373 = .ok (.ireturn, 1) := by decide +kernel
theorem dX2_isSame_374 : decode cX2_isSame 374 = .ok (.iinc 6 1, 3) := by decide +kernel
theorem dX2_isSame_377 : decode cX2_isSame 377 = .ok (.goto (-26), 3) := by decide +kernel
theorem dX2_isSame_380 : decode cX2_isSame 380 = .ok (.aload_n 1, 1) := by decide +kernel
theorem dX2_isSame_381 : decode cX2_isSame 381 = .ok (.invokevirtual 84, 3) := by decide +kernel
theorem dX2_isSame_384 : decode cX2_isSame 384 = .ok (.aload_n 0, 1) := by decide +kernel
theorem dX2_isSame_385 : decode cX2_isSame 385 = .ok (.invokevirtual 28, 3) := by decide +kernel
theorem dX2_isSame_388 : decode cX2_isSame 388 = .ok (.ifCond .ne 7, 3) := by decide +kernel
theorem dX2_isSame_391 : decode cX2_isSame 391 = .ok (.dconst 0, 1) := by decide +kernel
theorem dX2_isSame_392 : decode cX2_isSame 392 = .ok (.goto 14, 3) := by decide +kernel
theorem dX2_isSame_395 : decode cX2_isSame 395 = .ok (.aload_n 0, 1) := by decide +kernel
theorem dX2_isSame_396 : decode cX2_isSame 396 = .ok (.invokevirtual 67, 3) := by decide +kernel
theorem dX2_isSame_399 : decode cX2_isSame 399 = .ok (.i2d, 1) := by decide +kernel
theorem dX2_isSame_400 : decode cX2_isSame 400 = .ok (.aload_n 0, 1) := by decide +kernel
theorem dX2_isSame_401 : decode cX2_isSame 401 = .ok (.invokevirtual 28, 3) := by decide +kernel
theorem dX2_isSame_404 : decode cX2_isSame 404 = .ok (.i2d, 1) := by decide +kernel
theorem dX2_isSame_405 : decode cX2_isSame 405 = .ok (.ddiv, 1) := by decide +kernel
theorem dX2_isSame_406 : decode cX2_isSame 406 = .ok (.dcmp .l, 1) := by decide +kernel
theorem dX2_isSame_407 : decode cX2_isSame 407 = .ok (.ifCond .ne 7, 3) := by decide +kernel
theorem dX2_isSame_410 : decode cX2_isSame 410 = .ok (.iconst 1, 1) := by decide +kernel
theorem dX2_isSame_411 : decode cX2_isSame 411 = .ok (.goto 4, 3) := by decide +kernel
theorem dX2_isSame_414 : decode cX2_isSame 414 = .ok (.iconst 0, 1) := by decide +kernel
theorem dX2_isSame_415 : decode cX2_isSame 415 = .ok (.ireturn, 1) := by decide +kernel
theorem dJ9_max_7cf53_0 : decode cJ9_max_7cf53 0 = .ok (.iload_n 0, 1) := by decide +kernel
theorem dJ9_max_7cf53_1 : decode cJ9_max_7cf53 1 = .ok (.iload_n 1, 1) := by decide +kernel
theorem dJ9_max_7cf53_2 : decode cJ9_max_7cf53 2 = .ok (.if_icmp .lt 7, 3) := by decide +kernel
theorem dJ9_max_7cf53_5 : decode cJ9_max_7cf53 5 = .ok (.iload_n 0, 1) := by decide +kernel
theorem dJ9_max_7cf53_6 : decode cJ9_max_7cf53 6 = .ok (.goto 4, 3) := by decide +kernel
theorem dJ9_max_7cf53_9 : decode cJ9_max_7cf53 9 = .ok (.iload_n 1, 1) := by decide +kernel
theorem dJ9_max_7cf53_10 : decode cJ9_max_7cf53 10 = .ok (.ireturn, 1) := by decide +kernel
theorem dJ9_min_7cf53_0 : decode cJ9_min_7cf53 0 = .ok (.iload_n 0, 1) := by decide +kernel
theorem dJ9_min_7cf53_1 : decode cJ9_min_7cf53 1 = .ok (.iload_n 1, 1) := by decide +kernel
theorem dJ9_min_7cf53_2 : decode cJ9_min_7cf53 2 = .ok (.if_icmp .gt 7, 3) := by decide +kernel
theorem dJ9_min_7cf53_5 : decode cJ9_min_7cf53 5 = .ok (.iload_n 0, 1) := by decide +kernel
theorem dJ9_min_7cf53_6 : decode cJ9_min_7cf53 6 = .ok (.goto 4, 3) := by decide +kernel
theorem dJ9_min_7cf53_9 : decode cJ9_min_7cf53 9 = .ok (.iload_n 1, 1) := by decide +kernel
theorem dJ9_min_7cf53_10 : decode cJ9_min_7cf53 10 = .ok (.ireturn, 1) := by decide +kernel
