theorem dX1_init_0 : decode cX1_init 0 = .ok (.aload_n 0, 1) := by decide +kernel
theorem dX1_init_1 : decode cX1_init 1 = .ok (.invokespecial 3, 3) := by decide +kernel
theorem dX1_init_4 : decode cX1_init 4 = .ok (.aload_n 0, 1) := by decide +kernel
theorem dX1_init_5 : decode cX1_init 5 = .ok (.bipush 8, 2) := by decide +kernel
theorem dX1_init_7 : decode cX1_init 7 = .ok (.newarray .int, 2) := by decide +kernel
theorem dX1_init_9 : decode cX1_init 9 = .ok (.putfield 9, 3) := by decide +kernel
theorem dX1_init_12 : decode cX1_init 12 = .ok (.aload_n 0, 1) := by decide +kernel
theorem dX1_init_13 : decode cX1_init 13 = .ok (.bipush 8, 2) := by decide +kernel
theorem dX1_init_15 : decode cX1_init 15 = .ok (.newarray .int, 2) := by decide +kernel
theorem dX1_init_17 : decode cX1_init 17 = .ok (.putfield 15, 3) := by decide +kernel
theorem dX1_init_20 : decode cX1_init 20 = .ok (.aload_n 0, 1) := by decide +kernel
theorem dX1_init_21 : decode cX1_init 21 = .ok (.bipush 8, 2) := by decide +kernel
theorem dX1_init_23 : decode cX1_init 23 = .ok (.newarray .int, 2) := by decide +kernel
theorem dX1_init_25 : decode cX1_init 25 = .ok (.putfield 18, 3) := by decide +kernel
theorem dX1_init_28 : decode cX1_init 28 = .ok (.return_, 1) := by decide +kernel
set_option maxRecDepth 20000 in
theorem ggX1_divideBySorting_X1_giveQuotas : GoodIn wsX1_divideBySorting wsX1_giveQuotas := goodIn_ca (goodIn_r _ [8, 9, 1, 2, 10, 11, 12, 13, 14, 15, 16, 21, 22, 23, 24, 25, 26, 27, 28, 29, 30, 31] (by decide +kernel) (by decide +kernel)) (goodIn_sub (fun _ h => List.mem_cons_of_mem _ (List.mem_append_right _ h)) (by decide +kernel))
set_option maxRecDepth 20000 in
theorem gX1_divideBySorting_X1_giveQuotas : GoodIn wsX1_divideBySorting (wsV RX1 21 RX1 yX1_giveQuotas wsX1_giveQuotas) := goodIn_app (goodIn_of _ (by decide +kernel)) ggX1_divideBySorting_X1_giveQuotas
set_option maxRecDepth 20000 in
theorem ggX1_divideBySorting_X1_sortByRemainder : GoodIn wsX1_divideBySorting wsX1_sortByRemainder := goodIn_ca (goodIn_r _ [20, 10, 3, 29, 30, 31] (by decide +kernel) (by decide +kernel)) (goodIn_sub (fun _ h => List.mem_cons_of_mem _ (List.mem_append_right _ h)) (by decide +kernel))
set_option maxRecDepth 20000 in
theorem gX1_divideBySorting_X1_sortByRemainder : GoodIn wsX1_divideBySorting (wsV RX1 31 RX1 yX1_sortByRemainder wsX1_sortByRemainder) := goodIn_app (goodIn_of _ (by decide +kernel)) ggX1_divideBySorting_X1_sortByRemainder
theorem dX1_divideBySorting_0 : decode cX1_divideBySorting 0 = .ok (.aload_n 0, 1) := by decide +kernel
theorem dX1_divideBySorting_1 : decode cX1_divideBySorting 1 = .ok (.aload_n 1, 1) := by decide +kernel
theorem dX1_divideBySorting_2 : decode cX1_divideBySorting 2 = .ok (.iload_n 2, 1) := by decide +kernel
theorem dX1_divideBySorting_3 : decode cX1_divideBySorting 3 = .ok (.invokevirtual 21, 3) := by decide +kernel
theorem dX1_divideBySorting_6 : decode cX1_divideBySorting 6 = .ok (.istore_n 3, 1) := by decide +kernel
theorem dX1_divideBySorting_7 : decode cX1_divideBySorting 7 = .ok (.aload_n 0, 1) := by decide +kernel
theorem dX1_divideBySorting_8 : decode cX1_divideBySorting 8 = .ok (.aload_n 1, 1) := by decide +kernel
theorem dX1_divideBySorting_9 : decode cX1_divideBySorting 9 = .ok (.getfield 25, 3) := by decide +kernel
theorem dX1_divideBySorting_12 : decode cX1_divideBySorting 12 = .ok (.invokevirtual 31, 3) := by decide +kernel
theorem dX1_divideBySorting_15 : decode cX1_divideBySorting 15 = .ok (.iconst 0, 1) := by decide +kernel
theorem dX1_divideBySorting_16 : decode cX1_divideBySorting 16 = .ok (.istore 4, 2) := by decide +kernel
theorem dX1_divideBySorting_18 : decode cX1_divideBySorting 18 = .ok (.iload 4, 2) := by decide +kernel
theorem dX1_divideBySorting_20 : decode cX1_divideBySorting 20 = .ok (.iload_n 3, 1) := by decide +kernel
theorem dX1_divideBySorting_21 : decode cX1_divideBySorting 21 = .ok (.if_icmp .ge 34, 3) := by decide +kernel
theorem dX1_divideBySorting_24 : decode cX1_divideBySorting 24 = .ok (.iload 4, 2) := by decide +kernel
theorem dX1_divideBySorting_26 : decode cX1_divideBySorting 26 = .ok (.aload_n 1, 1) := by decide +kernel
theorem dX1_divideBySorting_27 : decode cX1_divideBySorting 27 = .ok (.getfield 25, 3) := by decide +kernel
theorem dX1_divideBySorting_30 : decode cX1_divideBySorting 30 = .ok (.if_icmp .ge 25, 3) := by decide +kernel
theorem dX1_divideBySorting_33 : decode cX1_divideBySorting 33 = .ok (.aload_n 0, 1) := by decide +kernel
theorem dX1_divideBySorting_34 : decode cX1_divideBySorting 34 = .ok (.getfield 9, 3) := by decide +kernel
theorem dX1_divideBySorting_37 : decode cX1_divideBySorting 37 = .ok (.aload_n 0, 1) := by decide +kernel
theorem dX1_divideBySorting_38 : decode cX1_divideBySorting 38 = .ok (.getfield 18, 3) := by decide +kernel
theorem dX1_divideBySorting_41 : decode cX1_divideBySorting 41 = .ok (.iload 4, 2) := by decide +kernel
theorem dX1_divideBySorting_43 : decode cX1_divideBySorting 43 = .ok (.iaload, 1) := by decide +kernel
theorem dX1_divideBySorting_44 : decode cX1_divideBySorting 44 = .ok (.dup2, 1) := by decide +kernel
theorem dX1_divideBySorting_45 : decode cX1_divideBySorting 45 = .ok (.iaload, 1) := by decide +kernel
theorem dX1_divideBySorting_46 : decode cX1_divideBySorting 46 = .ok (.iconst 1, 1) := by decide +kernel
theorem dX1_divideBySorting_47 : decode cX1_divideBySorting 47 = .ok (.iadd, 1) := by decide +kernel
theorem dX1_divideBySorting_48 : decode cX1_divideBySorting 48 = .ok (.iastore, 1) := by decide +kernel
theorem dX1_divideBySorting_49 : decode cX1_divideBySorting 49 = .ok (.iinc 4 1, 3) := by decide +kernel
theorem dX1_divideBySorting_52 : decode cX1_divideBySorting 52 = .ok (.goto (-34), 3) := by decide +kernel
theorem dX1_divideBySorting_55 : decode cX1_divideBySorting 55 = .ok (.return_, 1) := by decide +kernel
set_option maxRecDepth 20000 in
theorem ggX1_divideInRounds_X1_giveQuotas : GoodIn wsX1_divideInRounds wsX1_giveQuotas := goodIn_ca (goodIn_r _ [8, 9, 1, 2, 3, 10, 11, 12, 13, 14, 15, 20, 21, 22, 23, 24, 25, 26, 27, 28, 29, 30] (by decide +kernel) (by decide +kernel)) (goodIn_sub (fun _ h => List.mem_cons_of_mem _ (List.mem_append_right _ h)) (by decide +kernel))
set_option maxRecDepth 20000 in
theorem gX1_divideInRounds_X1_giveQuotas : GoodIn wsX1_divideInRounds (wsV RX1 21 RX1 yX1_giveQuotas wsX1_giveQuotas) := goodIn_app (goodIn_of _ (by decide +kernel)) ggX1_divideInRounds_X1_giveQuotas
set_option maxRecDepth 20000 in
theorem ggX1_divideInRounds_X1_greatestRemainder : GoodIn wsX1_divideInRounds wsX1_greatestRemainder := goodIn_ca (goodIn_r _ [19, 3, 28, 29, 30] (by decide +kernel) (by decide +kernel)) (goodIn_sub (fun _ h => List.mem_cons_of_mem _ (List.mem_append_right _ h)) (by decide +kernel))
set_option maxRecDepth 20000 in
theorem gX1_divideInRounds_X1_greatestRemainder : GoodIn wsX1_divideInRounds (wsV RX1 35 RX1 yX1_greatestRemainder wsX1_greatestRemainder) := goodIn_app (goodIn_of _ (by decide +kernel)) ggX1_divideInRounds_X1_greatestRemainder
theorem dX1_divideInRounds_0 : decode cX1_divideInRounds 0 = .ok (.aload_n 0, 1) := by decide +kernel
theorem dX1_divideInRounds_1 : decode cX1_divideInRounds 1 = .ok (.aload_n 1, 1) := by decide +kernel
theorem dX1_divideInRounds_2 : decode cX1_divideInRounds 2 = .ok (.iload_n 2, 1) := by decide +kernel
theorem dX1_divideInRounds_3 : decode cX1_divideInRounds 3 = .ok (.invokevirtual 21, 3) := by decide +kernel
theorem dX1_divideInRounds_6 : decode cX1_divideInRounds 6 = .ok (.istore_n 3, 1) := by decide +kernel
theorem dX1_divideInRounds_7 : decode cX1_divideInRounds 7 = .ok (.iconst 0, 1) := by decide +kernel
theorem dX1_divideInRounds_8 : decode cX1_divideInRounds 8 = .ok (.istore 4, 2) := by decide +kernel
theorem dX1_divideInRounds_10 : decode cX1_divideInRounds 10 = .ok (.iload 4, 2) := by decide +kernel
theorem dX1_divideInRounds_12 : decode cX1_divideInRounds 12 = .ok (.iload_n 3, 1) := by decide +kernel
theorem dX1_divideInRounds_13 : decode cX1_divideInRounds 13 = .ok (.if_icmp .ge 47, 3) := by decide +kernel
theorem dX1_divideInRounds_16 : decode cX1_divideInRounds 16 = .ok (.iload 4, 2) := by decide +kernel
theorem dX1_divideInRounds_18 : decode cX1_divideInRounds 18 = .ok (.aload_n 1, 1) := by decide +kernel
theorem dX1_divideInRounds_19 : decode cX1_divideInRounds 19 = .ok (.getfield 25, 3) := by decide +kernel
theorem dX1_divideInRounds_22 : decode cX1_divideInRounds 22 = .ok (.if_icmp .ge 38, 3) := by decide +kernel
theorem dX1_divideInRounds_25 : decode cX1_divideInRounds 25 = .ok (.aload_n 0, 1) := by decide +kernel
theorem dX1_divideInRounds_26 : decode cX1_divideInRounds 26 = .ok (.aload_n 1, 1) := by decide +kernel
theorem dX1_divideInRounds_27 : decode cX1_divideInRounds 27 = .ok (.getfield 25, 3) := by decide +kernel
theorem dX1_divideInRounds_30 : decode cX1_divideInRounds 30 = .ok (.invokevirtual 35, 3) := by decide +kernel
theorem dX1_divideInRounds_33 : decode cX1_divideInRounds 33 = .ok (.istore 5, 2) := by decide +kernel
theorem dX1_divideInRounds_35 : decode cX1_divideInRounds 35 = .ok (.aload_n 0, 1) := by decide +kernel
theorem dX1_divideInRounds_36 : decode cX1_divideInRounds 36 = .ok (.getfield 9, 3) := by decide +kernel
theorem dX1_divideInRounds_39 : decode cX1_divideInRounds 39 = .ok (.iload 5, 2) := by decide +kernel
theorem dX1_divideInRounds_41 : decode cX1_divideInRounds 41 = .ok (.dup2, 1) := by decide +kernel
theorem dX1_divideInRounds_42 : decode cX1_divideInRounds 42 = .ok (.iaload, 1) := by decide +kernel
theorem dX1_divideInRounds_43 : decode cX1_divideInRounds 43 = .ok (.iconst 1, 1) := by decide +kernel
theorem dX1_divideInRounds_44 : decode cX1_divideInRounds 44 = .ok (.iadd, 1) := by decide +kernel
theorem dX1_divideInRounds_45 : decode cX1_divideInRounds 45 = .ok (.iastore, 1) := by decide +kernel
theorem dX1_divideInRounds_46 : decode cX1_divideInRounds 46 = .ok (.aload_n 0, 1) := by decide +kernel
theorem dX1_divideInRounds_47 : decode cX1_divideInRounds 47 = .ok (.getfield 15, 3) := by decide +kernel
theorem dX1_divideInRounds_50 : decode cX1_divideInRounds 50 = .ok (.iload 5, 2) := by decide +kernel
theorem dX1_divideInRounds_52 : decode cX1_divideInRounds 52 = .ok (.iconst (-1), 1) := by decide +kernel
theorem dX1_divideInRounds_53 : decode cX1_divideInRounds 53 = .ok (.iastore, 1) := by decide +kernel
theorem dX1_divideInRounds_54 : decode cX1_divideInRounds 54 = .ok (.iinc 4 1, 3) := by decide +kernel
theorem dX1_divideInRounds_57 : decode cX1_divideInRounds 57 = .ok (.goto (-47), 3) := by decide +kernel
theorem dX1_divideInRounds_60 : decode cX1_divideInRounds 60 = .ok (.return_, 1) := by decide +kernel
set_option maxRecDepth 20000 in
theorem ggX1_giveQuotas_X5_sumOf : GoodIn wsX1_giveQuotas wsX5_sumOf := goodIn_ca (goodIn_r _ [9, 10, 11, 12, 13, 14, 15, 16, 17, 18] (by decide +kernel) (by decide +kernel)) (goodIn_sub (fun _ h => List.mem_cons_of_mem _ (List.mem_append_right _ h)) (by decide +kernel))
set_option maxRecDepth 20000 in
theorem gX1_giveQuotas_X5_sumOf : GoodIn wsX1_giveQuotas (wsV RX1 42 RX5 yX5_sumOf wsX5_sumOf) := goodIn_app (goodIn_of _ (by decide +kernel)) ggX1_giveQuotas_X5_sumOf
theorem dX1_giveQuotas_0 : decode cX1_giveQuotas 0 = .ok (.aload_n 1, 1) := by decide +kernel
theorem dX1_giveQuotas_1 : decode cX1_giveQuotas 1 = .ok (.aload_n 1, 1) := by decide +kernel
theorem dX1_giveQuotas_2 : decode cX1_giveQuotas 2 = .ok (.getfield 39, 3) := by decide +kernel
theorem dX1_giveQuotas_5 : decode cX1_giveQuotas 5 = .ok (.invokevirtual 42, 3) := by decide +kernel
theorem dX1_giveQuotas_8 : decode cX1_giveQuotas 8 = .ok (.istore_n 3, 1) := by decide +kernel
theorem dX1_giveQuotas_9 : decode cX1_giveQuotas 9 = .ok (.iload_n 3, 1) := by decide +kernel
theorem dX1_giveQuotas_10 : decode cX1_giveQuotas 10 = .ok (.iconst 1, 1) := by decide +kernel
theorem dX1_giveQuotas_11 : decode cX1_giveQuotas 11 = .ok (.if_icmp .ge 5, 3) := by decide +kernel
theorem dX1_giveQuotas_14 : decode cX1_giveQuotas 14 = .ok (.iconst 0, 1) := by decide +kernel
theorem dX1_giveQuotas_15 : decode cX1_giveQuotas 15 = .ok (.ireturn, 1) := by decide +kernel
theorem dX1_giveQuotas_16 : decode cX1_giveQuotas 16 = .ok (.iload_n 2, 1) := by decide +kernel
theorem dX1_giveQuotas_17 : decode cX1_giveQuotas 17 = .ok (.istore 4, 2) := by decide +kernel
theorem dX1_giveQuotas_19 : decode cX1_giveQuotas 19 = .ok (.iconst 0, 1) := by decide +kernel
theorem dX1_giveQuotas_20 : decode cX1_giveQuotas 20 = .ok (.istore 5, 2) := by decide +kernel
theorem dX1_giveQuotas_22 : decode cX1_giveQuotas 22 = .ok (.iload 5, 2) := by decide +kernel
theorem dX1_giveQuotas_24 : decode cX1_giveQuotas 24 = .ok (.aload_n 1, 1) := by decide +kernel
theorem dX1_giveQuotas_25 : decode cX1_giveQuotas 25 = .ok (.getfield 25, 3) := by decide +kernel
theorem dX1_giveQuotas_28 : decode cX1_giveQuotas 28 = .ok (.if_icmp .ge 54, 3) := by decide +kernel
theorem dX1_giveQuotas_31 : decode cX1_giveQuotas 31 = .ok (.iload_n 2, 1) := by decide +kernel
theorem dX1_giveQuotas_32 : decode cX1_giveQuotas 32 = .ok (.aload_n 1, 1) := by decide +kernel
theorem dX1_giveQuotas_33 : decode cX1_giveQuotas 33 = .ok (.getfield 39, 3) := by decide +kernel
theorem dX1_giveQuotas_36 : decode cX1_giveQuotas 36 = .ok (.iload 5, 2) := by decide +kernel
theorem dX1_giveQuotas_38 : decode cX1_giveQuotas 38 = .ok (.iaload, 1) := by decide +kernel
theorem dX1_giveQuotas_39 : decode cX1_giveQuotas 39 = .ok (.imul, 1) := by decide +kernel
theorem dX1_giveQuotas_40 : decode cX1_giveQuotas 40 = .ok (.istore 6, 2) := by decide +kernel
theorem dX1_giveQuotas_42 : decode cX1_giveQuotas 42 = .ok (.aload_n 0, 1) := by decide +kernel
theorem dX1_giveQuotas_43 : decode cX1_giveQuotas 43 = .ok (.getfield 9, 3) := by decide +kernel
theorem dX1_giveQuotas_46 : decode cX1_giveQuotas 46 = .ok (.iload 5, 2) := by decide +kernel
theorem dX1_giveQuotas_48 : decode cX1_giveQuotas 48 = .ok (.iload 6, 2) := by decide +kernel
theorem dX1_giveQuotas_50 : decode cX1_giveQuotas 50 = .ok (.iload_n 3, 1) := by decide +kernel
theorem dX1_giveQuotas_51 : decode cX1_giveQuotas 51 = .ok (.idiv, 1) := by decide +kernel
theorem dX1_giveQuotas_52 : decode cX1_giveQuotas 52 = .ok (.iastore, 1) := by decide +kernel
theorem dX1_giveQuotas_53 : decode cX1_giveQuotas 53 = .ok (.aload_n 0, 1) := by decide +kernel
theorem dX1_giveQuotas_54 : decode cX1_giveQuotas 54 = .ok (.getfield 15, 3) := by decide +kernel
theorem dX1_giveQuotas_57 : decode cX1_giveQuotas 57 = .ok (.iload 5, 2) := by decide +kernel
theorem dX1_giveQuotas_59 : decode cX1_giveQuotas 59 = .ok (.iload 6, 2) := by decide +kernel
theorem dX1_giveQuotas_61 : decode cX1_giveQuotas 61 = .ok (.iload_n 3, 1) := by decide +kernel
theorem dX1_giveQuotas_62 : decode cX1_giveQuotas 62 = .ok (.irem, 1) := by decide +kernel
theorem dX1_giveQuotas_63 : decode cX1_giveQuotas 63 = .ok (.iastore, 1) := by decide +kernel
theorem dX1_giveQuotas_64 : decode cX1_giveQuotas 64 = .ok (.iload 4, 2) := by decide +kernel
theorem dX1_giveQuotas_66 : decode cX1_giveQuotas 66 = .ok (.aload_n 0, 1) := by decide +kernel
theorem dX1_giveQuotas_67 : decode cX1_giveQuotas 67 = .ok (.getfield 9, 3) := by decide +kernel
theorem dX1_giveQuotas_70 : decode cX1_giveQuotas 70 = .ok (.iload 5, 2) := by decide +kernel
theorem dX1_giveQuotas_72 : decode cX1_giveQuotas 72 = .ok (.iaload, 1) := by decide +kernel
theorem dX1_giveQuotas_73 : decode cX1_giveQuotas 73 = .ok (.isub, 1) := by decide +kernel
theorem dX1_giveQuotas_74 : decode cX1_giveQuotas 74 = .ok (.istore 4, 2) := by decide +kernel
theorem dX1_giveQuotas_76 : decode cX1_giveQuotas 76 = .ok (.iinc 5 1, 3) := by decide +kernel
theorem dX1_giveQuotas_79 : decode cX1_giveQuotas 79 = .ok (.goto (-57), 3) := by decide +kernel
theorem dX1_giveQuotas_82 : decode cX1_giveQuotas 82 = .ok (.iload 4, 2) := by decide +kernel
theorem dX1_giveQuotas_84 : decode cX1_giveQuotas 84 = .ok (.ireturn, 1) := by decide +kernel
theorem dX1_sortByRemainder_0 : decode cX1_sortByRemainder 0 = .ok (.iconst 0, 1) := by decide +kernel
theorem dX1_sortByRemainder_1 : decode cX1_sortByRemainder 1 = .ok (.istore_n 2, 1) := by decide +kernel
theorem dX1_sortByRemainder_2 : decode cX1_sortByRemainder 2 = .ok (.iload_n 2, 1) := by decide +kernel
theorem dX1_sortByRemainder_3 : decode cX1_sortByRemainder 3 = .ok (.iload_n 1, 1) := by decide +kernel
theorem dX1_sortByRemainder_4 : decode cX1_sortByRemainder 4 = .ok (.if_icmp .ge 64, 3) := by decide +kernel
theorem dX1_sortByRemainder_7 : decode cX1_sortByRemainder 7 = .ok (.iload_n 2, 1) := by decide +kernel
theorem dX1_sortByRemainder_8 : decode cX1_sortByRemainder 8 = .ok (.istore_n 3, 1) := by decide +kernel
theorem dX1_sortByRemainder_9 : decode cX1_sortByRemainder 9 = .ok (.iload_n 3, 1) := by decide +kernel
theorem dX1_sortByRemainder_10 : decode cX1_sortByRemainder 10 = .ok (.ifCond .le 45, 3) := by decide +kernel
theorem dX1_sortByRemainder_13 : decode cX1_sortByRemainder 13 = .ok (.aload_n 0, 1) := by decide +kernel
theorem dX1_sortByRemainder_14 : decode cX1_sortByRemainder 14 = .ok (.getfield 15, 3) := by decide +kernel
theorem dX1_sortByRemainder_17 : decode cX1_sortByRemainder 17 = .ok (.aload_n 0, 1) := by decide +kernel
theorem dX1_sortByRemainder_18 : decode cX1_sortByRemainder 18 = .ok (.getfield 18, 3) := by decide +kernel
theorem dX1_sortByRemainder_21 : decode cX1_sortByRemainder 21 = .ok (.iload_n 3, 1) := by decide +kernel
theorem dX1_sortByRemainder_22 : decode cX1_sortByRemainder 22 = .ok (.iconst 1, 1) := by decide +kernel
theorem dX1_sortByRemainder_23 : decode cX1_sortByRemainder 23 = .ok (.isub, 1) := by decide +kernel
theorem dX1_sortByRemainder_24 : decode cX1_sortByRemainder 24 = .ok (.iaload, 1) := by decide +kernel
theorem dX1_sortByRemainder_25 : decode cX1_sortByRemainder 25 = .ok (.iaload, 1) := by decide +kernel
theorem dX1_sortByRemainder_26 : decode cX1_sortByRemainder 26 = .ok (.aload_n 0, 1) := by decide +kernel
theorem dX1_sortByRemainder_27 : decode cX1_sortByRemainder 27 = .ok (.getfield 15, 3) := by decide +kernel
theorem dX1_sortByRemainder_30 : decode cX1_sortByRemainder 30 = .ok (.iload_n 2, 1) := by decide +kernel
theorem dX1_sortByRemainder_31 : decode cX1_sortByRemainder 31 = .ok (.iaload, 1) := by decide +kernel
theorem dX1_sortByRemainder_32 : decode cX1_sortByRemainder 32 = .ok (.if_icmp .ge 23, 3) := by decide +kernel
theorem dX1_sortByRemainder_35 : decode cX1_sortByRemainder 35 = .ok (.aload_n 0, 1) := by decide +kernel
theorem dX1_sortByRemainder_36 : decode cX1_sortByRemainder 36 = .ok (.getfield 18, 3) := by decide +kernel
theorem dX1_sortByRemainder_39 : decode cX1_sortByRemainder 39 = .ok (.iload_n 3, 1) := by decide +kernel
theorem dX1_sortByRemainder_40 : decode cX1_sortByRemainder 40 = .ok (.aload_n 0, 1) := by decide +kernel
theorem dX1_sortByRemainder_41 : decode cX1_sortByRemainder 41 = .ok (.getfield 18, 3) := by decide +kernel
theorem dX1_sortByRemainder_44 : decode cX1_sortByRemainder 44 = .ok (.iload_n 3, 1) := by decide +kernel
theorem dX1_sortByRemainder_45 : decode cX1_sortByRemainder 45 = .ok (.iconst 1, 1) := by decide +kernel
theorem dX1_sortByRemainder_46 : decode cX1_sortByRemainder 46 = .ok (.isub, 1) := by decide +kernel
theorem dX1_sortByRemainder_47 : decode cX1_sortByRemainder 47 = .ok (.iaload, 1) := by decide +kernel
theorem dX1_sortByRemainder_48 : decode cX1_sortByRemainder 48 = .ok (.iastore, 1) := by decide +kernel
theorem dX1_sortByRemainder_49 : decode cX1_sortByRemainder 49 = .ok (.iinc 3 (-1), 3) := by decide +kernel
theorem dX1_sortByRemainder_52 : decode cX1_sortByRemainder 52 = .ok (.goto (-43), 3) := by decide +kernel
theorem dX1_sortByRemainder_55 : decode cX1_sortByRemainder 55 = .ok (.aload_n 0, 1) := by decide +kernel
theorem dX1_sortByRemainder_56 : decode cX1_sortByRemainder 56 = .ok (.getfield 18, 3) := by decide +kernel
theorem dX1_sortByRemainder_59 : decode cX1_sortByRemainder 59 = .ok (.iload_n 3, 1) := by decide +kernel
theorem dX1_sortByRemainder_60 : decode cX1_sortByRemainder 60 = .ok (.iload_n 2, 1) := by decide +kernel
theorem dX1_sortByRemainder_61 : decode cX1_sortByRemainder 61 = .ok (.iastore, 1) := by decide +kernel
theorem dX1_sortByRemainder_62 : decode cX1_sortByRemainder 62 = .ok (.iinc 2 1, 3) := by decide +kernel
theorem dX1_sortByRemainder_65 : decode cX1_sortByRemainder 65 = .ok (.goto (-63), 3) := by decide +kernel
theorem dX1_sortByRemainder_68 : decode cX1_sortByRemainder 68 = .ok (.return_, 1) := by decide +kernel
theorem dX1_greatestRemainder_0 : decode cX1_greatestRemainder 0 = .ok (.iconst 0, 1) := by decide +kernel
theorem dX1_greatestRemainder_1 : decode cX1_greatestRemainder 1 = .ok (.istore_n 2, 1) := by decide +kernel
theorem dX1_greatestRemainder_2 : decode cX1_greatestRemainder 2 = .ok (.iconst 1, 1) := by decide +kernel
theorem dX1_greatestRemainder_3 : decode cX1_greatestRemainder 3 = .ok (.istore_n 3, 1) := by decide +kernel
theorem dX1_greatestRemainder_4 : decode cX1_greatestRemainder 4 = .ok (.iload_n 3, 1) := by decide +kernel
theorem dX1_greatestRemainder_5 : decode cX1_greatestRemainder 5 = .ok (.iload_n 1, 1) := by decide +kernel
theorem dX1_greatestRemainder_6 : decode cX1_greatestRemainder 6 = .ok (.if_icmp .ge 26, 3) := by decide +kernel
theorem dX1_greatestRemainder_9 : decode cX1_greatestRemainder 9 = .ok (.aload_n 0, 1) := by decide +kernel
theorem dX1_greatestRemainder_10 : decode cX1_greatestRemainder 10 = .ok (.getfield 15, 3) := by decide +kernel
theorem dX1_greatestRemainder_13 : decode cX1_greatestRemainder 13 = .ok (.iload_n 3, 1) := by decide +kernel
theorem dX1_greatestRemainder_14 : decode cX1_greatestRemainder 14 = .ok (.iaload, 1) := by decide +kernel
theorem dX1_greatestRemainder_15 : decode cX1_greatestRemainder 15 = .ok (.aload_n 0, 1) := by decide +kernel
theorem dX1_greatestRemainder_16 : decode cX1_greatestRemainder 16 = .ok (.getfield 15, 3) := by decide +kernel
theorem dX1_greatestRemainder_19 : decode cX1_greatestRemainder 19 = .ok (.iload_n 2, 1) := by decide +kernel
theorem dX1_greatestRemainder_20 : decode cX1_greatestRemainder 20 = .ok (.iaload, 1) := by decide +kernel
theorem dX1_greatestRemainder_21 : decode cX1_greatestRemainder 21 = .ok (.if_icmp .le 5, 3) := by decide +kernel
theorem dX1_greatestRemainder_24 : decode cX1_greatestRemainder 24 = .ok (.iload_n 3, 1) := by decide +kernel
theorem dX1_greatestRemainder_25 : decode cX1_greatestRemainder 25 = .ok (.istore_n 2, 1) := by decide +kernel
theorem dX1_greatestRemainder_26 : decode cX1_greatestRemainder 26 = .ok (.iinc 3 1, 3) := by decide +kernel
theorem dX1_greatestRemainder_29 : decode cX1_greatestRemainder 29 = .ok (.goto (-25), 3) := by decide +kernel
theorem dX1_greatestRemainder_32 : decode cX1_greatestRemainder 32 = .ok (.iload_n 2, 1) := by decide +kernel
theorem dX1_greatestRemainder_33 : decode cX1_greatestRemainder 33 = .ok (.ireturn, 1) := by decide +kernel
theorem dX2_init_0 : decode cX2_init 0 = .ok (.aload_n 0, 1) := by decide +kernel
theorem dX2_init_1 : decode cX2_init 1 = .ok (.invokespecial 1, 3) := by decide +kernel
theorem dX2_init_4 : decode cX2_init 4 = .ok (.aload_n 0, 1) := by decide +kernel
theorem dX2_init_5 : decode cX2_init 5 = .ok (.iconst 0, 1) := by decide +kernel
theorem dX2_init_6 : decode cX2_init 6 = .ok (.putfield 7, 3) := by decide +kernel
theorem dX2_init_9 : decode cX2_init 9 = .ok (.aload_n 0, 1) := by decide +kernel
theorem dX2_init_10 : decode cX2_init 10 = .ok (.iconst 0, 1) := by decide +kernel
theorem dX2_init_11 : decode cX2_init 11 = .ok (.putfield 13, 3) := by decide +kernel
theorem dX2_init_14 : decode cX2_init 14 = .ok (.aload_n 0, 1) := by decide +kernel
theorem dX2_init_15 : decode cX2_init 15 = .ok (.iconst 0, 1) := by decide +kernel
theorem dX2_init_16 : decode cX2_init 16 = .ok (.putfield 16, 3) := by decide +kernel
theorem dX2_init_19 : decode cX2_init 19 = .ok (.aload_n 0, 1) := by decide +kernel
theorem dX2_init_20 : decode cX2_init 20 = .ok (.iconst 0, 1) := by decide +kernel
theorem dX2_init_21 : decode cX2_init 21 = .ok (.putfield 19, 3) := by decide +kernel
theorem dX2_init_24 : decode cX2_init 24 = .ok (.aload_n 0, 1) := by decide +kernel
theorem dX2_init_25 : decode cX2_init 25 = .ok (.iconst 0, 1) := by decide +kernel
theorem dX2_init_26 : decode cX2_init 26 = .ok (.putfield 22, 3) := by decide +kernel
theorem dX2_init_29 : decode cX2_init 29 = .ok (.aload_n 0, 1) := by decide +kernel
theorem dX2_init_30 : decode cX2_init 30 = .ok (.iconst 0, 1) := by decide +kernel
theorem dX2_init_31 : decode cX2_init 31 = .ok (.putfield 25, 3) := by decide +kernel
theorem dX2_init_34 : decode cX2_init 34 = .ok (.aload_n 0, 1) := by decide +kernel
theorem dX2_init_35 : decode cX2_init 35 = .ok (.iconst 0, 1) := by decide +kernel
theorem dX2_init_36 : decode cX2_init 36 = .ok (.putfield 28, 3) := by decide +kernel
theorem dX2_init_39 : decode cX2_init 39 = .ok (.aload_n 0, 1) := by decide +kernel
theorem dX2_init_40 : decode cX2_init 40 = .ok (.iconst 0, 1) := by decide +kernel
theorem dX2_init_41 : decode cX2_init 41 = .ok (.putfield 31, 3) := by decide +kernel
theorem dX2_init_44 : decode cX2_init 44 = .ok (.aload_n 0, 1) := by decide +kernel
theorem dX2_init_45 : decode cX2_init 45 = .ok (.iconst 0, 1) := by decide +kernel
theorem dX2_init_46 : decode cX2_init 46 = .ok (.putfield 34, 3) := by decide +kernel
theorem dX2_init_49 : decode cX2_init 49 = .ok (.aload_n 0, 1) := by decide +kernel
theorem dX2_init_50 : decode cX2_init 50 = .ok (.iconst 0, 1) := by decide +kernel
theorem dX2_init_51 : decode cX2_init 51 = .ok (.putfield 37, 3) := by decide +kernel
theorem dX2_init_54 : decode cX2_init 54 = .ok (.return_, 1) := by decide +kernel
theorem dX2_copyFrom_0 : decode cX2_copyFrom 0 = .ok (.aload_n 0, 1) := by decide +kernel
theorem dX2_copyFrom_1 : decode cX2_copyFrom 1 = .ok (.aload_n 1, 1) := by decide +kernel
theorem dX2_copyFrom_2 : decode cX2_copyFrom 2 = .ok (.getfield 7, 3) := by decide +kernel
theorem dX2_copyFrom_5 : decode cX2_copyFrom 5 = .ok (.putfield 7, 3) := by decide +kernel
theorem dX2_copyFrom_8 : decode cX2_copyFrom 8 = .ok (.aload_n 0, 1) := by decide +kernel
theorem dX2_copyFrom_9 : decode cX2_copyFrom 9 = .ok (.aload_n 1, 1) := by decide +kernel
theorem dX2_copyFrom_10 : decode cX2_copyFrom 10 = .ok (.getfield 13, 3) := by decide +kernel
theorem dX2_copyFrom_13 : decode cX2_copyFrom 13 = .ok (.putfield 13, 3) := by decide +kernel
theorem dX2_copyFrom_16 : decode cX2_copyFrom 16 = .ok (.aload_n 0, 1) := by decide +kernel
theorem dX2_copyFrom_17 : decode cX2_copyFrom 17 = .ok (.aload_n 1, 1) := by decide +kernel
theorem dX2_copyFrom_18 : decode cX2_copyFrom 18 = .ok (.getfield 16, 3) := by decide +kernel
theorem dX2_copyFrom_21 : decode cX2_copyFrom 21 = .ok (.putfield 16, 3) := by decide +kernel
theorem dX2_copyFrom_24 : decode cX2_copyFrom 24 = .ok (.aload_n 0, 1) := by decide +kernel
theorem dX2_copyFrom_25 : decode cX2_copyFrom 25 = .ok (.aload_n 1, 1) := by decide +kernel
theorem dX2_copyFrom_26 : decode cX2_copyFrom 26 = .ok (.getfield 19, 3) := by decide +kernel
theorem dX2_copyFrom_29 : decode cX2_copyFrom 29 = .ok (.putfield 19, 3) := by decide +kernel
theorem dX2_copyFrom_32 : decode cX2_copyFrom 32 = .ok (.aload_n 0, 1) := by decide +kernel
theorem dX2_copyFrom_33 : decode cX2_copyFrom 33 = .ok (.aload_n 1, 1) := by decide +kernel
theorem dX2_copyFrom_34 : decode cX2_copyFrom 34 = .ok (.getfield 22, 3) := by decide +kernel
theorem dX2_copyFrom_37 : decode cX2_copyFrom 37 = .ok (.putfield 22, 3) := by decide +kernel
theorem dX2_copyFrom_40 : decode cX2_copyFrom 40 = .ok (.aload_n 0, 1) := by decide +kernel
theorem dX2_copyFrom_41 : decode cX2_copyFrom 41 = .ok (.aload_n 1, 1) := by decide +kernel
theorem dX2_copyFrom_42 : decode cX2_copyFrom 42 = .ok (.getfield 25, 3) := by decide +kernel
theorem dX2_copyFrom_45 : decode cX2_copyFrom 45 = .ok (.putfield 25, 3) := by decide +kernel
theorem dX2_copyFrom_48 : decode cX2_copyFrom 48 = .ok (.aload_n 0, 1) := by decide +kernel
theorem dX2_copyFrom_49 : decode cX2_copyFrom 49 = .ok (.aload_n 1, 1) := by decide +kernel
theorem dX2_copyFrom_50 : decode cX2_copyFrom 50 = .ok (.getfield 28, 3) := by decide +kernel
theorem dX2_copyFrom_53 : decode cX2_copyFrom 53 = .ok (.putfield 28, 3) := by decide +kernel
theorem dX2_copyFrom_56 : decode cX2_copyFrom 56 = .ok (.aload_n 0, 1) := by decide +kernel
theorem dX2_copyFrom_57 : decode cX2_copyFrom 57 = .ok (.aload_n 1, 1) := by decide +kernel
theorem dX2_copyFrom_58 : decode cX2_copyFrom 58 = .ok (.getfield 31, 3) := by decide +kernel
theorem dX2_copyFrom_61 : decode cX2_copyFrom 61 = .ok (.putfield 31, 3) := by decide +kernel
theorem dX2_copyFrom_64 : decode cX2_copyFrom 64 = .ok (.aload_n 0, 1) := by decide +kernel
theorem dX2_copyFrom_65 : decode cX2_copyFrom 65 = .ok (.aload_n 1, 1) := by decide +kernel
theorem dX2_copyFrom_66 : decode cX2_copyFrom 66 = .ok (.getfield 34, 3) := by decide +kernel
theorem dX2_copyFrom_69 : decode cX2_copyFrom 69 = .ok (.putfield 34, 3) := by decide +kernel
theorem dX2_copyFrom_72 : decode cX2_copyFrom 72 = .ok (.aload_n 0, 1) := by decide +kernel
theorem dX2_copyFrom_73 : decode cX2_copyFrom 73 = .ok (.aload_n 1, 1) := by decide +kernel
theorem dX2_copyFrom_74 : decode cX2_copyFrom 74 = .ok (.getfield 37, 3) := by decide +kernel
theorem dX2_copyFrom_77 : decode cX2_copyFrom 77 = .ok (.putfield 37, 3) := by decide +kernel
theorem dX2_copyFrom_80 : decode cX2_copyFrom 80 = .ok (.return_, 1) := by decide +kernel
theorem dX3_init_0 : decode cX3_init 0 = .ok (.aload_n 0, 1) := by decide +kernel
theorem dX3_init_1 : decode cX3_init 1 = .ok (.invokespecial 3, 3) := by decide +kernel
theorem dX3_init_4 : decode cX3_init 4 = .ok (.aload_n 0, 1) := by decide +kernel
theorem dX3_init_5 : decode cX3_init 5 = .ok (.bipush 60, 2) := by decide +kernel
theorem dX3_init_7 : decode cX3_init 7 = .ok (.newarray .char, 2) := by decide +kernel
theorem dX3_init_9 : decode cX3_init 9 = .ok (.putfield 9, 3) := by decide +kernel
theorem dX3_init_12 : decode cX3_init 12 = .ok (.aload_n 0, 1) := by decide +kernel
theorem dX3_init_13 : decode cX3_init 13 = .ok (.iconst 0, 1) := by decide +kernel
theorem dX3_init_14 : decode cX3_init 14 = .ok (.putfield 15, 3) := by decide +kernel
theorem dX3_init_17 : decode cX3_init 17 = .ok (.aload_n 0, 1) := by decide +kernel
theorem dX3_init_18 : decode cX3_init 18 = .ok (.iconst 0, 1) := by decide +kernel
theorem dX3_init_19 : decode cX3_init 19 = .ok (.putfield 19, 3) := by decide +kernel
theorem dX3_init_22 : decode cX3_init 22 = .ok (.aload_n 0, 1) := by decide +kernel
theorem dX3_init_23 : decode cX3_init 23 = .ok (.iconst 0, 1) := by decide +kernel
theorem dX3_init_24 : decode cX3_init 24 = .ok (.putfield 22, 3) := by decide +kernel
theorem dX3_init_27 : decode cX3_init 27 = .ok (.aload_n 0, 1) := by decide +kernel
theorem dX3_init_28 : decode cX3_init 28 = .ok (.bipush 15, 2) := by decide +kernel
theorem dX3_init_30 : decode cX3_init 30 = .ok (.anewarray 25, 3) := by decide +kernel
theorem dX3_init_33 : decode cX3_init 33 = .ok (.putfield 27, 3) := by decide +kernel
theorem dX3_init_36 : decode cX3_init 36 = .ok (.aload_n 0, 1) := by decide +kernel
theorem dX3_init_37 : decode cX3_init 37 = .ok (.bipush 15, 2) := by decide +kernel
theorem dX3_init_39 : decode cX3_init 39 = .ok (.newarray .int, 2) := by decide +kernel
theorem dX3_init_41 : decode cX3_init 41 = .ok (.putfield 31, 3) := by decide +kernel
theorem dX3_init_44 : decode cX3_init 44 = .ok (.aload_n 0, 1) := by decide +kernel
theorem dX3_init_45 : decode cX3_init 45 = .ok (.bipush 15, 2) := by decide +kernel
theorem dX3_init_47 : decode cX3_init 47 = .ok (.newarray .int, 2) := by decide +kernel
theorem dX3_init_49 : decode cX3_init 49 = .ok (.putfield 35, 3) := by decide +kernel
theorem dX3_init_52 : decode cX3_init 52 = .ok (.return_, 1) := by decide +kernel
theorem dX3_isFull_0 : decode cX3_isFull 0 = .ok (.aload_n 0, 1) := by decide +kernel
theorem dX3_isFull_1 : decode cX3_isFull 1 = .ok (.getfield 15, 3) := by decide +kernel
theorem dX3_isFull_4 : decode cX3_isFull 4 = .ok (.bipush 60, 2) := by decide +kernel
theorem dX3_isFull_6 : decode cX3_isFull 6 = .ok (.if_icmp .lt 7, 3) := by decide +kernel
theorem dX3_isFull_9 : decode cX3_isFull 9 = .ok (.iconst 1, 1) := by decide +kernel
theorem dX3_isFull_10 : decode cX3_isFull 10 = .ok (.goto 4, 3) := by decide +kernel
theorem dX3_isFull_13 : decode cX3_isFull 13 = .ok (.iconst 0, 1) := by decide +kernel
theorem dX3_isFull_14 : decode cX3_isFull 14 = .ok (.ireturn, 1) := by decide +kernel
theorem dX3_append_0 : decode cX3_append 0 = .ok (.aload_n 0, 1) := by decide +kernel
theorem dX3_append_1 : decode cX3_append 1 = .ok (.getfield 9, 3) := by decide +kernel
theorem dX3_append_4 : decode cX3_append 4 = .ok (.aload_n 0, 1) := by decide +kernel
theorem dX3_append_5 : decode cX3_append 5 = .ok (.getfield 15, 3) := by decide +kernel
theorem dX3_append_8 : decode cX3_append 8 = .ok (.iload_n 1, 1) := by decide +kernel
theorem dX3_append_9 : decode cX3_append 9 = .ok (.castore, 1) := by decide +kernel
theorem dX3_append_10 : decode cX3_append 10 = .ok (.aload_n 0, 1) := by decide +kernel
theorem dX3_append_11 : decode cX3_append 11 = .ok (.dup, 1) := by decide +kernel
theorem dX3_append_12 : decode cX3_append 12 = .ok (.getfield 15, 3) := by decide +kernel
theorem dX3_append_15 : decode cX3_append 15 = .ok (.iconst 1, 1) := by decide +kernel
theorem dX3_append_16 : decode cX3_append 16 = .ok (.iadd, 1) := by decide +kernel
theorem dX3_append_17 : decode cX3_append 17 = .ok (.putfield 15, 3) := by decide +kernel
theorem dX3_append_20 : decode cX3_append 20 = .ok (.aload_n 0, 1) := by decide +kernel
theorem dX3_append_21 : decode cX3_append 21 = .ok (.getfield 15, 3) := by decide +kernel
theorem dX3_append_24 : decode cX3_append 24 = .ok (.ireturn, 1) := by decide +kernel
set_option maxRecDepth 20000 in
theorem ggX3_parse_X3_readCommand : GoodIn wsX3_parse wsX3_readCommand := goodIn_ca (goodIn_r _ [8, 9, 10, 11, 12, 13, 14, 15, 16, 7, 17, 18, 19, 1, 20, 21, 22, 23, 24, 25, 26, 27, 3, 28, 29, 30, 31, 32, 33, 34, 35, 36, 37, 38, 39, 40, 41, 42, 43, 44, 45, 46, 47, 48, 49, 50, 51, 52, 53, 54, 55, 56, 57, 58, 59, 60, 61, 62, 63, 64, 65, 66, 67, 68, 69, 70, 71, 72, 73, 74, 75, 76, 77, 78, 79, 80, 81, 82, 83, 84, 85, 86, 87, 88, 89, 90, 91, 92, 93, 94, 95, 96, 97, 98] (by decide +kernel) (by decide +kernel)) (goodIn_sub (fun _ h => List.mem_cons_of_mem _ (List.mem_append_right _ h)) (by decide +kernel))
set_option maxRecDepth 20000 in
theorem gX3_parse_X3_readCommand : GoodIn wsX3_parse (wsV RX3 38 RX3 yX3_readCommand wsX3_readCommand) := goodIn_app (goodIn_of _ (by decide +kernel)) ggX3_parse_X3_readCommand
set_option maxRecDepth 20000 in
theorem ggX3_parse_X3_readCharacter : GoodIn wsX3_parse wsX3_readCharacter := goodIn_ca (goodIn_r _ [85, 1, 3, 28, 90, 91, 92, 93, 94, 95, 96] (by decide +kernel) (by decide +kernel)) (goodIn_sub (fun _ h => List.mem_cons_of_mem _ (List.mem_append_right _ h)) (by decide +kernel))
set_option maxRecDepth 20000 in
theorem gX3_parse_X3_readCharacter : GoodIn wsX3_parse (wsV RX3 42 RX3 yX3_readCharacter wsX3_readCharacter) := goodIn_app (goodIn_of _ (by decide +kernel)) ggX3_parse_X3_readCharacter
theorem dX3_parse_0 : decode cX3_parse 0 = .ok (.aload_n 0, 1) := by decide +kernel
theorem dX3_parse_1 : decode cX3_parse 1 = .ok (.iconst 0, 1) := by decide +kernel
theorem dX3_parse_2 : decode cX3_parse 2 = .ok (.putfield 19, 3) := by decide +kernel
theorem dX3_parse_5 : decode cX3_parse 5 = .ok (.aload_n 0, 1) := by decide +kernel
theorem dX3_parse_6 : decode cX3_parse 6 = .ok (.iconst 0, 1) := by decide +kernel
theorem dX3_parse_7 : decode cX3_parse 7 = .ok (.putfield 22, 3) := by decide +kernel
theorem dX3_parse_10 : decode cX3_parse 10 = .ok (.iconst 0, 1) := by decide +kernel
theorem dX3_parse_11 : decode cX3_parse 11 = .ok (.istore_n 1, 1) := by decide +kernel
theorem dX3_parse_12 : decode cX3_parse 12 = .ok (.iload_n 1, 1) := by decide +kernel
theorem dX3_parse_13 : decode cX3_parse 13 = .ok (.bipush 15, 2) := by decide +kernel
theorem dX3_parse_15 : decode cX3_parse 15 = .ok (.if_icmp .ge 50, 3) := by decide +kernel
theorem dX3_parse_18 : decode cX3_parse 18 = .ok (.aload_n 0, 1) := by decide +kernel
theorem dX3_parse_19 : decode cX3_parse 19 = .ok (.iload_n 1, 1) := by decide +kernel
theorem dX3_parse_20 : decode cX3_parse 20 = .ok (.invokevirtual 38, 3) := by decide +kernel
theorem dX3_parse_23 : decode cX3_parse 23 = .ok (.ifCond .ne 5, 3) := by decide +kernel
theorem dX3_parse_26 : decode cX3_parse 26 = .ok (.iconst 0, 1) := by decide +kernel
theorem dX3_parse_27 : decode cX3_parse 27 = .ok (.ireturn, 1) := by decide +kernel
theorem dX3_parse_28 : decode cX3_parse 28 = .ok (.aload_n 0, 1) := by decide +kernel
theorem dX3_parse_29 : decode cX3_parse 29 = .ok (.iload_n 1, 1) := by decide +kernel
theorem dX3_parse_30 : decode cX3_parse 30 = .ok (.iconst 1, 1) := by decide +kernel
theorem dX3_parse_31 : decode cX3_parse 31 = .ok (.iadd, 1) := by decide +kernel
theorem dX3_parse_32 : decode cX3_parse 32 = .ok (.putfield 22, 3) := by decide +kernel
theorem dX3_parse_35 : decode cX3_parse 35 = .ok (.aload_n 0, 1) := by decide +kernel
theorem dX3_parse_36 : decode cX3_parse 36 = .ok (.getfield 19, 3) := by decide +kernel
theorem dX3_parse_39 : decode cX3_parse 39 = .ok (.aload_n 0, 1) := by decide +kernel
theorem dX3_parse_40 : decode cX3_parse 40 = .ok (.getfield 15, 3) := by decide +kernel
theorem dX3_parse_43 : decode cX3_parse 43 = .ok (.if_icmp .lt 5, 3) := by decide +kernel
theorem dX3_parse_46 : decode cX3_parse 46 = .ok (.iconst 1, 1) := by decide +kernel
theorem dX3_parse_47 : decode cX3_parse 47 = .ok (.ireturn, 1) := by decide +kernel
theorem dX3_parse_48 : decode cX3_parse 48 = .ok (.aload_n 0, 1) := by decide +kernel
theorem dX3_parse_49 : decode cX3_parse 49 = .ok (.bipush 59, 2) := by decide +kernel
theorem dX3_parse_51 : decode cX3_parse 51 = .ok (.invokevirtual 42, 3) := by decide +kernel
theorem dX3_parse_54 : decode cX3_parse 54 = .ok (.ifCond .ne 5, 3) := by decide +kernel
theorem dX3_parse_57 : decode cX3_parse 57 = .ok (.iconst 0, 1) := by decide +kernel
theorem dX3_parse_58 : decode cX3_parse 58 = .ok (.ireturn, 1) := by decide +kernel
theorem dX3_parse_59 : decode cX3_parse 59 = .ok (.iinc 1 1, 3) := by decide +kernel
theorem dX3_parse_62 : decode cX3_parse 62 = .ok (.goto (-50), 3) := by decide +kernel
theorem dX3_parse_65 : decode cX3_parse 65 = .ok (.iconst 0, 1) := by decide +kernel
theorem dX3_parse_66 : decode cX3_parse 66 = .ok (.ireturn, 1) := by decide +kernel
set_option maxRecDepth 20000 in
theorem ggX3_readCommand_X3_readVerb : GoodIn wsX3_readCommand wsX3_readVerb := goodIn_ca (goodIn_r _ [10, 11, 12, 13, 14, 15, 16, 17, 18, 19, 20, 9, 21, 22, 23, 24, 25, 26, 27, 28, 29, 30, 31, 32, 33, 34, 35, 36, 37, 38, 39, 40, 41, 42, 43, 44, 45, 46, 47, 48, 49, 50, 51, 52, 53, 54, 55, 56, 57, 58, 59, 60, 61, 62, 63, 64, 65, 66, 67, 68, 69, 70, 71, 72, 85, 86, 87, 88, 89, 90, 91, 92, 93] (by decide +kernel) (by decide +kernel)) (goodIn_sub (fun _ h => List.mem_cons_of_mem _ (List.mem_append_right _ h)) (by decide +kernel))
set_option maxRecDepth 20000 in
theorem gX3_readCommand_X3_readVerb : GoodIn wsX3_readCommand (wsV RX3 46 RX3 yX3_readVerb wsX3_readVerb) := goodIn_app (goodIn_of _ (by decide +kernel)) ggX3_readCommand_X3_readVerb
set_option maxRecDepth 20000 in
theorem ggX3_readCommand_X3_readValue : GoodIn wsX3_readCommand wsX3_readValue := goodIn_ca (goodIn_r _ [76, 23, 13, 77, 78, 79, 9, 80, 22, 81, 82, 83, 84, 85, 86, 87, 88, 89, 90, 91] (by decide +kernel) (by decide +kernel)) (goodIn_sub (fun _ h => List.mem_cons_of_mem _ (List.mem_append_right _ h)) (by decide +kernel))
set_option maxRecDepth 20000 in
theorem gX3_readCommand_X3_readValue : GoodIn wsX3_readCommand (wsV RX3 57 RX3 yX3_readValue wsX3_readValue) := goodIn_app (goodIn_of _ (by decide +kernel)) ggX3_readCommand_X3_readValue
theorem dX3_readCommand_0 : decode cX3_readCommand 0 = .ok (.aload_n 0, 1) := by decide +kernel
theorem dX3_readCommand_1 : decode cX3_readCommand 1 = .ok (.invokevirtual 46, 3) := by decide +kernel
theorem dX3_readCommand_4 : decode cX3_readCommand 4 = .ok (.astore_n 2, 1) := by decide +kernel
theorem dX3_readCommand_5 : decode cX3_readCommand 5 = .ok (.aload_n 2, 1) := by decide +kernel
theorem dX3_readCommand_6 : decode cX3_readCommand 6 = .ok (.ifnonnull 5, 3) := by decide +kernel
theorem dX3_readCommand_9 : decode cX3_readCommand 9 = .ok (.iconst 0, 1) := by decide +kernel
theorem dX3_readCommand_10 : decode cX3_readCommand 10 = .ok (.ireturn, 1) := by decide +kernel
theorem dX3_readCommand_11 : decode cX3_readCommand 11 = .ok (.aload_n 0, 1) := by decide +kernel
theorem dX3_readCommand_12 : decode cX3_readCommand 12 = .ok (.getfield 27, 3) := by decide +kernel
theorem dX3_readCommand_15 : decode cX3_readCommand 15 = .ok (.iload_n 1, 1) := by decide +kernel
theorem dX3_readCommand_16 : decode cX3_readCommand 16 = .ok (.aload_n 2, 1) := by decide +kernel
theorem dX3_readCommand_17 : decode cX3_readCommand 17 = .ok (.aastore, 1) := by decide +kernel
theorem dX3_readCommand_18 : decode cX3_readCommand 18 = .ok (.aload_n 0, 1) := by decide +kernel
theorem dX3_readCommand_19 : decode cX3_readCommand 19 = .ok (.getfield 31, 3) := by decide +kernel
theorem dX3_readCommand_22 : decode cX3_readCommand 22 = .ok (.iload_n 1, 1) := by decide +kernel
theorem dX3_readCommand_23 : decode cX3_readCommand 23 = .ok (.iconst 0, 1) := by decide +kernel
theorem dX3_readCommand_24 : decode cX3_readCommand 24 = .ok (.iastore, 1) := by decide +kernel
theorem dX3_readCommand_25 : decode cX3_readCommand 25 = .ok (.aload_n 0, 1) := by decide +kernel
theorem dX3_readCommand_26 : decode cX3_readCommand 26 = .ok (.getfield 35, 3) := by decide +kernel
theorem dX3_readCommand_29 : decode cX3_readCommand 29 = .ok (.iload_n 1, 1) := by decide +kernel
theorem dX3_readCommand_30 : decode cX3_readCommand 30 = .ok (.iconst 0, 1) := by decide +kernel
theorem dX3_readCommand_31 : decode cX3_readCommand 31 = .ok (.iastore, 1) := by decide +kernel
theorem dX3_readCommand_32 : decode cX3_readCommand 32 = .ok (.aload_n 2, 1) := by decide +kernel
theorem dX3_readCommand_33 : decode cX3_readCommand 33 = .ok (.getfield 50, 3) := by decide +kernel
theorem dX3_readCommand_36 : decode cX3_readCommand 36 = .ok (.ifCond .eq 12, 3) := by decide +kernel
theorem dX3_readCommand_39 : decode cX3_readCommand 39 = .ok (.aload_n 2, 1) := by decide +kernel
theorem dX3_readCommand_40 : decode cX3_readCommand 40 = .ok (.getfield 54, 3) := by decide +kernel
theorem dX3_readCommand_43 : decode cX3_readCommand 43 = .ok (.iconst 1, 1) := by decide +kernel
theorem dX3_readCommand_44 : decode cX3_readCommand 44 = .ok (.iadd, 1) := by decide +kernel
theorem dX3_readCommand_45 : decode cX3_readCommand 45 = .ok (.goto 7, 3) := by decide +kernel
theorem dX3_readCommand_48 : decode cX3_readCommand 48 = .ok (.aload_n 2, 1) := by decide +kernel
theorem dX3_readCommand_49 : decode cX3_readCommand 49 = .ok (.getfield 54, 3) := by decide +kernel
theorem dX3_readCommand_52 : decode cX3_readCommand 52 = .ok (.istore_n 3, 1) := by decide +kernel
theorem dX3_readCommand_53 : decode cX3_readCommand 53 = .ok (.iconst 0, 1) := by decide +kernel
theorem dX3_readCommand_54 : decode cX3_readCommand 54 = .ok (.istore 4, 2) := by decide +kernel
theorem dX3_readCommand_56 : decode cX3_readCommand 56 = .ok (.iload 4, 2) := by decide +kernel
theorem dX3_readCommand_58 : decode cX3_readCommand 58 = .ok (.iload_n 3, 1) := by decide +kernel
theorem dX3_readCommand_59 : decode cX3_readCommand 59 = .ok (.if_icmp .ge 64, 3) := by decide +kernel
theorem dX3_readCommand_62 : decode cX3_readCommand 62 = .ok (.iload 4, 2) := by decide +kernel
theorem dX3_readCommand_64 : decode cX3_readCommand 64 = .ok (.aload_n 2, 1) := by decide +kernel
theorem dX3_readCommand_65 : decode cX3_readCommand 65 = .ok (.getfield 54, 3) := by decide +kernel
theorem dX3_readCommand_68 : decode cX3_readCommand 68 = .ok (.if_icmp .ge 7, 3) := by decide +kernel
theorem dX3_readCommand_71 : decode cX3_readCommand 71 = .ok (.iconst 1, 1) := by decide +kernel
theorem dX3_readCommand_72 : decode cX3_readCommand 72 = .ok (.goto 4, 3) := by decide +kernel
theorem dX3_readCommand_75 : decode cX3_readCommand 75 = .ok (.iconst 3, 1) := by decide +kernel
theorem dX3_readCommand_76 : decode cX3_readCommand 76 = .ok (.istore 5, 2) := by decide +kernel
theorem dX3_readCommand_78 : decode cX3_readCommand 78 = .ok (.aload_n 0, 1) := by decide +kernel
theorem dX3_readCommand_79 : decode cX3_readCommand 79 = .ok (.iload 5, 2) := by decide +kernel
theorem dX3_readCommand_81 : decode cX3_readCommand 81 = .ok (.invokevirtual 57, 3) := by decide +kernel
theorem dX3_readCommand_84 : decode cX3_readCommand 84 = .ok (.istore 6, 2) := by decide +kernel
theorem dX3_readCommand_86 : decode cX3_readCommand 86 = .ok (.iload 6, 2) := by decide +kernel
theorem dX3_readCommand_88 : decode cX3_readCommand 88 = .ok (.ifCond .ge 5, 3) := by decide +kernel
theorem dX3_readCommand_91 : decode cX3_readCommand 91 = .ok (.iconst 0, 1) := by decide +kernel
theorem dX3_readCommand_92 : decode cX3_readCommand 92 = .ok (.ireturn, 1) := by decide +kernel
theorem dX3_readCommand_93 : decode cX3_readCommand 93 = .ok (.iload 4, 2) := by decide +kernel
theorem dX3_readCommand_95 : decode cX3_readCommand 95 = .ok (.ifCond .ne 14, 3) := by decide +kernel
theorem dX3_readCommand_98 : decode cX3_readCommand 98 = .ok (.aload_n 0, 1) := by decide +kernel
theorem dX3_readCommand_99 : decode cX3_readCommand 99 = .ok (.getfield 31, 3) := by decide +kernel
theorem dX3_readCommand_102 : decode cX3_readCommand 102 = .ok (.iload_n 1, 1) := by decide +kernel
theorem dX3_readCommand_103 : decode cX3_readCommand 103 = .ok (.iload 6, 2) := by decide +kernel
theorem dX3_readCommand_105 : decode cX3_readCommand 105 = .ok (.iastore, 1) := by decide +kernel
theorem dX3_readCommand_106 : decode cX3_readCommand 106 = .ok (.goto 11, 3) := by decide +kernel
theorem dX3_readCommand_109 : decode cX3_readCommand 109 = .ok (.aload_n 0, 1) := by decide +kernel
theorem dX3_readCommand_110 : decode cX3_readCommand 110 = .ok (.getfield 35, 3) := by decide +kernel
theorem dX3_readCommand_113 : decode cX3_readCommand 113 = .ok (.iload_n 1, 1) := by decide +kernel
theorem dX3_readCommand_114 : decode cX3_readCommand 114 = .ok (.iload 6, 2) := by decide +kernel
theorem dX3_readCommand_116 : decode cX3_readCommand 116 = .ok (.iastore, 1) := by decide +kernel
theorem dX3_readCommand_117 : decode cX3_readCommand 117 = .ok (.iinc 4 1, 3) := by decide +kernel
theorem dX3_readCommand_120 : decode cX3_readCommand 120 = .ok (.goto (-64), 3) := by decide +kernel
theorem dX3_readCommand_123 : decode cX3_readCommand 123 = .ok (.iconst 1, 1) := by decide +kernel
theorem dX3_readCommand_124 : decode cX3_readCommand 124 = .ok (.ireturn, 1) := by decide +kernel
set_option maxRecDepth 20000 in
theorem ggX3_readVerb_X3_matchingLength : GoodIn wsX3_readVerb wsX3_matchingLength := goodIn_ca (goodIn_r _ [12, 3, 13, 14, 15, 16, 17, 18, 19, 20, 21, 22, 23, 24, 25, 26, 27, 28, 29, 30, 31, 32, 33, 34, 35, 36, 37, 38, 39, 40, 41, 42, 43, 44, 45, 46, 47, 48, 49, 50, 51, 52, 53, 54, 55, 56, 57, 58, 59, 60, 61, 62, 63, 64, 65, 66, 67, 68, 69, 70, 71, 72] (by decide +kernel) (by decide +kernel)) (goodIn_sub (fun _ h => List.mem_cons_of_mem _ (List.mem_append_right _ h)) (by decide +kernel))
set_option maxRecDepth 20000 in
theorem gX3_readVerb_X3_matchingLength : GoodIn wsX3_readVerb (wsV RX3 68 RX3 yX3_matchingLength wsX3_matchingLength) := goodIn_app (goodIn_of _ (by decide +kernel)) ggX3_readVerb_X3_matchingLength
set_option maxRecDepth 20000 in
theorem ggX3_readVerb_J0_length_8abf5 : GoodIn wsX3_readVerb wsJ0_length_8abf5 := goodIn_r _ [19, 20, 21, 22, 23, 18, 24, 25, 26, 71, 72] (by decide +kernel) (by decide +kernel)
set_option maxRecDepth 20000 in
theorem gX3_readVerb_J0_length_8abf5 : GoodIn wsX3_readVerb (wsV RX3 72 RJ0 yJ0_length_8abf5 wsJ0_length_8abf5) := goodIn_app (goodIn_of _ (by decide +kernel)) ggX3_readVerb_J0_length_8abf5
theorem dX3_readVerb_0 : decode cX3_readVerb 0 = .ok (.iconst 0, 1) := by decide +kernel
theorem dX3_readVerb_1 : decode cX3_readVerb 1 = .ok (.istore_n 1, 1) := by decide +kernel
theorem dX3_readVerb_2 : decode cX3_readVerb 2 = .ok (.getstatic 61, 3) := by decide +kernel
theorem dX3_readVerb_5 : decode cX3_readVerb 5 = .ok (.astore_n 2, 1) := by decide +kernel
theorem dX3_readVerb_6 : decode cX3_readVerb 6 = .ok (.aload_n 2, 1) := by decide +kernel
theorem dX3_readVerb_7 : decode cX3_readVerb 7 = .ok (.arraylength, 1) := by decide +kernel
theorem dX3_readVerb_8 : decode cX3_readVerb 8 = .ok (.istore_n 3, 1) := by decide +kernel
theorem dX3_readVerb_9 : decode cX3_readVerb 9 = .ok (.iconst 0, 1) := by decide +kernel
theorem dX3_readVerb_10 : decode cX3_readVerb 10 = .ok (.istore 4, 2) := by decide +kernel
theorem dX3_readVerb_12 : decode cX3_readVerb 12 = .ok (.iload 4, 2) := by decide +kernel
theorem dX3_readVerb_14 : decode cX3_readVerb 14 = .ok (.iload_n 3, 1) := by decide +kernel
theorem dX3_readVerb_15 : decode cX3_readVerb 15 = .ok (.if_icmp .ge 60, 3) := by decide +kernel
theorem dX3_readVerb_18 : decode cX3_readVerb 18 = .ok (.aload_n 2, 1) := by decide +kernel
theorem dX3_readVerb_19 : decode cX3_readVerb 19 = .ok (.iload 4, 2) := by decide +kernel
theorem dX3_readVerb_21 : decode cX3_readVerb 21 = .ok (.aaload, 1) := by decide +kernel
theorem dX3_readVerb_22 : decode cX3_readVerb 22 = .ok (.astore 5, 2) := by decide +kernel
theorem dX3_readVerb_24 : decode cX3_readVerb 24 = .ok (.aload_n 0, 1) := by decide +kernel
theorem dX3_readVerb_25 : decode cX3_readVerb 25 = .ok (.aload 5, 2) := by decide +kernel
theorem dX3_readVerb_27 : decode cX3_readVerb 27 = .ok (.getfield 64, 3) := by decide +kernel
theorem dX3_readVerb_30 : decode cX3_readVerb 30 = .ok (.invokevirtual 68, 3) := by decide +kernel
theorem dX3_readVerb_33 : decode cX3_readVerb 33 = .ok (.istore 6, 2) := by decide +kernel
theorem dX3_readVerb_35 : decode cX3_readVerb 35 = .ok (.iload 6, 2) := by decide +kernel
theorem dX3_readVerb_37 : decode cX3_readVerb 37 = .ok (.aload 5, 2) := by decide +kernel
theorem dX3_readVerb_39 : decode cX3_readVerb 39 = .ok (.getfield 64, 3) := by decide +kernel
theorem dX3_readVerb_42 : decode cX3_readVerb 42 = .ok (.invokevirtual 72, 3) := by decide +kernel
theorem dX3_readVerb_45 : decode cX3_readVerb 45 = .ok (.if_icmp .ne 17, 3) := by decide +kernel
theorem dX3_readVerb_48 : decode cX3_readVerb 48 = .ok (.aload_n 0, 1) := by decide +kernel
theorem dX3_readVerb_49 : decode cX3_readVerb 49 = .ok (.dup, 1) := by decide +kernel
theorem dX3_readVerb_50 : decode cX3_readVerb 50 = .ok (.getfield 19, 3) := by decide +kernel
theorem dX3_readVerb_53 : decode cX3_readVerb 53 = .ok (.iload 6, 2) := by decide +kernel
theorem dX3_readVerb_55 : decode cX3_readVerb 55 = .ok (.iadd, 1) := by decide +kernel
theorem dX3_readVerb_56 : decode cX3_readVerb 56 = .ok (.putfield 19, 3) := by decide +kernel
theorem dX3_readVerb_59 : decode cX3_readVerb 59 = .ok (.aload 5, 2) := by decide +kernel
theorem dX3_readVerb_61 : decode cX3_readVerb 61 = .ok (.areturn, 1) := by decide +kernel
theorem dX3_readVerb_62 : decode cX3_readVerb 62 = .ok (.iload_n 1, 1) := by decide +kernel
theorem dX3_readVerb_63 : decode cX3_readVerb 63 = .ok (.iload 6, 2) := by decide +kernel
theorem dX3_readVerb_65 : decode cX3_readVerb 65 = .ok (.invokestatic 77, 3) := by decide +kernel
theorem dX3_readVerb_68 : decode cX3_readVerb 68 = .ok (.istore_n 1, 1) := by decide +kernel
theorem dX3_readVerb_69 : decode cX3_readVerb 69 = .ok (.iinc 4 1, 3) := by decide +kernel
theorem dX3_readVerb_72 : decode cX3_readVerb 72 = .ok (.goto (-60), 3) := by decide +kernel
theorem dX3_readVerb_75 : decode cX3_readVerb 75 = .ok (.aload_n 0, 1) := by decide +kernel
theorem dX3_readVerb_76 : decode cX3_readVerb 76 = .ok (.dup, 1) := by decide +kernel
theorem dX3_readVerb_77 : decode cX3_readVerb 77 = .ok (.getfield 19, 3) := by decide +kernel
theorem dX3_readVerb_80 : decode cX3_readVerb 80 = .ok (.iload_n 1, 1) := by decide +kernel
theorem dX3_readVerb_81 : decode cX3_readVerb 81 = .ok (.iadd, 1) := by decide +kernel
theorem dX3_readVerb_82 : decode cX3_readVerb 82 = .ok (.putfield 19, 3) := by decide +kernel
theorem dX3_readVerb_85 : decode cX3_readVerb 85 = .ok (.aconst_null, 1) := by decide +kernel
theorem dX3_readVerb_86 : decode cX3_readVerb 86 = .ok (.areturn, 1) := by decide +kernel
set_option maxRecDepth 20000 in
theorem ggX3_matchingLength_J0_length_8abf5 : GoodIn wsX3_matchingLength wsJ0_length_8abf5 := goodIn_r _ [8, 9, 10, 11, 12, 7, 13, 14, 15, 60, 61] (by decide +kernel) (by decide +kernel)
set_option maxRecDepth 20000 in
theorem gX3_matchingLength_J0_length_8abf5 : GoodIn wsX3_matchingLength (wsV RX3 72 RJ0 yJ0_length_8abf5 wsJ0_length_8abf5) := goodIn_app (goodIn_of _ (by decide +kernel)) ggX3_matchingLength_J0_length_8abf5
set_option maxRecDepth 20000 in
theorem ggX3_matchingLength_J0_charAt_5068e : GoodIn wsX3_matchingLength wsJ0_charAt_5068e := goodIn_r _ [19, 9, 20, 21, 22, 7, 23, 14, 15, 24, 25, 26, 27, 28, 29, 30, 31, 32, 33, 34, 35, 36, 37, 38, 39, 40, 41, 42, 43, 44, 45, 46, 47, 48, 49, 50, 51, 52, 60, 61] (by decide +kernel) (by decide +kernel)
set_option maxRecDepth 20000 in
theorem gX3_matchingLength_J0_charAt_5068e : GoodIn wsX3_matchingLength (wsV RX3 83 RJ0 yJ0_charAt_5068e wsJ0_charAt_5068e) := goodIn_app (goodIn_of _ (by decide +kernel)) ggX3_matchingLength_J0_charAt_5068e
theorem dX3_matchingLength_0 : decode cX3_matchingLength 0 = .ok (.iconst 0, 1) := by decide +kernel
theorem dX3_matchingLength_1 : decode cX3_matchingLength 1 = .ok (.istore_n 2, 1) := by decide +kernel
theorem dX3_matchingLength_2 : decode cX3_matchingLength 2 = .ok (.iload_n 2, 1) := by decide +kernel
theorem dX3_matchingLength_3 : decode cX3_matchingLength 3 = .ok (.aload_n 1, 1) := by decide +kernel
theorem dX3_matchingLength_4 : decode cX3_matchingLength 4 = .ok (.invokevirtual 72, 3) := by decide +kernel
theorem dX3_matchingLength_7 : decode cX3_matchingLength 7 = .ok (.if_icmp .ge 41, 3) := by decide +kernel
theorem dX3_matchingLength_10 : decode cX3_matchingLength 10 = .ok (.aload_n 0, 1) := by decide +kernel
theorem dX3_matchingLength_11 : decode cX3_matchingLength 11 = .ok (.getfield 19, 3) := by decide +kernel
theorem dX3_matchingLength_14 : decode cX3_matchingLength 14 = .ok (.iload_n 2, 1) := by decide +kernel
theorem dX3_matchingLength_15 : decode cX3_matchingLength 15 = .ok (.iadd, 1) := by decide +kernel
theorem dX3_matchingLength_16 : decode cX3_matchingLength 16 = .ok (.aload_n 0, 1) := by decide +kernel
theorem dX3_matchingLength_17 : decode cX3_matchingLength 17 = .ok (.getfield 15, 3) := by decide +kernel
theorem dX3_matchingLength_20 : decode cX3_matchingLength 20 = .ok (.if_icmp .ge 28, 3) := by decide +kernel
theorem dX3_matchingLength_23 : decode cX3_matchingLength 23 = .ok (.aload_n 0, 1) := by decide +kernel
theorem dX3_matchingLength_24 : decode cX3_matchingLength 24 = .ok (.getfield 9, 3) := by decide +kernel
theorem dX3_matchingLength_27 : decode cX3_matchingLength 27 = .ok (.aload_n 0, 1) := by decide +kernel
theorem dX3_matchingLength_28 : decode cX3_matchingLength 28 = .ok (.getfield 19, 3) := by decide +kernel
theorem dX3_matchingLength_31 : decode cX3_matchingLength 31 = .ok (.iload_n 2, 1) := by decide +kernel
theorem dX3_matchingLength_32 : decode cX3_matchingLength 32 = .ok (.iadd, 1) := by decide +kernel
theorem dX3_matchingLength_33 : decode cX3_matchingLength 33 = .ok (.caload, 1) := by decide +kernel
theorem dX3_matchingLength_34 : decode cX3_matchingLength 34 = .ok (.aload_n 1, 1) := by decide +kernel
theorem dX3_matchingLength_35 : decode cX3_matchingLength 35 = .ok (.iload_n 2, 1) := by decide +kernel
theorem dX3_matchingLength_36 : decode cX3_matchingLength 36 = .ok (.invokevirtual 83, 3) := by decide +kernel
theorem dX3_matchingLength_39 : decode cX3_matchingLength 39 = .ok (.if_icmp .ne 9, 3) := by decide +kernel
theorem dX3_matchingLength_42 : decode cX3_matchingLength 42 = .ok (.iinc 2 1, 3) := by decide +kernel
theorem dX3_matchingLength_45 : decode cX3_matchingLength 45 = .ok (.goto (-43), 3) := by decide +kernel
theorem dX3_matchingLength_48 : decode cX3_matchingLength 48 = .ok (.iload_n 2, 1) := by decide +kernel
theorem dX3_matchingLength_49 : decode cX3_matchingLength 49 = .ok (.ireturn, 1) := by decide +kernel
set_option maxRecDepth 20000 in
theorem ggX3_readValue_X3_readCharacter : GoodIn wsX3_readValue wsX3_readCharacter := goodIn_ca (goodIn_r _ [7, 2, 8, 1, 13, 14, 15, 16, 17, 18, 19] (by decide +kernel) (by decide +kernel)) (goodIn_sub (fun _ h => List.mem_cons_of_mem _ (List.mem_append_right _ h)) (by decide +kernel))
set_option maxRecDepth 20000 in
theorem gX3_readValue_X3_readCharacter : GoodIn wsX3_readValue (wsV RX3 42 RX3 yX3_readCharacter wsX3_readCharacter) := goodIn_app (goodIn_of _ (by decide +kernel)) ggX3_readValue_X3_readCharacter
set_option maxRecDepth 20000 in
theorem ggX3_readValue_X3_atDigit : GoodIn wsX3_readValue wsX3_atDigit := goodIn_ca (goodIn_r _ [12, 2, 8, 1, 13, 14, 15, 16, 17, 18, 19] (by decide +kernel) (by decide +kernel)) (goodIn_sub (fun _ h => List.mem_cons_of_mem _ (List.mem_append_right _ h)) (by decide +kernel))
set_option maxRecDepth 20000 in
theorem gX3_readValue_X3_atDigit : GoodIn wsX3_readValue (wsV RX3 87 RX3 yX3_atDigit wsX3_atDigit) := goodIn_app (goodIn_of _ (by decide +kernel)) ggX3_readValue_X3_atDigit
theorem dX3_readValue_0 : decode cX3_readValue 0 = .ok (.aload_n 0, 1) := by decide +kernel
theorem dX3_readValue_1 : decode cX3_readValue 1 = .ok (.bipush 32, 2) := by decide +kernel
theorem dX3_readValue_3 : decode cX3_readValue 3 = .ok (.invokevirtual 42, 3) := by decide +kernel
theorem dX3_readValue_6 : decode cX3_readValue 6 = .ok (.ifCond .eq 10, 3) := by decide +kernel
theorem dX3_readValue_9 : decode cX3_readValue 9 = .ok (.aload_n 0, 1) := by decide +kernel
theorem dX3_readValue_10 : decode cX3_readValue 10 = .ok (.invokevirtual 87, 3) := by decide +kernel
theorem dX3_readValue_13 : decode cX3_readValue 13 = .ok (.ifCond .ne 5, 3) := by decide +kernel
theorem dX3_readValue_16 : decode cX3_readValue 16 = .ok (.iconst (-1), 1) := by decide +kernel
theorem dX3_readValue_17 : decode cX3_readValue 17 = .ok (.ireturn, 1) := by decide +kernel
theorem dX3_readValue_18 : decode cX3_readValue 18 = .ok (.iconst 0, 1) := by decide +kernel
theorem dX3_readValue_19 : decode cX3_readValue 19 = .ok (.istore_n 2, 1) := by decide +kernel
theorem dX3_readValue_20 : decode cX3_readValue 20 = .ok (.iconst 0, 1) := by decide +kernel
theorem dX3_readValue_21 : decode cX3_readValue 21 = .ok (.istore_n 3, 1) := by decide +kernel
theorem dX3_readValue_22 : decode cX3_readValue 22 = .ok (.iload_n 3, 1) := by decide +kernel
theorem dX3_readValue_23 : decode cX3_readValue 23 = .ok (.iload_n 1, 1) := by decide +kernel
theorem dX3_readValue_24 : decode cX3_readValue 24 = .ok (.if_icmp .ge 44, 3) := by decide +kernel
theorem dX3_readValue_27 : decode cX3_readValue 27 = .ok (.aload_n 0, 1) := by decide +kernel
theorem dX3_readValue_28 : decode cX3_readValue 28 = .ok (.invokevirtual 87, 3) := by decide +kernel
theorem dX3_readValue_31 : decode cX3_readValue 31 = .ok (.ifCond .eq 37, 3) := by decide +kernel
theorem dX3_readValue_34 : decode cX3_readValue 34 = .ok (.bipush 10, 2) := by decide +kernel
theorem dX3_readValue_36 : decode cX3_readValue 36 = .ok (.iload_n 2, 1) := by decide +kernel
theorem dX3_readValue_37 : decode cX3_readValue 37 = .ok (.imul, 1) := by decide +kernel
theorem dX3_readValue_38 : decode cX3_readValue 38 = .ok (.aload_n 0, 1) := by decide +kernel
theorem dX3_readValue_39 : decode cX3_readValue 39 = .ok (.getfield 9, 3) := by decide +kernel
theorem dX3_readValue_42 : decode cX3_readValue 42 = .ok (.aload_n 0, 1) := by decide +kernel
theorem dX3_readValue_43 : decode cX3_readValue 43 = .ok (.getfield 19, 3) := by decide +kernel
theorem dX3_readValue_46 : decode cX3_readValue 46 = .ok (.caload, 1) := by decide +kernel
theorem dX3_readValue_47 : decode cX3_readValue 47 = .ok (.bipush 48, 2) := by decide +kernel
theorem dX3_readValue_49 : decode cX3_readValue 49 = .ok (.isub, 1) := by decide +kernel
theorem dX3_readValue_50 : decode cX3_readValue 50 = .ok (.iadd, 1) := by decide +kernel
theorem dX3_readValue_51 : decode cX3_readValue 51 = .ok (.istore_n 2, 1) := by decide +kernel
theorem dX3_readValue_52 : decode cX3_readValue 52 = .ok (.aload_n 0, 1) := by decide +kernel
theorem dX3_readValue_53 : decode cX3_readValue 53 = .ok (.dup, 1) := by decide +kernel
theorem dX3_readValue_54 : decode cX3_readValue 54 = .ok (.getfield 19, 3) := by decide +kernel
theorem dX3_readValue_57 : decode cX3_readValue 57 = .ok (.iconst 1, 1) := by decide +kernel
theorem dX3_readValue_58 : decode cX3_readValue 58 = .ok (.iadd, 1) := by decide +kernel
theorem dX3_readValue_59 : decode cX3_readValue 59 = .ok (.putfield 19, 3) := by decide +kernel
theorem dX3_readValue_62 : decode cX3_readValue 62 = .ok (.iinc 3 1, 3) := by decide +kernel
theorem dX3_readValue_65 : decode cX3_readValue 65 = .ok (.goto (-43), 3) := by decide +kernel
theorem dX3_readValue_68 : decode cX3_readValue 68 = .ok (.iload_n 2, 1) := by decide +kernel
theorem dX3_readValue_69 : decode cX3_readValue 69 = .ok (.ireturn, 1) := by decide +kernel
theorem dX3_readCharacter_0 : decode cX3_readCharacter 0 = .ok (.aload_n 0, 1) := by decide +kernel
theorem dX3_readCharacter_1 : decode cX3_readCharacter 1 = .ok (.getfield 19, 3) := by decide +kernel
theorem dX3_readCharacter_4 : decode cX3_readCharacter 4 = .ok (.aload_n 0, 1) := by decide +kernel
theorem dX3_readCharacter_5 : decode cX3_readCharacter 5 = .ok (.getfield 15, 3) := by decide +kernel
theorem dX3_readCharacter_8 : decode cX3_readCharacter 8 = .ok (.if_icmp .ge 16, 3) := by decide +kernel
theorem dX3_readCharacter_11 : decode cX3_readCharacter 11 = .ok (.aload_n 0, 1) := by decide +kernel
theorem dX3_readCharacter_12 : decode cX3_readCharacter 12 = .ok (.getfield 9, 3) := by decide +kernel
theorem dX3_readCharacter_15 : decode cX3_readCharacter 15 = .ok (.aload_n 0, 1) := by decide +kernel
theorem dX3_readCharacter_16 : decode cX3_readCharacter 16 = .ok (.getfield 19, 3) := by decide +kernel
theorem dX3_readCharacter_19 : decode cX3_readCharacter 19 = .ok (.caload, 1) := by decide +kernel
theorem dX3_readCharacter_20 : decode cX3_readCharacter 20 = .ok (.iload_n 1, 1) := by decide +kernel
theorem dX3_readCharacter_21 : decode cX3_readCharacter 21 = .ok (.if_icmp .eq 5, 3) := by decide +kernel
theorem dX3_readCharacter_24 : decode cX3_readCharacter 24 = .ok (.iconst 0, 1) := by decide +kernel
theorem dX3_readCharacter_25 : decode cX3_readCharacter 25 = .ok (.ireturn, 1) := by decide +kernel
theorem dX3_readCharacter_26 : decode cX3_readCharacter 26 = .ok (.aload_n 0, 1) := by decide +kernel
theorem dX3_readCharacter_27 : decode cX3_readCharacter 27 = .ok (.dup, 1) := by decide +kernel
theorem dX3_readCharacter_28 : decode cX3_readCharacter 28 = .ok (.getfield 19, 3) := by decide +kernel
theorem dX3_readCharacter_31 : decode cX3_readCharacter 31 = .ok (.iconst 1, 1) := by decide +kernel
theorem dX3_readCharacter_32 : decode cX3_readCharacter 32 = .ok (.iadd, 1) := by decide +kernel
theorem dX3_readCharacter_33 : decode cX3_readCharacter 33 = .ok (.putfield 19, 3) := by decide +kernel
theorem dX3_readCharacter_36 : decode cX3_readCharacter 36 = .ok (.iconst 1, 1) := by decide +kernel
theorem dX3_readCharacter_37 : decode cX3_readCharacter 37 = .ok (.ireturn, 1) := by decide +kernel
theorem dX3_atDigit_0 : decode cX3_atDigit 0 = .ok (.aload_n 0, 1) := by decide +kernel
theorem dX3_atDigit_1 : decode cX3_atDigit 1 = .ok (.getfield 19, 3) := by decide +kernel
theorem dX3_atDigit_4 : decode cX3_atDigit 4 = .ok (.aload_n 0, 1) := by decide +kernel
theorem dX3_atDigit_5 : decode cX3_atDigit 5 = .ok (.getfield 15, 3) := by decide +kernel
theorem dX3_atDigit_8 : decode cX3_atDigit 8 = .ok (.if_icmp .ge 35, 3) := by decide +kernel
theorem dX3_atDigit_11 : decode cX3_atDigit 11 = .ok (.aload_n 0, 1) := by decide +kernel
theorem dX3_atDigit_12 : decode cX3_atDigit 12 = .ok (.getfield 9, 3) := by decide +kernel
theorem dX3_atDigit_15 : decode cX3_atDigit 15 = .ok (.aload_n 0, 1) := by decide +kernel
theorem dX3_atDigit_16 : decode cX3_atDigit 16 = .ok (.getfield 19, 3) := by decide +kernel
theorem dX3_atDigit_19 : decode cX3_atDigit 19 = .ok (.caload, 1) := by decide +kernel
theorem dX3_atDigit_20 : decode cX3_atDigit 20 = .ok (.bipush 48, 2) := by decide +kernel
theorem dX3_atDigit_22 : decode cX3_atDigit 22 = .ok (.if_icmp .lt 21, 3) := by decide +kernel
theorem dX3_atDigit_25 : decode cX3_atDigit 25 = .ok (.aload_n 0, 1) := by decide +kernel
theorem dX3_atDigit_26 : decode cX3_atDigit 26 = .ok (.getfield 9, 3) := by decide +kernel
theorem dX3_atDigit_29 : decode cX3_atDigit 29 = .ok (.aload_n 0, 1) := by decide +kernel
theorem dX3_atDigit_30 : decode cX3_atDigit 30 = .ok (.getfield 19, 3) := by decide +kernel
theorem dX3_atDigit_33 : decode cX3_atDigit 33 = .ok (.caload, 1) := by decide +kernel
theorem dX3_atDigit_34 : decode cX3_atDigit 34 = .ok (.bipush 57, 2) := by decide +kernel
theorem dX3_atDigit_36 : decode cX3_atDigit 36 = .ok (.if_icmp .gt 7, 3) := by decide +kernel
theorem dX3_atDigit_39 : decode cX3_atDigit 39 = .ok (.iconst 1, 1) := by decide +kernel
theorem dX3_atDigit_40 : decode cX3_atDigit 40 = .ok (.goto 4, 3) := by decide +kernel
theorem dX3_atDigit_43 : decode cX3_atDigit 43 = .ok (.iconst 0, 1) := by decide +kernel
theorem dX3_atDigit_44 : decode cX3_atDigit 44 = .ok (.ireturn, 1) := by decide +kernel
set_option maxRecDepth 20000 in
theorem ggX4_init_X9_init : GoodIn wsX4_init wsX9_init := goodIn_r _ [11, 12, 2, 3, 13, 14, 15, 16, 17, 18, 19, 20, 21, 22, 23, 24, 25, 26, 27, 28, 29, 30, 31, 32, 33, 34, 35, 36, 37, 38, 39, 40, 41, 42, 43, 44, 45, 46, 47, 48, 49, 50, 51, 52, 53, 54, 55, 56, 57, 64, 65, 66, 67, 68, 69, 70, 71, 61, 62, 63, 72, 73, 74, 75, 76, 77, 78, 79, 80, 81, 82, 83, 84, 85] (by decide +kernel) (by decide +kernel)
set_option maxRecDepth 20000 in
theorem gX4_init_X9_init_n24 : GoodIn wsX4_init (wsX9_init) := ggX4_init_X9_init
theorem dX4_init_0 : decode cX4_init 0 = .ok (.aload_n 0, 1) := by decide +kernel
theorem dX4_init_1 : decode cX4_init 1 = .ok (.invokespecial 3, 3) := by decide +kernel
theorem dX4_init_4 : decode cX4_init 4 = .ok (.aload_n 0, 1) := by decide +kernel
theorem dX4_init_5 : decode cX4_init 5 = .ok (.iconst 0, 1) := by decide +kernel
theorem dX4_init_6 : decode cX4_init 6 = .ok (.putfield 9, 3) := by decide +kernel
theorem dX4_init_9 : decode cX4_init 9 = .ok (.aload_n 0, 1) := by decide +kernel
theorem dX4_init_10 : decode cX4_init 10 = .ok (.iconst 0, 1) := by decide +kernel
theorem dX4_init_11 : decode cX4_init 11 = .ok (.putfield 15, 3) := by decide +kernel
theorem dX4_init_14 : decode cX4_init 14 = .ok (.aload_n 0, 1) := by decide +kernel
theorem dX4_init_15 : decode cX4_init 15 = .ok (.bipush 8, 2) := by decide +kernel
theorem dX4_init_17 : decode cX4_init 17 = .ok (.anewarray 18, 3) := by decide +kernel
theorem dX4_init_20 : decode cX4_init 20 = .ok (.putfield 20, 3) := by decide +kernel
theorem dX4_init_23 : decode cX4_init 23 = .ok (.iconst 0, 1) := by decide +kernel
theorem dX4_init_24 : decode cX4_init 24 = .ok (.istore_n 1, 1) := by decide +kernel
theorem dX4_init_25 : decode cX4_init 25 = .ok (.iload_n 1, 1) := by decide +kernel
theorem dX4_init_26 : decode cX4_init 26 = .ok (.bipush 8, 2) := by decide +kernel
theorem dX4_init_28 : decode cX4_init 28 = .ok (.if_icmp .ge 22, 3) := by decide +kernel
theorem dX4_init_31 : decode cX4_init 31 = .ok (.aload_n 0, 1) := by decide +kernel
theorem dX4_init_32 : decode cX4_init 32 = .ok (.getfield 20, 3) := by decide +kernel
theorem dX4_init_35 : decode cX4_init 35 = .ok (.iload_n 1, 1) := by decide +kernel
theorem dX4_init_36 : decode cX4_init 36 = .ok (.new 18, 3) := by decide +kernel
theorem dX4_init_39 : decode cX4_init 39 = .ok (.dup, 1) := by decide +kernel
theorem dX4_init_40 : decode cX4_init 40 = .ok (.invokespecial 24, 3) := by decide +kernel
theorem dX4_init_43 : decode cX4_init 43 = .ok (.aastore, 1) := by decide +kernel
theorem dX4_init_44 : decode cX4_init 44 = .ok (.iinc 1 1, 3) := by decide +kernel
theorem dX4_init_47 : decode cX4_init 47 = .ok (.goto (-22), 3) := by decide +kernel
theorem dX4_init_50 : decode cX4_init 50 = .ok (.return_, 1) := by decide +kernel
set_option maxRecDepth 20000 in
theorem ggX4_remember_X9_copyFrom : GoodIn wsX4_remember wsX9_copyFrom := goodIn_r _ [12, 13, 14, 15, 16, 17, 18, 19, 20, 21, 22, 23, 24, 25, 26, 27, 28, 29, 30, 31, 32, 33, 34, 35, 36, 37, 38, 39, 40, 41, 42, 43, 44, 45, 46, 47, 48, 49, 50, 51, 52, 53, 54, 55, 56, 57, 61, 62, 63, 64, 65, 66, 67, 68, 69, 70, 71, 72, 73, 74, 75, 76, 77, 78, 79, 80, 81, 82, 83, 84, 85] (by decide +kernel) (by decide +kernel)
set_option maxRecDepth 20000 in
theorem gX4_remember_X9_copyFrom : GoodIn wsX4_remember (wsV RX4 25 RX9 yX9_copyFrom wsX9_copyFrom) := goodIn_app (goodIn_of _ (by decide +kernel)) ggX4_remember_X9_copyFrom
theorem dX4_remember_0 : decode cX4_remember 0 = .ok (.aload_n 0, 1) := by decide +kernel
theorem dX4_remember_1 : decode cX4_remember 1 = .ok (.getfield 20, 3) := by decide +kernel
theorem dX4_remember_4 : decode cX4_remember 4 = .ok (.aload_n 0, 1) := by decide +kernel
theorem dX4_remember_5 : decode cX4_remember 5 = .ok (.getfield 15, 3) := by decide +kernel
theorem dX4_remember_8 : decode cX4_remember 8 = .ok (.aaload, 1) := by decide +kernel
theorem dX4_remember_9 : decode cX4_remember 9 = .ok (.aload_n 1, 1) := by decide +kernel
theorem dX4_remember_10 : decode cX4_remember 10 = .ok (.invokevirtual 25, 3) := by decide +kernel
theorem dX4_remember_13 : decode cX4_remember 13 = .ok (.aload_n 0, 1) := by decide +kernel
theorem dX4_remember_14 : decode cX4_remember 14 = .ok (.aload_n 0, 1) := by decide +kernel
theorem dX4_remember_15 : decode cX4_remember 15 = .ok (.getfield 15, 3) := by decide +kernel
theorem dX4_remember_18 : decode cX4_remember 18 = .ok (.iconst 1, 1) := by decide +kernel
theorem dX4_remember_19 : decode cX4_remember 19 = .ok (.iadd, 1) := by decide +kernel
theorem dX4_remember_20 : decode cX4_remember 20 = .ok (.bipush 8, 2) := by decide +kernel
theorem dX4_remember_22 : decode cX4_remember 22 = .ok (.irem, 1) := by decide +kernel
theorem dX4_remember_23 : decode cX4_remember 23 = .ok (.putfield 15, 3) := by decide +kernel
theorem dX4_remember_26 : decode cX4_remember 26 = .ok (.aload_n 0, 1) := by decide +kernel
theorem dX4_remember_27 : decode cX4_remember 27 = .ok (.aload_n 0, 1) := by decide +kernel
theorem dX4_remember_28 : decode cX4_remember 28 = .ok (.getfield 9, 3) := by decide +kernel
theorem dX4_remember_31 : decode cX4_remember 31 = .ok (.iconst 1, 1) := by decide +kernel
theorem dX4_remember_32 : decode cX4_remember 32 = .ok (.iadd, 1) := by decide +kernel
theorem dX4_remember_33 : decode cX4_remember 33 = .ok (.bipush 8, 2) := by decide +kernel
theorem dX4_remember_35 : decode cX4_remember 35 = .ok (.invokestatic 29, 3) := by decide +kernel
theorem dX4_remember_38 : decode cX4_remember 38 = .ok (.putfield 9, 3) := by decide +kernel
theorem dX4_remember_41 : decode cX4_remember 41 = .ok (.return_, 1) := by decide +kernel
set_option maxRecDepth 20000 in
theorem ggX4_takeBack_X9_copyFrom : GoodIn wsX4_takeBack wsX9_copyFrom := goodIn_r _ [8, 9, 10, 11, 12, 13, 14, 15, 16, 17, 18, 19, 20, 21, 22, 23, 24, 25, 26, 27, 28, 29, 30, 31, 32, 33, 34, 35, 36, 37, 38, 39, 40, 41, 42, 43, 44, 45, 46, 47, 48, 49, 50, 51, 52, 53, 57, 58, 59, 60, 61, 62, 63, 64, 65, 66, 67, 68, 69, 70, 71, 72, 73, 74, 75, 76, 77, 78, 79, 80, 81] (by decide +kernel) (by decide +kernel)
set_option maxRecDepth 20000 in
theorem gX4_takeBack_X9_copyFrom : GoodIn wsX4_takeBack (wsV RX4 25 RX9 yX9_copyFrom wsX9_copyFrom) := goodIn_app (goodIn_of _ (by decide +kernel)) ggX4_takeBack_X9_copyFrom
theorem dX4_takeBack_0 : decode cX4_takeBack 0 = .ok (.aload_n 0, 1) := by decide +kernel
theorem dX4_takeBack_1 : decode cX4_takeBack 1 = .ok (.aload_n 0, 1) := by decide +kernel
theorem dX4_takeBack_2 : decode cX4_takeBack 2 = .ok (.getfield 15, 3) := by decide +kernel
theorem dX4_takeBack_5 : decode cX4_takeBack 5 = .ok (.bipush 8, 2) := by decide +kernel
theorem dX4_takeBack_7 : decode cX4_takeBack 7 = .ok (.iadd, 1) := by decide +kernel
theorem dX4_takeBack_8 : decode cX4_takeBack 8 = .ok (.iconst 1, 1) := by decide +kernel
theorem dX4_takeBack_9 : decode cX4_takeBack 9 = .ok (.isub, 1) := by decide +kernel
theorem dX4_takeBack_10 : decode cX4_takeBack 10 = .ok (.bipush 8, 2) := by decide +kernel
theorem dX4_takeBack_12 : decode cX4_takeBack 12 = .ok (.irem, 1) := by decide +kernel
theorem dX4_takeBack_13 : decode cX4_takeBack 13 = .ok (.putfield 15, 3) := by decide +kernel
theorem dX4_takeBack_16 : decode cX4_takeBack 16 = .ok (.aload_n 1, 1) := by decide +kernel
theorem dX4_takeBack_17 : decode cX4_takeBack 17 = .ok (.aload_n 0, 1) := by decide +kernel
theorem dX4_takeBack_18 : decode cX4_takeBack 18 = .ok (.getfield 20, 3) := by decide +kernel
theorem dX4_takeBack_21 : decode cX4_takeBack 21 = .ok (.aload_n 0, 1) := by decide +kernel
theorem dX4_takeBack_22 : decode cX4_takeBack 22 = .ok (.getfield 15, 3) := by decide +kernel
theorem dX4_takeBack_25 : decode cX4_takeBack 25 = .ok (.aaload, 1) := by decide +kernel
theorem dX4_takeBack_26 : decode cX4_takeBack 26 = .ok (.invokevirtual 25, 3) := by decide +kernel
theorem dX4_takeBack_29 : decode cX4_takeBack 29 = .ok (.aload_n 0, 1) := by decide +kernel
theorem dX4_takeBack_30 : decode cX4_takeBack 30 = .ok (.dup, 1) := by decide +kernel
theorem dX4_takeBack_31 : decode cX4_takeBack 31 = .ok (.getfield 9, 3) := by decide +kernel
theorem dX4_takeBack_34 : decode cX4_takeBack 34 = .ok (.iconst 1, 1) := by decide +kernel
theorem dX4_takeBack_35 : decode cX4_takeBack 35 = .ok (.isub, 1) := by decide +kernel
theorem dX4_takeBack_36 : decode cX4_takeBack 36 = .ok (.putfield 9, 3) := by decide +kernel
theorem dX4_takeBack_39 : decode cX4_takeBack 39 = .ok (.return_, 1) := by decide +kernel
theorem dX5_init_0 : decode cX5_init 0 = .ok (.aload_n 0, 1) := by decide +kernel
theorem dX5_init_1 : decode cX5_init 1 = .ok (.invokespecial 3, 3) := by decide +kernel
theorem dX5_init_4 : decode cX5_init 4 = .ok (.aload_n 0, 1) := by decide +kernel
theorem dX5_init_5 : decode cX5_init 5 = .ok (.iconst 0, 1) := by decide +kernel
theorem dX5_init_6 : decode cX5_init 6 = .ok (.putfield 9, 3) := by decide +kernel
theorem dX5_init_9 : decode cX5_init 9 = .ok (.aload_n 0, 1) := by decide +kernel
theorem dX5_init_10 : decode cX5_init 10 = .ok (.bipush 8, 2) := by decide +kernel
theorem dX5_init_12 : decode cX5_init 12 = .ok (.newarray .int, 2) := by decide +kernel
theorem dX5_init_14 : decode cX5_init 14 = .ok (.putfield 15, 3) := by decide +kernel
theorem dX5_init_17 : decode cX5_init 17 = .ok (.aload_n 0, 1) := by decide +kernel
theorem dX5_init_18 : decode cX5_init 18 = .ok (.bipush 8, 2) := by decide +kernel
theorem dX5_init_20 : decode cX5_init 20 = .ok (.newarray .int, 2) := by decide +kernel
theorem dX5_init_22 : decode cX5_init 22 = .ok (.putfield 19, 3) := by decide +kernel
theorem dX5_init_25 : decode cX5_init 25 = .ok (.aload_n 0, 1) := by decide +kernel
theorem dX5_init_26 : decode cX5_init 26 = .ok (.bipush 8, 2) := by decide +kernel
theorem dX5_init_28 : decode cX5_init 28 = .ok (.newarray .int, 2) := by decide +kernel
theorem dX5_init_30 : decode cX5_init 30 = .ok (.putfield 22, 3) := by decide +kernel
theorem dX5_init_33 : decode cX5_init 33 = .ok (.aload_n 0, 1) := by decide +kernel
theorem dX5_init_34 : decode cX5_init 34 = .ok (.bipush 8, 2) := by decide +kernel
theorem dX5_init_36 : decode cX5_init 36 = .ok (.newarray .boolean, 2) := by decide +kernel
theorem dX5_init_38 : decode cX5_init 38 = .ok (.putfield 25, 3) := by decide +kernel
theorem dX5_init_41 : decode cX5_init 41 = .ok (.aload_n 0, 1) := by decide +kernel
theorem dX5_init_42 : decode cX5_init 42 = .ok (.bipush 8, 2) := by decide +kernel
theorem dX5_init_44 : decode cX5_init 44 = .ok (.newarray .int, 2) := by decide +kernel
theorem dX5_init_46 : decode cX5_init 46 = .ok (.putfield 29, 3) := by decide +kernel
theorem dX5_init_49 : decode cX5_init 49 = .ok (.aload_n 0, 1) := by decide +kernel
theorem dX5_init_50 : decode cX5_init 50 = .ok (.bipush 8, 2) := by decide +kernel
theorem dX5_init_52 : decode cX5_init 52 = .ok (.newarray .int, 2) := by decide +kernel
theorem dX5_init_54 : decode cX5_init 54 = .ok (.putfield 32, 3) := by decide +kernel
theorem dX5_init_57 : decode cX5_init 57 = .ok (.aload_n 0, 1) := by decide +kernel
theorem dX5_init_58 : decode cX5_init 58 = .ok (.bipush 8, 2) := by decide +kernel
theorem dX5_init_60 : decode cX5_init 60 = .ok (.newarray .int, 2) := by decide +kernel
theorem dX5_init_62 : decode cX5_init 62 = .ok (.putfield 35, 3) := by decide +kernel
theorem dX5_init_65 : decode cX5_init 65 = .ok (.return_, 1) := by decide +kernel
theorem dX5_has_0 : decode cX5_has 0 = .ok (.iload_n 1, 1) := by decide +kernel
theorem dX5_has_1 : decode cX5_has 1 = .ok (.ifCond .lt 15, 3) := by decide +kernel
theorem dX5_has_4 : decode cX5_has 4 = .ok (.iload_n 1, 1) := by decide +kernel
theorem dX5_has_5 : decode cX5_has 5 = .ok (.aload_n 0, 1) := by decide +kernel
theorem dX5_has_6 : decode cX5_has 6 = .ok (.getfield 9, 3) := by decide +kernel
theorem dX5_has_9 : decode cX5_has 9 = .ok (.if_icmp .ge 7, 3) := by decide +kernel
theorem dX5_has_12 : decode cX5_has 12 = .ok (.iconst 1, 1) := by decide +kernel
theorem dX5_has_13 : decode cX5_has 13 = .ok (.goto 4, 3) := by decide +kernel
theorem dX5_has_16 : decode cX5_has 16 = .ok (.iconst 0, 1) := by decide +kernel
theorem dX5_has_17 : decode cX5_has 17 = .ok (.ireturn, 1) := by decide +kernel
theorem dX5_append_0 : decode cX5_append 0 = .ok (.aload_n 0, 1) := by decide +kernel
theorem dX5_append_1 : decode cX5_append 1 = .ok (.getfield 9, 3) := by decide +kernel
theorem dX5_append_4 : decode cX5_append 4 = .ok (.istore_n 3, 1) := by decide +kernel
theorem dX5_append_5 : decode cX5_append 5 = .ok (.aload_n 0, 1) := by decide +kernel
theorem dX5_append_6 : decode cX5_append 6 = .ok (.getfield 15, 3) := by decide +kernel
theorem dX5_append_9 : decode cX5_append 9 = .ok (.iload_n 3, 1) := by decide +kernel
theorem dX5_append_10 : decode cX5_append 10 = .ok (.iload_n 1, 1) := by decide +kernel
theorem dX5_append_11 : decode cX5_append 11 = .ok (.iastore, 1) := by decide +kernel
theorem dX5_append_12 : decode cX5_append 12 = .ok (.aload_n 0, 1) := by decide +kernel
theorem dX5_append_13 : decode cX5_append 13 = .ok (.getfield 19, 3) := by decide +kernel
theorem dX5_append_16 : decode cX5_append 16 = .ok (.iload_n 3, 1) := by decide +kernel
theorem dX5_append_17 : decode cX5_append 17 = .ok (.iload_n 2, 1) := by decide +kernel
theorem dX5_append_18 : decode cX5_append 18 = .ok (.iastore, 1) := by decide +kernel
theorem dX5_append_19 : decode cX5_append 19 = .ok (.aload_n 0, 1) := by decide +kernel
theorem dX5_append_20 : decode cX5_append 20 = .ok (.getfield 22, 3) := by decide +kernel
theorem dX5_append_23 : decode cX5_append 23 = .ok (.iload_n 3, 1) := by decide +kernel
theorem dX5_append_24 : decode cX5_append 24 = .ok (.iconst 1, 1) := by decide +kernel
theorem dX5_append_25 : decode cX5_append 25 = .ok (.iastore, 1) := by decide +kernel
theorem dX5_append_26 : decode cX5_append 26 = .ok (.aload_n 0, 1) := by decide +kernel
theorem dX5_append_27 : decode cX5_append 27 = .ok (.getfield 25, 3) := by decide +kernel
theorem dX5_append_30 : decode cX5_append 30 = .ok (.iload_n 3, 1) := by decide +kernel
theorem dX5_append_31 : decode cX5_append 31 = .ok (.iconst 1, 1) := by decide +kernel
theorem dX5_append_32 : decode cX5_append 32 = .ok (.bastore, 1) := by decide +kernel
theorem dX5_append_33 : decode cX5_append 33 = .ok (.aload_n 0, 1) := by decide +kernel
theorem dX5_append_34 : decode cX5_append 34 = .ok (.getfield 29, 3) := by decide +kernel
theorem dX5_append_37 : decode cX5_append 37 = .ok (.iload_n 3, 1) := by decide +kernel
theorem dX5_append_38 : decode cX5_append 38 = .ok (.iconst 0, 1) := by decide +kernel
theorem dX5_append_39 : decode cX5_append 39 = .ok (.iastore, 1) := by decide +kernel
theorem dX5_append_40 : decode cX5_append 40 = .ok (.aload_n 0, 1) := by decide +kernel
theorem dX5_append_41 : decode cX5_append 41 = .ok (.getfield 32, 3) := by decide +kernel
theorem dX5_append_44 : decode cX5_append 44 = .ok (.iload_n 3, 1) := by decide +kernel
theorem dX5_append_45 : decode cX5_append 45 = .ok (.iconst 0, 1) := by decide +kernel
theorem dX5_append_46 : decode cX5_append 46 = .ok (.iastore, 1) := by decide +kernel
theorem dX5_append_47 : decode cX5_append 47 = .ok (.aload_n 0, 1) := by decide +kernel
theorem dX5_append_48 : decode cX5_append 48 = .ok (.getfield 35, 3) := by decide +kernel
theorem dX5_append_51 : decode cX5_append 51 = .ok (.iload_n 3, 1) := by decide +kernel
theorem dX5_append_52 : decode cX5_append 52 = .ok (.iconst 0, 1) := by decide +kernel
theorem dX5_append_53 : decode cX5_append 53 = .ok (.iastore, 1) := by decide +kernel
theorem dX5_append_54 : decode cX5_append 54 = .ok (.aload_n 0, 1) := by decide +kernel
theorem dX5_append_55 : decode cX5_append 55 = .ok (.dup, 1) := by decide +kernel
theorem dX5_append_56 : decode cX5_append 56 = .ok (.getfield 9, 3) := by decide +kernel
theorem dX5_append_59 : decode cX5_append 59 = .ok (.iconst 1, 1) := by decide +kernel
theorem dX5_append_60 : decode cX5_append 60 = .ok (.iadd, 1) := by decide +kernel
theorem dX5_append_61 : decode cX5_append 61 = .ok (.putfield 9, 3) := by decide +kernel
theorem dX5_append_64 : decode cX5_append 64 = .ok (.iload_n 3, 1) := by decide +kernel
theorem dX5_append_65 : decode cX5_append 65 = .ok (.ireturn, 1) := by decide +kernel
theorem dX5_closeGap_0 : decode cX5_closeGap 0 = .ok (.aload_n 0, 1) := by decide +kernel
theorem dX5_closeGap_1 : decode cX5_closeGap 1 = .ok (.getfield 9, 3) := by decide +kernel
theorem dX5_closeGap_4 : decode cX5_closeGap 4 = .ok (.iload_n 1, 1) := by decide +kernel
theorem dX5_closeGap_5 : decode cX5_closeGap 5 = .ok (.isub, 1) := by decide +kernel
theorem dX5_closeGap_6 : decode cX5_closeGap 6 = .ok (.iconst 1, 1) := by decide +kernel
theorem dX5_closeGap_7 : decode cX5_closeGap 7 = .ok (.isub, 1) := by decide +kernel
theorem dX5_closeGap_8 : decode cX5_closeGap 8 = .ok (.istore_n 2, 1) := by decide +kernel
theorem dX5_closeGap_9 : decode cX5_closeGap 9 = .ok (.aload_n 0, 1) := by decide +kernel
theorem dX5_closeGap_10 : decode cX5_closeGap 10 = .ok (.getfield 15, 3) := by decide +kernel
theorem dX5_closeGap_13 : decode cX5_closeGap 13 = .ok (.iload_n 1, 1) := by decide +kernel
theorem dX5_closeGap_14 : decode cX5_closeGap 14 = .ok (.iconst 1, 1) := by decide +kernel
theorem dX5_closeGap_15 : decode cX5_closeGap 15 = .ok (.iadd, 1) := by decide +kernel
theorem dX5_closeGap_16 : decode cX5_closeGap 16 = .ok (.aload_n 0, 1) := by decide +kernel
theorem dX5_closeGap_17 : decode cX5_closeGap 17 = .ok (.getfield 15, 3) := by decide +kernel
theorem dX5_closeGap_20 : decode cX5_closeGap 20 = .ok (.iload_n 1, 1) := by decide +kernel
theorem dX5_closeGap_21 : decode cX5_closeGap 21 = .ok (.iload_n 2, 1) := by decide +kernel
theorem dX5_closeGap_22 : decode cX5_closeGap 22 = .ok (.invokestatic 38, 3) := by decide +kernel
theorem dX5_closeGap_25 : decode cX5_closeGap 25 = .ok (.aload_n 0, 1) := by decide +kernel
theorem dX5_closeGap_26 : decode cX5_closeGap 26 = .ok (.getfield 19, 3) := by decide +kernel
theorem dX5_closeGap_29 : decode cX5_closeGap 29 = .ok (.iload_n 1, 1) := by decide +kernel
theorem dX5_closeGap_30 : decode cX5_closeGap 30 = .ok (.iconst 1, 1) := by decide +kernel
theorem dX5_closeGap_31 : decode cX5_closeGap 31 = .ok (.iadd, 1) := by decide +kernel
theorem dX5_closeGap_32 : decode cX5_closeGap 32 = .ok (.aload_n 0, 1) := by decide +kernel
theorem dX5_closeGap_33 : decode cX5_closeGap 33 = .ok (.getfield 19, 3) := by decide +kernel
theorem dX5_closeGap_36 : decode cX5_closeGap 36 = .ok (.iload_n 1, 1) := by decide +kernel
theorem dX5_closeGap_37 : decode cX5_closeGap 37 = .ok (.iload_n 2, 1) := by decide +kernel
theorem dX5_closeGap_38 : decode cX5_closeGap 38 = .ok (.invokestatic 38, 3) := by decide +kernel
theorem dX5_closeGap_41 : decode cX5_closeGap 41 = .ok (.aload_n 0, 1) := by decide +kernel
theorem dX5_closeGap_42 : decode cX5_closeGap 42 = .ok (.getfield 22, 3) := by decide +kernel
theorem dX5_closeGap_45 : decode cX5_closeGap 45 = .ok (.iload_n 1, 1) := by decide +kernel
theorem dX5_closeGap_46 : decode cX5_closeGap 46 = .ok (.iconst 1, 1) := by decide +kernel
theorem dX5_closeGap_47 : decode cX5_closeGap 47 = .ok (.iadd, 1) := by decide +kernel
theorem dX5_closeGap_48 : decode cX5_closeGap 48 = .ok (.aload_n 0, 1) := by decide +kernel
theorem dX5_closeGap_49 : decode cX5_closeGap 49 = .ok (.getfield 22, 3) := by decide +kernel
theorem dX5_closeGap_52 : decode cX5_closeGap 52 = .ok (.iload_n 1, 1) := by decide +kernel
theorem dX5_closeGap_53 : decode cX5_closeGap 53 = .ok (.iload_n 2, 1) := by decide +kernel
theorem dX5_closeGap_54 : decode cX5_closeGap 54 = .ok (.invokestatic 38, 3) := by decide +kernel
theorem dX5_closeGap_57 : decode cX5_closeGap 57 = .ok (.aload_n 0, 1) := by decide +kernel
theorem dX5_closeGap_58 : decode cX5_closeGap 58 = .ok (.getfield 25, 3) := by decide +kernel
theorem dX5_closeGap_61 : decode cX5_closeGap 61 = .ok (.iload_n 1, 1) := by decide +kernel
theorem dX5_closeGap_62 : decode cX5_closeGap 62 = .ok (.iconst 1, 1) := by decide +kernel
theorem dX5_closeGap_63 : decode cX5_closeGap 63 = .ok (.iadd, 1) := by decide +kernel
theorem dX5_closeGap_64 : decode cX5_closeGap 64 = .ok (.aload_n 0, 1) := by decide +kernel
theorem dX5_closeGap_65 : decode cX5_closeGap 65 = .ok (.getfield 25, 3) := by decide +kernel
theorem dX5_closeGap_68 : decode cX5_closeGap 68 = .ok (.iload_n 1, 1) := by decide +kernel
theorem dX5_closeGap_69 : decode cX5_closeGap 69 = .ok (.iload_n 2, 1) := by decide +kernel
theorem dX5_closeGap_70 : decode cX5_closeGap 70 = .ok (.invokestatic 38, 3) := by decide +kernel
theorem dX5_closeGap_73 : decode cX5_closeGap 73 = .ok (.aload_n 0, 1) := by decide +kernel
theorem dX5_closeGap_74 : decode cX5_closeGap 74 = .ok (.getfield 29, 3) := by decide +kernel
theorem dX5_closeGap_77 : decode cX5_closeGap 77 = .ok (.iload_n 1, 1) := by decide +kernel
theorem dX5_closeGap_78 : decode cX5_closeGap 78 = .ok (.iconst 1, 1) := by decide +kernel
theorem dX5_closeGap_79 : decode cX5_closeGap 79 = .ok (.iadd, 1) := by decide +kernel
theorem dX5_closeGap_80 : decode cX5_closeGap 80 = .ok (.aload_n 0, 1) := by decide +kernel
theorem dX5_closeGap_81 : decode cX5_closeGap 81 = .ok (.getfield 29, 3) := by decide +kernel
theorem dX5_closeGap_84 : decode cX5_closeGap 84 = .ok (.iload_n 1, 1) := by decide +kernel
theorem dX5_closeGap_85 : decode cX5_closeGap 85 = .ok (.iload_n 2, 1) := by decide +kernel
theorem dX5_closeGap_86 : decode cX5_closeGap 86 = .ok (.invokestatic 38, 3) := by decide +kernel
theorem dX5_closeGap_89 : decode cX5_closeGap 89 = .ok (.aload_n 0, 1) := by decide +kernel
theorem dX5_closeGap_90 : decode cX5_closeGap 90 = .ok (.getfield 32, 3) := by decide +kernel
theorem dX5_closeGap_93 : decode cX5_closeGap 93 = .ok (.iload_n 1, 1) := by decide +kernel
theorem dX5_closeGap_94 : decode cX5_closeGap 94 = .ok (.iconst 1, 1) := by decide +kernel
theorem dX5_closeGap_95 : decode cX5_closeGap 95 = .ok (.iadd, 1) := by decide +kernel
theorem dX5_closeGap_96 : decode cX5_closeGap 96 = .ok (.aload_n 0, 1) := by decide +kernel
theorem dX5_closeGap_97 : decode cX5_closeGap 97 = .ok (.getfield 32, 3) := by decide +kernel
theorem dX5_closeGap_100 : decode cX5_closeGap 100 = .ok (.iload_n 1, 1) := by decide +kernel
theorem dX5_closeGap_101 : decode cX5_closeGap 101 = .ok (.iload_n 2, 1) := by decide +kernel
theorem dX5_closeGap_102 : decode cX5_closeGap 102 = .ok (.invokestatic 38, 3) := by decide +kernel
theorem dX5_closeGap_105 : decode cX5_closeGap 105 = .ok (.aload_n 0, 1) := by decide +kernel
theorem dX5_closeGap_106 : decode cX5_closeGap 106 = .ok (.getfield 35, 3) := by decide +kernel
theorem dX5_closeGap_109 : decode cX5_closeGap 109 = .ok (.iload_n 1, 1) := by decide +kernel
theorem dX5_closeGap_110 : decode cX5_closeGap 110 = .ok (.iconst 1, 1) := by decide +kernel
theorem dX5_closeGap_111 : decode cX5_closeGap 111 = .ok (.iadd, 1) := by decide +kernel
theorem dX5_closeGap_112 : decode cX5_closeGap 112 = .ok (.aload_n 0, 1) := by decide +kernel
theorem dX5_closeGap_113 : decode cX5_closeGap 113 = .ok (.getfield 35, 3) := by decide +kernel
theorem dX5_closeGap_116 : decode cX5_closeGap 116 = .ok (.iload_n 1, 1) := by decide +kernel
theorem dX5_closeGap_117 : decode cX5_closeGap 117 = .ok (.iload_n 2, 1) := by decide +kernel
theorem dX5_closeGap_118 : decode cX5_closeGap 118 = .ok (.invokestatic 38, 3) := by decide +kernel
theorem dX5_closeGap_121 : decode cX5_closeGap 121 = .ok (.aload_n 0, 1) := by decide +kernel
theorem dX5_closeGap_122 : decode cX5_closeGap 122 = .ok (.dup, 1) := by decide +kernel
theorem dX5_closeGap_123 : decode cX5_closeGap 123 = .ok (.getfield 9, 3) := by decide +kernel
theorem dX5_closeGap_126 : decode cX5_closeGap 126 = .ok (.iconst 1, 1) := by decide +kernel
theorem dX5_closeGap_127 : decode cX5_closeGap 127 = .ok (.isub, 1) := by decide +kernel
theorem dX5_closeGap_128 : decode cX5_closeGap 128 = .ok (.putfield 9, 3) := by decide +kernel
theorem dX5_closeGap_131 : decode cX5_closeGap 131 = .ok (.return_, 1) := by decide +kernel
theorem dX5_copyFrom_0 : decode cX5_copyFrom 0 = .ok (.aload_n 0, 1) := by decide +kernel
theorem dX5_copyFrom_1 : decode cX5_copyFrom 1 = .ok (.aload_n 1, 1) := by decide +kernel
theorem dX5_copyFrom_2 : decode cX5_copyFrom 2 = .ok (.getfield 9, 3) := by decide +kernel
theorem dX5_copyFrom_5 : decode cX5_copyFrom 5 = .ok (.putfield 9, 3) := by decide +kernel
theorem dX5_copyFrom_8 : decode cX5_copyFrom 8 = .ok (.aload_n 1, 1) := by decide +kernel
theorem dX5_copyFrom_9 : decode cX5_copyFrom 9 = .ok (.getfield 15, 3) := by decide +kernel
theorem dX5_copyFrom_12 : decode cX5_copyFrom 12 = .ok (.iconst 0, 1) := by decide +kernel
theorem dX5_copyFrom_13 : decode cX5_copyFrom 13 = .ok (.aload_n 0, 1) := by decide +kernel
theorem dX5_copyFrom_14 : decode cX5_copyFrom 14 = .ok (.getfield 15, 3) := by decide +kernel
theorem dX5_copyFrom_17 : decode cX5_copyFrom 17 = .ok (.iconst 0, 1) := by decide +kernel
theorem dX5_copyFrom_18 : decode cX5_copyFrom 18 = .ok (.bipush 8, 2) := by decide +kernel
theorem dX5_copyFrom_20 : decode cX5_copyFrom 20 = .ok (.invokestatic 38, 3) := by decide +kernel
theorem dX5_copyFrom_23 : decode cX5_copyFrom 23 = .ok (.aload_n 1, 1) := by decide +kernel
theorem dX5_copyFrom_24 : decode cX5_copyFrom 24 = .ok (.getfield 19, 3) := by decide +kernel
theorem dX5_copyFrom_27 : decode cX5_copyFrom 27 = .ok (.iconst 0, 1) := by decide +kernel
theorem dX5_copyFrom_28 : decode cX5_copyFrom 28 = .ok (.aload_n 0, 1) := by decide +kernel
theorem dX5_copyFrom_29 : decode cX5_copyFrom 29 = .ok (.getfield 19, 3) := by decide +kernel
theorem dX5_copyFrom_32 : decode cX5_copyFrom 32 = .ok (.iconst 0, 1) := by decide +kernel
theorem dX5_copyFrom_33 : decode cX5_copyFrom 33 = .ok (.bipush 8, 2) := by decide +kernel
theorem dX5_copyFrom_35 : decode cX5_copyFrom 35 = .ok (.invokestatic 38, 3) := by decide +kernel
theorem dX5_copyFrom_38 : decode cX5_copyFrom 38 = .ok (.aload_n 1, 1) := by decide +kernel
theorem dX5_copyFrom_39 : decode cX5_copyFrom 39 = .ok (.getfield 22, 3) := by decide +kernel
theorem dX5_copyFrom_42 : decode cX5_copyFrom 42 = .ok (.iconst 0, 1) := by decide +kernel
theorem dX5_copyFrom_43 : decode cX5_copyFrom 43 = .ok (.aload_n 0, 1) := by decide +kernel
theorem dX5_copyFrom_44 : decode cX5_copyFrom 44 = .ok (.getfield 22, 3) := by decide +kernel
theorem dX5_copyFrom_47 : decode cX5_copyFrom 47 = .ok (.iconst 0, 1) := by decide +kernel
theorem dX5_copyFrom_48 : decode cX5_copyFrom 48 = .ok (.bipush 8, 2) := by decide +kernel
theorem dX5_copyFrom_50 : decode cX5_copyFrom 50 = .ok (.invokestatic 38, 3) := by decide +kernel
theorem dX5_copyFrom_53 : decode cX5_copyFrom 53 = .ok (.aload_n 1, 1) := by decide +kernel
theorem dX5_copyFrom_54 : decode cX5_copyFrom 54 = .ok (.getfield 25, 3) := by decide +kernel
theorem dX5_copyFrom_57 : decode cX5_copyFrom 57 = .ok (.iconst 0, 1) := by decide +kernel
theorem dX5_copyFrom_58 : decode cX5_copyFrom 58 = .ok (.aload_n 0, 1) := by decide +kernel
theorem dX5_copyFrom_59 : decode cX5_copyFrom 59 = .ok (.getfield 25, 3) := by decide +kernel
theorem dX5_copyFrom_62 : decode cX5_copyFrom 62 = .ok (.iconst 0, 1) := by decide +kernel
theorem dX5_copyFrom_63 : decode cX5_copyFrom 63 = .ok (.bipush 8, 2) := by decide +kernel
theorem dX5_copyFrom_65 : decode cX5_copyFrom 65 = .ok (.invokestatic 38, 3) := by decide +kernel
theorem dX5_copyFrom_68 : decode cX5_copyFrom 68 = .ok (.aload_n 1, 1) := by decide +kernel
theorem dX5_copyFrom_69 : decode cX5_copyFrom 69 = .ok (.getfield 29, 3) := by decide +kernel
theorem dX5_copyFrom_72 : decode cX5_copyFrom 72 = .ok (.iconst 0, 1) := by decide +kernel
theorem dX5_copyFrom_73 : decode cX5_copyFrom 73 = .ok (.aload_n 0, 1) := by decide +kernel
theorem dX5_copyFrom_74 : decode cX5_copyFrom 74 = .ok (.getfield 29, 3) := by decide +kernel
theorem dX5_copyFrom_77 : decode cX5_copyFrom 77 = .ok (.iconst 0, 1) := by decide +kernel
theorem dX5_copyFrom_78 : decode cX5_copyFrom 78 = .ok (.bipush 8, 2) := by decide +kernel
theorem dX5_copyFrom_80 : decode cX5_copyFrom 80 = .ok (.invokestatic 38, 3) := by decide +kernel
theorem dX5_copyFrom_83 : decode cX5_copyFrom 83 = .ok (.aload_n 1, 1) := by decide +kernel
theorem dX5_copyFrom_84 : decode cX5_copyFrom 84 = .ok (.getfield 32, 3) := by decide +kernel
theorem dX5_copyFrom_87 : decode cX5_copyFrom 87 = .ok (.iconst 0, 1) := by decide +kernel
theorem dX5_copyFrom_88 : decode cX5_copyFrom 88 = .ok (.aload_n 0, 1) := by decide +kernel
theorem dX5_copyFrom_89 : decode cX5_copyFrom 89 = .ok (.getfield 32, 3) := by decide +kernel
theorem dX5_copyFrom_92 : decode cX5_copyFrom 92 = .ok (.iconst 0, 1) := by decide +kernel
theorem dX5_copyFrom_93 : decode cX5_copyFrom 93 = .ok (.bipush 8, 2) := by decide +kernel
theorem dX5_copyFrom_95 : decode cX5_copyFrom 95 = .ok (.invokestatic 38, 3) := by decide +kernel
theorem dX5_copyFrom_98 : decode cX5_copyFrom 98 = .ok (.aload_n 1, 1) := by decide +kernel
theorem dX5_copyFrom_99 : decode cX5_copyFrom 99 = .ok (.getfield 35, 3) := by decide +kernel
theorem dX5_copyFrom_102 : decode cX5_copyFrom 102 = .ok (.iconst 0, 1) := by decide +kernel
theorem dX5_copyFrom_103 : decode cX5_copyFrom 103 = .ok (.aload_n 0, 1) := by decide +kernel
theorem dX5_copyFrom_104 : decode cX5_copyFrom 104 = .ok (.getfield 35, 3) := by decide +kernel
theorem dX5_copyFrom_107 : decode cX5_copyFrom 107 = .ok (.iconst 0, 1) := by decide +kernel
theorem dX5_copyFrom_108 : decode cX5_copyFrom 108 = .ok (.bipush 8, 2) := by decide +kernel
theorem dX5_copyFrom_110 : decode cX5_copyFrom 110 = .ok (.invokestatic 38, 3) := by decide +kernel
theorem dX5_copyFrom_113 : decode cX5_copyFrom 113 = .ok (.return_, 1) := by decide +kernel
theorem dX5_sumOf_0 : decode cX5_sumOf 0 = .ok (.iconst 0, 1) := by decide +kernel
theorem dX5_sumOf_1 : decode cX5_sumOf 1 = .ok (.istore_n 2, 1) := by decide +kernel
theorem dX5_sumOf_2 : decode cX5_sumOf 2 = .ok (.iconst 0, 1) := by decide +kernel
theorem dX5_sumOf_3 : decode cX5_sumOf 3 = .ok (.istore_n 3, 1) := by decide +kernel
theorem dX5_sumOf_4 : decode cX5_sumOf 4 = .ok (.iload_n 3, 1) := by decide +kernel
theorem dX5_sumOf_5 : decode cX5_sumOf 5 = .ok (.aload_n 0, 1) := by decide +kernel
theorem dX5_sumOf_6 : decode cX5_sumOf 6 = .ok (.getfield 9, 3) := by decide +kernel
theorem dX5_sumOf_9 : decode cX5_sumOf 9 = .ok (.if_icmp .ge 21, 3) := by decide +kernel
theorem dX5_sumOf_12 : decode cX5_sumOf 12 = .ok (.iload_n 3, 1) := by decide +kernel
theorem dX5_sumOf_13 : decode cX5_sumOf 13 = .ok (.aload_n 1, 1) := by decide +kernel
theorem dX5_sumOf_14 : decode cX5_sumOf 14 = .ok (.arraylength, 1) := by decide +kernel
theorem dX5_sumOf_15 : decode cX5_sumOf 15 = .ok (.if_icmp .ge 15, 3) := by decide +kernel
theorem dX5_sumOf_18 : decode cX5_sumOf 18 = .ok (.iload_n 2, 1) := by decide +kernel
theorem dX5_sumOf_19 : decode cX5_sumOf 19 = .ok (.aload_n 1, 1) := by decide +kernel
theorem dX5_sumOf_20 : decode cX5_sumOf 20 = .ok (.iload_n 3, 1) := by decide +kernel
theorem dX5_sumOf_21 : decode cX5_sumOf 21 = .ok (.iaload, 1) := by decide +kernel
theorem dX5_sumOf_22 : decode cX5_sumOf 22 = .ok (.iadd, 1) := by decide +kernel
theorem dX5_sumOf_23 : decode cX5_sumOf 23 = .ok (.istore_n 2, 1) := by decide +kernel
theorem dX5_sumOf_24 : decode cX5_sumOf 24 = .ok (.iinc 3 1, 3) := by decide +kernel
theorem dX5_sumOf_27 : decode cX5_sumOf 27 = .ok (.goto (-23), 3) := by decide +kernel
theorem dX5_sumOf_30 : decode cX5_sumOf 30 = .ok (.iload_n 2, 1) := by decide +kernel
theorem dX5_sumOf_31 : decode cX5_sumOf 31 = .ok (.ireturn, 1) := by decide +kernel
set_option maxRecDepth 20000 in
theorem ggX5_allShares_X5_sumOf : GoodIn wsX5_allShares wsX5_sumOf := goodIn_ca (goodIn_r _ [6, 7, 8, 9, 10, 11, 12, 13, 14, 15] (by decide +kernel) (by decide +kernel)) (goodIn_sub (fun _ h => List.mem_cons_of_mem _ (List.mem_append_right _ h)) (by decide +kernel))
set_option maxRecDepth 20000 in
theorem gX5_allShares_X5_sumOf : GoodIn wsX5_allShares (wsV RX5 44 RX5 yX5_sumOf wsX5_sumOf) := goodIn_app (goodIn_of _ (by decide +kernel)) ggX5_allShares_X5_sumOf
theorem dX5_allShares_0 : decode cX5_allShares 0 = .ok (.aload_n 0, 1) := by decide +kernel
theorem dX5_allShares_1 : decode cX5_allShares 1 = .ok (.aload_n 0, 1) := by decide +kernel
theorem dX5_allShares_2 : decode cX5_allShares 2 = .ok (.getfield 19, 3) := by decide +kernel
theorem dX5_allShares_5 : decode cX5_allShares 5 = .ok (.invokevirtual 44, 3) := by decide +kernel
theorem dX5_allShares_8 : decode cX5_allShares 8 = .ok (.ireturn, 1) := by decide +kernel
theorem dX5_readyToBurn_0 : decode cX5_readyToBurn 0 = .ok (.aload_n 0, 1) := by decide +kernel
theorem dX5_readyToBurn_1 : decode cX5_readyToBurn 1 = .ok (.getfield 25, 3) := by decide +kernel
theorem dX5_readyToBurn_4 : decode cX5_readyToBurn 4 = .ok (.iload_n 1, 1) := by decide +kernel
theorem dX5_readyToBurn_5 : decode cX5_readyToBurn 5 = .ok (.baload, 1) := by decide +kernel
theorem dX5_readyToBurn_6 : decode cX5_readyToBurn 6 = .ok (.ifCond .eq 32, 3) := by decide +kernel
theorem dX5_readyToBurn_9 : decode cX5_readyToBurn 9 = .ok (.aload_n 0, 1) := by decide +kernel
theorem dX5_readyToBurn_10 : decode cX5_readyToBurn 10 = .ok (.getfield 29, 3) := by decide +kernel
theorem dX5_readyToBurn_13 : decode cX5_readyToBurn 13 = .ok (.iload_n 1, 1) := by decide +kernel
theorem dX5_readyToBurn_14 : decode cX5_readyToBurn 14 = .ok (.iaload, 1) := by decide +kernel
theorem dX5_readyToBurn_15 : decode cX5_readyToBurn 15 = .ok (.aload_n 0, 1) := by decide +kernel
theorem dX5_readyToBurn_16 : decode cX5_readyToBurn 16 = .ok (.getfield 22, 3) := by decide +kernel
theorem dX5_readyToBurn_19 : decode cX5_readyToBurn 19 = .ok (.iload_n 1, 1) := by decide +kernel
theorem dX5_readyToBurn_20 : decode cX5_readyToBurn 20 = .ok (.iaload, 1) := by decide +kernel
theorem dX5_readyToBurn_21 : decode cX5_readyToBurn 21 = .ok (.if_icmp .lt 17, 3) := by decide +kernel
theorem dX5_readyToBurn_24 : decode cX5_readyToBurn 24 = .ok (.aload_n 0, 1) := by decide +kernel
theorem dX5_readyToBurn_25 : decode cX5_readyToBurn 25 = .ok (.getfield 32, 3) := by decide +kernel
theorem dX5_readyToBurn_28 : decode cX5_readyToBurn 28 = .ok (.iload_n 1, 1) := by decide +kernel
theorem dX5_readyToBurn_29 : decode cX5_readyToBurn 29 = .ok (.iaload, 1) := by decide +kernel
theorem dX5_readyToBurn_30 : decode cX5_readyToBurn 30 = .ok (.iconst 1, 1) := by decide +kernel
theorem dX5_readyToBurn_31 : decode cX5_readyToBurn 31 = .ok (.if_icmp .lt 7, 3) := by decide +kernel
theorem dX5_readyToBurn_34 : decode cX5_readyToBurn 34 = .ok (.iconst 1, 1) := by decide +kernel
theorem dX5_readyToBurn_35 : decode cX5_readyToBurn 35 = .ok (.goto 4, 3) := by decide +kernel
theorem dX5_readyToBurn_38 : decode cX5_readyToBurn 38 = .ok (.iconst 0, 1) := by decide +kernel
theorem dX5_readyToBurn_39 : decode cX5_readyToBurn 39 = .ok (.ireturn, 1) := by decide +kernel
theorem dX5_nightsByFormula_0 : decode cX5_nightsByFormula 0 = .ok (.aload_n 0, 1) := by decide +kernel
theorem dX5_nightsByFormula_1 : decode cX5_nightsByFormula 1 = .ok (.getfield 22, 3) := by decide +kernel
theorem dX5_nightsByFormula_4 : decode cX5_nightsByFormula 4 = .ok (.iload_n 1, 1) := by decide +kernel
theorem dX5_nightsByFormula_5 : decode cX5_nightsByFormula 5 = .ok (.iaload, 1) := by decide +kernel
theorem dX5_nightsByFormula_6 : decode cX5_nightsByFormula 6 = .ok (.istore_n 2, 1) := by decide +kernel
theorem dX5_nightsByFormula_7 : decode cX5_nightsByFormula 7 = .ok (.iload_n 2, 1) := by decide +kernel
theorem dX5_nightsByFormula_8 : decode cX5_nightsByFormula 8 = .ok (.iconst 1, 1) := by decide +kernel
theorem dX5_nightsByFormula_9 : decode cX5_nightsByFormula 9 = .ok (.if_icmp .ge 7, 3) := by decide +kernel
theorem dX5_nightsByFormula_12 : decode cX5_nightsByFormula 12 = .ok (.iconst 0, 1) := by decide +kernel
theorem dX5_nightsByFormula_13 : decode cX5_nightsByFormula 13 = .ok (.goto 20, 3) := by decide +kernel
theorem dX5_nightsByFormula_16 : decode cX5_nightsByFormula 16 = .ok (.aload_n 0, 1) := by decide +kernel
theorem dX5_nightsByFormula_17 : decode cX5_nightsByFormula 17 = .ok (.getfield 29, 3) := by decide +kernel
theorem dX5_nightsByFormula_20 : decode cX5_nightsByFormula 20 = .ok (.iload_n 1, 1) := by decide +kernel
theorem dX5_nightsByFormula_21 : decode cX5_nightsByFormula 21 = .ok (.iaload, 1) := by decide +kernel
theorem dX5_nightsByFormula_22 : decode cX5_nightsByFormula 22 = .ok (.iload_n 2, 1) := by decide +kernel
theorem dX5_nightsByFormula_23 : decode cX5_nightsByFormula 23 = .ok (.idiv, 1) := by decide +kernel
theorem dX5_nightsByFormula_24 : decode cX5_nightsByFormula 24 = .ok (.aload_n 0, 1) := by decide +kernel
theorem dX5_nightsByFormula_25 : decode cX5_nightsByFormula 25 = .ok (.getfield 32, 3) := by decide +kernel
theorem dX5_nightsByFormula_28 : decode cX5_nightsByFormula 28 = .ok (.iload_n 1, 1) := by decide +kernel
theorem dX5_nightsByFormula_29 : decode cX5_nightsByFormula 29 = .ok (.iaload, 1) := by decide +kernel
theorem dX5_nightsByFormula_30 : decode cX5_nightsByFormula 30 = .ok (.invokestatic 48, 3) := by decide +kernel
theorem dX5_nightsByFormula_33 : decode cX5_nightsByFormula 33 = .ok (.ireturn, 1) := by decide +kernel
theorem dX5_nightsOneByOne_0 : decode cX5_nightsOneByOne 0 = .ok (.aload_n 0, 1) := by decide +kernel
theorem dX5_nightsOneByOne_1 : decode cX5_nightsOneByOne 1 = .ok (.getfield 29, 3) := by decide +kernel
theorem dX5_nightsOneByOne_4 : decode cX5_nightsOneByOne 4 = .ok (.iload_n 1, 1) := by decide +kernel
theorem dX5_nightsOneByOne_5 : decode cX5_nightsOneByOne 5 = .ok (.iaload, 1) := by decide +kernel
theorem dX5_nightsOneByOne_6 : decode cX5_nightsOneByOne 6 = .ok (.istore_n 2, 1) := by decide +kernel
theorem dX5_nightsOneByOne_7 : decode cX5_nightsOneByOne 7 = .ok (.iconst 0, 1) := by decide +kernel
theorem dX5_nightsOneByOne_8 : decode cX5_nightsOneByOne 8 = .ok (.istore_n 3, 1) := by decide +kernel
theorem dX5_nightsOneByOne_9 : decode cX5_nightsOneByOne 9 = .ok (.iload_n 3, 1) := by decide +kernel
theorem dX5_nightsOneByOne_10 : decode cX5_nightsOneByOne 10 = .ok (.aload_n 0, 1) := by decide +kernel
theorem dX5_nightsOneByOne_11 : decode cX5_nightsOneByOne 11 = .ok (.getfield 32, 3) := by decide +kernel
theorem dX5_nightsOneByOne_14 : decode cX5_nightsOneByOne 14 = .ok (.iload_n 1, 1) := by decide +kernel
theorem dX5_nightsOneByOne_15 : decode cX5_nightsOneByOne 15 = .ok (.iaload, 1) := by decide +kernel
theorem dX5_nightsOneByOne_16 : decode cX5_nightsOneByOne 16 = .ok (.if_icmp .ge 28, 3) := by decide +kernel
theorem dX5_nightsOneByOne_19 : decode cX5_nightsOneByOne 19 = .ok (.iload_n 2, 1) := by decide +kernel
theorem dX5_nightsOneByOne_20 : decode cX5_nightsOneByOne 20 = .ok (.aload_n 0, 1) := by decide +kernel
theorem dX5_nightsOneByOne_21 : decode cX5_nightsOneByOne 21 = .ok (.getfield 22, 3) := by decide +kernel
theorem dX5_nightsOneByOne_24 : decode cX5_nightsOneByOne 24 = .ok (.iload_n 1, 1) := by decide +kernel
theorem dX5_nightsOneByOne_25 : decode cX5_nightsOneByOne 25 = .ok (.iaload, 1) := by decide +kernel
theorem dX5_nightsOneByOne_26 : decode cX5_nightsOneByOne 26 = .ok (.if_icmp .lt 18, 3) := by decide +kernel
theorem dX5_nightsOneByOne_29 : decode cX5_nightsOneByOne 29 = .ok (.iload_n 2, 1) := by decide +kernel
theorem dX5_nightsOneByOne_30 : decode cX5_nightsOneByOne 30 = .ok (.aload_n 0, 1) := by decide +kernel
theorem dX5_nightsOneByOne_31 : decode cX5_nightsOneByOne 31 = .ok (.getfield 22, 3) := by decide +kernel
theorem dX5_nightsOneByOne_34 : decode cX5_nightsOneByOne 34 = .ok (.iload_n 1, 1) := by decide +kernel
theorem dX5_nightsOneByOne_35 : decode cX5_nightsOneByOne 35 = .ok (.iaload, 1) := by decide +kernel
theorem dX5_nightsOneByOne_36 : decode cX5_nightsOneByOne 36 = .ok (.isub, 1) := by decide +kernel
theorem dX5_nightsOneByOne_37 : decode cX5_nightsOneByOne 37 = .ok (.istore_n 2, 1) := by decide +kernel
theorem dX5_nightsOneByOne_38 : decode cX5_nightsOneByOne 38 = .ok (.iinc 3 1, 3) := by decide +kernel
theorem dX5_nightsOneByOne_41 : decode cX5_nightsOneByOne 41 = .ok (.goto (-32), 3) := by decide +kernel
theorem dX5_nightsOneByOne_44 : decode cX5_nightsOneByOne 44 = .ok (.iload_n 3, 1) := by decide +kernel
theorem dX5_nightsOneByOne_45 : decode cX5_nightsOneByOne 45 = .ok (.ireturn, 1) := by decide +kernel
set_option maxRecDepth 20000 in
theorem ggX5_glowIn_X5_readyToBurn : GoodIn wsX5_glowIn wsX5_readyToBurn := goodIn_ca (goodIn_r _ [8, 9, 10, 3, 11, 12, 13, 14, 15, 16, 17, 18, 19] (by decide +kernel) (by decide +kernel)) (goodIn_sub (fun _ h => List.mem_cons_of_mem _ (List.mem_append_right _ h)) (by decide +kernel))
set_option maxRecDepth 20000 in
theorem gX5_glowIn_X5_readyToBurn : GoodIn wsX5_glowIn (wsV RX5 54 RX5 yX5_readyToBurn wsX5_readyToBurn) := goodIn_app (goodIn_of _ (by decide +kernel)) ggX5_glowIn_X5_readyToBurn
theorem dX5_glowIn_0 : decode cX5_glowIn 0 = .ok (.iconst 0, 1) := by decide +kernel
theorem dX5_glowIn_1 : decode cX5_glowIn 1 = .ok (.istore_n 2, 1) := by decide +kernel
theorem dX5_glowIn_2 : decode cX5_glowIn 2 = .ok (.iconst 0, 1) := by decide +kernel
theorem dX5_glowIn_3 : decode cX5_glowIn 3 = .ok (.istore_n 3, 1) := by decide +kernel
theorem dX5_glowIn_4 : decode cX5_glowIn 4 = .ok (.iload_n 3, 1) := by decide +kernel
theorem dX5_glowIn_5 : decode cX5_glowIn 5 = .ok (.aload_n 0, 1) := by decide +kernel
theorem dX5_glowIn_6 : decode cX5_glowIn 6 = .ok (.getfield 9, 3) := by decide +kernel
theorem dX5_glowIn_9 : decode cX5_glowIn 9 = .ok (.if_icmp .ge 36, 3) := by decide +kernel
theorem dX5_glowIn_12 : decode cX5_glowIn 12 = .ok (.aload_n 0, 1) := by decide +kernel
theorem dX5_glowIn_13 : decode cX5_glowIn 13 = .ok (.getfield 15, 3) := by decide +kernel
theorem dX5_glowIn_16 : decode cX5_glowIn 16 = .ok (.iload_n 3, 1) := by decide +kernel
theorem dX5_glowIn_17 : decode cX5_glowIn 17 = .ok (.iaload, 1) := by decide +kernel
theorem dX5_glowIn_18 : decode cX5_glowIn 18 = .ok (.iload_n 1, 1) := by decide +kernel
theorem dX5_glowIn_19 : decode cX5_glowIn 19 = .ok (.if_icmp .ne 20, 3) := by decide +kernel
theorem dX5_glowIn_22 : decode cX5_glowIn 22 = .ok (.aload_n 0, 1) := by decide +kernel
theorem dX5_glowIn_23 : decode cX5_glowIn 23 = .ok (.iload_n 3, 1) := by decide +kernel
theorem dX5_glowIn_24 : decode cX5_glowIn 24 = .ok (.invokevirtual 54, 3) := by decide +kernel
theorem dX5_glowIn_27 : decode cX5_glowIn 27 = .ok (.ifCond .eq 12, 3) := by decide +kernel
theorem dX5_glowIn_30 : decode cX5_glowIn 30 = .ok (.iload_n 2, 1) := by decide +kernel
theorem dX5_glowIn_31 : decode cX5_glowIn 31 = .ok (.aload_n 0, 1) := by decide +kernel
theorem dX5_glowIn_32 : decode cX5_glowIn 32 = .ok (.getfield 22, 3) := by decide +kernel
theorem dX5_glowIn_35 : decode cX5_glowIn 35 = .ok (.iload_n 3, 1) := by decide +kernel
theorem dX5_glowIn_36 : decode cX5_glowIn 36 = .ok (.iaload, 1) := by decide +kernel
theorem dX5_glowIn_37 : decode cX5_glowIn 37 = .ok (.iadd, 1) := by decide +kernel
theorem dX5_glowIn_38 : decode cX5_glowIn 38 = .ok (.istore_n 2, 1) := by decide +kernel
theorem dX5_glowIn_39 : decode cX5_glowIn 39 = .ok (.iinc 3 1, 3) := by decide +kernel
theorem dX5_glowIn_42 : decode cX5_glowIn 42 = .ok (.goto (-38), 3) := by decide +kernel
theorem dX5_glowIn_45 : decode cX5_glowIn 45 = .ok (.iload_n 2, 1) := by decide +kernel
theorem dX5_glowIn_46 : decode cX5_glowIn 46 = .ok (.ireturn, 1) := by decide +kernel
theorem dX5_sharesFor_0 : decode cX5_sharesFor 0 = .ok (.iconst 0, 1) := by decide +kernel
theorem dX5_sharesFor_1 : decode cX5_sharesFor 1 = .ok (.istore_n 2, 1) := by decide +kernel
theorem dX5_sharesFor_2 : decode cX5_sharesFor 2 = .ok (.iconst 0, 1) := by decide +kernel
theorem dX5_sharesFor_3 : decode cX5_sharesFor 3 = .ok (.istore_n 3, 1) := by decide +kernel
theorem dX5_sharesFor_4 : decode cX5_sharesFor 4 = .ok (.iload_n 3, 1) := by decide +kernel
theorem dX5_sharesFor_5 : decode cX5_sharesFor 5 = .ok (.aload_n 0, 1) := by decide +kernel
theorem dX5_sharesFor_6 : decode cX5_sharesFor 6 = .ok (.getfield 9, 3) := by decide +kernel
theorem dX5_sharesFor_9 : decode cX5_sharesFor 9 = .ok (.if_icmp .ge 28, 3) := by decide +kernel
theorem dX5_sharesFor_12 : decode cX5_sharesFor 12 = .ok (.aload_n 0, 1) := by decide +kernel
theorem dX5_sharesFor_13 : decode cX5_sharesFor 13 = .ok (.getfield 22, 3) := by decide +kernel
theorem dX5_sharesFor_16 : decode cX5_sharesFor 16 = .ok (.iload_n 3, 1) := by decide +kernel
theorem dX5_sharesFor_17 : decode cX5_sharesFor 17 = .ok (.iaload, 1) := by decide +kernel
theorem dX5_sharesFor_18 : decode cX5_sharesFor 18 = .ok (.iload_n 1, 1) := by decide +kernel
theorem dX5_sharesFor_19 : decode cX5_sharesFor 19 = .ok (.if_icmp .gt 12, 3) := by decide +kernel
theorem dX5_sharesFor_22 : decode cX5_sharesFor 22 = .ok (.iload_n 2, 1) := by decide +kernel
theorem dX5_sharesFor_23 : decode cX5_sharesFor 23 = .ok (.aload_n 0, 1) := by decide +kernel
theorem dX5_sharesFor_24 : decode cX5_sharesFor 24 = .ok (.getfield 19, 3) := by decide +kernel
theorem dX5_sharesFor_27 : decode cX5_sharesFor 27 = .ok (.iload_n 3, 1) := by decide +kernel
theorem dX5_sharesFor_28 : decode cX5_sharesFor 28 = .ok (.iaload, 1) := by decide +kernel
theorem dX5_sharesFor_29 : decode cX5_sharesFor 29 = .ok (.iadd, 1) := by decide +kernel
theorem dX5_sharesFor_30 : decode cX5_sharesFor 30 = .ok (.istore_n 2, 1) := by decide +kernel
theorem dX5_sharesFor_31 : decode cX5_sharesFor 31 = .ok (.iinc 3 1, 3) := by decide +kernel
theorem dX5_sharesFor_34 : decode cX5_sharesFor 34 = .ok (.goto (-30), 3) := by decide +kernel
theorem dX5_sharesFor_37 : decode cX5_sharesFor 37 = .ok (.iload_n 2, 1) := by decide +kernel
theorem dX5_sharesFor_38 : decode cX5_sharesFor 38 = .ok (.ireturn, 1) := by decide +kernel
set_option maxRecDepth 20000 in
theorem ggX5_wouldCarry_X5_sharesFor : GoodIn wsX5_wouldCarry wsX5_sharesFor := goodIn_ca (goodIn_r _ [5, 6, 7, 8, 17, 18, 19, 20, 21, 22, 23, 24] (by decide +kernel) (by decide +kernel)) (goodIn_sub (fun _ h => List.mem_cons_of_mem _ (List.mem_append_right _ h)) (by decide +kernel))
set_option maxRecDepth 20000 in
theorem gX5_wouldCarry_X5_sharesFor : GoodIn wsX5_wouldCarry (wsV RX5 58 RX5 yX5_sharesFor wsX5_sharesFor) := goodIn_app (goodIn_of _ (by decide +kernel)) ggX5_wouldCarry_X5_sharesFor
set_option maxRecDepth 20000 in
theorem ggX5_wouldCarry_X5_allShares : GoodIn wsX5_wouldCarry wsX5_allShares := goodIn_ca (goodIn_r _ [12, 8, 13, 14, 15, 4, 16, 6, 17, 18, 19, 20, 21, 22, 23, 24] (by decide +kernel) (by decide +kernel)) (goodIn_sub (fun _ h => List.mem_cons_of_mem _ (List.mem_append_right _ h)) (by decide +kernel))
set_option maxRecDepth 20000 in
theorem gX5_wouldCarry_X5_allShares : GoodIn wsX5_wouldCarry (wsV RX5 62 RX5 yX5_allShares wsX5_allShares) := goodIn_app (goodIn_of _ (by decide +kernel)) ggX5_wouldCarry_X5_allShares
theorem dX5_wouldCarry_0 : decode cX5_wouldCarry 0 = .ok (.iconst 2, 1) := by decide +kernel
theorem dX5_wouldCarry_1 : decode cX5_wouldCarry 1 = .ok (.aload_n 0, 1) := by decide +kernel
theorem dX5_wouldCarry_2 : decode cX5_wouldCarry 2 = .ok (.iload_n 1, 1) := by decide +kernel
theorem dX5_wouldCarry_3 : decode cX5_wouldCarry 3 = .ok (.invokevirtual 58, 3) := by decide +kernel
theorem dX5_wouldCarry_6 : decode cX5_wouldCarry 6 = .ok (.imul, 1) := by decide +kernel
theorem dX5_wouldCarry_7 : decode cX5_wouldCarry 7 = .ok (.aload_n 0, 1) := by decide +kernel
theorem dX5_wouldCarry_8 : decode cX5_wouldCarry 8 = .ok (.invokevirtual 62, 3) := by decide +kernel
theorem dX5_wouldCarry_11 : decode cX5_wouldCarry 11 = .ok (.if_icmp .le 7, 3) := by decide +kernel
theorem dX5_wouldCarry_14 : decode cX5_wouldCarry 14 = .ok (.iconst 1, 1) := by decide +kernel
theorem dX5_wouldCarry_15 : decode cX5_wouldCarry 15 = .ok (.goto 4, 3) := by decide +kernel
theorem dX5_wouldCarry_18 : decode cX5_wouldCarry 18 = .ok (.iconst 0, 1) := by decide +kernel
theorem dX5_wouldCarry_19 : decode cX5_wouldCarry 19 = .ok (.ireturn, 1) := by decide +kernel
set_option maxRecDepth 20000 in
theorem ggX5_voteOnCap_X5_wouldCarry : GoodIn wsX5_voteOnCap wsX5_wouldCarry := goodIn_ca (goodIn_r _ [11, 12, 13, 14, 10, 15, 1, 2, 16, 17, 18, 19, 20, 21, 22, 23, 24, 25, 26, 27, 28, 29, 30, 31, 32] (by decide +kernel) (by decide +kernel)) (goodIn_sub (fun _ h => List.mem_cons_of_mem _ (List.mem_append_right _ h)) (by decide +kernel))
set_option maxRecDepth 20000 in
theorem gX5_voteOnCap_X5_wouldCarry : GoodIn wsX5_voteOnCap (wsV RX5 66 RX5 yX5_wouldCarry wsX5_wouldCarry) := goodIn_app (goodIn_of _ (by decide +kernel)) ggX5_voteOnCap_X5_wouldCarry
theorem dX5_voteOnCap_0 : decode cX5_voteOnCap 0 = .ok (.aload_n 0, 1) := by decide +kernel
theorem dX5_voteOnCap_1 : decode cX5_voteOnCap 1 = .ok (.iload_n 1, 1) := by decide +kernel
theorem dX5_voteOnCap_2 : decode cX5_voteOnCap 2 = .ok (.invokevirtual 66, 3) := by decide +kernel
theorem dX5_voteOnCap_5 : decode cX5_voteOnCap 5 = .ok (.ifCond .ne 5, 3) := by decide +kernel
theorem dX5_voteOnCap_8 : decode cX5_voteOnCap 8 = .ok (.iconst 0, 1) := by decide +kernel
theorem dX5_voteOnCap_9 : decode cX5_voteOnCap 9 = .ok (.ireturn, 1) := by decide +kernel
theorem dX5_voteOnCap_10 : decode cX5_voteOnCap 10 = .ok (.iconst 0, 1) := by decide +kernel
theorem dX5_voteOnCap_11 : decode cX5_voteOnCap 11 = .ok (.istore_n 2, 1) := by decide +kernel
theorem dX5_voteOnCap_12 : decode cX5_voteOnCap 12 = .ok (.iload_n 2, 1) := by decide +kernel
theorem dX5_voteOnCap_13 : decode cX5_voteOnCap 13 = .ok (.aload_n 0, 1) := by decide +kernel
theorem dX5_voteOnCap_14 : decode cX5_voteOnCap 14 = .ok (.getfield 9, 3) := by decide +kernel
theorem dX5_voteOnCap_17 : decode cX5_voteOnCap 17 = .ok (.if_icmp .ge 25, 3) := by decide +kernel
theorem dX5_voteOnCap_20 : decode cX5_voteOnCap 20 = .ok (.aload_n 0, 1) := by decide +kernel
theorem dX5_voteOnCap_21 : decode cX5_voteOnCap 21 = .ok (.getfield 22, 3) := by decide +kernel
theorem dX5_voteOnCap_24 : decode cX5_voteOnCap 24 = .ok (.iload_n 2, 1) := by decide +kernel
theorem dX5_voteOnCap_25 : decode cX5_voteOnCap 25 = .ok (.aload_n 0, 1) := by decide +kernel
theorem dX5_voteOnCap_26 : decode cX5_voteOnCap 26 = .ok (.getfield 22, 3) := by decide +kernel
theorem dX5_voteOnCap_29 : decode cX5_voteOnCap 29 = .ok (.iload_n 2, 1) := by decide +kernel
theorem dX5_voteOnCap_30 : decode cX5_voteOnCap 30 = .ok (.iaload, 1) := by decide +kernel
theorem dX5_voteOnCap_31 : decode cX5_voteOnCap 31 = .ok (.iload_n 1, 1) := by decide +kernel
theorem dX5_voteOnCap_32 : decode cX5_voteOnCap 32 = .ok (.invokestatic 48, 3) := by decide +kernel
theorem dX5_voteOnCap_35 : decode cX5_voteOnCap 35 = .ok (.iastore, 1) := by decide +kernel
theorem dX5_voteOnCap_36 : decode cX5_voteOnCap 36 = .ok (.iinc 2 1, 3) := by decide +kernel
theorem dX5_voteOnCap_39 : decode cX5_voteOnCap 39 = .ok (.goto (-27), 3) := by decide +kernel
theorem dX5_voteOnCap_42 : decode cX5_voteOnCap 42 = .ok (.iconst 1, 1) := by decide +kernel
theorem dX5_voteOnCap_43 : decode cX5_voteOnCap 43 = .ok (.ireturn, 1) := by decide +kernel
theorem dX6_init_0 : decode cX6_init 0 = .ok (.aload_n 0, 1) := by decide +kernel
theorem dX6_init_1 : decode cX6_init 1 = .ok (.invokespecial 3, 3) := by decide +kernel
theorem dX6_init_4 : decode cX6_init 4 = .ok (.aload_n 0, 1) := by decide +kernel
theorem dX6_init_5 : decode cX6_init 5 = .ok (.iconst 0, 1) := by decide +kernel
theorem dX6_init_6 : decode cX6_init 6 = .ok (.putfield 9, 3) := by decide +kernel
theorem dX6_init_9 : decode cX6_init 9 = .ok (.aload_n 0, 1) := by decide +kernel
theorem dX6_init_10 : decode cX6_init 10 = .ok (.bipush 6, 2) := by decide +kernel
theorem dX6_init_12 : decode cX6_init 12 = .ok (.newarray .int, 2) := by decide +kernel
theorem dX6_init_14 : decode cX6_init 14 = .ok (.putfield 15, 3) := by decide +kernel
theorem dX6_init_17 : decode cX6_init 17 = .ok (.aload_n 0, 1) := by decide +kernel
theorem dX6_init_18 : decode cX6_init 18 = .ok (.bipush 6, 2) := by decide +kernel
theorem dX6_init_20 : decode cX6_init 20 = .ok (.newarray .int, 2) := by decide +kernel
theorem dX6_init_22 : decode cX6_init 22 = .ok (.putfield 19, 3) := by decide +kernel
theorem dX6_init_25 : decode cX6_init 25 = .ok (.aload_n 0, 1) := by decide +kernel
theorem dX6_init_26 : decode cX6_init 26 = .ok (.bipush 6, 2) := by decide +kernel
theorem dX6_init_28 : decode cX6_init 28 = .ok (.newarray .int, 2) := by decide +kernel
theorem dX6_init_30 : decode cX6_init 30 = .ok (.putfield 22, 3) := by decide +kernel
theorem dX6_init_33 : decode cX6_init 33 = .ok (.return_, 1) := by decide +kernel
theorem dX6_has_0 : decode cX6_has 0 = .ok (.iload_n 1, 1) := by decide +kernel
theorem dX6_has_1 : decode cX6_has 1 = .ok (.ifCond .lt 15, 3) := by decide +kernel
theorem dX6_has_4 : decode cX6_has 4 = .ok (.iload_n 1, 1) := by decide +kernel
theorem dX6_has_5 : decode cX6_has 5 = .ok (.aload_n 0, 1) := by decide +kernel
theorem dX6_has_6 : decode cX6_has 6 = .ok (.getfield 9, 3) := by decide +kernel
theorem dX6_has_9 : decode cX6_has 9 = .ok (.if_icmp .ge 7, 3) := by decide +kernel
theorem dX6_has_12 : decode cX6_has 12 = .ok (.iconst 1, 1) := by decide +kernel
theorem dX6_has_13 : decode cX6_has 13 = .ok (.goto 4, 3) := by decide +kernel
theorem dX6_has_16 : decode cX6_has 16 = .ok (.iconst 0, 1) := by decide +kernel
theorem dX6_has_17 : decode cX6_has 17 = .ok (.ireturn, 1) := by decide +kernel
theorem dX6_onProbation_0 : decode cX6_onProbation 0 = .ok (.aload_n 0, 1) := by decide +kernel
theorem dX6_onProbation_1 : decode cX6_onProbation 1 = .ok (.getfield 22, 3) := by decide +kernel
theorem dX6_onProbation_4 : decode cX6_onProbation 4 = .ok (.iload_n 1, 1) := by decide +kernel
theorem dX6_onProbation_5 : decode cX6_onProbation 5 = .ok (.iaload, 1) := by decide +kernel
theorem dX6_onProbation_6 : decode cX6_onProbation 6 = .ok (.ifCond .le 7, 3) := by decide +kernel
theorem dX6_onProbation_9 : decode cX6_onProbation 9 = .ok (.iconst 1, 1) := by decide +kernel
theorem dX6_onProbation_10 : decode cX6_onProbation 10 = .ok (.goto 4, 3) := by decide +kernel
theorem dX6_onProbation_13 : decode cX6_onProbation 13 = .ok (.iconst 0, 1) := by decide +kernel
theorem dX6_onProbation_14 : decode cX6_onProbation 14 = .ok (.ireturn, 1) := by decide +kernel
theorem dX6_append_0 : decode cX6_append 0 = .ok (.aload_n 0, 1) := by decide +kernel
theorem dX6_append_1 : decode cX6_append 1 = .ok (.getfield 9, 3) := by decide +kernel
theorem dX6_append_4 : decode cX6_append 4 = .ok (.istore_n 2, 1) := by decide +kernel
theorem dX6_append_5 : decode cX6_append 5 = .ok (.aload_n 0, 1) := by decide +kernel
theorem dX6_append_6 : decode cX6_append 6 = .ok (.getfield 15, 3) := by decide +kernel
theorem dX6_append_9 : decode cX6_append 9 = .ok (.iload_n 2, 1) := by decide +kernel
theorem dX6_append_10 : decode cX6_append 10 = .ok (.iload_n 1, 1) := by decide +kernel
theorem dX6_append_11 : decode cX6_append 11 = .ok (.iastore, 1) := by decide +kernel
theorem dX6_append_12 : decode cX6_append 12 = .ok (.aload_n 0, 1) := by decide +kernel
theorem dX6_append_13 : decode cX6_append 13 = .ok (.getfield 19, 3) := by decide +kernel
theorem dX6_append_16 : decode cX6_append 16 = .ok (.iload_n 2, 1) := by decide +kernel
theorem dX6_append_17 : decode cX6_append 17 = .ok (.iconst 0, 1) := by decide +kernel
theorem dX6_append_18 : decode cX6_append 18 = .ok (.iastore, 1) := by decide +kernel
theorem dX6_append_19 : decode cX6_append 19 = .ok (.aload_n 0, 1) := by decide +kernel
theorem dX6_append_20 : decode cX6_append 20 = .ok (.getfield 22, 3) := by decide +kernel
theorem dX6_append_23 : decode cX6_append 23 = .ok (.iload_n 2, 1) := by decide +kernel
theorem dX6_append_24 : decode cX6_append 24 = .ok (.iconst 3, 1) := by decide +kernel
theorem dX6_append_25 : decode cX6_append 25 = .ok (.iastore, 1) := by decide +kernel
theorem dX6_append_26 : decode cX6_append 26 = .ok (.aload_n 0, 1) := by decide +kernel
theorem dX6_append_27 : decode cX6_append 27 = .ok (.dup, 1) := by decide +kernel
theorem dX6_append_28 : decode cX6_append 28 = .ok (.getfield 9, 3) := by decide +kernel
theorem dX6_append_31 : decode cX6_append 31 = .ok (.iconst 1, 1) := by decide +kernel
theorem dX6_append_32 : decode cX6_append 32 = .ok (.iadd, 1) := by decide +kernel
theorem dX6_append_33 : decode cX6_append 33 = .ok (.putfield 9, 3) := by decide +kernel
theorem dX6_append_36 : decode cX6_append 36 = .ok (.iload_n 2, 1) := by decide +kernel
theorem dX6_append_37 : decode cX6_append 37 = .ok (.ireturn, 1) := by decide +kernel
theorem dX6_forgetLamp_0 : decode cX6_forgetLamp 0 = .ok (.iconst 0, 1) := by decide +kernel
theorem dX6_forgetLamp_1 : decode cX6_forgetLamp 1 = .ok (.istore_n 2, 1) := by decide +kernel
theorem dX6_forgetLamp_2 : decode cX6_forgetLamp 2 = .ok (.iload_n 2, 1) := by decide +kernel
theorem dX6_forgetLamp_3 : decode cX6_forgetLamp 3 = .ok (.aload_n 0, 1) := by decide +kernel
theorem dX6_forgetLamp_4 : decode cX6_forgetLamp 4 = .ok (.getfield 9, 3) := by decide +kernel
theorem dX6_forgetLamp_7 : decode cX6_forgetLamp 7 = .ok (.if_icmp .ge 49, 3) := by decide +kernel
theorem dX6_forgetLamp_10 : decode cX6_forgetLamp 10 = .ok (.aload_n 0, 1) := by decide +kernel
theorem dX6_forgetLamp_11 : decode cX6_forgetLamp 11 = .ok (.getfield 15, 3) := by decide +kernel
theorem dX6_forgetLamp_14 : decode cX6_forgetLamp 14 = .ok (.iload_n 2, 1) := by decide +kernel
theorem dX6_forgetLamp_15 : decode cX6_forgetLamp 15 = .ok (.iaload, 1) := by decide +kernel
theorem dX6_forgetLamp_16 : decode cX6_forgetLamp 16 = .ok (.iload_n 1, 1) := by decide +kernel
theorem dX6_forgetLamp_17 : decode cX6_forgetLamp 17 = .ok (.if_icmp .ne 13, 3) := by decide +kernel
theorem dX6_forgetLamp_20 : decode cX6_forgetLamp 20 = .ok (.aload_n 0, 1) := by decide +kernel
theorem dX6_forgetLamp_21 : decode cX6_forgetLamp 21 = .ok (.getfield 15, 3) := by decide +kernel
theorem dX6_forgetLamp_24 : decode cX6_forgetLamp 24 = .ok (.iload_n 2, 1) := by decide +kernel
theorem dX6_forgetLamp_25 : decode cX6_forgetLamp 25 = .ok (.iconst (-1), 1) := by decide +kernel
theorem dX6_forgetLamp_26 : decode cX6_forgetLamp 26 = .ok (.iastore, 1) := by decide +kernel
theorem dX6_forgetLamp_27 : decode cX6_forgetLamp 27 = .ok (.goto 23, 3) := by decide +kernel
theorem dX6_forgetLamp_30 : decode cX6_forgetLamp 30 = .ok (.aload_n 0, 1) := by decide +kernel
theorem dX6_forgetLamp_31 : decode cX6_forgetLamp 31 = .ok (.getfield 15, 3) := by decide +kernel
theorem dX6_forgetLamp_34 : decode cX6_forgetLamp 34 = .ok (.iload_n 2, 1) := by decide +kernel
theorem dX6_forgetLamp_35 : decode cX6_forgetLamp 35 = .ok (.iaload, 1) := by decide +kernel
theorem dX6_forgetLamp_36 : decode cX6_forgetLamp 36 = .ok (.iload_n 1, 1) := by decide +kernel
theorem dX6_forgetLamp_37 : decode cX6_forgetLamp 37 = .ok (.if_icmp .le 13, 3) := by decide +kernel
theorem dX6_forgetLamp_40 : decode cX6_forgetLamp 40 = .ok (.aload_n 0, 1) := by decide +kernel
theorem dX6_forgetLamp_41 : decode cX6_forgetLamp 41 = .ok (.getfield 15, 3) := by decide +kernel
theorem dX6_forgetLamp_44 : decode cX6_forgetLamp 44 = .ok (.iload_n 2, 1) := by decide +kernel
theorem dX6_forgetLamp_45 : decode cX6_forgetLamp 45 = .ok (.dup2, 1) := by decide +kernel
theorem dX6_forgetLamp_46 : decode cX6_forgetLamp 46 = .ok (.iaload, 1) := by decide +kernel
theorem dX6_forgetLamp_47 : decode cX6_forgetLamp 47 = .ok (.iconst 1, 1) := by decide +kernel
theorem dX6_forgetLamp_48 : decode cX6_forgetLamp 48 = .ok (.isub, 1) := by decide +kernel
theorem dX6_forgetLamp_49 : decode cX6_forgetLamp 49 = .ok (.iastore, 1) := by decide +kernel
theorem dX6_forgetLamp_50 : decode cX6_forgetLamp 50 = .ok (.iinc 2 1, 3) := by decide +kernel
theorem dX6_forgetLamp_53 : decode cX6_forgetLamp 53 = .ok (.goto (-51), 3) := by decide +kernel
theorem dX6_forgetLamp_56 : decode cX6_forgetLamp 56 = .ok (.return_, 1) := by decide +kernel
theorem dX6_dismissStruck_0 : decode cX6_dismissStruck 0 = .ok (.iconst 0, 1) := by decide +kernel
theorem dX6_dismissStruck_1 : decode cX6_dismissStruck 1 = .ok (.istore_n 1, 1) := by decide +kernel
theorem dX6_dismissStruck_2 : decode cX6_dismissStruck 2 = .ok (.iconst 0, 1) := by decide +kernel
theorem dX6_dismissStruck_3 : decode cX6_dismissStruck 3 = .ok (.istore_n 2, 1) := by decide +kernel
theorem dX6_dismissStruck_4 : decode cX6_dismissStruck 4 = .ok (.iload_n 2, 1) := by decide +kernel
theorem dX6_dismissStruck_5 : decode cX6_dismissStruck 5 = .ok (.aload_n 0, 1) := by decide +kernel
theorem dX6_dismissStruck_6 : decode cX6_dismissStruck 6 = .ok (.getfield 9, 3) := by decide +kernel
theorem dX6_dismissStruck_9 : decode cX6_dismissStruck 9 = .ok (.if_icmp .ge 58, 3) := by decide +kernel
theorem dX6_dismissStruck_12 : decode cX6_dismissStruck 12 = .ok (.aload_n 0, 1) := by decide +kernel
theorem dX6_dismissStruck_13 : decode cX6_dismissStruck 13 = .ok (.getfield 19, 3) := by decide +kernel
theorem dX6_dismissStruck_16 : decode cX6_dismissStruck 16 = .ok (.iload_n 2, 1) := by decide +kernel
theorem dX6_dismissStruck_17 : decode cX6_dismissStruck 17 = .ok (.iaload, 1) := by decide +kernel
theorem dX6_dismissStruck_18 : decode cX6_dismissStruck 18 = .ok (.iconst 2, 1) := by decide +kernel
theorem dX6_dismissStruck_19 : decode cX6_dismissStruck 19 = .ok (.if_icmp .ge 42, 3) := by decide +kernel
theorem dX6_dismissStruck_22 : decode cX6_dismissStruck 22 = .ok (.aload_n 0, 1) := by decide +kernel
theorem dX6_dismissStruck_23 : decode cX6_dismissStruck 23 = .ok (.getfield 15, 3) := by decide +kernel
theorem dX6_dismissStruck_26 : decode cX6_dismissStruck 26 = .ok (.iload_n 1, 1) := by decide +kernel
theorem dX6_dismissStruck_27 : decode cX6_dismissStruck 27 = .ok (.aload_n 0, 1) := by decide +kernel
theorem dX6_dismissStruck_28 : decode cX6_dismissStruck 28 = .ok (.getfield 15, 3) := by decide +kernel
theorem dX6_dismissStruck_31 : decode cX6_dismissStruck 31 = .ok (.iload_n 2, 1) := by decide +kernel
theorem dX6_dismissStruck_32 : decode cX6_dismissStruck 32 = .ok (.iaload, 1) := by decide +kernel
theorem dX6_dismissStruck_33 : decode cX6_dismissStruck 33 = .ok (.iastore, 1) := by decide +kernel
theorem dX6_dismissStruck_34 : decode cX6_dismissStruck 34 = .ok (.aload_n 0, 1) := by decide +kernel
theorem dX6_dismissStruck_35 : decode cX6_dismissStruck 35 = .ok (.getfield 19, 3) := by decide +kernel
theorem dX6_dismissStruck_38 : decode cX6_dismissStruck 38 = .ok (.iload_n 1, 1) := by decide +kernel
theorem dX6_dismissStruck_39 : decode cX6_dismissStruck 39 = .ok (.aload_n 0, 1) := by decide +kernel
theorem dX6_dismissStruck_40 : decode cX6_dismissStruck 40 = .ok (.getfield 19, 3) := by decide +kernel
theorem dX6_dismissStruck_43 : decode cX6_dismissStruck 43 = .ok (.iload_n 2, 1) := by decide +kernel
theorem dX6_dismissStruck_44 : decode cX6_dismissStruck 44 = .ok (.iaload, 1) := by decide +kernel
theorem dX6_dismissStruck_45 : decode cX6_dismissStruck 45 = .ok (.iastore, 1) := by decide +kernel
theorem dX6_dismissStruck_46 : decode cX6_dismissStruck 46 = .ok (.aload_n 0, 1) := by decide +kernel
theorem dX6_dismissStruck_47 : decode cX6_dismissStruck 47 = .ok (.getfield 22, 3) := by decide +kernel
theorem dX6_dismissStruck_50 : decode cX6_dismissStruck 50 = .ok (.iload_n 1, 1) := by decide +kernel
theorem dX6_dismissStruck_51 : decode cX6_dismissStruck 51 = .ok (.aload_n 0, 1) := by decide +kernel
theorem dX6_dismissStruck_52 : decode cX6_dismissStruck 52 = .ok (.getfield 22, 3) := by decide +kernel
theorem dX6_dismissStruck_55 : decode cX6_dismissStruck 55 = .ok (.iload_n 2, 1) := by decide +kernel
theorem dX6_dismissStruck_56 : decode cX6_dismissStruck 56 = .ok (.iaload, 1) := by decide +kernel
theorem dX6_dismissStruck_57 : decode cX6_dismissStruck 57 = .ok (.iastore, 1) := by decide +kernel
theorem dX6_dismissStruck_58 : decode cX6_dismissStruck 58 = .ok (.iinc 1 1, 3) := by decide +kernel
theorem dX6_dismissStruck_61 : decode cX6_dismissStruck 61 = .ok (.iinc 2 1, 3) := by decide +kernel
theorem dX6_dismissStruck_64 : decode cX6_dismissStruck 64 = .ok (.goto (-60), 3) := by decide +kernel
theorem dX6_dismissStruck_67 : decode cX6_dismissStruck 67 = .ok (.aload_n 0, 1) := by decide +kernel
theorem dX6_dismissStruck_68 : decode cX6_dismissStruck 68 = .ok (.iload_n 1, 1) := by decide +kernel
theorem dX6_dismissStruck_69 : decode cX6_dismissStruck 69 = .ok (.putfield 9, 3) := by decide +kernel
theorem dX6_dismissStruck_72 : decode cX6_dismissStruck 72 = .ok (.return_, 1) := by decide +kernel
theorem dX6_copyFrom_0 : decode cX6_copyFrom 0 = .ok (.aload_n 0, 1) := by decide +kernel
theorem dX6_copyFrom_1 : decode cX6_copyFrom 1 = .ok (.aload_n 1, 1) := by decide +kernel
theorem dX6_copyFrom_2 : decode cX6_copyFrom 2 = .ok (.getfield 9, 3) := by decide +kernel
theorem dX6_copyFrom_5 : decode cX6_copyFrom 5 = .ok (.putfield 9, 3) := by decide +kernel
theorem dX6_copyFrom_8 : decode cX6_copyFrom 8 = .ok (.aload_n 1, 1) := by decide +kernel
theorem dX6_copyFrom_9 : decode cX6_copyFrom 9 = .ok (.getfield 15, 3) := by decide +kernel
theorem dX6_copyFrom_12 : decode cX6_copyFrom 12 = .ok (.iconst 0, 1) := by decide +kernel
theorem dX6_copyFrom_13 : decode cX6_copyFrom 13 = .ok (.aload_n 0, 1) := by decide +kernel
theorem dX6_copyFrom_14 : decode cX6_copyFrom 14 = .ok (.getfield 15, 3) := by decide +kernel
theorem dX6_copyFrom_17 : decode cX6_copyFrom 17 = .ok (.iconst 0, 1) := by decide +kernel
theorem dX6_copyFrom_18 : decode cX6_copyFrom 18 = .ok (.bipush 6, 2) := by decide +kernel
theorem dX6_copyFrom_20 : decode cX6_copyFrom 20 = .ok (.invokestatic 25, 3) := by decide +kernel
theorem dX6_copyFrom_23 : decode cX6_copyFrom 23 = .ok (.aload_n 1, 1) := by decide +kernel
theorem dX6_copyFrom_24 : decode cX6_copyFrom 24 = .ok (.getfield 19, 3) := by decide +kernel
theorem dX6_copyFrom_27 : decode cX6_copyFrom 27 = .ok (.iconst 0, 1) := by decide +kernel
theorem dX6_copyFrom_28 : decode cX6_copyFrom 28 = .ok (.aload_n 0, 1) := by decide +kernel
theorem dX6_copyFrom_29 : decode cX6_copyFrom 29 = .ok (.getfield 19, 3) := by decide +kernel
theorem dX6_copyFrom_32 : decode cX6_copyFrom 32 = .ok (.iconst 0, 1) := by decide +kernel
theorem dX6_copyFrom_33 : decode cX6_copyFrom 33 = .ok (.bipush 6, 2) := by decide +kernel
theorem dX6_copyFrom_35 : decode cX6_copyFrom 35 = .ok (.invokestatic 25, 3) := by decide +kernel
theorem dX6_copyFrom_38 : decode cX6_copyFrom 38 = .ok (.aload_n 1, 1) := by decide +kernel
theorem dX6_copyFrom_39 : decode cX6_copyFrom 39 = .ok (.getfield 22, 3) := by decide +kernel
theorem dX6_copyFrom_42 : decode cX6_copyFrom 42 = .ok (.iconst 0, 1) := by decide +kernel
theorem dX6_copyFrom_43 : decode cX6_copyFrom 43 = .ok (.aload_n 0, 1) := by decide +kernel
theorem dX6_copyFrom_44 : decode cX6_copyFrom 44 = .ok (.getfield 22, 3) := by decide +kernel
theorem dX6_copyFrom_47 : decode cX6_copyFrom 47 = .ok (.iconst 0, 1) := by decide +kernel
theorem dX6_copyFrom_48 : decode cX6_copyFrom 48 = .ok (.bipush 6, 2) := by decide +kernel
theorem dX6_copyFrom_50 : decode cX6_copyFrom 50 = .ok (.invokestatic 25, 3) := by decide +kernel
theorem dX6_copyFrom_53 : decode cX6_copyFrom 53 = .ok (.return_, 1) := by decide +kernel
theorem dX7_init_0 : decode cX7_init 0 = .ok (.aload_n 0, 1) := by decide +kernel
theorem dX7_init_1 : decode cX7_init 1 = .ok (.invokespecial 3, 3) := by decide +kernel
theorem dX7_init_4 : decode cX7_init 4 = .ok (.aload_n 0, 1) := by decide +kernel
theorem dX7_init_5 : decode cX7_init 5 = .ok (.bipush 8, 2) := by decide +kernel
theorem dX7_init_7 : decode cX7_init 7 = .ok (.newarray .boolean, 2) := by decide +kernel
theorem dX7_init_9 : decode cX7_init 9 = .ok (.putfield 9, 3) := by decide +kernel
theorem dX7_init_12 : decode cX7_init 12 = .ok (.return_, 1) := by decide +kernel
set_option maxRecDepth 20000 in
theorem ggX7_pass_X7_burnLamps : GoodIn wsX7_pass wsX7_burnLamps := goodIn_ca (goodIn_r _ [9, 10, 11, 12, 13, 14, 15, 16, 17, 18, 19, 20, 21, 22, 23, 24, 25, 77, 78, 79, 80, 81, 82, 83, 84, 85, 67, 68, 69, 70, 71, 72, 73, 74, 75, 76] (by decide +kernel) (by decide +kernel)) (goodIn_sub (fun _ h => List.mem_cons_of_mem _ (List.mem_append_right _ h)) (by decide +kernel))
set_option maxRecDepth 20000 in
theorem gX7_pass_X7_burnLamps : GoodIn wsX7_pass (wsV RX7 25 RX7 yX7_burnLamps wsX7_burnLamps) := goodIn_app (goodIn_of _ (by decide +kernel)) ggX7_pass_X7_burnLamps
set_option maxRecDepth 20000 in
theorem ggX7_pass_X7_letMothsAct : GoodIn wsX7_pass wsX7_letMothsAct := goodIn_ca (goodIn_r _ [29, 3, 30, 31, 1, 11, 12, 2, 32, 33, 34, 35, 36, 37, 20, 38, 39, 40, 41, 42, 43, 44, 45, 64, 65, 66, 86, 87, 88, 89, 85, 77, 78, 79, 80, 81, 82, 83, 84, 67, 68, 69, 70, 71, 72, 73, 74, 75, 76] (by decide +kernel) (by decide +kernel)) (goodIn_sub (fun _ h => List.mem_cons_of_mem _ (List.mem_append_right _ h)) (by decide +kernel))
set_option maxRecDepth 20000 in
theorem gX7_pass_X7_letMothsAct : GoodIn wsX7_pass (wsV RX7 29 RX7 yX7_letMothsAct wsX7_letMothsAct) := goodIn_app (goodIn_of _ (by decide +kernel)) ggX7_pass_X7_letMothsAct
set_option maxRecDepth 20000 in
theorem ggX7_pass_X6_dismissStruck : GoodIn wsX7_pass wsX6_dismissStruck := goodIn_ca (goodIn_r _ [49, 50, 51, 52, 45, 86, 87, 88, 89] (by decide +kernel) (by decide +kernel)) (goodIn_sub (fun _ h => List.mem_cons_of_mem _ (List.mem_append_right _ h)) (by decide +kernel))
set_option maxRecDepth 20000 in
theorem gX7_pass_X6_dismissStruck : GoodIn wsX7_pass (wsV RX7 37 RX6 yX6_dismissStruck wsX6_dismissStruck) := goodIn_app (goodIn_of _ (by decide +kernel)) ggX7_pass_X6_dismissStruck
set_option maxRecDepth 20000 in
theorem ggX7_pass_X7_paySubsidies : GoodIn wsX7_pass wsX7_paySubsidies := goodIn_ca (goodIn_r _ [56, 57, 58, 59, 60, 61, 8, 62, 10, 63, 11, 67, 68, 69, 70, 71, 72, 73, 74, 75, 76, 77, 78, 79, 80, 81, 82, 83, 84, 85] (by decide +kernel) (by decide +kernel)) (goodIn_sub (fun _ h => List.mem_cons_of_mem _ (List.mem_append_right _ h)) (by decide +kernel))
set_option maxRecDepth 20000 in
theorem gX7_pass_X7_paySubsidies : GoodIn wsX7_pass (wsV RX7 42 RX7 yX7_paySubsidies wsX7_paySubsidies) := goodIn_app (goodIn_of _ (by decide +kernel)) ggX7_pass_X7_paySubsidies
theorem dX7_pass_0 : decode cX7_pass 0 = .ok (.aload_n 0, 1) := by decide +kernel
theorem dX7_pass_1 : decode cX7_pass 1 = .ok (.aload_n 1, 1) := by decide +kernel
theorem dX7_pass_2 : decode cX7_pass 2 = .ok (.getfield 15, 3) := by decide +kernel
theorem dX7_pass_5 : decode cX7_pass 5 = .ok (.aload_n 1, 1) := by decide +kernel
theorem dX7_pass_6 : decode cX7_pass 6 = .ok (.getfield 21, 3) := by decide +kernel
theorem dX7_pass_9 : decode cX7_pass 9 = .ok (.invokevirtual 25, 3) := by decide +kernel
theorem dX7_pass_12 : decode cX7_pass 12 = .ok (.istore_n 2, 1) := by decide +kernel
theorem dX7_pass_13 : decode cX7_pass 13 = .ok (.aload_n 0, 1) := by decide +kernel
theorem dX7_pass_14 : decode cX7_pass 14 = .ok (.aload_n 1, 1) := by decide +kernel
theorem dX7_pass_15 : decode cX7_pass 15 = .ok (.invokevirtual 29, 3) := by decide +kernel
theorem dX7_pass_18 : decode cX7_pass 18 = .ok (.aload_n 1, 1) := by decide +kernel
theorem dX7_pass_19 : decode cX7_pass 19 = .ok (.getfield 33, 3) := by decide +kernel
theorem dX7_pass_22 : decode cX7_pass 22 = .ok (.invokevirtual 37, 3) := by decide +kernel
theorem dX7_pass_25 : decode cX7_pass 25 = .ok (.aload_n 0, 1) := by decide +kernel
theorem dX7_pass_26 : decode cX7_pass 26 = .ok (.aload_n 1, 1) := by decide +kernel
theorem dX7_pass_27 : decode cX7_pass 27 = .ok (.getfield 15, 3) := by decide +kernel
theorem dX7_pass_30 : decode cX7_pass 30 = .ok (.aload_n 1, 1) := by decide +kernel
theorem dX7_pass_31 : decode cX7_pass 31 = .ok (.getfield 21, 3) := by decide +kernel
theorem dX7_pass_34 : decode cX7_pass 34 = .ok (.invokevirtual 42, 3) := by decide +kernel
theorem dX7_pass_37 : decode cX7_pass 37 = .ok (.aload_n 1, 1) := by decide +kernel
theorem dX7_pass_38 : decode cX7_pass 38 = .ok (.getfield 21, 3) := by decide +kernel
theorem dX7_pass_41 : decode cX7_pass 41 = .ok (.dup, 1) := by decide +kernel
theorem dX7_pass_42 : decode cX7_pass 42 = .ok (.getfield 46, 3) := by decide +kernel
theorem dX7_pass_45 : decode cX7_pass 45 = .ok (.iconst 1, 1) := by decide +kernel
theorem dX7_pass_46 : decode cX7_pass 46 = .ok (.iadd, 1) := by decide +kernel
theorem dX7_pass_47 : decode cX7_pass 47 = .ok (.putfield 46, 3) := by decide +kernel
theorem dX7_pass_50 : decode cX7_pass 50 = .ok (.iload_n 2, 1) := by decide +kernel
theorem dX7_pass_51 : decode cX7_pass 51 = .ok (.ireturn, 1) := by decide +kernel
set_option maxRecDepth 20000 in
theorem ggX7_burnLamps_X5_readyToBurn : GoodIn wsX7_burnLamps wsX5_readyToBurn := goodIn_ca (goodIn_r _ [12, 13, 14, 15, 16, 17, 18, 19, 20, 21, 22, 23, 24] (by decide +kernel) (by decide +kernel)) (goodIn_sub (fun _ h => List.mem_cons_of_mem _ (List.mem_append_right _ h)) (by decide +kernel))
set_option maxRecDepth 20000 in
theorem gX7_burnLamps_X5_readyToBurn : GoodIn wsX7_burnLamps (wsV RX7 57 RX5 yX5_readyToBurn wsX5_readyToBurn) := goodIn_app (goodIn_of _ (by decide +kernel)) ggX7_burnLamps_X5_readyToBurn
theorem dX7_burnLamps_0 : decode cX7_burnLamps 0 = .ok (.iconst 0, 1) := by decide +kernel
theorem dX7_burnLamps_1 : decode cX7_burnLamps 1 = .ok (.istore_n 3, 1) := by decide +kernel
theorem dX7_burnLamps_2 : decode cX7_burnLamps 2 = .ok (.iconst 0, 1) := by decide +kernel
theorem dX7_burnLamps_3 : decode cX7_burnLamps 3 = .ok (.istore 4, 2) := by decide +kernel
theorem dX7_burnLamps_5 : decode cX7_burnLamps 5 = .ok (.iload 4, 2) := by decide +kernel
theorem dX7_burnLamps_7 : decode cX7_burnLamps 7 = .ok (.aload_n 1, 1) := by decide +kernel
theorem dX7_burnLamps_8 : decode cX7_burnLamps 8 = .ok (.getfield 52, 3) := by decide +kernel
theorem dX7_burnLamps_11 : decode cX7_burnLamps 11 = .ok (.if_icmp .ge 89, 3) := by decide +kernel
theorem dX7_burnLamps_14 : decode cX7_burnLamps 14 = .ok (.aload_n 0, 1) := by decide +kernel
theorem dX7_burnLamps_15 : decode cX7_burnLamps 15 = .ok (.getfield 9, 3) := by decide +kernel
theorem dX7_burnLamps_18 : decode cX7_burnLamps 18 = .ok (.iload 4, 2) := by decide +kernel
theorem dX7_burnLamps_20 : decode cX7_burnLamps 20 = .ok (.aload_n 1, 1) := by decide +kernel
theorem dX7_burnLamps_21 : decode cX7_burnLamps 21 = .ok (.iload 4, 2) := by decide +kernel
theorem dX7_burnLamps_23 : decode cX7_burnLamps 23 = .ok (.invokevirtual 57, 3) := by decide +kernel
theorem dX7_burnLamps_26 : decode cX7_burnLamps 26 = .ok (.bastore, 1) := by decide +kernel
theorem dX7_burnLamps_27 : decode cX7_burnLamps 27 = .ok (.aload_n 0, 1) := by decide +kernel
theorem dX7_burnLamps_28 : decode cX7_burnLamps 28 = .ok (.getfield 9, 3) := by decide +kernel
theorem dX7_burnLamps_31 : decode cX7_burnLamps 31 = .ok (.iload 4, 2) := by decide +kernel
theorem dX7_burnLamps_33 : decode cX7_burnLamps 33 = .ok (.baload, 1) := by decide +kernel
theorem dX7_burnLamps_34 : decode cX7_burnLamps 34 = .ok (.ifCond .eq 60, 3) := by decide +kernel
theorem dX7_burnLamps_37 : decode cX7_burnLamps 37 = .ok (.aload_n 1, 1) := by decide +kernel
theorem dX7_burnLamps_38 : decode cX7_burnLamps 38 = .ok (.getfield 61, 3) := by decide +kernel
theorem dX7_burnLamps_41 : decode cX7_burnLamps 41 = .ok (.iload 4, 2) := by decide +kernel
theorem dX7_burnLamps_43 : decode cX7_burnLamps 43 = .ok (.dup2, 1) := by decide +kernel
theorem dX7_burnLamps_44 : decode cX7_burnLamps 44 = .ok (.iaload, 1) := by decide +kernel
theorem dX7_burnLamps_45 : decode cX7_burnLamps 45 = .ok (.aload_n 1, 1) := by decide +kernel
theorem dX7_burnLamps_46 : decode cX7_burnLamps 46 = .ok (.getfield 65, 3) := by decide +kernel
theorem dX7_burnLamps_49 : decode cX7_burnLamps 49 = .ok (.iload 4, 2) := by decide +kernel
theorem dX7_burnLamps_51 : decode cX7_burnLamps 51 = .ok (.iaload, 1) := by decide +kernel
theorem dX7_burnLamps_52 : decode cX7_burnLamps 52 = .ok (.isub, 1) := by decide +kernel
theorem dX7_burnLamps_53 : decode cX7_burnLamps 53 = .ok (.iastore, 1) := by decide +kernel
theorem dX7_burnLamps_54 : decode cX7_burnLamps 54 = .ok (.aload_n 1, 1) := by decide +kernel
theorem dX7_burnLamps_55 : decode cX7_burnLamps 55 = .ok (.getfield 68, 3) := by decide +kernel
theorem dX7_burnLamps_58 : decode cX7_burnLamps 58 = .ok (.iload 4, 2) := by decide +kernel
theorem dX7_burnLamps_60 : decode cX7_burnLamps 60 = .ok (.dup2, 1) := by decide +kernel
theorem dX7_burnLamps_61 : decode cX7_burnLamps 61 = .ok (.iaload, 1) := by decide +kernel
theorem dX7_burnLamps_62 : decode cX7_burnLamps 62 = .ok (.iconst 1, 1) := by decide +kernel
theorem dX7_burnLamps_63 : decode cX7_burnLamps 63 = .ok (.isub, 1) := by decide +kernel
theorem dX7_burnLamps_64 : decode cX7_burnLamps 64 = .ok (.iastore, 1) := by decide +kernel
theorem dX7_burnLamps_65 : decode cX7_burnLamps 65 = .ok (.aload_n 2, 1) := by decide +kernel
theorem dX7_burnLamps_66 : decode cX7_burnLamps 66 = .ok (.dup, 1) := by decide +kernel
theorem dX7_burnLamps_67 : decode cX7_burnLamps 67 = .ok (.getfield 71, 3) := by decide +kernel
theorem dX7_burnLamps_70 : decode cX7_burnLamps 70 = .ok (.aload_n 1, 1) := by decide +kernel
theorem dX7_burnLamps_71 : decode cX7_burnLamps 71 = .ok (.getfield 65, 3) := by decide +kernel
theorem dX7_burnLamps_74 : decode cX7_burnLamps 74 = .ok (.iload 4, 2) := by decide +kernel
theorem dX7_burnLamps_76 : decode cX7_burnLamps 76 = .ok (.iaload, 1) := by decide +kernel
theorem dX7_burnLamps_77 : decode cX7_burnLamps 77 = .ok (.iadd, 1) := by decide +kernel
theorem dX7_burnLamps_78 : decode cX7_burnLamps 78 = .ok (.putfield 71, 3) := by decide +kernel
theorem dX7_burnLamps_81 : decode cX7_burnLamps 81 = .ok (.aload_n 2, 1) := by decide +kernel
theorem dX7_burnLamps_82 : decode cX7_burnLamps 82 = .ok (.dup, 1) := by decide +kernel
theorem dX7_burnLamps_83 : decode cX7_burnLamps 83 = .ok (.getfield 74, 3) := by decide +kernel
theorem dX7_burnLamps_86 : decode cX7_burnLamps 86 = .ok (.iconst 1, 1) := by decide +kernel
theorem dX7_burnLamps_87 : decode cX7_burnLamps 87 = .ok (.iadd, 1) := by decide +kernel
theorem dX7_burnLamps_88 : decode cX7_burnLamps 88 = .ok (.putfield 74, 3) := by decide +kernel
theorem dX7_burnLamps_91 : decode cX7_burnLamps 91 = .ok (.iinc 3 1, 3) := by decide +kernel
theorem dX7_burnLamps_94 : decode cX7_burnLamps 94 = .ok (.iinc 4 1, 3) := by decide +kernel
theorem dX7_burnLamps_97 : decode cX7_burnLamps 97 = .ok (.goto (-92), 3) := by decide +kernel
theorem dX7_burnLamps_100 : decode cX7_burnLamps 100 = .ok (.iload_n 3, 1) := by decide +kernel
theorem dX7_burnLamps_101 : decode cX7_burnLamps 101 = .ok (.ireturn, 1) := by decide +kernel
set_option maxRecDepth 20000 in
theorem ggX7_letMothsAct_X5_has : GoodIn wsX7_letMothsAct wsX5_has := goodIn_r _ [15, 16, 31, 32, 33, 34, 35, 36, 37, 38] (by decide +kernel) (by decide +kernel)
set_option maxRecDepth 20000 in
theorem gX7_letMothsAct_X5_has : GoodIn wsX7_letMothsAct (wsV RX7 81 RX5 yX5_has wsX5_has) := goodIn_app (goodIn_of _ (by decide +kernel)) ggX7_letMothsAct_X5_has
set_option maxRecDepth 20000 in
theorem ggX7_letMothsAct_X6_onProbation : GoodIn wsX7_letMothsAct wsX6_onProbation := goodIn_ca (goodIn_r _ [21, 22, 26, 27, 28, 29] (by decide +kernel) (by decide +kernel)) (goodIn_sub (fun _ h => List.mem_cons_of_mem _ (List.mem_append_right _ h)) (by decide +kernel))
set_option maxRecDepth 20000 in
theorem gX7_letMothsAct_X6_onProbation : GoodIn wsX7_letMothsAct (wsV RX7 84 RX6 yX6_onProbation wsX6_onProbation) := goodIn_app (goodIn_of _ (by decide +kernel)) ggX7_letMothsAct_X6_onProbation
theorem dX7_letMothsAct_0 : decode cX7_letMothsAct 0 = .ok (.iconst 0, 1) := by decide +kernel
theorem dX7_letMothsAct_1 : decode cX7_letMothsAct 1 = .ok (.istore_n 2, 1) := by decide +kernel
theorem dX7_letMothsAct_2 : decode cX7_letMothsAct 2 = .ok (.iload_n 2, 1) := by decide +kernel
theorem dX7_letMothsAct_3 : decode cX7_letMothsAct 3 = .ok (.aload_n 1, 1) := by decide +kernel
theorem dX7_letMothsAct_4 : decode cX7_letMothsAct 4 = .ok (.getfield 33, 3) := by decide +kernel
theorem dX7_letMothsAct_7 : decode cX7_letMothsAct 7 = .ok (.getfield 77, 3) := by decide +kernel
theorem dX7_letMothsAct_10 : decode cX7_letMothsAct 10 = .ok (.if_icmp .ge 137, 3) := by decide +kernel
theorem dX7_letMothsAct_13 : decode cX7_letMothsAct 13 = .ok (.aload_n 1, 1) := by decide +kernel
theorem dX7_letMothsAct_14 : decode cX7_letMothsAct 14 = .ok (.getfield 33, 3) := by decide +kernel
theorem dX7_letMothsAct_17 : decode cX7_letMothsAct 17 = .ok (.getfield 78, 3) := by decide +kernel
theorem dX7_letMothsAct_20 : decode cX7_letMothsAct 20 = .ok (.iload_n 2, 1) := by decide +kernel
theorem dX7_letMothsAct_21 : decode cX7_letMothsAct 21 = .ok (.iaload, 1) := by decide +kernel
theorem dX7_letMothsAct_22 : decode cX7_letMothsAct 22 = .ok (.istore_n 3, 1) := by decide +kernel
theorem dX7_letMothsAct_23 : decode cX7_letMothsAct 23 = .ok (.aload_n 1, 1) := by decide +kernel
theorem dX7_letMothsAct_24 : decode cX7_letMothsAct 24 = .ok (.getfield 15, 3) := by decide +kernel
theorem dX7_letMothsAct_27 : decode cX7_letMothsAct 27 = .ok (.iload_n 3, 1) := by decide +kernel
theorem dX7_letMothsAct_28 : decode cX7_letMothsAct 28 = .ok (.invokevirtual 81, 3) := by decide +kernel
theorem dX7_letMothsAct_31 : decode cX7_letMothsAct 31 = .ok (.ifCond .eq 16, 3) := by decide +kernel
theorem dX7_letMothsAct_34 : decode cX7_letMothsAct 34 = .ok (.aload_n 0, 1) := by decide +kernel
theorem dX7_letMothsAct_35 : decode cX7_letMothsAct 35 = .ok (.getfield 9, 3) := by decide +kernel
theorem dX7_letMothsAct_38 : decode cX7_letMothsAct 38 = .ok (.iload_n 3, 1) := by decide +kernel
theorem dX7_letMothsAct_39 : decode cX7_letMothsAct 39 = .ok (.baload, 1) := by decide +kernel
theorem dX7_letMothsAct_40 : decode cX7_letMothsAct 40 = .ok (.ifCond .eq 7, 3) := by decide +kernel
theorem dX7_letMothsAct_43 : decode cX7_letMothsAct 43 = .ok (.iconst 1, 1) := by decide +kernel
theorem dX7_letMothsAct_44 : decode cX7_letMothsAct 44 = .ok (.goto 4, 3) := by decide +kernel
theorem dX7_letMothsAct_47 : decode cX7_letMothsAct 47 = .ok (.iconst 0, 1) := by decide +kernel
theorem dX7_letMothsAct_48 : decode cX7_letMothsAct 48 = .ok (.istore 4, 2) := by decide +kernel
theorem dX7_letMothsAct_50 : decode cX7_letMothsAct 50 = .ok (.aload_n 1, 1) := by decide +kernel
theorem dX7_letMothsAct_51 : decode cX7_letMothsAct 51 = .ok (.getfield 33, 3) := by decide +kernel
theorem dX7_letMothsAct_54 : decode cX7_letMothsAct 54 = .ok (.iload_n 2, 1) := by decide +kernel
theorem dX7_letMothsAct_55 : decode cX7_letMothsAct 55 = .ok (.invokevirtual 84, 3) := by decide +kernel
theorem dX7_letMothsAct_58 : decode cX7_letMothsAct 58 = .ok (.ifCond .ne 49, 3) := by decide +kernel
theorem dX7_letMothsAct_61 : decode cX7_letMothsAct 61 = .ok (.iload 4, 2) := by decide +kernel
theorem dX7_letMothsAct_63 : decode cX7_letMothsAct 63 = .ok (.ifCond .eq 78, 3) := by decide +kernel
theorem dX7_letMothsAct_66 : decode cX7_letMothsAct 66 = .ok (.aload_n 1, 1) := by decide +kernel
theorem dX7_letMothsAct_67 : decode cX7_letMothsAct 67 = .ok (.getfield 15, 3) := by decide +kernel
theorem dX7_letMothsAct_70 : decode cX7_letMothsAct 70 = .ok (.getfield 61, 3) := by decide +kernel
theorem dX7_letMothsAct_73 : decode cX7_letMothsAct 73 = .ok (.iload_n 3, 1) := by decide +kernel
theorem dX7_letMothsAct_74 : decode cX7_letMothsAct 74 = .ok (.iaload, 1) := by decide +kernel
theorem dX7_letMothsAct_75 : decode cX7_letMothsAct 75 = .ok (.ifCond .le 66, 3) := by decide +kernel
theorem dX7_letMothsAct_78 : decode cX7_letMothsAct 78 = .ok (.aload_n 1, 1) := by decide +kernel
theorem dX7_letMothsAct_79 : decode cX7_letMothsAct 79 = .ok (.getfield 15, 3) := by decide +kernel
theorem dX7_letMothsAct_82 : decode cX7_letMothsAct 82 = .ok (.getfield 61, 3) := by decide +kernel
theorem dX7_letMothsAct_85 : decode cX7_letMothsAct 85 = .ok (.iload_n 3, 1) := by decide +kernel
theorem dX7_letMothsAct_86 : decode cX7_letMothsAct 86 = .ok (.dup2, 1) := by decide +kernel
theorem dX7_letMothsAct_87 : decode cX7_letMothsAct 87 = .ok (.iaload, 1) := by decide +kernel
theorem dX7_letMothsAct_88 : decode cX7_letMothsAct 88 = .ok (.iconst 1, 1) := by decide +kernel
theorem dX7_letMothsAct_89 : decode cX7_letMothsAct 89 = .ok (.isub, 1) := by decide +kernel
theorem dX7_letMothsAct_90 : decode cX7_letMothsAct 90 = .ok (.iastore, 1) := by decide +kernel
theorem dX7_letMothsAct_91 : decode cX7_letMothsAct 91 = .ok (.aload_n 1, 1) := by decide +kernel
theorem dX7_letMothsAct_92 : decode cX7_letMothsAct 92 = .ok (.getfield 21, 3) := by decide +kernel
theorem dX7_letMothsAct_95 : decode cX7_letMothsAct 95 = .ok (.dup, 1) := by decide +kernel
theorem dX7_letMothsAct_96 : decode cX7_letMothsAct 96 = .ok (.getfield 87, 3) := by decide +kernel
theorem dX7_letMothsAct_99 : decode cX7_letMothsAct 99 = .ok (.iconst 1, 1) := by decide +kernel
theorem dX7_letMothsAct_100 : decode cX7_letMothsAct 100 = .ok (.iadd, 1) := by decide +kernel
theorem dX7_letMothsAct_101 : decode cX7_letMothsAct 101 = .ok (.putfield 87, 3) := by decide +kernel
theorem dX7_letMothsAct_104 : decode cX7_letMothsAct 104 = .ok (.goto 37, 3) := by decide +kernel
theorem dX7_letMothsAct_107 : decode cX7_letMothsAct 107 = .ok (.iload 4, 2) := by decide +kernel
theorem dX7_letMothsAct_109 : decode cX7_letMothsAct 109 = .ok (.ifCond .eq 19, 3) := by decide +kernel
theorem dX7_letMothsAct_112 : decode cX7_letMothsAct 112 = .ok (.aload_n 1, 1) := by decide +kernel
theorem dX7_letMothsAct_113 : decode cX7_letMothsAct 113 = .ok (.getfield 33, 3) := by decide +kernel
theorem dX7_letMothsAct_116 : decode cX7_letMothsAct 116 = .ok (.getfield 90, 3) := by decide +kernel
theorem dX7_letMothsAct_119 : decode cX7_letMothsAct 119 = .ok (.iload_n 2, 1) := by decide +kernel
theorem dX7_letMothsAct_120 : decode cX7_letMothsAct 120 = .ok (.dup2, 1) := by decide +kernel
theorem dX7_letMothsAct_121 : decode cX7_letMothsAct 121 = .ok (.iaload, 1) := by decide +kernel
theorem dX7_letMothsAct_122 : decode cX7_letMothsAct 122 = .ok (.iconst 1, 1) := by decide +kernel
theorem dX7_letMothsAct_123 : decode cX7_letMothsAct 123 = .ok (.iadd, 1) := by decide +kernel
theorem dX7_letMothsAct_124 : decode cX7_letMothsAct 124 = .ok (.iastore, 1) := by decide +kernel
theorem dX7_letMothsAct_125 : decode cX7_letMothsAct 125 = .ok (.goto 16, 3) := by decide +kernel
theorem dX7_letMothsAct_128 : decode cX7_letMothsAct 128 = .ok (.aload_n 1, 1) := by decide +kernel
theorem dX7_letMothsAct_129 : decode cX7_letMothsAct 129 = .ok (.getfield 33, 3) := by decide +kernel
theorem dX7_letMothsAct_132 : decode cX7_letMothsAct 132 = .ok (.getfield 93, 3) := by decide +kernel
theorem dX7_letMothsAct_135 : decode cX7_letMothsAct 135 = .ok (.iload_n 2, 1) := by decide +kernel
theorem dX7_letMothsAct_136 : decode cX7_letMothsAct 136 = .ok (.dup2, 1) := by decide +kernel
theorem dX7_letMothsAct_137 : decode cX7_letMothsAct 137 = .ok (.iaload, 1) := by decide +kernel
theorem dX7_letMothsAct_138 : decode cX7_letMothsAct 138 = .ok (.iconst 1, 1) := by decide +kernel
theorem dX7_letMothsAct_139 : decode cX7_letMothsAct 139 = .ok (.isub, 1) := by decide +kernel
theorem dX7_letMothsAct_140 : decode cX7_letMothsAct 140 = .ok (.iastore, 1) := by decide +kernel
theorem dX7_letMothsAct_141 : decode cX7_letMothsAct 141 = .ok (.iinc 2 1, 3) := by decide +kernel
theorem dX7_letMothsAct_144 : decode cX7_letMothsAct 144 = .ok (.goto (-142), 3) := by decide +kernel
theorem dX7_letMothsAct_147 : decode cX7_letMothsAct 147 = .ok (.return_, 1) := by decide +kernel
set_option maxRecDepth 20000 in
theorem ggX7_paySubsidies_X7_burnedIn : GoodIn wsX7_paySubsidies wsX7_burnedIn := goodIn_ca (goodIn_r _ [7, 8, 9, 10, 21, 22, 23, 24, 25, 26, 27, 28, 29] (by decide +kernel) (by decide +kernel)) (goodIn_sub (fun _ h => List.mem_cons_of_mem _ (List.mem_append_right _ h)) (by decide +kernel))
set_option maxRecDepth 20000 in
theorem gX7_paySubsidies_X7_burnedIn : GoodIn wsX7_paySubsidies (wsV RX7 96 RX7 yX7_burnedIn wsX7_burnedIn) := goodIn_app (goodIn_of _ (by decide +kernel)) ggX7_paySubsidies_X7_burnedIn
theorem dX7_paySubsidies_0 : decode cX7_paySubsidies 0 = .ok (.iconst 0, 1) := by decide +kernel
theorem dX7_paySubsidies_1 : decode cX7_paySubsidies 1 = .ok (.istore_n 3, 1) := by decide +kernel
theorem dX7_paySubsidies_2 : decode cX7_paySubsidies 2 = .ok (.iload_n 3, 1) := by decide +kernel
theorem dX7_paySubsidies_3 : decode cX7_paySubsidies 3 = .ok (.iconst 4, 1) := by decide +kernel
theorem dX7_paySubsidies_4 : decode cX7_paySubsidies 4 = .ok (.if_icmp .ge 38, 3) := by decide +kernel
theorem dX7_paySubsidies_7 : decode cX7_paySubsidies 7 = .ok (.aload_n 0, 1) := by decide +kernel
theorem dX7_paySubsidies_8 : decode cX7_paySubsidies 8 = .ok (.iload_n 3, 1) := by decide +kernel
theorem dX7_paySubsidies_9 : decode cX7_paySubsidies 9 = .ok (.aload_n 1, 1) := by decide +kernel
theorem dX7_paySubsidies_10 : decode cX7_paySubsidies 10 = .ok (.invokevirtual 96, 3) := by decide +kernel
theorem dX7_paySubsidies_13 : decode cX7_paySubsidies 13 = .ok (.ifCond .ne 23, 3) := by decide +kernel
theorem dX7_paySubsidies_16 : decode cX7_paySubsidies 16 = .ok (.aload_n 2, 1) := by decide +kernel
theorem dX7_paySubsidies_17 : decode cX7_paySubsidies 17 = .ok (.dup, 1) := by decide +kernel
theorem dX7_paySubsidies_18 : decode cX7_paySubsidies 18 = .ok (.getfield 100, 3) := by decide +kernel
theorem dX7_paySubsidies_21 : decode cX7_paySubsidies 21 = .ok (.iconst 3, 1) := by decide +kernel
theorem dX7_paySubsidies_22 : decode cX7_paySubsidies 22 = .ok (.iadd, 1) := by decide +kernel
theorem dX7_paySubsidies_23 : decode cX7_paySubsidies 23 = .ok (.putfield 100, 3) := by decide +kernel
theorem dX7_paySubsidies_26 : decode cX7_paySubsidies 26 = .ok (.aload_n 2, 1) := by decide +kernel
theorem dX7_paySubsidies_27 : decode cX7_paySubsidies 27 = .ok (.dup, 1) := by decide +kernel
theorem dX7_paySubsidies_28 : decode cX7_paySubsidies 28 = .ok (.getfield 103, 3) := by decide +kernel
theorem dX7_paySubsidies_31 : decode cX7_paySubsidies 31 = .ok (.iconst 3, 1) := by decide +kernel
theorem dX7_paySubsidies_32 : decode cX7_paySubsidies 32 = .ok (.iadd, 1) := by decide +kernel
theorem dX7_paySubsidies_33 : decode cX7_paySubsidies 33 = .ok (.putfield 103, 3) := by decide +kernel
theorem dX7_paySubsidies_36 : decode cX7_paySubsidies 36 = .ok (.iinc 3 1, 3) := by decide +kernel
theorem dX7_paySubsidies_39 : decode cX7_paySubsidies 39 = .ok (.goto (-37), 3) := by decide +kernel
theorem dX7_paySubsidies_42 : decode cX7_paySubsidies 42 = .ok (.return_, 1) := by decide +kernel
theorem dX7_burnedIn_0 : decode cX7_burnedIn 0 = .ok (.iconst 0, 1) := by decide +kernel
theorem dX7_burnedIn_1 : decode cX7_burnedIn 1 = .ok (.istore_n 3, 1) := by decide +kernel
theorem dX7_burnedIn_2 : decode cX7_burnedIn 2 = .ok (.iload_n 3, 1) := by decide +kernel
theorem dX7_burnedIn_3 : decode cX7_burnedIn 3 = .ok (.aload_n 2, 1) := by decide +kernel
theorem dX7_burnedIn_4 : decode cX7_burnedIn 4 = .ok (.getfield 52, 3) := by decide +kernel
theorem dX7_burnedIn_7 : decode cX7_burnedIn 7 = .ok (.if_icmp .ge 30, 3) := by decide +kernel
theorem dX7_burnedIn_10 : decode cX7_burnedIn 10 = .ok (.aload_n 2, 1) := by decide +kernel
theorem dX7_burnedIn_11 : decode cX7_burnedIn 11 = .ok (.getfield 106, 3) := by decide +kernel
theorem dX7_burnedIn_14 : decode cX7_burnedIn 14 = .ok (.iload_n 3, 1) := by decide +kernel
theorem dX7_burnedIn_15 : decode cX7_burnedIn 15 = .ok (.iaload, 1) := by decide +kernel
theorem dX7_burnedIn_16 : decode cX7_burnedIn 16 = .ok (.iload_n 1, 1) := by decide +kernel
theorem dX7_burnedIn_17 : decode cX7_burnedIn 17 = .ok (.if_icmp .ne 14, 3) := by decide +kernel
theorem dX7_burnedIn_20 : decode cX7_burnedIn 20 = .ok (.aload_n 0, 1) := by decide +kernel
theorem dX7_burnedIn_21 : decode cX7_burnedIn 21 = .ok (.getfield 9, 3) := by decide +kernel
theorem dX7_burnedIn_24 : decode cX7_burnedIn 24 = .ok (.iload_n 3, 1) := by decide +kernel
theorem dX7_burnedIn_25 : decode cX7_burnedIn 25 = .ok (.baload, 1) := by decide +kernel
theorem dX7_burnedIn_26 : decode cX7_burnedIn 26 = .ok (.ifCond .eq 5, 3) := by decide +kernel
theorem dX7_burnedIn_29 : decode cX7_burnedIn 29 = .ok (.iconst 1, 1) := by decide +kernel
theorem dX7_burnedIn_30 : decode cX7_burnedIn 30 = .ok (.ireturn, 1) := by decide +kernel
theorem dX7_burnedIn_31 : decode cX7_burnedIn 31 = .ok (.iinc 3 1, 3) := by decide +kernel
theorem dX7_burnedIn_34 : decode cX7_burnedIn 34 = .ok (.goto (-32), 3) := by decide +kernel
theorem dX7_burnedIn_37 : decode cX7_burnedIn 37 = .ok (.iconst 0, 1) := by decide +kernel
theorem dX7_burnedIn_38 : decode cX7_burnedIn 38 = .ok (.ireturn, 1) := by decide +kernel
set_option maxRecDepth 20000 in
theorem ggX9_init_X5_init : GoodIn wsX9_init wsX5_init := goodIn_r _ [17, 18, 2, 3, 19, 20, 21, 22, 23, 24, 25, 26, 27, 28, 49, 50, 51, 52, 53, 54, 55, 56] (by decide +kernel) (by decide +kernel)
set_option maxRecDepth 20000 in
theorem gX9_init_X5_init_n11 : GoodIn wsX9_init (wsX5_init) := ggX9_init_X5_init
set_option maxRecDepth 20000 in
theorem ggX9_init_X6_init : GoodIn wsX9_init wsX6_init := goodIn_r _ [30, 31, 2, 3, 32, 20, 33, 34, 35, 60, 61, 62, 63] (by decide +kernel) (by decide +kernel)
set_option maxRecDepth 20000 in
theorem gX9_init_X6_init_n20 : GoodIn wsX9_init (wsX6_init) := ggX9_init_X6_init
set_option maxRecDepth 20000 in
theorem ggX9_init_X2_init : GoodIn wsX9_init wsX2_init := goodIn_r _ [37, 38, 2, 3, 39, 40, 41, 42, 43, 44, 45, 46, 47, 48, 64, 65, 66, 67, 68, 69, 70, 71, 72, 73] (by decide +kernel) (by decide +kernel)
set_option maxRecDepth 20000 in
theorem gX9_init_X2_init_n27 : GoodIn wsX9_init (wsX2_init) := ggX9_init_X2_init
theorem dX9_init_0 : decode cX9_init 0 = .ok (.aload_n 0, 1) := by decide +kernel
theorem dX9_init_1 : decode cX9_init 1 = .ok (.invokespecial 3, 3) := by decide +kernel
theorem dX9_init_4 : decode cX9_init 4 = .ok (.aload_n 0, 1) := by decide +kernel
theorem dX9_init_5 : decode cX9_init 5 = .ok (.new 9, 3) := by decide +kernel
theorem dX9_init_8 : decode cX9_init 8 = .ok (.dup, 1) := by decide +kernel
theorem dX9_init_9 : decode cX9_init 9 = .ok (.invokespecial 11, 3) := by decide +kernel
theorem dX9_init_12 : decode cX9_init 12 = .ok (.putfield 12, 3) := by decide +kernel
theorem dX9_init_15 : decode cX9_init 15 = .ok (.aload_n 0, 1) := by decide +kernel
theorem dX9_init_16 : decode cX9_init 16 = .ok (.new 18, 3) := by decide +kernel
theorem dX9_init_19 : decode cX9_init 19 = .ok (.dup, 1) := by decide +kernel
theorem dX9_init_20 : decode cX9_init 20 = .ok (.invokespecial 20, 3) := by decide +kernel
theorem dX9_init_23 : decode cX9_init 23 = .ok (.putfield 21, 3) := by decide +kernel
theorem dX9_init_26 : decode cX9_init 26 = .ok (.aload_n 0, 1) := by decide +kernel
theorem dX9_init_27 : decode cX9_init 27 = .ok (.new 25, 3) := by decide +kernel
theorem dX9_init_30 : decode cX9_init 30 = .ok (.dup, 1) := by decide +kernel
theorem dX9_init_31 : decode cX9_init 31 = .ok (.invokespecial 27, 3) := by decide +kernel
theorem dX9_init_34 : decode cX9_init 34 = .ok (.putfield 28, 3) := by decide +kernel
theorem dX9_init_37 : decode cX9_init 37 = .ok (.return_, 1) := by decide +kernel
set_option maxRecDepth 20000 in
theorem ggX9_copyFrom_X5_copyFrom : GoodIn wsX9_copyFrom wsX5_copyFrom := goodIn_r _ [8, 9, 10, 11, 12, 13, 14, 15, 16, 17, 18, 19, 20, 49, 50, 51, 52, 53, 54, 55, 56] (by decide +kernel) (by decide +kernel)
set_option maxRecDepth 20000 in
theorem gX9_copyFrom_X5_copyFrom : GoodIn wsX9_copyFrom (wsV RX9 32 RX5 yX5_copyFrom wsX5_copyFrom) := goodIn_app (goodIn_of _ (by decide +kernel)) ggX9_copyFrom_X5_copyFrom
set_option maxRecDepth 20000 in
theorem ggX9_copyFrom_X6_copyFrom : GoodIn wsX9_copyFrom wsX6_copyFrom := goodIn_r _ [25, 26, 27, 28, 12, 13, 14, 29, 30, 57, 58, 59, 60] (by decide +kernel) (by decide +kernel)
set_option maxRecDepth 20000 in
theorem gX9_copyFrom_X6_copyFrom : GoodIn wsX9_copyFrom (wsV RX9 36 RX6 yX6_copyFrom wsX6_copyFrom) := goodIn_app (goodIn_of _ (by decide +kernel)) ggX9_copyFrom_X6_copyFrom
set_option maxRecDepth 20000 in
theorem ggX9_copyFrom_X2_copyFrom : GoodIn wsX9_copyFrom wsX2_copyFrom := goodIn_r _ [35, 36, 37, 38, 39, 40, 41, 42, 43, 44, 45, 61, 62, 63, 64, 65, 66, 67, 68, 69, 70] (by decide +kernel) (by decide +kernel)
set_option maxRecDepth 20000 in
theorem gX9_copyFrom_X2_copyFrom : GoodIn wsX9_copyFrom (wsV RX9 39 RX2 yX2_copyFrom wsX2_copyFrom) := goodIn_app (goodIn_of _ (by decide +kernel)) ggX9_copyFrom_X2_copyFrom
theorem dX9_copyFrom_0 : decode cX9_copyFrom 0 = .ok (.aload_n 0, 1) := by decide +kernel
theorem dX9_copyFrom_1 : decode cX9_copyFrom 1 = .ok (.getfield 12, 3) := by decide +kernel
theorem dX9_copyFrom_4 : decode cX9_copyFrom 4 = .ok (.aload_n 1, 1) := by decide +kernel
theorem dX9_copyFrom_5 : decode cX9_copyFrom 5 = .ok (.getfield 12, 3) := by decide +kernel
theorem dX9_copyFrom_8 : decode cX9_copyFrom 8 = .ok (.invokevirtual 32, 3) := by decide +kernel
theorem dX9_copyFrom_11 : decode cX9_copyFrom 11 = .ok (.aload_n 0, 1) := by decide +kernel
theorem dX9_copyFrom_12 : decode cX9_copyFrom 12 = .ok (.getfield 21, 3) := by decide +kernel
theorem dX9_copyFrom_15 : decode cX9_copyFrom 15 = .ok (.aload_n 1, 1) := by decide +kernel
theorem dX9_copyFrom_16 : decode cX9_copyFrom 16 = .ok (.getfield 21, 3) := by decide +kernel
theorem dX9_copyFrom_19 : decode cX9_copyFrom 19 = .ok (.invokevirtual 36, 3) := by decide +kernel
theorem dX9_copyFrom_22 : decode cX9_copyFrom 22 = .ok (.aload_n 0, 1) := by decide +kernel
theorem dX9_copyFrom_23 : decode cX9_copyFrom 23 = .ok (.getfield 28, 3) := by decide +kernel
theorem dX9_copyFrom_26 : decode cX9_copyFrom 26 = .ok (.aload_n 1, 1) := by decide +kernel
theorem dX9_copyFrom_27 : decode cX9_copyFrom 27 = .ok (.getfield 28, 3) := by decide +kernel
theorem dX9_copyFrom_30 : decode cX9_copyFrom 30 = .ok (.invokevirtual 39, 3) := by decide +kernel
theorem dX9_copyFrom_33 : decode cX9_copyFrom 33 = .ok (.return_, 1) := by decide +kernel
set_option maxRecDepth 20000 in
theorem ggX9_refusalToAddLamp_X11_within : GoodIn wsX9_refusalToAddLamp wsX11_within := goodIn_r _ [8] (by decide +kernel) (by decide +kernel)
set_option maxRecDepth 20000 in
theorem gX9_refusalToAddLamp_X11_within_n42 : GoodIn wsX9_refusalToAddLamp (wsX11_within) := ggX9_refusalToAddLamp_X11_within
theorem dX9_refusalToAddLamp_0 : decode cX9_refusalToAddLamp 0 = .ok (.iload_n 1, 1) := by decide +kernel
theorem dX9_refusalToAddLamp_1 : decode cX9_refusalToAddLamp 1 = .ok (.iconst 0, 1) := by decide +kernel
theorem dX9_refusalToAddLamp_2 : decode cX9_refusalToAddLamp 2 = .ok (.iconst 3, 1) := by decide +kernel
theorem dX9_refusalToAddLamp_3 : decode cX9_refusalToAddLamp 3 = .ok (.invokestatic 42, 3) := by decide +kernel
theorem dX9_refusalToAddLamp_6 : decode cX9_refusalToAddLamp 6 = .ok (.ifCond .eq 13, 3) := by decide +kernel
theorem dX9_refusalToAddLamp_9 : decode cX9_refusalToAddLamp 9 = .ok (.iload_n 2, 1) := by decide +kernel
theorem dX9_refusalToAddLamp_10 : decode cX9_refusalToAddLamp 10 = .ok (.iconst 1, 1) := by decide +kernel
theorem dX9_refusalToAddLamp_11 : decode cX9_refusalToAddLamp 11 = .ok (.bipush 9, 2) := by decide +kernel
theorem dX9_refusalToAddLamp_13 : decode cX9_refusalToAddLamp 13 = .ok (.invokestatic 42, 3) := by decide +kernel
theorem dX9_refusalToAddLamp_16 : decode cX9_refusalToAddLamp 16 = .ok (.ifCond .ne 7, 3) := by decide +kernel
theorem dX9_refusalToAddLamp_19 : decode cX9_refusalToAddLamp 19 = .ok (.getstatic 46, 3) := by decide +kernel
theorem dX9_refusalToAddLamp_22 : decode cX9_refusalToAddLamp 22 = .ok (.areturn, 1) := by decide +kernel
theorem dX9_refusalToAddLamp_23 : decode cX9_refusalToAddLamp 23 = .ok (.aload_n 0, 1) := by decide +kernel
theorem dX9_refusalToAddLamp_24 : decode cX9_refusalToAddLamp 24 = .ok (.getfield 12, 3) := by decide +kernel
theorem dX9_refusalToAddLamp_27 : decode cX9_refusalToAddLamp 27 = .ok (.getfield 52, 3) := by decide +kernel
theorem dX9_refusalToAddLamp_30 : decode cX9_refusalToAddLamp 30 = .ok (.bipush 8, 2) := by decide +kernel
theorem dX9_refusalToAddLamp_32 : decode cX9_refusalToAddLamp 32 = .ok (.if_icmp .lt 9, 3) := by decide +kernel
theorem dX9_refusalToAddLamp_35 : decode cX9_refusalToAddLamp 35 = .ok (.getstatic 56, 3) := by decide +kernel
theorem dX9_refusalToAddLamp_38 : decode cX9_refusalToAddLamp 38 = .ok (.goto 6, 3) := by decide +kernel
theorem dX9_refusalToAddLamp_41 : decode cX9_refusalToAddLamp 41 = .ok (.getstatic 59, 3) := by decide +kernel
theorem dX9_refusalToAddLamp_44 : decode cX9_refusalToAddLamp 44 = .ok (.areturn, 1) := by decide +kernel
set_option maxRecDepth 20000 in
theorem ggX9_refusalToDropLamp_X5_has : GoodIn wsX9_refusalToDropLamp wsX5_has := goodIn_r _ [12, 13, 27, 28, 29, 30, 31, 32, 33, 34] (by decide +kernel) (by decide +kernel)
set_option maxRecDepth 20000 in
theorem gX9_refusalToDropLamp_X5_has : GoodIn wsX9_refusalToDropLamp (wsV RX9 62 RX5 yX5_has wsX5_has) := goodIn_app (goodIn_of _ (by decide +kernel)) ggX9_refusalToDropLamp_X5_has
theorem dX9_refusalToDropLamp_0 : decode cX9_refusalToDropLamp 0 = .ok (.aload_n 0, 1) := by decide +kernel
theorem dX9_refusalToDropLamp_1 : decode cX9_refusalToDropLamp 1 = .ok (.getfield 12, 3) := by decide +kernel
theorem dX9_refusalToDropLamp_4 : decode cX9_refusalToDropLamp 4 = .ok (.iload_n 1, 1) := by decide +kernel
theorem dX9_refusalToDropLamp_5 : decode cX9_refusalToDropLamp 5 = .ok (.invokevirtual 62, 3) := by decide +kernel
theorem dX9_refusalToDropLamp_8 : decode cX9_refusalToDropLamp 8 = .ok (.ifCond .ne 7, 3) := by decide +kernel
theorem dX9_refusalToDropLamp_11 : decode cX9_refusalToDropLamp 11 = .ok (.getstatic 66, 3) := by decide +kernel
theorem dX9_refusalToDropLamp_14 : decode cX9_refusalToDropLamp 14 = .ok (.areturn, 1) := by decide +kernel
theorem dX9_refusalToDropLamp_15 : decode cX9_refusalToDropLamp 15 = .ok (.aload_n 0, 1) := by decide +kernel
theorem dX9_refusalToDropLamp_16 : decode cX9_refusalToDropLamp 16 = .ok (.getfield 28, 3) := by decide +kernel
theorem dX9_refusalToDropLamp_19 : decode cX9_refusalToDropLamp 19 = .ok (.getfield 69, 3) := by decide +kernel
theorem dX9_refusalToDropLamp_22 : decode cX9_refusalToDropLamp 22 = .ok (.aload_n 0, 1) := by decide +kernel
theorem dX9_refusalToDropLamp_23 : decode cX9_refusalToDropLamp 23 = .ok (.getfield 12, 3) := by decide +kernel
theorem dX9_refusalToDropLamp_26 : decode cX9_refusalToDropLamp 26 = .ok (.getfield 72, 3) := by decide +kernel
theorem dX9_refusalToDropLamp_29 : decode cX9_refusalToDropLamp 29 = .ok (.iload_n 1, 1) := by decide +kernel
theorem dX9_refusalToDropLamp_30 : decode cX9_refusalToDropLamp 30 = .ok (.iaload, 1) := by decide +kernel
theorem dX9_refusalToDropLamp_31 : decode cX9_refusalToDropLamp 31 = .ok (.iadd, 1) := by decide +kernel
theorem dX9_refusalToDropLamp_32 : decode cX9_refusalToDropLamp 32 = .ok (.bipush 99, 2) := by decide +kernel
theorem dX9_refusalToDropLamp_34 : decode cX9_refusalToDropLamp 34 = .ok (.if_icmp .le 9, 3) := by decide +kernel
theorem dX9_refusalToDropLamp_37 : decode cX9_refusalToDropLamp 37 = .ok (.getstatic 56, 3) := by decide +kernel
theorem dX9_refusalToDropLamp_40 : decode cX9_refusalToDropLamp 40 = .ok (.goto 6, 3) := by decide +kernel
theorem dX9_refusalToDropLamp_43 : decode cX9_refusalToDropLamp 43 = .ok (.getstatic 59, 3) := by decide +kernel
theorem dX9_refusalToDropLamp_46 : decode cX9_refusalToDropLamp 46 = .ok (.areturn, 1) := by decide +kernel
set_option maxRecDepth 20000 in
theorem ggX9_dropLamp_X5_closeGap : GoodIn wsX9_dropLamp wsX5_closeGap := goodIn_r _ [15, 16, 17, 18, 19, 20, 21, 22, 23, 24, 25, 26, 27, 48, 49, 50, 51, 52, 53, 54, 55] (by decide +kernel) (by decide +kernel)
set_option maxRecDepth 20000 in
theorem gX9_dropLamp_X5_closeGap : GoodIn wsX9_dropLamp (wsV RX9 88 RX5 yX5_closeGap wsX5_closeGap) := goodIn_app (goodIn_of _ (by decide +kernel)) ggX9_dropLamp_X5_closeGap
set_option maxRecDepth 20000 in
theorem ggX9_dropLamp_X6_forgetLamp : GoodIn wsX9_dropLamp wsX6_forgetLamp := goodIn_ca (goodIn_r _ [32, 33, 34, 56, 57, 58, 59] (by decide +kernel) (by decide +kernel)) (goodIn_sub (fun _ h => List.mem_cons_of_mem _ (List.mem_append_right _ h)) (by decide +kernel))
set_option maxRecDepth 20000 in
theorem gX9_dropLamp_X6_forgetLamp : GoodIn wsX9_dropLamp (wsV RX9 92 RX6 yX6_forgetLamp wsX6_forgetLamp) := goodIn_app (goodIn_of _ (by decide +kernel)) ggX9_dropLamp_X6_forgetLamp
theorem dX9_dropLamp_0 : decode cX9_dropLamp 0 = .ok (.aload_n 0, 1) := by decide +kernel
theorem dX9_dropLamp_1 : decode cX9_dropLamp 1 = .ok (.getfield 28, 3) := by decide +kernel
theorem dX9_dropLamp_4 : decode cX9_dropLamp 4 = .ok (.dup, 1) := by decide +kernel
theorem dX9_dropLamp_5 : decode cX9_dropLamp 5 = .ok (.getfield 76, 3) := by decide +kernel
theorem dX9_dropLamp_8 : decode cX9_dropLamp 8 = .ok (.aload_n 0, 1) := by decide +kernel
theorem dX9_dropLamp_9 : decode cX9_dropLamp 9 = .ok (.getfield 12, 3) := by decide +kernel
theorem dX9_dropLamp_12 : decode cX9_dropLamp 12 = .ok (.getfield 79, 3) := by decide +kernel
theorem dX9_dropLamp_15 : decode cX9_dropLamp 15 = .ok (.iload_n 1, 1) := by decide +kernel
theorem dX9_dropLamp_16 : decode cX9_dropLamp 16 = .ok (.iaload, 1) := by decide +kernel
theorem dX9_dropLamp_17 : decode cX9_dropLamp 17 = .ok (.iadd, 1) := by decide +kernel
theorem dX9_dropLamp_18 : decode cX9_dropLamp 18 = .ok (.putfield 76, 3) := by decide +kernel
theorem dX9_dropLamp_21 : decode cX9_dropLamp 21 = .ok (.aload_n 0, 1) := by decide +kernel
theorem dX9_dropLamp_22 : decode cX9_dropLamp 22 = .ok (.getfield 28, 3) := by decide +kernel
theorem dX9_dropLamp_25 : decode cX9_dropLamp 25 = .ok (.dup, 1) := by decide +kernel
theorem dX9_dropLamp_26 : decode cX9_dropLamp 26 = .ok (.getfield 69, 3) := by decide +kernel
theorem dX9_dropLamp_29 : decode cX9_dropLamp 29 = .ok (.aload_n 0, 1) := by decide +kernel
theorem dX9_dropLamp_30 : decode cX9_dropLamp 30 = .ok (.getfield 12, 3) := by decide +kernel
theorem dX9_dropLamp_33 : decode cX9_dropLamp 33 = .ok (.getfield 72, 3) := by decide +kernel
theorem dX9_dropLamp_36 : decode cX9_dropLamp 36 = .ok (.iload_n 1, 1) := by decide +kernel
theorem dX9_dropLamp_37 : decode cX9_dropLamp 37 = .ok (.iaload, 1) := by decide +kernel
theorem dX9_dropLamp_38 : decode cX9_dropLamp 38 = .ok (.iadd, 1) := by decide +kernel
theorem dX9_dropLamp_39 : decode cX9_dropLamp 39 = .ok (.putfield 69, 3) := by decide +kernel
theorem dX9_dropLamp_42 : decode cX9_dropLamp 42 = .ok (.aload_n 0, 1) := by decide +kernel
theorem dX9_dropLamp_43 : decode cX9_dropLamp 43 = .ok (.getfield 28, 3) := by decide +kernel
theorem dX9_dropLamp_46 : decode cX9_dropLamp 46 = .ok (.dup, 1) := by decide +kernel
theorem dX9_dropLamp_47 : decode cX9_dropLamp 47 = .ok (.getfield 82, 3) := by decide +kernel
theorem dX9_dropLamp_50 : decode cX9_dropLamp 50 = .ok (.aload_n 0, 1) := by decide +kernel
theorem dX9_dropLamp_51 : decode cX9_dropLamp 51 = .ok (.getfield 12, 3) := by decide +kernel
theorem dX9_dropLamp_54 : decode cX9_dropLamp 54 = .ok (.getfield 85, 3) := by decide +kernel
theorem dX9_dropLamp_57 : decode cX9_dropLamp 57 = .ok (.iload_n 1, 1) := by decide +kernel
theorem dX9_dropLamp_58 : decode cX9_dropLamp 58 = .ok (.iaload, 1) := by decide +kernel
theorem dX9_dropLamp_59 : decode cX9_dropLamp 59 = .ok (.iadd, 1) := by decide +kernel
theorem dX9_dropLamp_60 : decode cX9_dropLamp 60 = .ok (.putfield 82, 3) := by decide +kernel
theorem dX9_dropLamp_63 : decode cX9_dropLamp 63 = .ok (.aload_n 0, 1) := by decide +kernel
theorem dX9_dropLamp_64 : decode cX9_dropLamp 64 = .ok (.getfield 12, 3) := by decide +kernel
theorem dX9_dropLamp_67 : decode cX9_dropLamp 67 = .ok (.iload_n 1, 1) := by decide +kernel
theorem dX9_dropLamp_68 : decode cX9_dropLamp 68 = .ok (.invokevirtual 88, 3) := by decide +kernel
theorem dX9_dropLamp_71 : decode cX9_dropLamp 71 = .ok (.aload_n 0, 1) := by decide +kernel
theorem dX9_dropLamp_72 : decode cX9_dropLamp 72 = .ok (.getfield 21, 3) := by decide +kernel
theorem dX9_dropLamp_75 : decode cX9_dropLamp 75 = .ok (.iload_n 1, 1) := by decide +kernel
theorem dX9_dropLamp_76 : decode cX9_dropLamp 76 = .ok (.invokevirtual 92, 3) := by decide +kernel
theorem dX9_dropLamp_79 : decode cX9_dropLamp 79 = .ok (.aload_n 0, 1) := by decide +kernel
theorem dX9_dropLamp_80 : decode cX9_dropLamp 80 = .ok (.getfield 12, 3) := by decide +kernel
theorem dX9_dropLamp_83 : decode cX9_dropLamp 83 = .ok (.getfield 52, 3) := by decide +kernel
theorem dX9_dropLamp_86 : decode cX9_dropLamp 86 = .ok (.ireturn, 1) := by decide +kernel
set_option maxRecDepth 20000 in
theorem ggX9_refusalOnLamp_X5_has : GoodIn wsX9_refusalOnLamp wsX5_has := goodIn_r _ [9, 10, 17, 18, 19, 20, 21, 22, 23, 24] (by decide +kernel) (by decide +kernel)
set_option maxRecDepth 20000 in
theorem gX9_refusalOnLamp_X5_has : GoodIn wsX9_refusalOnLamp (wsV RX9 62 RX5 yX5_has wsX5_has) := goodIn_app (goodIn_of _ (by decide +kernel)) ggX9_refusalOnLamp_X5_has
set_option maxRecDepth 20000 in
theorem ggX9_refusalOnLamp_X11_within : GoodIn wsX9_refusalOnLamp wsX11_within := goodIn_r _ [13] (by decide +kernel) (by decide +kernel)
set_option maxRecDepth 20000 in
theorem gX9_refusalOnLamp_X11_within_n42 : GoodIn wsX9_refusalOnLamp (wsX11_within) := ggX9_refusalOnLamp_X11_within
theorem dX9_refusalOnLamp_0 : decode cX9_refusalOnLamp 0 = .ok (.aload_n 0, 1) := by decide +kernel
theorem dX9_refusalOnLamp_1 : decode cX9_refusalOnLamp 1 = .ok (.getfield 12, 3) := by decide +kernel
theorem dX9_refusalOnLamp_4 : decode cX9_refusalOnLamp 4 = .ok (.iload_n 1, 1) := by decide +kernel
theorem dX9_refusalOnLamp_5 : decode cX9_refusalOnLamp 5 = .ok (.invokevirtual 62, 3) := by decide +kernel
theorem dX9_refusalOnLamp_8 : decode cX9_refusalOnLamp 8 = .ok (.ifCond .ne 7, 3) := by decide +kernel
theorem dX9_refusalOnLamp_11 : decode cX9_refusalOnLamp 11 = .ok (.getstatic 66, 3) := by decide +kernel
theorem dX9_refusalOnLamp_14 : decode cX9_refusalOnLamp 14 = .ok (.areturn, 1) := by decide +kernel
theorem dX9_refusalOnLamp_15 : decode cX9_refusalOnLamp 15 = .ok (.iload_n 2, 1) := by decide +kernel
theorem dX9_refusalOnLamp_16 : decode cX9_refusalOnLamp 16 = .ok (.iconst 1, 1) := by decide +kernel
theorem dX9_refusalOnLamp_17 : decode cX9_refusalOnLamp 17 = .ok (.iload_n 3, 1) := by decide +kernel
theorem dX9_refusalOnLamp_18 : decode cX9_refusalOnLamp 18 = .ok (.invokestatic 42, 3) := by decide +kernel
theorem dX9_refusalOnLamp_21 : decode cX9_refusalOnLamp 21 = .ok (.ifCond .eq 9, 3) := by decide +kernel
theorem dX9_refusalOnLamp_24 : decode cX9_refusalOnLamp 24 = .ok (.getstatic 59, 3) := by decide +kernel
theorem dX9_refusalOnLamp_27 : decode cX9_refusalOnLamp 27 = .ok (.goto 6, 3) := by decide +kernel
theorem dX9_refusalOnLamp_30 : decode cX9_refusalOnLamp 30 = .ok (.getstatic 46, 3) := by decide +kernel
theorem dX9_refusalOnLamp_33 : decode cX9_refusalOnLamp 33 = .ok (.areturn, 1) := by decide +kernel
set_option maxRecDepth 20000 in
theorem ggX9_refusalToDeliver_X11_within : GoodIn wsX9_refusalToDeliver wsX11_within := goodIn_r _ [8] (by decide +kernel) (by decide +kernel)
set_option maxRecDepth 20000 in
theorem gX9_refusalToDeliver_X11_within_n42 : GoodIn wsX9_refusalToDeliver (wsX11_within) := ggX9_refusalToDeliver_X11_within
theorem dX9_refusalToDeliver_0 : decode cX9_refusalToDeliver 0 = .ok (.iload_n 1, 1) := by decide +kernel
theorem dX9_refusalToDeliver_1 : decode cX9_refusalToDeliver 1 = .ok (.iconst 1, 1) := by decide +kernel
theorem dX9_refusalToDeliver_2 : decode cX9_refusalToDeliver 2 = .ok (.sipush 200, 3) := by decide +kernel
theorem dX9_refusalToDeliver_5 : decode cX9_refusalToDeliver 5 = .ok (.invokestatic 42, 3) := by decide +kernel
theorem dX9_refusalToDeliver_8 : decode cX9_refusalToDeliver 8 = .ok (.ifCond .ne 7, 3) := by decide +kernel
theorem dX9_refusalToDeliver_11 : decode cX9_refusalToDeliver 11 = .ok (.getstatic 46, 3) := by decide +kernel
theorem dX9_refusalToDeliver_14 : decode cX9_refusalToDeliver 14 = .ok (.areturn, 1) := by decide +kernel
theorem dX9_refusalToDeliver_15 : decode cX9_refusalToDeliver 15 = .ok (.aload_n 0, 1) := by decide +kernel
theorem dX9_refusalToDeliver_16 : decode cX9_refusalToDeliver 16 = .ok (.getfield 12, 3) := by decide +kernel
theorem dX9_refusalToDeliver_19 : decode cX9_refusalToDeliver 19 = .ok (.getfield 52, 3) := by decide +kernel
theorem dX9_refusalToDeliver_22 : decode cX9_refusalToDeliver 22 = .ok (.ifCond .ne 9, 3) := by decide +kernel
theorem dX9_refusalToDeliver_25 : decode cX9_refusalToDeliver 25 = .ok (.getstatic 56, 3) := by decide +kernel
theorem dX9_refusalToDeliver_28 : decode cX9_refusalToDeliver 28 = .ok (.goto 6, 3) := by decide +kernel
theorem dX9_refusalToDeliver_31 : decode cX9_refusalToDeliver 31 = .ok (.getstatic 59, 3) := by decide +kernel
theorem dX9_refusalToDeliver_34 : decode cX9_refusalToDeliver 34 = .ok (.areturn, 1) := by decide +kernel
set_option maxRecDepth 20000 in
theorem ggX9_pourOil_X1_divideBySorting : GoodIn wsX9_pourOil wsX1_divideBySorting := goodIn_ca (goodIn_r _ [16, 17, 18, 19, 20, 21, 22, 15, 23, 24, 25, 26, 27, 28, 29, 30, 31, 32, 33, 34, 35, 39, 40, 41, 42, 43, 44, 45, 46, 47, 48, 49] (by decide +kernel) (by decide +kernel)) (goodIn_sub (fun _ h => List.mem_cons_of_mem _ (List.mem_append_right _ h)) (by decide +kernel))
set_option maxRecDepth 20000 in
theorem gX9_pourOil_X1_divideBySorting : GoodIn wsX9_pourOil (wsV RX9 95 RX1 yX1_divideBySorting wsX1_divideBySorting) := goodIn_app (goodIn_of _ (by decide +kernel)) ggX9_pourOil_X1_divideBySorting
theorem dX9_pourOil_0 : decode cX9_pourOil 0 = .ok (.aload_n 2, 1) := by decide +kernel
theorem dX9_pourOil_1 : decode cX9_pourOil 1 = .ok (.aload_n 0, 1) := by decide +kernel
theorem dX9_pourOil_2 : decode cX9_pourOil 2 = .ok (.getfield 12, 3) := by decide +kernel
theorem dX9_pourOil_5 : decode cX9_pourOil 5 = .ok (.iload_n 1, 1) := by decide +kernel
theorem dX9_pourOil_6 : decode cX9_pourOil 6 = .ok (.invokevirtual 95, 3) := by decide +kernel
theorem dX9_pourOil_9 : decode cX9_pourOil 9 = .ok (.iconst 0, 1) := by decide +kernel
theorem dX9_pourOil_10 : decode cX9_pourOil 10 = .ok (.istore_n 3, 1) := by decide +kernel
theorem dX9_pourOil_11 : decode cX9_pourOil 11 = .ok (.iconst 0, 1) := by decide +kernel
theorem dX9_pourOil_12 : decode cX9_pourOil 12 = .ok (.istore 4, 2) := by decide +kernel
theorem dX9_pourOil_14 : decode cX9_pourOil 14 = .ok (.iload 4, 2) := by decide +kernel
theorem dX9_pourOil_16 : decode cX9_pourOil 16 = .ok (.aload_n 0, 1) := by decide +kernel
theorem dX9_pourOil_17 : decode cX9_pourOil 17 = .ok (.getfield 12, 3) := by decide +kernel
theorem dX9_pourOil_20 : decode cX9_pourOil 20 = .ok (.getfield 52, 3) := by decide +kernel
theorem dX9_pourOil_23 : decode cX9_pourOil 23 = .ok (.if_icmp .ge 54, 3) := by decide +kernel
theorem dX9_pourOil_26 : decode cX9_pourOil 26 = .ok (.aload_n 2, 1) := by decide +kernel
theorem dX9_pourOil_27 : decode cX9_pourOil 27 = .ok (.getfield 101, 3) := by decide +kernel
theorem dX9_pourOil_30 : decode cX9_pourOil 30 = .ok (.iload 4, 2) := by decide +kernel
theorem dX9_pourOil_32 : decode cX9_pourOil 32 = .ok (.iaload, 1) := by decide +kernel
theorem dX9_pourOil_33 : decode cX9_pourOil 33 = .ok (.bipush 60, 2) := by decide +kernel
theorem dX9_pourOil_35 : decode cX9_pourOil 35 = .ok (.aload_n 0, 1) := by decide +kernel
theorem dX9_pourOil_36 : decode cX9_pourOil 36 = .ok (.getfield 12, 3) := by decide +kernel
theorem dX9_pourOil_39 : decode cX9_pourOil 39 = .ok (.getfield 79, 3) := by decide +kernel
theorem dX9_pourOil_42 : decode cX9_pourOil 42 = .ok (.iload 4, 2) := by decide +kernel
theorem dX9_pourOil_44 : decode cX9_pourOil 44 = .ok (.iaload, 1) := by decide +kernel
theorem dX9_pourOil_45 : decode cX9_pourOil 45 = .ok (.isub, 1) := by decide +kernel
theorem dX9_pourOil_46 : decode cX9_pourOil 46 = .ok (.invokestatic 104, 3) := by decide +kernel
theorem dX9_pourOil_49 : decode cX9_pourOil 49 = .ok (.istore 5, 2) := by decide +kernel
theorem dX9_pourOil_51 : decode cX9_pourOil 51 = .ok (.aload_n 0, 1) := by decide +kernel
theorem dX9_pourOil_52 : decode cX9_pourOil 52 = .ok (.getfield 12, 3) := by decide +kernel
theorem dX9_pourOil_55 : decode cX9_pourOil 55 = .ok (.getfield 79, 3) := by decide +kernel
theorem dX9_pourOil_58 : decode cX9_pourOil 58 = .ok (.iload 4, 2) := by decide +kernel
theorem dX9_pourOil_60 : decode cX9_pourOil 60 = .ok (.dup2, 1) := by decide +kernel
theorem dX9_pourOil_61 : decode cX9_pourOil 61 = .ok (.iaload, 1) := by decide +kernel
theorem dX9_pourOil_62 : decode cX9_pourOil 62 = .ok (.iload 5, 2) := by decide +kernel
theorem dX9_pourOil_64 : decode cX9_pourOil 64 = .ok (.iadd, 1) := by decide +kernel
theorem dX9_pourOil_65 : decode cX9_pourOil 65 = .ok (.iastore, 1) := by decide +kernel
theorem dX9_pourOil_66 : decode cX9_pourOil 66 = .ok (.iload_n 3, 1) := by decide +kernel
theorem dX9_pourOil_67 : decode cX9_pourOil 67 = .ok (.iload 5, 2) := by decide +kernel
theorem dX9_pourOil_69 : decode cX9_pourOil 69 = .ok (.iadd, 1) := by decide +kernel
theorem dX9_pourOil_70 : decode cX9_pourOil 70 = .ok (.istore_n 3, 1) := by decide +kernel
theorem dX9_pourOil_71 : decode cX9_pourOil 71 = .ok (.iinc 4 1, 3) := by decide +kernel
theorem dX9_pourOil_74 : decode cX9_pourOil 74 = .ok (.goto (-60), 3) := by decide +kernel
theorem dX9_pourOil_77 : decode cX9_pourOil 77 = .ok (.aload_n 0, 1) := by decide +kernel
theorem dX9_pourOil_78 : decode cX9_pourOil 78 = .ok (.getfield 28, 3) := by decide +kernel
theorem dX9_pourOil_81 : decode cX9_pourOil 81 = .ok (.dup, 1) := by decide +kernel
theorem dX9_pourOil_82 : decode cX9_pourOil 82 = .ok (.getfield 76, 3) := by decide +kernel
theorem dX9_pourOil_85 : decode cX9_pourOil 85 = .ok (.iload_n 1, 1) := by decide +kernel
theorem dX9_pourOil_86 : decode cX9_pourOil 86 = .ok (.iload_n 3, 1) := by decide +kernel
theorem dX9_pourOil_87 : decode cX9_pourOil 87 = .ok (.isub, 1) := by decide +kernel
theorem dX9_pourOil_88 : decode cX9_pourOil 88 = .ok (.iadd, 1) := by decide +kernel
theorem dX9_pourOil_89 : decode cX9_pourOil 89 = .ok (.putfield 76, 3) := by decide +kernel
theorem dX9_pourOil_92 : decode cX9_pourOil 92 = .ok (.aload_n 0, 1) := by decide +kernel
theorem dX9_pourOil_93 : decode cX9_pourOil 93 = .ok (.getfield 28, 3) := by decide +kernel
theorem dX9_pourOil_96 : decode cX9_pourOil 96 = .ok (.dup, 1) := by decide +kernel
theorem dX9_pourOil_97 : decode cX9_pourOil 97 = .ok (.getfield 110, 3) := by decide +kernel
theorem dX9_pourOil_100 : decode cX9_pourOil 100 = .ok (.iload_n 1, 1) := by decide +kernel
theorem dX9_pourOil_101 : decode cX9_pourOil 101 = .ok (.iadd, 1) := by decide +kernel
theorem dX9_pourOil_102 : decode cX9_pourOil 102 = .ok (.putfield 110, 3) := by decide +kernel
theorem dX9_pourOil_105 : decode cX9_pourOil 105 = .ok (.iload_n 3, 1) := by decide +kernel
theorem dX9_pourOil_106 : decode cX9_pourOil 106 = .ok (.ireturn, 1) := by decide +kernel
set_option maxRecDepth 20000 in
theorem ggX9_refusalToBuy_X9_refusalOnLamp : GoodIn wsX9_refusalToBuy wsX9_refusalOnLamp := goodIn_r _ [12, 4, 13, 1, 14, 15, 16, 17, 18, 19, 20, 21, 22, 23, 24, 25, 26, 37, 38, 39, 40, 41, 42, 43, 44] (by decide +kernel) (by decide +kernel)
set_option maxRecDepth 20000 in
theorem gX9_refusalToBuy_X9_refusalOnLamp : GoodIn wsX9_refusalToBuy (wsV RX9 113 RX9 yX9_refusalOnLamp wsX9_refusalOnLamp) := goodIn_app (goodIn_of _ (by decide +kernel)) ggX9_refusalToBuy_X9_refusalOnLamp
theorem dX9_refusalToBuy_0 : decode cX9_refusalToBuy 0 = .ok (.aload_n 0, 1) := by decide +kernel
theorem dX9_refusalToBuy_1 : decode cX9_refusalToBuy 1 = .ok (.iload_n 1, 1) := by decide +kernel
theorem dX9_refusalToBuy_2 : decode cX9_refusalToBuy 2 = .ok (.iload_n 2, 1) := by decide +kernel
theorem dX9_refusalToBuy_3 : decode cX9_refusalToBuy 3 = .ok (.bipush 60, 2) := by decide +kernel
theorem dX9_refusalToBuy_5 : decode cX9_refusalToBuy 5 = .ok (.invokevirtual 113, 3) := by decide +kernel
theorem dX9_refusalToBuy_8 : decode cX9_refusalToBuy 8 = .ok (.astore_n 3, 1) := by decide +kernel
theorem dX9_refusalToBuy_9 : decode cX9_refusalToBuy 9 = .ok (.aload_n 3, 1) := by decide +kernel
theorem dX9_refusalToBuy_10 : decode cX9_refusalToBuy 10 = .ok (.getstatic 59, 3) := by decide +kernel
theorem dX9_refusalToBuy_13 : decode cX9_refusalToBuy 13 = .ok (.if_acmp .eq 5, 3) := by decide +kernel
theorem dX9_refusalToBuy_16 : decode cX9_refusalToBuy 16 = .ok (.aload_n 3, 1) := by decide +kernel
theorem dX9_refusalToBuy_17 : decode cX9_refusalToBuy 17 = .ok (.areturn, 1) := by decide +kernel
theorem dX9_refusalToBuy_18 : decode cX9_refusalToBuy 18 = .ok (.aload_n 0, 1) := by decide +kernel
theorem dX9_refusalToBuy_19 : decode cX9_refusalToBuy 19 = .ok (.getfield 28, 3) := by decide +kernel
theorem dX9_refusalToBuy_22 : decode cX9_refusalToBuy 22 = .ok (.getfield 76, 3) := by decide +kernel
theorem dX9_refusalToBuy_25 : decode cX9_refusalToBuy 25 = .ok (.iload_n 2, 1) := by decide +kernel
theorem dX9_refusalToBuy_26 : decode cX9_refusalToBuy 26 = .ok (.if_icmp .lt 36, 3) := by decide +kernel
theorem dX9_refusalToBuy_29 : decode cX9_refusalToBuy 29 = .ok (.bipush 60, 2) := by decide +kernel
theorem dX9_refusalToBuy_31 : decode cX9_refusalToBuy 31 = .ok (.aload_n 0, 1) := by decide +kernel
theorem dX9_refusalToBuy_32 : decode cX9_refusalToBuy 32 = .ok (.getfield 12, 3) := by decide +kernel
theorem dX9_refusalToBuy_35 : decode cX9_refusalToBuy 35 = .ok (.getfield 79, 3) := by decide +kernel
theorem dX9_refusalToBuy_38 : decode cX9_refusalToBuy 38 = .ok (.iload_n 1, 1) := by decide +kernel
theorem dX9_refusalToBuy_39 : decode cX9_refusalToBuy 39 = .ok (.iaload, 1) := by decide +kernel
theorem dX9_refusalToBuy_40 : decode cX9_refusalToBuy 40 = .ok (.isub, 1) := by decide +kernel
theorem dX9_refusalToBuy_41 : decode cX9_refusalToBuy 41 = .ok (.iload_n 2, 1) := by decide +kernel
theorem dX9_refusalToBuy_42 : decode cX9_refusalToBuy 42 = .ok (.if_icmp .lt 20, 3) := by decide +kernel
theorem dX9_refusalToBuy_45 : decode cX9_refusalToBuy 45 = .ok (.aload_n 0, 1) := by decide +kernel
theorem dX9_refusalToBuy_46 : decode cX9_refusalToBuy 46 = .ok (.getfield 12, 3) := by decide +kernel
theorem dX9_refusalToBuy_49 : decode cX9_refusalToBuy 49 = .ok (.getfield 85, 3) := by decide +kernel
theorem dX9_refusalToBuy_52 : decode cX9_refusalToBuy 52 = .ok (.iload_n 1, 1) := by decide +kernel
theorem dX9_refusalToBuy_53 : decode cX9_refusalToBuy 53 = .ok (.iaload, 1) := by decide +kernel
theorem dX9_refusalToBuy_54 : decode cX9_refusalToBuy 54 = .ok (.iload_n 2, 1) := by decide +kernel
theorem dX9_refusalToBuy_55 : decode cX9_refusalToBuy 55 = .ok (.if_icmp .lt 7, 3) := by decide +kernel
theorem dX9_refusalToBuy_58 : decode cX9_refusalToBuy 58 = .ok (.iconst 1, 1) := by decide +kernel
theorem dX9_refusalToBuy_59 : decode cX9_refusalToBuy 59 = .ok (.goto 4, 3) := by decide +kernel
theorem dX9_refusalToBuy_62 : decode cX9_refusalToBuy 62 = .ok (.iconst 0, 1) := by decide +kernel
theorem dX9_refusalToBuy_63 : decode cX9_refusalToBuy 63 = .ok (.istore 4, 2) := by decide +kernel
theorem dX9_refusalToBuy_65 : decode cX9_refusalToBuy 65 = .ok (.iload 4, 2) := by decide +kernel
theorem dX9_refusalToBuy_67 : decode cX9_refusalToBuy 67 = .ok (.ifCond .eq 9, 3) := by decide +kernel
theorem dX9_refusalToBuy_70 : decode cX9_refusalToBuy 70 = .ok (.getstatic 59, 3) := by decide +kernel
theorem dX9_refusalToBuy_73 : decode cX9_refusalToBuy 73 = .ok (.goto 6, 3) := by decide +kernel
theorem dX9_refusalToBuy_76 : decode cX9_refusalToBuy 76 = .ok (.getstatic 56, 3) := by decide +kernel
theorem dX9_refusalToBuy_79 : decode cX9_refusalToBuy 79 = .ok (.areturn, 1) := by decide +kernel
theorem dX9_sellOil_0 : decode cX9_sellOil 0 = .ok (.aload_n 0, 1) := by decide +kernel
theorem dX9_sellOil_1 : decode cX9_sellOil 1 = .ok (.getfield 28, 3) := by decide +kernel
theorem dX9_sellOil_4 : decode cX9_sellOil 4 = .ok (.dup, 1) := by decide +kernel
theorem dX9_sellOil_5 : decode cX9_sellOil 5 = .ok (.getfield 76, 3) := by decide +kernel
theorem dX9_sellOil_8 : decode cX9_sellOil 8 = .ok (.iload_n 2, 1) := by decide +kernel
theorem dX9_sellOil_9 : decode cX9_sellOil 9 = .ok (.isub, 1) := by decide +kernel
theorem dX9_sellOil_10 : decode cX9_sellOil 10 = .ok (.putfield 76, 3) := by decide +kernel
theorem dX9_sellOil_13 : decode cX9_sellOil 13 = .ok (.aload_n 0, 1) := by decide +kernel
theorem dX9_sellOil_14 : decode cX9_sellOil 14 = .ok (.getfield 12, 3) := by decide +kernel
theorem dX9_sellOil_17 : decode cX9_sellOil 17 = .ok (.getfield 79, 3) := by decide +kernel
theorem dX9_sellOil_20 : decode cX9_sellOil 20 = .ok (.iload_n 1, 1) := by decide +kernel
theorem dX9_sellOil_21 : decode cX9_sellOil 21 = .ok (.dup2, 1) := by decide +kernel
theorem dX9_sellOil_22 : decode cX9_sellOil 22 = .ok (.iaload, 1) := by decide +kernel
theorem dX9_sellOil_23 : decode cX9_sellOil 23 = .ok (.iload_n 2, 1) := by decide +kernel
theorem dX9_sellOil_24 : decode cX9_sellOil 24 = .ok (.iadd, 1) := by decide +kernel
theorem dX9_sellOil_25 : decode cX9_sellOil 25 = .ok (.iastore, 1) := by decide +kernel
theorem dX9_sellOil_26 : decode cX9_sellOil 26 = .ok (.aload_n 0, 1) := by decide +kernel
theorem dX9_sellOil_27 : decode cX9_sellOil 27 = .ok (.getfield 12, 3) := by decide +kernel
theorem dX9_sellOil_30 : decode cX9_sellOil 30 = .ok (.getfield 85, 3) := by decide +kernel
theorem dX9_sellOil_33 : decode cX9_sellOil 33 = .ok (.iload_n 1, 1) := by decide +kernel
theorem dX9_sellOil_34 : decode cX9_sellOil 34 = .ok (.dup2, 1) := by decide +kernel
theorem dX9_sellOil_35 : decode cX9_sellOil 35 = .ok (.iaload, 1) := by decide +kernel
theorem dX9_sellOil_36 : decode cX9_sellOil 36 = .ok (.iload_n 2, 1) := by decide +kernel
theorem dX9_sellOil_37 : decode cX9_sellOil 37 = .ok (.isub, 1) := by decide +kernel
theorem dX9_sellOil_38 : decode cX9_sellOil 38 = .ok (.iastore, 1) := by decide +kernel
theorem dX9_sellOil_39 : decode cX9_sellOil 39 = .ok (.aload_n 0, 1) := by decide +kernel
theorem dX9_sellOil_40 : decode cX9_sellOil 40 = .ok (.getfield 28, 3) := by decide +kernel
theorem dX9_sellOil_43 : decode cX9_sellOil 43 = .ok (.dup, 1) := by decide +kernel
theorem dX9_sellOil_44 : decode cX9_sellOil 44 = .ok (.getfield 82, 3) := by decide +kernel
theorem dX9_sellOil_47 : decode cX9_sellOil 47 = .ok (.iload_n 2, 1) := by decide +kernel
theorem dX9_sellOil_48 : decode cX9_sellOil 48 = .ok (.iadd, 1) := by decide +kernel
theorem dX9_sellOil_49 : decode cX9_sellOil 49 = .ok (.putfield 82, 3) := by decide +kernel
theorem dX9_sellOil_52 : decode cX9_sellOil 52 = .ok (.aload_n 0, 1) := by decide +kernel
theorem dX9_sellOil_53 : decode cX9_sellOil 53 = .ok (.getfield 12, 3) := by decide +kernel
theorem dX9_sellOil_56 : decode cX9_sellOil 56 = .ok (.getfield 79, 3) := by decide +kernel
theorem dX9_sellOil_59 : decode cX9_sellOil 59 = .ok (.iload_n 1, 1) := by decide +kernel
theorem dX9_sellOil_60 : decode cX9_sellOil 60 = .ok (.iaload, 1) := by decide +kernel
theorem dX9_sellOil_61 : decode cX9_sellOil 61 = .ok (.ireturn, 1) := by decide +kernel
set_option maxRecDepth 20000 in
theorem ggX9_refusalToDonate_X11_within : GoodIn wsX9_refusalToDonate wsX11_within := goodIn_r _ [8] (by decide +kernel) (by decide +kernel)
set_option maxRecDepth 20000 in
theorem gX9_refusalToDonate_X11_within_n42 : GoodIn wsX9_refusalToDonate (wsX11_within) := ggX9_refusalToDonate_X11_within
theorem dX9_refusalToDonate_0 : decode cX9_refusalToDonate 0 = .ok (.iload_n 1, 1) := by decide +kernel
theorem dX9_refusalToDonate_1 : decode cX9_refusalToDonate 1 = .ok (.iconst 1, 1) := by decide +kernel
theorem dX9_refusalToDonate_2 : decode cX9_refusalToDonate 2 = .ok (.bipush 50, 2) := by decide +kernel
theorem dX9_refusalToDonate_4 : decode cX9_refusalToDonate 4 = .ok (.invokestatic 42, 3) := by decide +kernel
theorem dX9_refusalToDonate_7 : decode cX9_refusalToDonate 7 = .ok (.ifCond .ne 7, 3) := by decide +kernel
theorem dX9_refusalToDonate_10 : decode cX9_refusalToDonate 10 = .ok (.getstatic 46, 3) := by decide +kernel
theorem dX9_refusalToDonate_13 : decode cX9_refusalToDonate 13 = .ok (.areturn, 1) := by decide +kernel
theorem dX9_refusalToDonate_14 : decode cX9_refusalToDonate 14 = .ok (.aload_n 0, 1) := by decide +kernel
theorem dX9_refusalToDonate_15 : decode cX9_refusalToDonate 15 = .ok (.getfield 28, 3) := by decide +kernel
theorem dX9_refusalToDonate_18 : decode cX9_refusalToDonate 18 = .ok (.getfield 69, 3) := by decide +kernel
theorem dX9_refusalToDonate_21 : decode cX9_refusalToDonate 21 = .ok (.iload_n 1, 1) := by decide +kernel
theorem dX9_refusalToDonate_22 : decode cX9_refusalToDonate 22 = .ok (.iadd, 1) := by decide +kernel
theorem dX9_refusalToDonate_23 : decode cX9_refusalToDonate 23 = .ok (.bipush 99, 2) := by decide +kernel
theorem dX9_refusalToDonate_25 : decode cX9_refusalToDonate 25 = .ok (.if_icmp .le 9, 3) := by decide +kernel
theorem dX9_refusalToDonate_28 : decode cX9_refusalToDonate 28 = .ok (.getstatic 56, 3) := by decide +kernel
theorem dX9_refusalToDonate_31 : decode cX9_refusalToDonate 31 = .ok (.goto 6, 3) := by decide +kernel
theorem dX9_refusalToDonate_34 : decode cX9_refusalToDonate 34 = .ok (.getstatic 59, 3) := by decide +kernel
theorem dX9_refusalToDonate_37 : decode cX9_refusalToDonate 37 = .ok (.areturn, 1) := by decide +kernel
theorem dX9_takeDonation_0 : decode cX9_takeDonation 0 = .ok (.aload_n 0, 1) := by decide +kernel
theorem dX9_takeDonation_1 : decode cX9_takeDonation 1 = .ok (.getfield 28, 3) := by decide +kernel
theorem dX9_takeDonation_4 : decode cX9_takeDonation 4 = .ok (.dup, 1) := by decide +kernel
theorem dX9_takeDonation_5 : decode cX9_takeDonation 5 = .ok (.getfield 69, 3) := by decide +kernel
theorem dX9_takeDonation_8 : decode cX9_takeDonation 8 = .ok (.iload_n 1, 1) := by decide +kernel
theorem dX9_takeDonation_9 : decode cX9_takeDonation 9 = .ok (.iadd, 1) := by decide +kernel
theorem dX9_takeDonation_10 : decode cX9_takeDonation 10 = .ok (.putfield 69, 3) := by decide +kernel
theorem dX9_takeDonation_13 : decode cX9_takeDonation 13 = .ok (.aload_n 0, 1) := by decide +kernel
theorem dX9_takeDonation_14 : decode cX9_takeDonation 14 = .ok (.getfield 28, 3) := by decide +kernel
theorem dX9_takeDonation_17 : decode cX9_takeDonation 17 = .ok (.dup, 1) := by decide +kernel
theorem dX9_takeDonation_18 : decode cX9_takeDonation 18 = .ok (.getfield 117, 3) := by decide +kernel
theorem dX9_takeDonation_21 : decode cX9_takeDonation 21 = .ok (.iload_n 1, 1) := by decide +kernel
theorem dX9_takeDonation_22 : decode cX9_takeDonation 22 = .ok (.iadd, 1) := by decide +kernel
theorem dX9_takeDonation_23 : decode cX9_takeDonation 23 = .ok (.putfield 117, 3) := by decide +kernel
theorem dX9_takeDonation_26 : decode cX9_takeDonation 26 = .ok (.aload_n 0, 1) := by decide +kernel
theorem dX9_takeDonation_27 : decode cX9_takeDonation 27 = .ok (.getfield 28, 3) := by decide +kernel
theorem dX9_takeDonation_30 : decode cX9_takeDonation 30 = .ok (.getfield 69, 3) := by decide +kernel
theorem dX9_takeDonation_33 : decode cX9_takeDonation 33 = .ok (.ireturn, 1) := by decide +kernel
set_option maxRecDepth 20000 in
theorem ggX9_refusalToGive_X9_refusalOnLamp : GoodIn wsX9_refusalToGive wsX9_refusalOnLamp := goodIn_r _ [11, 4, 12, 1, 13, 14, 15, 16, 17, 18, 19, 20, 21, 22, 23, 24, 25, 36, 37, 38, 39, 40, 41, 42, 43] (by decide +kernel) (by decide +kernel)
set_option maxRecDepth 20000 in
theorem gX9_refusalToGive_X9_refusalOnLamp : GoodIn wsX9_refusalToGive (wsV RX9 113 RX9 yX9_refusalOnLamp wsX9_refusalOnLamp) := goodIn_app (goodIn_of _ (by decide +kernel)) ggX9_refusalToGive_X9_refusalOnLamp
theorem dX9_refusalToGive_0 : decode cX9_refusalToGive 0 = .ok (.aload_n 0, 1) := by decide +kernel
theorem dX9_refusalToGive_1 : decode cX9_refusalToGive 1 = .ok (.iload_n 1, 1) := by decide +kernel
theorem dX9_refusalToGive_2 : decode cX9_refusalToGive 2 = .ok (.iload_n 2, 1) := by decide +kernel
theorem dX9_refusalToGive_3 : decode cX9_refusalToGive 3 = .ok (.bipush 9, 2) := by decide +kernel
theorem dX9_refusalToGive_5 : decode cX9_refusalToGive 5 = .ok (.invokevirtual 113, 3) := by decide +kernel
theorem dX9_refusalToGive_8 : decode cX9_refusalToGive 8 = .ok (.astore_n 3, 1) := by decide +kernel
theorem dX9_refusalToGive_9 : decode cX9_refusalToGive 9 = .ok (.aload_n 3, 1) := by decide +kernel
theorem dX9_refusalToGive_10 : decode cX9_refusalToGive 10 = .ok (.getstatic 59, 3) := by decide +kernel
theorem dX9_refusalToGive_13 : decode cX9_refusalToGive 13 = .ok (.if_acmp .eq 5, 3) := by decide +kernel
theorem dX9_refusalToGive_16 : decode cX9_refusalToGive 16 = .ok (.aload_n 3, 1) := by decide +kernel
theorem dX9_refusalToGive_17 : decode cX9_refusalToGive 17 = .ok (.areturn, 1) := by decide +kernel
theorem dX9_refusalToGive_18 : decode cX9_refusalToGive 18 = .ok (.aload_n 0, 1) := by decide +kernel
theorem dX9_refusalToGive_19 : decode cX9_refusalToGive 19 = .ok (.getfield 28, 3) := by decide +kernel
theorem dX9_refusalToGive_22 : decode cX9_refusalToGive 22 = .ok (.getfield 69, 3) := by decide +kernel
theorem dX9_refusalToGive_25 : decode cX9_refusalToGive 25 = .ok (.iload_n 2, 1) := by decide +kernel
theorem dX9_refusalToGive_26 : decode cX9_refusalToGive 26 = .ok (.if_icmp .lt 23, 3) := by decide +kernel
theorem dX9_refusalToGive_29 : decode cX9_refusalToGive 29 = .ok (.aload_n 0, 1) := by decide +kernel
theorem dX9_refusalToGive_30 : decode cX9_refusalToGive 30 = .ok (.getfield 12, 3) := by decide +kernel
theorem dX9_refusalToGive_33 : decode cX9_refusalToGive 33 = .ok (.getfield 72, 3) := by decide +kernel
theorem dX9_refusalToGive_36 : decode cX9_refusalToGive 36 = .ok (.iload_n 1, 1) := by decide +kernel
theorem dX9_refusalToGive_37 : decode cX9_refusalToGive 37 = .ok (.iaload, 1) := by decide +kernel
theorem dX9_refusalToGive_38 : decode cX9_refusalToGive 38 = .ok (.iload_n 2, 1) := by decide +kernel
theorem dX9_refusalToGive_39 : decode cX9_refusalToGive 39 = .ok (.iadd, 1) := by decide +kernel
theorem dX9_refusalToGive_40 : decode cX9_refusalToGive 40 = .ok (.bipush 9, 2) := by decide +kernel
theorem dX9_refusalToGive_42 : decode cX9_refusalToGive 42 = .ok (.if_icmp .gt 7, 3) := by decide +kernel
theorem dX9_refusalToGive_45 : decode cX9_refusalToGive 45 = .ok (.iconst 1, 1) := by decide +kernel
theorem dX9_refusalToGive_46 : decode cX9_refusalToGive 46 = .ok (.goto 4, 3) := by decide +kernel
theorem dX9_refusalToGive_49 : decode cX9_refusalToGive 49 = .ok (.iconst 0, 1) := by decide +kernel
theorem dX9_refusalToGive_50 : decode cX9_refusalToGive 50 = .ok (.istore 4, 2) := by decide +kernel
theorem dX9_refusalToGive_52 : decode cX9_refusalToGive 52 = .ok (.iload 4, 2) := by decide +kernel
theorem dX9_refusalToGive_54 : decode cX9_refusalToGive 54 = .ok (.ifCond .eq 9, 3) := by decide +kernel
theorem dX9_refusalToGive_57 : decode cX9_refusalToGive 57 = .ok (.getstatic 59, 3) := by decide +kernel
theorem dX9_refusalToGive_60 : decode cX9_refusalToGive 60 = .ok (.goto 6, 3) := by decide +kernel
theorem dX9_refusalToGive_63 : decode cX9_refusalToGive 63 = .ok (.getstatic 56, 3) := by decide +kernel
theorem dX9_refusalToGive_66 : decode cX9_refusalToGive 66 = .ok (.areturn, 1) := by decide +kernel
set_option maxRecDepth 20000 in
theorem ggX9_refusalToReturn_X9_refusalOnLamp : GoodIn wsX9_refusalToReturn wsX9_refusalOnLamp := goodIn_r _ [11, 2, 12, 1, 13, 14, 15, 16, 17, 18, 19, 20, 21, 22, 23, 24, 25, 26, 27, 28, 29, 30, 31, 32, 33] (by decide +kernel) (by decide +kernel)
set_option maxRecDepth 20000 in
theorem gX9_refusalToReturn_X9_refusalOnLamp : GoodIn wsX9_refusalToReturn (wsV RX9 113 RX9 yX9_refusalOnLamp wsX9_refusalOnLamp) := goodIn_app (goodIn_of _ (by decide +kernel)) ggX9_refusalToReturn_X9_refusalOnLamp
theorem dX9_refusalToReturn_0 : decode cX9_refusalToReturn 0 = .ok (.aload_n 0, 1) := by decide +kernel
theorem dX9_refusalToReturn_1 : decode cX9_refusalToReturn 1 = .ok (.iload_n 1, 1) := by decide +kernel
theorem dX9_refusalToReturn_2 : decode cX9_refusalToReturn 2 = .ok (.iload_n 2, 1) := by decide +kernel
theorem dX9_refusalToReturn_3 : decode cX9_refusalToReturn 3 = .ok (.bipush 9, 2) := by decide +kernel
theorem dX9_refusalToReturn_5 : decode cX9_refusalToReturn 5 = .ok (.invokevirtual 113, 3) := by decide +kernel
theorem dX9_refusalToReturn_8 : decode cX9_refusalToReturn 8 = .ok (.astore_n 3, 1) := by decide +kernel
theorem dX9_refusalToReturn_9 : decode cX9_refusalToReturn 9 = .ok (.aload_n 3, 1) := by decide +kernel
theorem dX9_refusalToReturn_10 : decode cX9_refusalToReturn 10 = .ok (.getstatic 59, 3) := by decide +kernel
theorem dX9_refusalToReturn_13 : decode cX9_refusalToReturn 13 = .ok (.if_acmp .eq 5, 3) := by decide +kernel
theorem dX9_refusalToReturn_16 : decode cX9_refusalToReturn 16 = .ok (.aload_n 3, 1) := by decide +kernel
theorem dX9_refusalToReturn_17 : decode cX9_refusalToReturn 17 = .ok (.areturn, 1) := by decide +kernel
theorem dX9_refusalToReturn_18 : decode cX9_refusalToReturn 18 = .ok (.aload_n 0, 1) := by decide +kernel
theorem dX9_refusalToReturn_19 : decode cX9_refusalToReturn 19 = .ok (.getfield 12, 3) := by decide +kernel
theorem dX9_refusalToReturn_22 : decode cX9_refusalToReturn 22 = .ok (.getfield 72, 3) := by decide +kernel
theorem dX9_refusalToReturn_25 : decode cX9_refusalToReturn 25 = .ok (.iload_n 1, 1) := by decide +kernel
theorem dX9_refusalToReturn_26 : decode cX9_refusalToReturn 26 = .ok (.iaload, 1) := by decide +kernel
theorem dX9_refusalToReturn_27 : decode cX9_refusalToReturn 27 = .ok (.iload_n 2, 1) := by decide +kernel
theorem dX9_refusalToReturn_28 : decode cX9_refusalToReturn 28 = .ok (.if_icmp .lt 21, 3) := by decide +kernel
theorem dX9_refusalToReturn_31 : decode cX9_refusalToReturn 31 = .ok (.aload_n 0, 1) := by decide +kernel
theorem dX9_refusalToReturn_32 : decode cX9_refusalToReturn 32 = .ok (.getfield 28, 3) := by decide +kernel
theorem dX9_refusalToReturn_35 : decode cX9_refusalToReturn 35 = .ok (.getfield 69, 3) := by decide +kernel
theorem dX9_refusalToReturn_38 : decode cX9_refusalToReturn 38 = .ok (.iload_n 2, 1) := by decide +kernel
theorem dX9_refusalToReturn_39 : decode cX9_refusalToReturn 39 = .ok (.iadd, 1) := by decide +kernel
theorem dX9_refusalToReturn_40 : decode cX9_refusalToReturn 40 = .ok (.bipush 99, 2) := by decide +kernel
theorem dX9_refusalToReturn_42 : decode cX9_refusalToReturn 42 = .ok (.if_icmp .gt 7, 3) := by decide +kernel
theorem dX9_refusalToReturn_45 : decode cX9_refusalToReturn 45 = .ok (.iconst 1, 1) := by decide +kernel
theorem dX9_refusalToReturn_46 : decode cX9_refusalToReturn 46 = .ok (.goto 4, 3) := by decide +kernel
theorem dX9_refusalToReturn_49 : decode cX9_refusalToReturn 49 = .ok (.iconst 0, 1) := by decide +kernel
theorem dX9_refusalToReturn_50 : decode cX9_refusalToReturn 50 = .ok (.istore 4, 2) := by decide +kernel
theorem dX9_refusalToReturn_52 : decode cX9_refusalToReturn 52 = .ok (.iload 4, 2) := by decide +kernel
theorem dX9_refusalToReturn_54 : decode cX9_refusalToReturn 54 = .ok (.ifCond .eq 9, 3) := by decide +kernel
theorem dX9_refusalToReturn_57 : decode cX9_refusalToReturn 57 = .ok (.getstatic 59, 3) := by decide +kernel
theorem dX9_refusalToReturn_60 : decode cX9_refusalToReturn 60 = .ok (.goto 6, 3) := by decide +kernel
theorem dX9_refusalToReturn_63 : decode cX9_refusalToReturn 63 = .ok (.getstatic 56, 3) := by decide +kernel
theorem dX9_refusalToReturn_66 : decode cX9_refusalToReturn 66 = .ok (.areturn, 1) := by decide +kernel
theorem dX9_moveWickToLamp_0 : decode cX9_moveWickToLamp 0 = .ok (.aload_n 0, 1) := by decide +kernel
theorem dX9_moveWickToLamp_1 : decode cX9_moveWickToLamp 1 = .ok (.getfield 28, 3) := by decide +kernel
theorem dX9_moveWickToLamp_4 : decode cX9_moveWickToLamp 4 = .ok (.dup, 1) := by decide +kernel
theorem dX9_moveWickToLamp_5 : decode cX9_moveWickToLamp 5 = .ok (.getfield 69, 3) := by decide +kernel
theorem dX9_moveWickToLamp_8 : decode cX9_moveWickToLamp 8 = .ok (.iload_n 2, 1) := by decide +kernel
theorem dX9_moveWickToLamp_9 : decode cX9_moveWickToLamp 9 = .ok (.isub, 1) := by decide +kernel
theorem dX9_moveWickToLamp_10 : decode cX9_moveWickToLamp 10 = .ok (.putfield 69, 3) := by decide +kernel
theorem dX9_moveWickToLamp_13 : decode cX9_moveWickToLamp 13 = .ok (.aload_n 0, 1) := by decide +kernel
theorem dX9_moveWickToLamp_14 : decode cX9_moveWickToLamp 14 = .ok (.getfield 12, 3) := by decide +kernel
theorem dX9_moveWickToLamp_17 : decode cX9_moveWickToLamp 17 = .ok (.getfield 72, 3) := by decide +kernel
theorem dX9_moveWickToLamp_20 : decode cX9_moveWickToLamp 20 = .ok (.iload_n 1, 1) := by decide +kernel
theorem dX9_moveWickToLamp_21 : decode cX9_moveWickToLamp 21 = .ok (.dup2, 1) := by decide +kernel
theorem dX9_moveWickToLamp_22 : decode cX9_moveWickToLamp 22 = .ok (.iaload, 1) := by decide +kernel
theorem dX9_moveWickToLamp_23 : decode cX9_moveWickToLamp 23 = .ok (.iload_n 2, 1) := by decide +kernel
theorem dX9_moveWickToLamp_24 : decode cX9_moveWickToLamp 24 = .ok (.iadd, 1) := by decide +kernel
theorem dX9_moveWickToLamp_25 : decode cX9_moveWickToLamp 25 = .ok (.iastore, 1) := by decide +kernel
theorem dX9_moveWickToLamp_26 : decode cX9_moveWickToLamp 26 = .ok (.aload_n 0, 1) := by decide +kernel
theorem dX9_moveWickToLamp_27 : decode cX9_moveWickToLamp 27 = .ok (.getfield 12, 3) := by decide +kernel
theorem dX9_moveWickToLamp_30 : decode cX9_moveWickToLamp 30 = .ok (.getfield 72, 3) := by decide +kernel
theorem dX9_moveWickToLamp_33 : decode cX9_moveWickToLamp 33 = .ok (.iload_n 1, 1) := by decide +kernel
theorem dX9_moveWickToLamp_34 : decode cX9_moveWickToLamp 34 = .ok (.iaload, 1) := by decide +kernel
theorem dX9_moveWickToLamp_35 : decode cX9_moveWickToLamp 35 = .ok (.ireturn, 1) := by decide +kernel
theorem dX9_refusalToPay_0 : decode cX9_refusalToPay 0 = .ok (.aload_n 0, 1) := by decide +kernel
theorem dX9_refusalToPay_1 : decode cX9_refusalToPay 1 = .ok (.getfield 12, 3) := by decide +kernel
theorem dX9_refusalToPay_4 : decode cX9_refusalToPay 4 = .ok (.getfield 52, 3) := by decide +kernel
theorem dX9_refusalToPay_7 : decode cX9_refusalToPay 7 = .ok (.ifCond .eq 13, 3) := by decide +kernel
theorem dX9_refusalToPay_10 : decode cX9_refusalToPay 10 = .ok (.aload_n 0, 1) := by decide +kernel
theorem dX9_refusalToPay_11 : decode cX9_refusalToPay 11 = .ok (.getfield 28, 3) := by decide +kernel
theorem dX9_refusalToPay_14 : decode cX9_refusalToPay 14 = .ok (.getfield 82, 3) := by decide +kernel
theorem dX9_refusalToPay_17 : decode cX9_refusalToPay 17 = .ok (.ifCond .ne 9, 3) := by decide +kernel
theorem dX9_refusalToPay_20 : decode cX9_refusalToPay 20 = .ok (.getstatic 56, 3) := by decide +kernel
theorem dX9_refusalToPay_23 : decode cX9_refusalToPay 23 = .ok (.goto 6, 3) := by decide +kernel
theorem dX9_refusalToPay_26 : decode cX9_refusalToPay 26 = .ok (.getstatic 59, 3) := by decide +kernel
theorem dX9_refusalToPay_29 : decode cX9_refusalToPay 29 = .ok (.areturn, 1) := by decide +kernel
set_option maxRecDepth 20000 in
theorem ggX9_shareTreasury_X1_divideBySorting : GoodIn wsX9_shareTreasury wsX1_divideBySorting := goodIn_ca (goodIn_r _ [11, 12, 13, 14, 15, 16, 17, 10, 18, 19, 20, 21, 22, 23, 24, 25, 26, 27, 28, 29, 30, 44, 45, 46, 47, 48, 49, 50, 51, 52, 53, 54] (by decide +kernel) (by decide +kernel)) (goodIn_sub (fun _ h => List.mem_cons_of_mem _ (List.mem_append_right _ h)) (by decide +kernel))
set_option maxRecDepth 20000 in
theorem gX9_shareTreasury_X1_divideBySorting : GoodIn wsX9_shareTreasury (wsV RX9 95 RX1 yX1_divideBySorting wsX1_divideBySorting) := goodIn_app (goodIn_of _ (by decide +kernel)) ggX9_shareTreasury_X1_divideBySorting
theorem dX9_shareTreasury_0 : decode cX9_shareTreasury 0 = .ok (.aload_n 0, 1) := by decide +kernel
theorem dX9_shareTreasury_1 : decode cX9_shareTreasury 1 = .ok (.getfield 28, 3) := by decide +kernel
theorem dX9_shareTreasury_4 : decode cX9_shareTreasury 4 = .ok (.getfield 82, 3) := by decide +kernel
theorem dX9_shareTreasury_7 : decode cX9_shareTreasury 7 = .ok (.istore_n 2, 1) := by decide +kernel
theorem dX9_shareTreasury_8 : decode cX9_shareTreasury 8 = .ok (.aload_n 1, 1) := by decide +kernel
theorem dX9_shareTreasury_9 : decode cX9_shareTreasury 9 = .ok (.aload_n 0, 1) := by decide +kernel
theorem dX9_shareTreasury_10 : decode cX9_shareTreasury 10 = .ok (.getfield 12, 3) := by decide +kernel
theorem dX9_shareTreasury_13 : decode cX9_shareTreasury 13 = .ok (.iload_n 2, 1) := by decide +kernel
theorem dX9_shareTreasury_14 : decode cX9_shareTreasury 14 = .ok (.invokevirtual 95, 3) := by decide +kernel
theorem dX9_shareTreasury_17 : decode cX9_shareTreasury 17 = .ok (.iconst 0, 1) := by decide +kernel
theorem dX9_shareTreasury_18 : decode cX9_shareTreasury 18 = .ok (.istore_n 3, 1) := by decide +kernel
theorem dX9_shareTreasury_19 : decode cX9_shareTreasury 19 = .ok (.iload_n 3, 1) := by decide +kernel
theorem dX9_shareTreasury_20 : decode cX9_shareTreasury 20 = .ok (.aload_n 0, 1) := by decide +kernel
theorem dX9_shareTreasury_21 : decode cX9_shareTreasury 21 = .ok (.getfield 12, 3) := by decide +kernel
theorem dX9_shareTreasury_24 : decode cX9_shareTreasury 24 = .ok (.getfield 52, 3) := by decide +kernel
theorem dX9_shareTreasury_27 : decode cX9_shareTreasury 27 = .ok (.if_icmp .ge 27, 3) := by decide +kernel
theorem dX9_shareTreasury_30 : decode cX9_shareTreasury 30 = .ok (.aload_n 0, 1) := by decide +kernel
theorem dX9_shareTreasury_31 : decode cX9_shareTreasury 31 = .ok (.getfield 12, 3) := by decide +kernel
theorem dX9_shareTreasury_34 : decode cX9_shareTreasury 34 = .ok (.getfield 85, 3) := by decide +kernel
theorem dX9_shareTreasury_37 : decode cX9_shareTreasury 37 = .ok (.iload_n 3, 1) := by decide +kernel
theorem dX9_shareTreasury_38 : decode cX9_shareTreasury 38 = .ok (.dup2, 1) := by decide +kernel
theorem dX9_shareTreasury_39 : decode cX9_shareTreasury 39 = .ok (.iaload, 1) := by decide +kernel
theorem dX9_shareTreasury_40 : decode cX9_shareTreasury 40 = .ok (.aload_n 1, 1) := by decide +kernel
theorem dX9_shareTreasury_41 : decode cX9_shareTreasury 41 = .ok (.getfield 101, 3) := by decide +kernel
theorem dX9_shareTreasury_44 : decode cX9_shareTreasury 44 = .ok (.iload_n 3, 1) := by decide +kernel
theorem dX9_shareTreasury_45 : decode cX9_shareTreasury 45 = .ok (.iaload, 1) := by decide +kernel
theorem dX9_shareTreasury_46 : decode cX9_shareTreasury 46 = .ok (.iadd, 1) := by decide +kernel
theorem dX9_shareTreasury_47 : decode cX9_shareTreasury 47 = .ok (.iastore, 1) := by decide +kernel
theorem dX9_shareTreasury_48 : decode cX9_shareTreasury 48 = .ok (.iinc 3 1, 3) := by decide +kernel
theorem dX9_shareTreasury_51 : decode cX9_shareTreasury 51 = .ok (.goto (-32), 3) := by decide +kernel
theorem dX9_shareTreasury_54 : decode cX9_shareTreasury 54 = .ok (.aload_n 0, 1) := by decide +kernel
theorem dX9_shareTreasury_55 : decode cX9_shareTreasury 55 = .ok (.getfield 28, 3) := by decide +kernel
theorem dX9_shareTreasury_58 : decode cX9_shareTreasury 58 = .ok (.iconst 0, 1) := by decide +kernel
theorem dX9_shareTreasury_59 : decode cX9_shareTreasury 59 = .ok (.putfield 82, 3) := by decide +kernel
theorem dX9_shareTreasury_62 : decode cX9_shareTreasury 62 = .ok (.iload_n 2, 1) := by decide +kernel
theorem dX9_shareTreasury_63 : decode cX9_shareTreasury 63 = .ok (.ireturn, 1) := by decide +kernel
set_option maxRecDepth 20000 in
theorem ggX9_refusalToPortion_X5_has : GoodIn wsX9_refusalToPortion wsX5_has := goodIn_r _ [9, 10, 17, 18, 19, 20, 21, 22, 23, 24] (by decide +kernel) (by decide +kernel)
set_option maxRecDepth 20000 in
theorem gX9_refusalToPortion_X5_has : GoodIn wsX9_refusalToPortion (wsV RX9 62 RX5 yX5_has wsX5_has) := goodIn_app (goodIn_of _ (by decide +kernel)) ggX9_refusalToPortion_X5_has
set_option maxRecDepth 20000 in
theorem ggX9_refusalToPortion_X11_within : GoodIn wsX9_refusalToPortion wsX11_within := goodIn_r _ [13] (by decide +kernel) (by decide +kernel)
set_option maxRecDepth 20000 in
theorem gX9_refusalToPortion_X11_within_n42 : GoodIn wsX9_refusalToPortion (wsX11_within) := ggX9_refusalToPortion_X11_within
theorem dX9_refusalToPortion_0 : decode cX9_refusalToPortion 0 = .ok (.aload_n 0, 1) := by decide +kernel
theorem dX9_refusalToPortion_1 : decode cX9_refusalToPortion 1 = .ok (.getfield 12, 3) := by decide +kernel
theorem dX9_refusalToPortion_4 : decode cX9_refusalToPortion 4 = .ok (.iload_n 1, 1) := by decide +kernel
theorem dX9_refusalToPortion_5 : decode cX9_refusalToPortion 5 = .ok (.invokevirtual 62, 3) := by decide +kernel
theorem dX9_refusalToPortion_8 : decode cX9_refusalToPortion 8 = .ok (.ifCond .ne 7, 3) := by decide +kernel
theorem dX9_refusalToPortion_11 : decode cX9_refusalToPortion 11 = .ok (.getstatic 66, 3) := by decide +kernel
theorem dX9_refusalToPortion_14 : decode cX9_refusalToPortion 14 = .ok (.areturn, 1) := by decide +kernel
theorem dX9_refusalToPortion_15 : decode cX9_refusalToPortion 15 = .ok (.iload_n 2, 1) := by decide +kernel
theorem dX9_refusalToPortion_16 : decode cX9_refusalToPortion 16 = .ok (.iconst 0, 1) := by decide +kernel
theorem dX9_refusalToPortion_17 : decode cX9_refusalToPortion 17 = .ok (.sipush 999, 3) := by decide +kernel
theorem dX9_refusalToPortion_20 : decode cX9_refusalToPortion 20 = .ok (.invokestatic 42, 3) := by decide +kernel
theorem dX9_refusalToPortion_23 : decode cX9_refusalToPortion 23 = .ok (.ifCond .eq 9, 3) := by decide +kernel
theorem dX9_refusalToPortion_26 : decode cX9_refusalToPortion 26 = .ok (.getstatic 59, 3) := by decide +kernel
theorem dX9_refusalToPortion_29 : decode cX9_refusalToPortion 29 = .ok (.goto 6, 3) := by decide +kernel
theorem dX9_refusalToPortion_32 : decode cX9_refusalToPortion 32 = .ok (.getstatic 46, 3) := by decide +kernel
theorem dX9_refusalToPortion_35 : decode cX9_refusalToPortion 35 = .ok (.areturn, 1) := by decide +kernel
set_option maxRecDepth 20000 in
theorem ggX9_refusalToAddMoth_X5_has : GoodIn wsX9_refusalToAddMoth wsX5_has := goodIn_r _ [11, 12, 20, 21, 22, 23, 24, 25, 26, 27] (by decide +kernel) (by decide +kernel)
set_option maxRecDepth 20000 in
theorem gX9_refusalToAddMoth_X5_has : GoodIn wsX9_refusalToAddMoth (wsV RX9 62 RX5 yX5_has wsX5_has) := goodIn_app (goodIn_of _ (by decide +kernel)) ggX9_refusalToAddMoth_X5_has
theorem dX9_refusalToAddMoth_0 : decode cX9_refusalToAddMoth 0 = .ok (.aload_n 0, 1) := by decide +kernel
theorem dX9_refusalToAddMoth_1 : decode cX9_refusalToAddMoth 1 = .ok (.getfield 12, 3) := by decide +kernel
theorem dX9_refusalToAddMoth_4 : decode cX9_refusalToAddMoth 4 = .ok (.iload_n 1, 1) := by decide +kernel
theorem dX9_refusalToAddMoth_5 : decode cX9_refusalToAddMoth 5 = .ok (.invokevirtual 62, 3) := by decide +kernel
theorem dX9_refusalToAddMoth_8 : decode cX9_refusalToAddMoth 8 = .ok (.ifCond .ne 7, 3) := by decide +kernel
theorem dX9_refusalToAddMoth_11 : decode cX9_refusalToAddMoth 11 = .ok (.getstatic 66, 3) := by decide +kernel
theorem dX9_refusalToAddMoth_14 : decode cX9_refusalToAddMoth 14 = .ok (.areturn, 1) := by decide +kernel
theorem dX9_refusalToAddMoth_15 : decode cX9_refusalToAddMoth 15 = .ok (.aload_n 0, 1) := by decide +kernel
theorem dX9_refusalToAddMoth_16 : decode cX9_refusalToAddMoth 16 = .ok (.getfield 21, 3) := by decide +kernel
theorem dX9_refusalToAddMoth_19 : decode cX9_refusalToAddMoth 19 = .ok (.getfield 120, 3) := by decide +kernel
theorem dX9_refusalToAddMoth_22 : decode cX9_refusalToAddMoth 22 = .ok (.bipush 6, 2) := by decide +kernel
theorem dX9_refusalToAddMoth_24 : decode cX9_refusalToAddMoth 24 = .ok (.if_icmp .lt 9, 3) := by decide +kernel
theorem dX9_refusalToAddMoth_27 : decode cX9_refusalToAddMoth 27 = .ok (.getstatic 56, 3) := by decide +kernel
theorem dX9_refusalToAddMoth_30 : decode cX9_refusalToAddMoth 30 = .ok (.goto 6, 3) := by decide +kernel
theorem dX9_refusalToAddMoth_33 : decode cX9_refusalToAddMoth 33 = .ok (.getstatic 59, 3) := by decide +kernel
theorem dX9_refusalToAddMoth_36 : decode cX9_refusalToAddMoth 36 = .ok (.areturn, 1) := by decide +kernel
set_option maxRecDepth 20000 in
theorem ggX9_refusalToPropose_X11_within : GoodIn wsX9_refusalToPropose wsX11_within := goodIn_r _ [8] (by decide +kernel) (by decide +kernel)
set_option maxRecDepth 20000 in
theorem gX9_refusalToPropose_X11_within_n42 : GoodIn wsX9_refusalToPropose (wsX11_within) := ggX9_refusalToPropose_X11_within
theorem dX9_refusalToPropose_0 : decode cX9_refusalToPropose 0 = .ok (.iload_n 1, 1) := by decide +kernel
theorem dX9_refusalToPropose_1 : decode cX9_refusalToPropose 1 = .ok (.iconst 1, 1) := by decide +kernel
theorem dX9_refusalToPropose_2 : decode cX9_refusalToPropose 2 = .ok (.iconst 5, 1) := by decide +kernel
theorem dX9_refusalToPropose_3 : decode cX9_refusalToPropose 3 = .ok (.invokestatic 42, 3) := by decide +kernel
theorem dX9_refusalToPropose_6 : decode cX9_refusalToPropose 6 = .ok (.ifCond .ne 7, 3) := by decide +kernel
theorem dX9_refusalToPropose_9 : decode cX9_refusalToPropose 9 = .ok (.getstatic 46, 3) := by decide +kernel
theorem dX9_refusalToPropose_12 : decode cX9_refusalToPropose 12 = .ok (.areturn, 1) := by decide +kernel
theorem dX9_refusalToPropose_13 : decode cX9_refusalToPropose 13 = .ok (.aload_n 0, 1) := by decide +kernel
theorem dX9_refusalToPropose_14 : decode cX9_refusalToPropose 14 = .ok (.getfield 12, 3) := by decide +kernel
theorem dX9_refusalToPropose_17 : decode cX9_refusalToPropose 17 = .ok (.getfield 52, 3) := by decide +kernel
theorem dX9_refusalToPropose_20 : decode cX9_refusalToPropose 20 = .ok (.ifCond .ne 9, 3) := by decide +kernel
theorem dX9_refusalToPropose_23 : decode cX9_refusalToPropose 23 = .ok (.getstatic 56, 3) := by decide +kernel
theorem dX9_refusalToPropose_26 : decode cX9_refusalToPropose 26 = .ok (.goto 6, 3) := by decide +kernel
theorem dX9_refusalToPropose_29 : decode cX9_refusalToPropose 29 = .ok (.getstatic 59, 3) := by decide +kernel
theorem dX9_refusalToPropose_32 : decode cX9_refusalToPropose 32 = .ok (.areturn, 1) := by decide +kernel
set_option maxRecDepth 20000 in
theorem ggX9_totalsBalance_X5_sumOf : GoodIn wsX9_totalsBalance wsX5_sumOf := goodIn_ca (goodIn_r _ [19, 20, 24, 25, 26, 27, 28, 29, 30, 31] (by decide +kernel) (by decide +kernel)) (goodIn_sub (fun _ h => List.mem_cons_of_mem _ (List.mem_append_right _ h)) (by decide +kernel))
set_option maxRecDepth 20000 in
theorem gX9_totalsBalance_X5_sumOf : GoodIn wsX9_totalsBalance (wsV RX9 121 RX5 yX5_sumOf wsX5_sumOf) := goodIn_app (goodIn_of _ (by decide +kernel)) ggX9_totalsBalance_X5_sumOf
theorem dX9_totalsBalance_0 : decode cX9_totalsBalance 0 = .ok (.aload_n 0, 1) := by decide +kernel
theorem dX9_totalsBalance_1 : decode cX9_totalsBalance 1 = .ok (.getfield 12, 3) := by decide +kernel
theorem dX9_totalsBalance_4 : decode cX9_totalsBalance 4 = .ok (.aload_n 0, 1) := by decide +kernel
theorem dX9_totalsBalance_5 : decode cX9_totalsBalance 5 = .ok (.getfield 12, 3) := by decide +kernel
theorem dX9_totalsBalance_8 : decode cX9_totalsBalance 8 = .ok (.getfield 79, 3) := by decide +kernel
theorem dX9_totalsBalance_11 : decode cX9_totalsBalance 11 = .ok (.invokevirtual 121, 3) := by decide +kernel
theorem dX9_totalsBalance_14 : decode cX9_totalsBalance 14 = .ok (.aload_n 0, 1) := by decide +kernel
theorem dX9_totalsBalance_15 : decode cX9_totalsBalance 15 = .ok (.getfield 28, 3) := by decide +kernel
theorem dX9_totalsBalance_18 : decode cX9_totalsBalance 18 = .ok (.getfield 76, 3) := by decide +kernel
theorem dX9_totalsBalance_21 : decode cX9_totalsBalance 21 = .ok (.iadd, 1) := by decide +kernel
theorem dX9_totalsBalance_22 : decode cX9_totalsBalance 22 = .ok (.aload_n 0, 1) := by decide +kernel
theorem dX9_totalsBalance_23 : decode cX9_totalsBalance 23 = .ok (.getfield 28, 3) := by decide +kernel
theorem dX9_totalsBalance_26 : decode cX9_totalsBalance 26 = .ok (.getfield 125, 3) := by decide +kernel
theorem dX9_totalsBalance_29 : decode cX9_totalsBalance 29 = .ok (.iadd, 1) := by decide +kernel
theorem dX9_totalsBalance_30 : decode cX9_totalsBalance 30 = .ok (.aload_n 0, 1) := by decide +kernel
theorem dX9_totalsBalance_31 : decode cX9_totalsBalance 31 = .ok (.getfield 28, 3) := by decide +kernel
theorem dX9_totalsBalance_34 : decode cX9_totalsBalance 34 = .ok (.getfield 128, 3) := by decide +kernel
theorem dX9_totalsBalance_37 : decode cX9_totalsBalance 37 = .ok (.iadd, 1) := by decide +kernel
theorem dX9_totalsBalance_38 : decode cX9_totalsBalance 38 = .ok (.istore_n 1, 1) := by decide +kernel
theorem dX9_totalsBalance_39 : decode cX9_totalsBalance 39 = .ok (.aload_n 0, 1) := by decide +kernel
theorem dX9_totalsBalance_40 : decode cX9_totalsBalance 40 = .ok (.getfield 12, 3) := by decide +kernel
theorem dX9_totalsBalance_43 : decode cX9_totalsBalance 43 = .ok (.aload_n 0, 1) := by decide +kernel
theorem dX9_totalsBalance_44 : decode cX9_totalsBalance 44 = .ok (.getfield 12, 3) := by decide +kernel
theorem dX9_totalsBalance_47 : decode cX9_totalsBalance 47 = .ok (.getfield 72, 3) := by decide +kernel
theorem dX9_totalsBalance_50 : decode cX9_totalsBalance 50 = .ok (.invokevirtual 121, 3) := by decide +kernel
theorem dX9_totalsBalance_53 : decode cX9_totalsBalance 53 = .ok (.aload_n 0, 1) := by decide +kernel
theorem dX9_totalsBalance_54 : decode cX9_totalsBalance 54 = .ok (.getfield 28, 3) := by decide +kernel
theorem dX9_totalsBalance_57 : decode cX9_totalsBalance 57 = .ok (.getfield 69, 3) := by decide +kernel
theorem dX9_totalsBalance_60 : decode cX9_totalsBalance 60 = .ok (.iadd, 1) := by decide +kernel
theorem dX9_totalsBalance_61 : decode cX9_totalsBalance 61 = .ok (.aload_n 0, 1) := by decide +kernel
theorem dX9_totalsBalance_62 : decode cX9_totalsBalance 62 = .ok (.getfield 28, 3) := by decide +kernel
theorem dX9_totalsBalance_65 : decode cX9_totalsBalance 65 = .ok (.getfield 131, 3) := by decide +kernel
theorem dX9_totalsBalance_68 : decode cX9_totalsBalance 68 = .ok (.iadd, 1) := by decide +kernel
theorem dX9_totalsBalance_69 : decode cX9_totalsBalance 69 = .ok (.istore_n 2, 1) := by decide +kernel
theorem dX9_totalsBalance_70 : decode cX9_totalsBalance 70 = .ok (.aload_n 0, 1) := by decide +kernel
theorem dX9_totalsBalance_71 : decode cX9_totalsBalance 71 = .ok (.getfield 12, 3) := by decide +kernel
theorem dX9_totalsBalance_74 : decode cX9_totalsBalance 74 = .ok (.aload_n 0, 1) := by decide +kernel
theorem dX9_totalsBalance_75 : decode cX9_totalsBalance 75 = .ok (.getfield 12, 3) := by decide +kernel
theorem dX9_totalsBalance_78 : decode cX9_totalsBalance 78 = .ok (.getfield 85, 3) := by decide +kernel
theorem dX9_totalsBalance_81 : decode cX9_totalsBalance 81 = .ok (.invokevirtual 121, 3) := by decide +kernel
theorem dX9_totalsBalance_84 : decode cX9_totalsBalance 84 = .ok (.aload_n 0, 1) := by decide +kernel
theorem dX9_totalsBalance_85 : decode cX9_totalsBalance 85 = .ok (.getfield 28, 3) := by decide +kernel
theorem dX9_totalsBalance_88 : decode cX9_totalsBalance 88 = .ok (.getfield 82, 3) := by decide +kernel
theorem dX9_totalsBalance_91 : decode cX9_totalsBalance 91 = .ok (.iadd, 1) := by decide +kernel
theorem dX9_totalsBalance_92 : decode cX9_totalsBalance 92 = .ok (.istore_n 3, 1) := by decide +kernel
theorem dX9_totalsBalance_93 : decode cX9_totalsBalance 93 = .ok (.iload_n 1, 1) := by decide +kernel
theorem dX9_totalsBalance_94 : decode cX9_totalsBalance 94 = .ok (.aload_n 0, 1) := by decide +kernel
theorem dX9_totalsBalance_95 : decode cX9_totalsBalance 95 = .ok (.getfield 28, 3) := by decide +kernel
theorem dX9_totalsBalance_98 : decode cX9_totalsBalance 98 = .ok (.getfield 110, 3) := by decide +kernel
theorem dX9_totalsBalance_101 : decode cX9_totalsBalance 101 = .ok (.if_icmp .ne 29, 3) := by decide +kernel
theorem dX9_totalsBalance_104 : decode cX9_totalsBalance 104 = .ok (.iload_n 2, 1) := by decide +kernel
theorem dX9_totalsBalance_105 : decode cX9_totalsBalance 105 = .ok (.aload_n 0, 1) := by decide +kernel
theorem dX9_totalsBalance_106 : decode cX9_totalsBalance 106 = .ok (.getfield 28, 3) := by decide +kernel
theorem dX9_totalsBalance_109 : decode cX9_totalsBalance 109 = .ok (.getfield 117, 3) := by decide +kernel
theorem dX9_totalsBalance_112 : decode cX9_totalsBalance 112 = .ok (.if_icmp .ne 18, 3) := by decide +kernel
theorem dX9_totalsBalance_115 : decode cX9_totalsBalance 115 = .ok (.iload_n 3, 1) := by decide +kernel
theorem dX9_totalsBalance_116 : decode cX9_totalsBalance 116 = .ok (.aload_n 0, 1) := by decide +kernel
theorem dX9_totalsBalance_117 : decode cX9_totalsBalance 117 = .ok (.getfield 28, 3) := by decide +kernel
theorem dX9_totalsBalance_120 : decode cX9_totalsBalance 120 = .ok (.getfield 134, 3) := by decide +kernel
theorem dX9_totalsBalance_123 : decode cX9_totalsBalance 123 = .ok (.if_icmp .ne 7, 3) := by decide +kernel
theorem dX9_totalsBalance_126 : decode cX9_totalsBalance 126 = .ok (.iconst 1, 1) := by decide +kernel
theorem dX9_totalsBalance_127 : decode cX9_totalsBalance 127 = .ok (.goto 4, 3) := by decide +kernel
theorem dX9_totalsBalance_130 : decode cX9_totalsBalance 130 = .ok (.iconst 0, 1) := by decide +kernel
theorem dX9_totalsBalance_131 : decode cX9_totalsBalance 131 = .ok (.ireturn, 1) := by decide +kernel
