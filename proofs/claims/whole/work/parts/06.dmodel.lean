theorem dX12_init_0 : decode cX12_init 0 = .ok (.aload_n 0, 1) := by decide +kernel
theorem dX12_init_1 : decode cX12_init 1 = .ok (.invokespecial 1, 3) := by decide +kernel
theorem dX12_init_4 : decode cX12_init 4 = .ok (.aload_n 0, 1) := by decide +kernel
theorem dX12_init_5 : decode cX12_init 5 = .ok (.bipush 80, 2) := by decide +kernel
theorem dX12_init_7 : decode cX12_init 7 = .ok (.newarray .int, 2) := by decide +kernel
theorem dX12_init_9 : decode cX12_init 9 = .ok (.putfield 7, 3) := by decide +kernel
theorem dX12_init_12 : decode cX12_init 12 = .ok (.aload_n 0, 1) := by decide +kernel
theorem dX12_init_13 : decode cX12_init 13 = .ok (.bipush 80, 2) := by decide +kernel
theorem dX12_init_15 : decode cX12_init 15 = .ok (.newarray .int, 2) := by decide +kernel
theorem dX12_init_17 : decode cX12_init 17 = .ok (.putfield 13, 3) := by decide +kernel
theorem dX12_init_20 : decode cX12_init 20 = .ok (.aload_n 0, 1) := by decide +kernel
theorem dX12_init_21 : decode cX12_init 21 = .ok (.sipush 640, 3) := by decide +kernel
theorem dX12_init_24 : decode cX12_init 24 = .ok (.newarray .int, 2) := by decide +kernel
theorem dX12_init_26 : decode cX12_init 26 = .ok (.putfield 16, 3) := by decide +kernel
theorem dX12_init_29 : decode cX12_init 29 = .ok (.aload_n 0, 1) := by decide +kernel
theorem dX12_init_30 : decode cX12_init 30 = .ok (.bipush 80, 2) := by decide +kernel
theorem dX12_init_32 : decode cX12_init 32 = .ok (.newarray .int, 2) := by decide +kernel
theorem dX12_init_34 : decode cX12_init 34 = .ok (.putfield 19, 3) := by decide +kernel
theorem dX12_init_37 : decode cX12_init 37 = .ok (.aload_n 0, 1) := by decide +kernel
theorem dX12_init_38 : decode cX12_init 38 = .ok (.bipush 60, 2) := by decide +kernel
theorem dX12_init_40 : decode cX12_init 40 = .ok (.newarray .char, 2) := by decide +kernel
theorem dX12_init_42 : decode cX12_init 42 = .ok (.putfield 22, 3) := by decide +kernel
theorem dX12_init_45 : decode cX12_init 45 = .ok (.aload_n 0, 1) := by decide +kernel
theorem dX12_init_46 : decode cX12_init 46 = .ok (.iconst (-1), 1) := by decide +kernel
theorem dX12_init_47 : decode cX12_init 47 = .ok (.putfield 26, 3) := by decide +kernel
theorem dX12_init_50 : decode cX12_init 50 = .ok (.aload_n 0, 1) := by decide +kernel
theorem dX12_init_51 : decode cX12_init 51 = .ok (.iconst (-1), 1) := by decide +kernel
theorem dX12_init_52 : decode cX12_init 52 = .ok (.putfield 30, 3) := by decide +kernel
theorem dX12_init_55 : decode cX12_init 55 = .ok (.aload_n 0, 1) := by decide +kernel
theorem dX12_init_56 : decode cX12_init 56 = .ok (.bipush 40, 2) := by decide +kernel
theorem dX12_init_58 : decode cX12_init 58 = .ok (.newarray .char, 2) := by decide +kernel
theorem dX12_init_60 : decode cX12_init 60 = .ok (.putfield 33, 3) := by decide +kernel
theorem dX12_init_63 : decode cX12_init 63 = .ok (.aload_n 0, 1) := by decide +kernel
theorem dX12_init_64 : decode cX12_init 64 = .ok (.sipush 180, 3) := by decide +kernel
theorem dX12_init_67 : decode cX12_init 67 = .ok (.newarray .int, 2) := by decide +kernel
theorem dX12_init_69 : decode cX12_init 69 = .ok (.putfield 36, 3) := by decide +kernel
theorem dX12_init_72 : decode cX12_init 72 = .ok (.return_, 1) := by decide +kernel
theorem dX12_thrown_0 : decode cX12_thrown 0 = .ok (.aload_n 0, 1) := by decide +kernel
theorem dX12_thrown_1 : decode cX12_thrown 1 = .ok (.getfield 39, 3) := by decide +kernel
theorem dX12_thrown_4 : decode cX12_thrown 4 = .ok (.ireturn, 1) := by decide +kernel
theorem dX12_in_0 : decode cX12_in 0 = .ok (.iload_n 0, 1) := by decide +kernel
theorem dX12_in_1 : decode cX12_in 1 = .ok (.iload_n 1, 1) := by decide +kernel
theorem dX12_in_2 : decode cX12_in 2 = .ok (.if_icmp .lt 12, 3) := by decide +kernel
theorem dX12_in_5 : decode cX12_in 5 = .ok (.iload_n 0, 1) := by decide +kernel
theorem dX12_in_6 : decode cX12_in 6 = .ok (.iload_n 2, 1) := by decide +kernel
theorem dX12_in_7 : decode cX12_in 7 = .ok (.if_icmp .gt 7, 3) := by decide +kernel
theorem dX12_in_10 : decode cX12_in 10 = .ok (.iconst 1, 1) := by decide +kernel
theorem dX12_in_11 : decode cX12_in 11 = .ok (.goto 4, 3) := by decide +kernel
theorem dX12_in_14 : decode cX12_in 14 = .ok (.iconst 0, 1) := by decide +kernel
theorem dX12_in_15 : decode cX12_in 15 = .ok (.ireturn, 1) := by decide +kernel
theorem dX12_least_0 : decode cX12_least 0 = .ok (.iload_n 0, 1) := by decide +kernel
theorem dX12_least_1 : decode cX12_least 1 = .ok (.iload_n 1, 1) := by decide +kernel
theorem dX12_least_2 : decode cX12_least 2 = .ok (.if_icmp .ge 7, 3) := by decide +kernel
theorem dX12_least_5 : decode cX12_least 5 = .ok (.iload_n 0, 1) := by decide +kernel
theorem dX12_least_6 : decode cX12_least 6 = .ok (.goto 4, 3) := by decide +kernel
theorem dX12_least_9 : decode cX12_least 9 = .ok (.iload_n 1, 1) := by decide +kernel
theorem dX12_least_10 : decode cX12_least 10 = .ok (.ireturn, 1) := by decide +kernel
theorem dX12_done_0 : decode cX12_done 0 = .ok (.aload_n 0, 1) := by decide +kernel
theorem dX12_done_1 : decode cX12_done 1 = .ok (.iconst 0, 1) := by decide +kernel
theorem dX12_done_2 : decode cX12_done 2 = .ok (.putfield 39, 3) := by decide +kernel
theorem dX12_done_5 : decode cX12_done 5 = .ok (.iload_n 1, 1) := by decide +kernel
theorem dX12_done_6 : decode cX12_done 6 = .ok (.ireturn, 1) := by decide +kernel
theorem dX12_fails_0 : decode cX12_fails 0 = .ok (.aload_n 0, 1) := by decide +kernel
theorem dX12_fails_1 : decode cX12_fails 1 = .ok (.iload_n 1, 1) := by decide +kernel
theorem dX12_fails_2 : decode cX12_fails 2 = .ok (.putfield 39, 3) := by decide +kernel
theorem dX12_fails_5 : decode cX12_fails 5 = .ok (.iconst 0, 1) := by decide +kernel
theorem dX12_fails_6 : decode cX12_fails 6 = .ok (.ireturn, 1) := by decide +kernel
theorem dX12_copy_0 : decode cX12_copy 0 = .ok (.iconst 0, 1) := by decide +kernel
theorem dX12_copy_1 : decode cX12_copy 1 = .ok (.istore 4, 2) := by decide +kernel
theorem dX12_copy_3 : decode cX12_copy 3 = .ok (.iload 4, 2) := by decide +kernel
theorem dX12_copy_5 : decode cX12_copy 5 = .ok (.bipush 80, 2) := by decide +kernel
theorem dX12_copy_7 : decode cX12_copy 7 = .ok (.if_icmp .ge 21, 3) := by decide +kernel
theorem dX12_copy_10 : decode cX12_copy 10 = .ok (.aload_n 2, 1) := by decide +kernel
theorem dX12_copy_11 : decode cX12_copy 11 = .ok (.iload_n 3, 1) := by decide +kernel
theorem dX12_copy_12 : decode cX12_copy 12 = .ok (.iload 4, 2) := by decide +kernel
theorem dX12_copy_14 : decode cX12_copy 14 = .ok (.iadd, 1) := by decide +kernel
theorem dX12_copy_15 : decode cX12_copy 15 = .ok (.aload_n 0, 1) := by decide +kernel
theorem dX12_copy_16 : decode cX12_copy 16 = .ok (.iload_n 1, 1) := by decide +kernel
theorem dX12_copy_17 : decode cX12_copy 17 = .ok (.iload 4, 2) := by decide +kernel
theorem dX12_copy_19 : decode cX12_copy 19 = .ok (.iadd, 1) := by decide +kernel
theorem dX12_copy_20 : decode cX12_copy 20 = .ok (.iaload, 1) := by decide +kernel
theorem dX12_copy_21 : decode cX12_copy 21 = .ok (.iastore, 1) := by decide +kernel
theorem dX12_copy_22 : decode cX12_copy 22 = .ok (.iinc 4 1, 3) := by decide +kernel
theorem dX12_copy_25 : decode cX12_copy 25 = .ok (.goto (-22), 3) := by decide +kernel
theorem dX12_copy_28 : decode cX12_copy 28 = .ok (.return_, 1) := by decide +kernel
set_option maxRecDepth 20000 in
theorem ggX12_begin_X12_copy : GoodIn wsX12_begin wsX12_copy := goodIn_ca (goodIn_r _ [6] (by decide +kernel) (by decide +kernel)) (goodIn_sub (fun _ h => List.mem_cons_of_mem _ (List.mem_append_right _ h)) (by decide +kernel))
set_option maxRecDepth 20000 in
theorem gX12_begin_X12_copy : GoodIn wsX12_begin (va_wsS RX12 42 yX12_copy wsX12_copy) := goodIn_app (goodIn_of _ (by decide +kernel)) ggX12_begin_X12_copy
theorem dX12_begin_0 : decode cX12_begin 0 = .ok (.aload_n 0, 1) := by decide +kernel
theorem dX12_begin_1 : decode cX12_begin 1 = .ok (.getfield 7, 3) := by decide +kernel
theorem dX12_begin_4 : decode cX12_begin 4 = .ok (.iconst 0, 1) := by decide +kernel
theorem dX12_begin_5 : decode cX12_begin 5 = .ok (.aload_n 0, 1) := by decide +kernel
theorem dX12_begin_6 : decode cX12_begin 6 = .ok (.getfield 13, 3) := by decide +kernel
theorem dX12_begin_9 : decode cX12_begin 9 = .ok (.iconst 0, 1) := by decide +kernel
theorem dX12_begin_10 : decode cX12_begin 10 = .ok (.invokestatic 42, 3) := by decide +kernel
theorem dX12_begin_13 : decode cX12_begin 13 = .ok (.return_, 1) := by decide +kernel
set_option maxRecDepth 20000 in
theorem ggX12_kept_X12_copy : GoodIn wsX12_kept wsX12_copy := goodIn_ca (goodIn_r _ [9] (by decide +kernel) (by decide +kernel)) (goodIn_sub (fun _ h => List.mem_cons_of_mem _ (List.mem_append_right _ h)) (by decide +kernel))
set_option maxRecDepth 20000 in
theorem gX12_kept_X12_copy : GoodIn wsX12_kept (va_wsS RX12 42 yX12_copy wsX12_copy) := goodIn_app (goodIn_of _ (by decide +kernel)) ggX12_kept_X12_copy
theorem dX12_kept_0 : decode cX12_kept 0 = .ok (.aload_n 0, 1) := by decide +kernel
theorem dX12_kept_1 : decode cX12_kept 1 = .ok (.getfield 39, 3) := by decide +kernel
theorem dX12_kept_4 : decode cX12_kept 4 = .ok (.ifCond .eq 18, 3) := by decide +kernel
theorem dX12_kept_7 : decode cX12_kept 7 = .ok (.aload_n 0, 1) := by decide +kernel
theorem dX12_kept_8 : decode cX12_kept 8 = .ok (.getfield 13, 3) := by decide +kernel
theorem dX12_kept_11 : decode cX12_kept 11 = .ok (.iconst 0, 1) := by decide +kernel
theorem dX12_kept_12 : decode cX12_kept 12 = .ok (.aload_n 0, 1) := by decide +kernel
theorem dX12_kept_13 : decode cX12_kept 13 = .ok (.getfield 7, 3) := by decide +kernel
theorem dX12_kept_16 : decode cX12_kept 16 = .ok (.iconst 0, 1) := by decide +kernel
theorem dX12_kept_17 : decode cX12_kept 17 = .ok (.invokestatic 42, 3) := by decide +kernel
theorem dX12_kept_20 : decode cX12_kept 20 = .ok (.iconst 0, 1) := by decide +kernel
theorem dX12_kept_21 : decode cX12_kept 21 = .ok (.ireturn, 1) := by decide +kernel
theorem dX12_kept_22 : decode cX12_kept 22 = .ok (.aload_n 0, 1) := by decide +kernel
theorem dX12_kept_23 : decode cX12_kept 23 = .ok (.getfield 46, 3) := by decide +kernel
theorem dX12_kept_26 : decode cX12_kept 26 = .ok (.bipush 8, 2) := by decide +kernel
theorem dX12_kept_28 : decode cX12_kept 28 = .ok (.if_icmp .ne 43, 3) := by decide +kernel
theorem dX12_kept_31 : decode cX12_kept 31 = .ok (.iconst 0, 1) := by decide +kernel
theorem dX12_kept_32 : decode cX12_kept 32 = .ok (.istore_n 2, 1) := by decide +kernel
theorem dX12_kept_33 : decode cX12_kept 33 = .ok (.iload_n 2, 1) := by decide +kernel
theorem dX12_kept_34 : decode cX12_kept 34 = .ok (.sipush 560, 3) := by decide +kernel
theorem dX12_kept_37 : decode cX12_kept 37 = .ok (.if_icmp .ge 24, 3) := by decide +kernel
theorem dX12_kept_40 : decode cX12_kept 40 = .ok (.aload_n 0, 1) := by decide +kernel
theorem dX12_kept_41 : decode cX12_kept 41 = .ok (.getfield 16, 3) := by decide +kernel
theorem dX12_kept_44 : decode cX12_kept 44 = .ok (.iload_n 2, 1) := by decide +kernel
theorem dX12_kept_45 : decode cX12_kept 45 = .ok (.aload_n 0, 1) := by decide +kernel
theorem dX12_kept_46 : decode cX12_kept 46 = .ok (.getfield 16, 3) := by decide +kernel
theorem dX12_kept_49 : decode cX12_kept 49 = .ok (.iload_n 2, 1) := by decide +kernel
theorem dX12_kept_50 : decode cX12_kept 50 = .ok (.bipush 80, 2) := by decide +kernel
theorem dX12_kept_52 : decode cX12_kept 52 = .ok (.iadd, 1) := by decide +kernel
theorem dX12_kept_53 : decode cX12_kept 53 = .ok (.iaload, 1) := by decide +kernel
theorem dX12_kept_54 : decode cX12_kept 54 = .ok (.iastore, 1) := by decide +kernel
theorem dX12_kept_55 : decode cX12_kept 55 = .ok (.iinc 2 1, 3) := by decide +kernel
theorem dX12_kept_58 : decode cX12_kept 58 = .ok (.goto (-25), 3) := by decide +kernel
theorem dX12_kept_61 : decode cX12_kept 61 = .ok (.aload_n 0, 1) := by decide +kernel
theorem dX12_kept_62 : decode cX12_kept 62 = .ok (.dup, 1) := by decide +kernel
theorem dX12_kept_63 : decode cX12_kept 63 = .ok (.getfield 46, 3) := by decide +kernel
theorem dX12_kept_66 : decode cX12_kept 66 = .ok (.iconst 1, 1) := by decide +kernel
theorem dX12_kept_67 : decode cX12_kept 67 = .ok (.isub, 1) := by decide +kernel
theorem dX12_kept_68 : decode cX12_kept 68 = .ok (.putfield 46, 3) := by decide +kernel
theorem dX12_kept_71 : decode cX12_kept 71 = .ok (.aload_n 0, 1) := by decide +kernel
theorem dX12_kept_72 : decode cX12_kept 72 = .ok (.getfield 13, 3) := by decide +kernel
theorem dX12_kept_75 : decode cX12_kept 75 = .ok (.iconst 0, 1) := by decide +kernel
theorem dX12_kept_76 : decode cX12_kept 76 = .ok (.aload_n 0, 1) := by decide +kernel
theorem dX12_kept_77 : decode cX12_kept 77 = .ok (.getfield 16, 3) := by decide +kernel
theorem dX12_kept_80 : decode cX12_kept 80 = .ok (.aload_n 0, 1) := by decide +kernel
theorem dX12_kept_81 : decode cX12_kept 81 = .ok (.getfield 46, 3) := by decide +kernel
theorem dX12_kept_84 : decode cX12_kept 84 = .ok (.bipush 80, 2) := by decide +kernel
theorem dX12_kept_86 : decode cX12_kept 86 = .ok (.imul, 1) := by decide +kernel
theorem dX12_kept_87 : decode cX12_kept 87 = .ok (.invokestatic 42, 3) := by decide +kernel
theorem dX12_kept_90 : decode cX12_kept 90 = .ok (.aload_n 0, 1) := by decide +kernel
theorem dX12_kept_91 : decode cX12_kept 91 = .ok (.dup, 1) := by decide +kernel
theorem dX12_kept_92 : decode cX12_kept 92 = .ok (.getfield 46, 3) := by decide +kernel
theorem dX12_kept_95 : decode cX12_kept 95 = .ok (.iconst 1, 1) := by decide +kernel
theorem dX12_kept_96 : decode cX12_kept 96 = .ok (.iadd, 1) := by decide +kernel
theorem dX12_kept_97 : decode cX12_kept 97 = .ok (.putfield 46, 3) := by decide +kernel
theorem dX12_kept_100 : decode cX12_kept 100 = .ok (.iload_n 1, 1) := by decide +kernel
theorem dX12_kept_101 : decode cX12_kept 101 = .ok (.ireturn, 1) := by decide +kernel
set_option maxRecDepth 20000 in
theorem ggX12_isLamp_X12_in : GoodIn wsX12_isLamp wsX12_in := goodIn_r _ [5] (by decide +kernel) (by decide +kernel)
set_option maxRecDepth 20000 in
theorem gX12_isLamp_X12_in : GoodIn wsX12_isLamp (va_wsS RX12 49 yX12_in wsX12_in) := goodIn_app (goodIn_of _ (by decide +kernel)) ggX12_isLamp_X12_in
theorem dX12_isLamp_0 : decode cX12_isLamp 0 = .ok (.iload_n 1, 1) := by decide +kernel
theorem dX12_isLamp_1 : decode cX12_isLamp 1 = .ok (.iconst 0, 1) := by decide +kernel
theorem dX12_isLamp_2 : decode cX12_isLamp 2 = .ok (.aload_n 0, 1) := by decide +kernel
theorem dX12_isLamp_3 : decode cX12_isLamp 3 = .ok (.getfield 7, 3) := by decide +kernel
theorem dX12_isLamp_6 : decode cX12_isLamp 6 = .ok (.iconst 0, 1) := by decide +kernel
theorem dX12_isLamp_7 : decode cX12_isLamp 7 = .ok (.iaload, 1) := by decide +kernel
theorem dX12_isLamp_8 : decode cX12_isLamp 8 = .ok (.iconst 1, 1) := by decide +kernel
theorem dX12_isLamp_9 : decode cX12_isLamp 9 = .ok (.isub, 1) := by decide +kernel
theorem dX12_isLamp_10 : decode cX12_isLamp 10 = .ok (.invokestatic 49, 3) := by decide +kernel
theorem dX12_isLamp_13 : decode cX12_isLamp 13 = .ok (.ireturn, 1) := by decide +kernel
set_option maxRecDepth 20000 in
theorem ggX12_isMoth_X12_in : GoodIn wsX12_isMoth wsX12_in := goodIn_r _ [5] (by decide +kernel) (by decide +kernel)
set_option maxRecDepth 20000 in
theorem gX12_isMoth_X12_in : GoodIn wsX12_isMoth (va_wsS RX12 49 yX12_in wsX12_in) := goodIn_app (goodIn_of _ (by decide +kernel)) ggX12_isMoth_X12_in
theorem dX12_isMoth_0 : decode cX12_isMoth 0 = .ok (.iload_n 1, 1) := by decide +kernel
theorem dX12_isMoth_1 : decode cX12_isMoth 1 = .ok (.iconst 0, 1) := by decide +kernel
theorem dX12_isMoth_2 : decode cX12_isMoth 2 = .ok (.aload_n 0, 1) := by decide +kernel
theorem dX12_isMoth_3 : decode cX12_isMoth 3 = .ok (.getfield 7, 3) := by decide +kernel
theorem dX12_isMoth_6 : decode cX12_isMoth 6 = .ok (.iconst 1, 1) := by decide +kernel
theorem dX12_isMoth_7 : decode cX12_isMoth 7 = .ok (.iaload, 1) := by decide +kernel
theorem dX12_isMoth_8 : decode cX12_isMoth 8 = .ok (.iconst 1, 1) := by decide +kernel
theorem dX12_isMoth_9 : decode cX12_isMoth 9 = .ok (.isub, 1) := by decide +kernel
theorem dX12_isMoth_10 : decode cX12_isMoth 10 = .ok (.invokestatic 49, 3) := by decide +kernel
theorem dX12_isMoth_13 : decode cX12_isMoth 13 = .ok (.ireturn, 1) := by decide +kernel
set_option maxRecDepth 20000 in
theorem ggX12_adds_X12_in : GoodIn wsX12_adds wsX12_in := goodIn_r _ [5] (by decide +kernel) (by decide +kernel)
set_option maxRecDepth 20000 in
theorem gX12_adds_X12_in : GoodIn wsX12_adds (va_wsS RX12 49 yX12_in wsX12_in) := goodIn_app (goodIn_of _ (by decide +kernel)) ggX12_adds_X12_in
set_option maxRecDepth 20000 in
theorem ggX12_adds_X12_fails : GoodIn wsX12_adds wsX12_fails := goodIn_r _ [9, 10, 15, 16, 17, 18, 19, 20, 21, 22, 23, 24, 25, 26, 27, 28, 29, 30] (by decide +kernel) (by decide +kernel)
set_option maxRecDepth 20000 in
theorem gX12_adds_X12_fails : GoodIn wsX12_adds (wsV RX12 53 RX12 yX12_fails wsX12_fails) := goodIn_app (goodIn_of _ (by decide +kernel)) ggX12_adds_X12_fails
set_option maxRecDepth 20000 in
theorem ggX12_adds_X12_done : GoodIn wsX12_adds wsX12_done := goodIn_r _ [14, 10, 15, 16, 17, 18, 19, 20, 21, 22, 23, 24, 25, 26, 27, 28, 29, 30] (by decide +kernel) (by decide +kernel)
set_option maxRecDepth 20000 in
theorem gX12_adds_X12_done : GoodIn wsX12_adds (wsV RX12 57 RX12 yX12_done wsX12_done) := goodIn_app (goodIn_of _ (by decide +kernel)) ggX12_adds_X12_done
theorem dX12_adds_0 : decode cX12_adds 0 = .ok (.iload_n 1, 1) := by decide +kernel
theorem dX12_adds_1 : decode cX12_adds 1 = .ok (.iconst 0, 1) := by decide +kernel
theorem dX12_adds_2 : decode cX12_adds 2 = .ok (.iconst 3, 1) := by decide +kernel
theorem dX12_adds_3 : decode cX12_adds 3 = .ok (.invokestatic 49, 3) := by decide +kernel
theorem dX12_adds_6 : decode cX12_adds 6 = .ok (.ifCond .eq 13, 3) := by decide +kernel
theorem dX12_adds_9 : decode cX12_adds 9 = .ok (.iload_n 2, 1) := by decide +kernel
theorem dX12_adds_10 : decode cX12_adds 10 = .ok (.iconst 1, 1) := by decide +kernel
theorem dX12_adds_11 : decode cX12_adds 11 = .ok (.bipush 9, 2) := by decide +kernel
theorem dX12_adds_13 : decode cX12_adds 13 = .ok (.invokestatic 49, 3) := by decide +kernel
theorem dX12_adds_16 : decode cX12_adds 16 = .ok (.ifCond .ne 9, 3) := by decide +kernel
theorem dX12_adds_19 : decode cX12_adds 19 = .ok (.aload_n 0, 1) := by decide +kernel
theorem dX12_adds_20 : decode cX12_adds 20 = .ok (.iconst 1, 1) := by decide +kernel
theorem dX12_adds_21 : decode cX12_adds 21 = .ok (.invokevirtual 53, 3) := by decide +kernel
theorem dX12_adds_24 : decode cX12_adds 24 = .ok (.ireturn, 1) := by decide +kernel
theorem dX12_adds_25 : decode cX12_adds 25 = .ok (.aload_n 0, 1) := by decide +kernel
theorem dX12_adds_26 : decode cX12_adds 26 = .ok (.getfield 7, 3) := by decide +kernel
theorem dX12_adds_29 : decode cX12_adds 29 = .ok (.iconst 0, 1) := by decide +kernel
theorem dX12_adds_30 : decode cX12_adds 30 = .ok (.iaload, 1) := by decide +kernel
theorem dX12_adds_31 : decode cX12_adds 31 = .ok (.istore_n 3, 1) := by decide +kernel
theorem dX12_adds_32 : decode cX12_adds 32 = .ok (.iload_n 3, 1) := by decide +kernel
theorem dX12_adds_33 : decode cX12_adds 33 = .ok (.bipush 8, 2) := by decide +kernel
theorem dX12_adds_35 : decode cX12_adds 35 = .ok (.if_icmp .ne 9, 3) := by decide +kernel
theorem dX12_adds_38 : decode cX12_adds 38 = .ok (.aload_n 0, 1) := by decide +kernel
theorem dX12_adds_39 : decode cX12_adds 39 = .ok (.iconst 2, 1) := by decide +kernel
theorem dX12_adds_40 : decode cX12_adds 40 = .ok (.invokevirtual 53, 3) := by decide +kernel
theorem dX12_adds_43 : decode cX12_adds 43 = .ok (.ireturn, 1) := by decide +kernel
theorem dX12_adds_44 : decode cX12_adds 44 = .ok (.aload_n 0, 1) := by decide +kernel
theorem dX12_adds_45 : decode cX12_adds 45 = .ok (.getfield 7, 3) := by decide +kernel
theorem dX12_adds_48 : decode cX12_adds 48 = .ok (.bipush 6, 2) := by decide +kernel
theorem dX12_adds_50 : decode cX12_adds 50 = .ok (.iload_n 3, 1) := by decide +kernel
theorem dX12_adds_51 : decode cX12_adds 51 = .ok (.iadd, 1) := by decide +kernel
theorem dX12_adds_52 : decode cX12_adds 52 = .ok (.iload_n 1, 1) := by decide +kernel
theorem dX12_adds_53 : decode cX12_adds 53 = .ok (.iastore, 1) := by decide +kernel
theorem dX12_adds_54 : decode cX12_adds 54 = .ok (.aload_n 0, 1) := by decide +kernel
theorem dX12_adds_55 : decode cX12_adds 55 = .ok (.getfield 7, 3) := by decide +kernel
theorem dX12_adds_58 : decode cX12_adds 58 = .ok (.bipush 14, 2) := by decide +kernel
theorem dX12_adds_60 : decode cX12_adds 60 = .ok (.iload_n 3, 1) := by decide +kernel
theorem dX12_adds_61 : decode cX12_adds 61 = .ok (.iadd, 1) := by decide +kernel
theorem dX12_adds_62 : decode cX12_adds 62 = .ok (.iload_n 2, 1) := by decide +kernel
theorem dX12_adds_63 : decode cX12_adds 63 = .ok (.iastore, 1) := by decide +kernel
theorem dX12_adds_64 : decode cX12_adds 64 = .ok (.aload_n 0, 1) := by decide +kernel
theorem dX12_adds_65 : decode cX12_adds 65 = .ok (.getfield 7, 3) := by decide +kernel
theorem dX12_adds_68 : decode cX12_adds 68 = .ok (.bipush 22, 2) := by decide +kernel
theorem dX12_adds_70 : decode cX12_adds 70 = .ok (.iload_n 3, 1) := by decide +kernel
theorem dX12_adds_71 : decode cX12_adds 71 = .ok (.iadd, 1) := by decide +kernel
theorem dX12_adds_72 : decode cX12_adds 72 = .ok (.iconst 1, 1) := by decide +kernel
theorem dX12_adds_73 : decode cX12_adds 73 = .ok (.iastore, 1) := by decide +kernel
theorem dX12_adds_74 : decode cX12_adds 74 = .ok (.aload_n 0, 1) := by decide +kernel
theorem dX12_adds_75 : decode cX12_adds 75 = .ok (.getfield 7, 3) := by decide +kernel
theorem dX12_adds_78 : decode cX12_adds 78 = .ok (.bipush 30, 2) := by decide +kernel
theorem dX12_adds_80 : decode cX12_adds 80 = .ok (.iload_n 3, 1) := by decide +kernel
theorem dX12_adds_81 : decode cX12_adds 81 = .ok (.iadd, 1) := by decide +kernel
theorem dX12_adds_82 : decode cX12_adds 82 = .ok (.iconst 0, 1) := by decide +kernel
theorem dX12_adds_83 : decode cX12_adds 83 = .ok (.iastore, 1) := by decide +kernel
theorem dX12_adds_84 : decode cX12_adds 84 = .ok (.aload_n 0, 1) := by decide +kernel
theorem dX12_adds_85 : decode cX12_adds 85 = .ok (.getfield 7, 3) := by decide +kernel
theorem dX12_adds_88 : decode cX12_adds 88 = .ok (.bipush 38, 2) := by decide +kernel
theorem dX12_adds_90 : decode cX12_adds 90 = .ok (.iload_n 3, 1) := by decide +kernel
theorem dX12_adds_91 : decode cX12_adds 91 = .ok (.iadd, 1) := by decide +kernel
theorem dX12_adds_92 : decode cX12_adds 92 = .ok (.iconst 0, 1) := by decide +kernel
theorem dX12_adds_93 : decode cX12_adds 93 = .ok (.iastore, 1) := by decide +kernel
theorem dX12_adds_94 : decode cX12_adds 94 = .ok (.aload_n 0, 1) := by decide +kernel
theorem dX12_adds_95 : decode cX12_adds 95 = .ok (.getfield 7, 3) := by decide +kernel
theorem dX12_adds_98 : decode cX12_adds 98 = .ok (.bipush 46, 2) := by decide +kernel
theorem dX12_adds_100 : decode cX12_adds 100 = .ok (.iload_n 3, 1) := by decide +kernel
theorem dX12_adds_101 : decode cX12_adds 101 = .ok (.iadd, 1) := by decide +kernel
theorem dX12_adds_102 : decode cX12_adds 102 = .ok (.iconst 0, 1) := by decide +kernel
theorem dX12_adds_103 : decode cX12_adds 103 = .ok (.iastore, 1) := by decide +kernel
theorem dX12_adds_104 : decode cX12_adds 104 = .ok (.aload_n 0, 1) := by decide +kernel
theorem dX12_adds_105 : decode cX12_adds 105 = .ok (.getfield 7, 3) := by decide +kernel
theorem dX12_adds_108 : decode cX12_adds 108 = .ok (.bipush 54, 2) := by decide +kernel
theorem dX12_adds_110 : decode cX12_adds 110 = .ok (.iload_n 3, 1) := by decide +kernel
theorem dX12_adds_111 : decode cX12_adds 111 = .ok (.iadd, 1) := by decide +kernel
theorem dX12_adds_112 : decode cX12_adds 112 = .ok (.iconst 0, 1) := by decide +kernel
theorem dX12_adds_113 : decode cX12_adds 113 = .ok (.iastore, 1) := by decide +kernel
theorem dX12_adds_114 : decode cX12_adds 114 = .ok (.aload_n 0, 1) := by decide +kernel
theorem dX12_adds_115 : decode cX12_adds 115 = .ok (.getfield 7, 3) := by decide +kernel
theorem dX12_adds_118 : decode cX12_adds 118 = .ok (.iconst 0, 1) := by decide +kernel
theorem dX12_adds_119 : decode cX12_adds 119 = .ok (.dup2, 1) := by decide +kernel
theorem dX12_adds_120 : decode cX12_adds 120 = .ok (.iaload, 1) := by decide +kernel
theorem dX12_adds_121 : decode cX12_adds 121 = .ok (.iconst 1, 1) := by decide +kernel
theorem dX12_adds_122 : decode cX12_adds 122 = .ok (.iadd, 1) := by decide +kernel
theorem dX12_adds_123 : decode cX12_adds 123 = .ok (.iastore, 1) := by decide +kernel
theorem dX12_adds_124 : decode cX12_adds 124 = .ok (.aload_n 0, 1) := by decide +kernel
theorem dX12_adds_125 : decode cX12_adds 125 = .ok (.iload_n 3, 1) := by decide +kernel
theorem dX12_adds_126 : decode cX12_adds 126 = .ok (.invokevirtual 57, 3) := by decide +kernel
theorem dX12_adds_129 : decode cX12_adds 129 = .ok (.ireturn, 1) := by decide +kernel
set_option maxRecDepth 20000 in
theorem ggX12_addLamp_X12_begin : GoodIn wsX12_addLamp wsX12_begin := goodIn_ca (goodIn_r _ [5, 6, 7, 8, 9, 4, 10, 33, 34, 35, 36, 37, 38, 39, 40, 41, 42, 43, 44, 45, 46, 47, 48] (by decide +kernel) (by decide +kernel)) (goodIn_sub (fun _ h => List.mem_cons_of_mem _ (List.mem_append_right _ h)) (by decide +kernel))
set_option maxRecDepth 20000 in
theorem gX12_addLamp_X12_begin : GoodIn wsX12_addLamp (wsV RX12 60 RX12 yX12_begin wsX12_begin) := goodIn_app (goodIn_of _ (by decide +kernel)) ggX12_addLamp_X12_begin
set_option maxRecDepth 20000 in
theorem ggX12_addLamp_X12_adds : GoodIn wsX12_addLamp wsX12_adds := goodIn_ca (goodIn_r _ [14, 6, 15, 16, 4, 17, 18, 19, 20, 21, 22, 23, 24, 25, 26, 33, 34, 35, 36, 37, 38, 39, 40, 41, 42, 43, 44, 45, 46, 47, 48] (by decide +kernel) (by decide +kernel)) (goodIn_sub (fun _ h => List.mem_cons_of_mem _ (List.mem_append_right _ h)) (by decide +kernel))
set_option maxRecDepth 20000 in
theorem gX12_addLamp_X12_adds : GoodIn wsX12_addLamp (wsV RX12 63 RX12 yX12_adds wsX12_adds) := goodIn_app (goodIn_of _ (by decide +kernel)) ggX12_addLamp_X12_adds
set_option maxRecDepth 20000 in
theorem ggX12_addLamp_X12_kept : GoodIn wsX12_addLamp wsX12_kept := goodIn_ca (goodIn_r _ [30, 22, 7, 6, 31, 32, 8, 9, 4, 10, 33, 34, 35, 36, 37, 38, 39, 40, 41, 42, 43, 44, 45, 46, 47, 48] (by decide +kernel) (by decide +kernel)) (goodIn_sub (fun _ h => List.mem_cons_of_mem _ (List.mem_append_right _ h)) (by decide +kernel))
set_option maxRecDepth 20000 in
theorem gX12_addLamp_X12_kept : GoodIn wsX12_addLamp (wsV RX12 67 RX12 yX12_kept wsX12_kept) := goodIn_app (goodIn_of _ (by decide +kernel)) ggX12_addLamp_X12_kept
theorem dX12_addLamp_0 : decode cX12_addLamp 0 = .ok (.aload_n 0, 1) := by decide +kernel
theorem dX12_addLamp_1 : decode cX12_addLamp 1 = .ok (.invokevirtual 60, 3) := by decide +kernel
theorem dX12_addLamp_4 : decode cX12_addLamp 4 = .ok (.aload_n 0, 1) := by decide +kernel
theorem dX12_addLamp_5 : decode cX12_addLamp 5 = .ok (.aload_n 0, 1) := by decide +kernel
theorem dX12_addLamp_6 : decode cX12_addLamp 6 = .ok (.iload_n 1, 1) := by decide +kernel
theorem dX12_addLamp_7 : decode cX12_addLamp 7 = .ok (.iload_n 2, 1) := by decide +kernel
theorem dX12_addLamp_8 : decode cX12_addLamp 8 = .ok (.invokevirtual 63, 3) := by decide +kernel
theorem dX12_addLamp_11 : decode cX12_addLamp 11 = .ok (.invokevirtual 67, 3) := by decide +kernel
theorem dX12_addLamp_14 : decode cX12_addLamp 14 = .ok (.ireturn, 1) := by decide +kernel
theorem dX12_closesGap_0 : decode cX12_closesGap 0 = .ok (.iload_n 2, 1) := by decide +kernel
theorem dX12_closesGap_1 : decode cX12_closesGap 1 = .ok (.istore 4, 2) := by decide +kernel
theorem dX12_closesGap_3 : decode cX12_closesGap 3 = .ok (.iload 4, 2) := by decide +kernel
theorem dX12_closesGap_5 : decode cX12_closesGap 5 = .ok (.iload_n 3, 1) := by decide +kernel
theorem dX12_closesGap_6 : decode cX12_closesGap 6 = .ok (.iconst 1, 1) := by decide +kernel
theorem dX12_closesGap_7 : decode cX12_closesGap 7 = .ok (.isub, 1) := by decide +kernel
theorem dX12_closesGap_8 : decode cX12_closesGap 8 = .ok (.if_icmp .ge 29, 3) := by decide +kernel
theorem dX12_closesGap_11 : decode cX12_closesGap 11 = .ok (.aload_n 0, 1) := by decide +kernel
theorem dX12_closesGap_12 : decode cX12_closesGap 12 = .ok (.getfield 7, 3) := by decide +kernel
theorem dX12_closesGap_15 : decode cX12_closesGap 15 = .ok (.iload_n 1, 1) := by decide +kernel
theorem dX12_closesGap_16 : decode cX12_closesGap 16 = .ok (.iload 4, 2) := by decide +kernel
theorem dX12_closesGap_18 : decode cX12_closesGap 18 = .ok (.iadd, 1) := by decide +kernel
theorem dX12_closesGap_19 : decode cX12_closesGap 19 = .ok (.aload_n 0, 1) := by decide +kernel
theorem dX12_closesGap_20 : decode cX12_closesGap 20 = .ok (.getfield 7, 3) := by decide +kernel
theorem dX12_closesGap_23 : decode cX12_closesGap 23 = .ok (.iload_n 1, 1) := by decide +kernel
theorem dX12_closesGap_24 : decode cX12_closesGap 24 = .ok (.iload 4, 2) := by decide +kernel
theorem dX12_closesGap_26 : decode cX12_closesGap 26 = .ok (.iadd, 1) := by decide +kernel
theorem dX12_closesGap_27 : decode cX12_closesGap 27 = .ok (.iconst 1, 1) := by decide +kernel
theorem dX12_closesGap_28 : decode cX12_closesGap 28 = .ok (.iadd, 1) := by decide +kernel
theorem dX12_closesGap_29 : decode cX12_closesGap 29 = .ok (.iaload, 1) := by decide +kernel
theorem dX12_closesGap_30 : decode cX12_closesGap 30 = .ok (.iastore, 1) := by decide +kernel
theorem dX12_closesGap_31 : decode cX12_closesGap 31 = .ok (.iinc 4 1, 3) := by decide +kernel
theorem dX12_closesGap_34 : decode cX12_closesGap 34 = .ok (.goto (-31), 3) := by decide +kernel
theorem dX12_closesGap_37 : decode cX12_closesGap 37 = .ok (.aload_n 0, 1) := by decide +kernel
theorem dX12_closesGap_38 : decode cX12_closesGap 38 = .ok (.getfield 7, 3) := by decide +kernel
theorem dX12_closesGap_41 : decode cX12_closesGap 41 = .ok (.iload_n 1, 1) := by decide +kernel
theorem dX12_closesGap_42 : decode cX12_closesGap 42 = .ok (.iload_n 3, 1) := by decide +kernel
theorem dX12_closesGap_43 : decode cX12_closesGap 43 = .ok (.iadd, 1) := by decide +kernel
theorem dX12_closesGap_44 : decode cX12_closesGap 44 = .ok (.iconst 1, 1) := by decide +kernel
theorem dX12_closesGap_45 : decode cX12_closesGap 45 = .ok (.isub, 1) := by decide +kernel
theorem dX12_closesGap_46 : decode cX12_closesGap 46 = .ok (.iconst 0, 1) := by decide +kernel
theorem dX12_closesGap_47 : decode cX12_closesGap 47 = .ok (.iastore, 1) := by decide +kernel
theorem dX12_closesGap_48 : decode cX12_closesGap 48 = .ok (.return_, 1) := by decide +kernel
set_option maxRecDepth 20000 in
theorem ggX12_removes_X12_isLamp : GoodIn wsX12_removes wsX12_isLamp := goodIn_ca (goodIn_r _ [6, 1, 7, 8, 5, 9, 23, 24, 25, 26, 27, 28, 29, 30, 31, 32, 33, 34, 35, 36, 37, 38] (by decide +kernel) (by decide +kernel)) (goodIn_sub (fun _ h => List.mem_cons_of_mem _ (List.mem_append_right _ h)) (by decide +kernel))
set_option maxRecDepth 20000 in
theorem gX12_removes_X12_isLamp : GoodIn wsX12_removes (wsV RX12 70 RX12 yX12_isLamp wsX12_isLamp) := goodIn_app (goodIn_of _ (by decide +kernel)) ggX12_removes_X12_isLamp
set_option maxRecDepth 20000 in
theorem ggX12_removes_X12_fails : GoodIn wsX12_removes wsX12_fails := goodIn_r _ [13, 14, 23, 24, 25, 26, 27, 28, 29, 30, 31, 32, 33, 34, 35, 36, 37, 38] (by decide +kernel) (by decide +kernel)
set_option maxRecDepth 20000 in
theorem gX12_removes_X12_fails : GoodIn wsX12_removes (wsV RX12 53 RX12 yX12_fails wsX12_fails) := goodIn_app (goodIn_of _ (by decide +kernel)) ggX12_removes_X12_fails
set_option maxRecDepth 20000 in
theorem ggX12_removes_X12_closesGap : GoodIn wsX12_removes wsX12_closesGap := goodIn_ca (goodIn_r _ [18, 1, 23, 24, 25, 26, 27, 28, 29, 30, 31, 32, 33, 34, 35, 36, 37, 38] (by decide +kernel) (by decide +kernel)) (goodIn_sub (fun _ h => List.mem_cons_of_mem _ (List.mem_append_right _ h)) (by decide +kernel))
set_option maxRecDepth 20000 in
theorem gX12_removes_X12_closesGap : GoodIn wsX12_removes (wsV RX12 74 RX12 yX12_closesGap wsX12_closesGap) := goodIn_app (goodIn_of _ (by decide +kernel)) ggX12_removes_X12_closesGap
set_option maxRecDepth 20000 in
theorem ggX12_removes_X12_done : GoodIn wsX12_removes wsX12_done := goodIn_r _ [22, 14, 23, 24, 25, 26, 27, 28, 29, 30, 31, 32, 33, 34, 35, 36, 37, 38] (by decide +kernel) (by decide +kernel)
set_option maxRecDepth 20000 in
theorem gX12_removes_X12_done : GoodIn wsX12_removes (wsV RX12 57 RX12 yX12_done wsX12_done) := goodIn_app (goodIn_of _ (by decide +kernel)) ggX12_removes_X12_done
theorem dX12_removes_0 : decode cX12_removes 0 = .ok (.aload_n 0, 1) := by decide +kernel
theorem dX12_removes_1 : decode cX12_removes 1 = .ok (.iload_n 1, 1) := by decide +kernel
theorem dX12_removes_2 : decode cX12_removes 2 = .ok (.invokevirtual 70, 3) := by decide +kernel
theorem dX12_removes_5 : decode cX12_removes 5 = .ok (.ifCond .ne 9, 3) := by decide +kernel
theorem dX12_removes_8 : decode cX12_removes 8 = .ok (.aload_n 0, 1) := by decide +kernel
theorem dX12_removes_9 : decode cX12_removes 9 = .ok (.iconst 1, 1) := by decide +kernel
theorem dX12_removes_10 : decode cX12_removes 10 = .ok (.invokevirtual 53, 3) := by decide +kernel
theorem dX12_removes_13 : decode cX12_removes 13 = .ok (.ireturn, 1) := by decide +kernel
theorem dX12_removes_14 : decode cX12_removes 14 = .ok (.aload_n 0, 1) := by decide +kernel
theorem dX12_removes_15 : decode cX12_removes 15 = .ok (.getfield 7, 3) := by decide +kernel
theorem dX12_removes_18 : decode cX12_removes 18 = .ok (.iconst 4, 1) := by decide +kernel
theorem dX12_removes_19 : decode cX12_removes 19 = .ok (.iaload, 1) := by decide +kernel
theorem dX12_removes_20 : decode cX12_removes 20 = .ok (.aload_n 0, 1) := by decide +kernel
theorem dX12_removes_21 : decode cX12_removes 21 = .ok (.getfield 7, 3) := by decide +kernel
theorem dX12_removes_24 : decode cX12_removes 24 = .ok (.bipush 46, 2) := by decide +kernel
theorem dX12_removes_26 : decode cX12_removes 26 = .ok (.iload_n 1, 1) := by decide +kernel
theorem dX12_removes_27 : decode cX12_removes 27 = .ok (.iadd, 1) := by decide +kernel
theorem dX12_removes_28 : decode cX12_removes 28 = .ok (.iaload, 1) := by decide +kernel
theorem dX12_removes_29 : decode cX12_removes 29 = .ok (.iadd, 1) := by decide +kernel
theorem dX12_removes_30 : decode cX12_removes 30 = .ok (.bipush 99, 2) := by decide +kernel
theorem dX12_removes_32 : decode cX12_removes 32 = .ok (.if_icmp .le 9, 3) := by decide +kernel
theorem dX12_removes_35 : decode cX12_removes 35 = .ok (.aload_n 0, 1) := by decide +kernel
theorem dX12_removes_36 : decode cX12_removes 36 = .ok (.iconst 2, 1) := by decide +kernel
theorem dX12_removes_37 : decode cX12_removes 37 = .ok (.invokevirtual 53, 3) := by decide +kernel
theorem dX12_removes_40 : decode cX12_removes 40 = .ok (.ireturn, 1) := by decide +kernel
theorem dX12_removes_41 : decode cX12_removes 41 = .ok (.aload_n 0, 1) := by decide +kernel
theorem dX12_removes_42 : decode cX12_removes 42 = .ok (.getfield 7, 3) := by decide +kernel
theorem dX12_removes_45 : decode cX12_removes 45 = .ok (.iconst 3, 1) := by decide +kernel
theorem dX12_removes_46 : decode cX12_removes 46 = .ok (.dup2, 1) := by decide +kernel
theorem dX12_removes_47 : decode cX12_removes 47 = .ok (.iaload, 1) := by decide +kernel
theorem dX12_removes_48 : decode cX12_removes 48 = .ok (.aload_n 0, 1) := by decide +kernel
theorem dX12_removes_49 : decode cX12_removes 49 = .ok (.getfield 7, 3) := by decide +kernel
theorem dX12_removes_52 : decode cX12_removes 52 = .ok (.bipush 38, 2) := by decide +kernel
theorem dX12_removes_54 : decode cX12_removes 54 = .ok (.iload_n 1, 1) := by decide +kernel
theorem dX12_removes_55 : decode cX12_removes 55 = .ok (.iadd, 1) := by decide +kernel
theorem dX12_removes_56 : decode cX12_removes 56 = .ok (.iaload, 1) := by decide +kernel
theorem dX12_removes_57 : decode cX12_removes 57 = .ok (.iadd, 1) := by decide +kernel
theorem dX12_removes_58 : decode cX12_removes 58 = .ok (.iastore, 1) := by decide +kernel
theorem dX12_removes_59 : decode cX12_removes 59 = .ok (.aload_n 0, 1) := by decide +kernel
theorem dX12_removes_60 : decode cX12_removes 60 = .ok (.getfield 7, 3) := by decide +kernel
theorem dX12_removes_63 : decode cX12_removes 63 = .ok (.iconst 4, 1) := by decide +kernel
theorem dX12_removes_64 : decode cX12_removes 64 = .ok (.dup2, 1) := by decide +kernel
theorem dX12_removes_65 : decode cX12_removes 65 = .ok (.iaload, 1) := by decide +kernel
theorem dX12_removes_66 : decode cX12_removes 66 = .ok (.aload_n 0, 1) := by decide +kernel
theorem dX12_removes_67 : decode cX12_removes 67 = .ok (.getfield 7, 3) := by decide +kernel
theorem dX12_removes_70 : decode cX12_removes 70 = .ok (.bipush 46, 2) := by decide +kernel
theorem dX12_removes_72 : decode cX12_removes 72 = .ok (.iload_n 1, 1) := by decide +kernel
theorem dX12_removes_73 : decode cX12_removes 73 = .ok (.iadd, 1) := by decide +kernel
theorem dX12_removes_74 : decode cX12_removes 74 = .ok (.iaload, 1) := by decide +kernel
theorem dX12_removes_75 : decode cX12_removes 75 = .ok (.iadd, 1) := by decide +kernel
theorem dX12_removes_76 : decode cX12_removes 76 = .ok (.iastore, 1) := by decide +kernel
theorem dX12_removes_77 : decode cX12_removes 77 = .ok (.aload_n 0, 1) := by decide +kernel
theorem dX12_removes_78 : decode cX12_removes 78 = .ok (.getfield 7, 3) := by decide +kernel
theorem dX12_removes_81 : decode cX12_removes 81 = .ok (.iconst 5, 1) := by decide +kernel
theorem dX12_removes_82 : decode cX12_removes 82 = .ok (.dup2, 1) := by decide +kernel
theorem dX12_removes_83 : decode cX12_removes 83 = .ok (.iaload, 1) := by decide +kernel
theorem dX12_removes_84 : decode cX12_removes 84 = .ok (.aload_n 0, 1) := by decide +kernel
theorem dX12_removes_85 : decode cX12_removes 85 = .ok (.getfield 7, 3) := by decide +kernel
theorem dX12_removes_88 : decode cX12_removes 88 = .ok (.bipush 54, 2) := by decide +kernel
theorem dX12_removes_90 : decode cX12_removes 90 = .ok (.iload_n 1, 1) := by decide +kernel
theorem dX12_removes_91 : decode cX12_removes 91 = .ok (.iadd, 1) := by decide +kernel
theorem dX12_removes_92 : decode cX12_removes 92 = .ok (.iaload, 1) := by decide +kernel
theorem dX12_removes_93 : decode cX12_removes 93 = .ok (.iadd, 1) := by decide +kernel
theorem dX12_removes_94 : decode cX12_removes 94 = .ok (.iastore, 1) := by decide +kernel
theorem dX12_removes_95 : decode cX12_removes 95 = .ok (.bipush 6, 2) := by decide +kernel
theorem dX12_removes_97 : decode cX12_removes 97 = .ok (.istore_n 2, 1) := by decide +kernel
theorem dX12_removes_98 : decode cX12_removes 98 = .ok (.iload_n 2, 1) := by decide +kernel
theorem dX12_removes_99 : decode cX12_removes 99 = .ok (.bipush 62, 2) := by decide +kernel
theorem dX12_removes_101 : decode cX12_removes 101 = .ok (.if_icmp .ge 17, 3) := by decide +kernel
theorem dX12_removes_104 : decode cX12_removes 104 = .ok (.aload_n 0, 1) := by decide +kernel
theorem dX12_removes_105 : decode cX12_removes 105 = .ok (.iload_n 2, 1) := by decide +kernel
theorem dX12_removes_106 : decode cX12_removes 106 = .ok (.iload_n 1, 1) := by decide +kernel
theorem dX12_removes_107 : decode cX12_removes 107 = .ok (.bipush 8, 2) := by decide +kernel
theorem dX12_removes_109 : decode cX12_removes 109 = .ok (.invokevirtual 74, 3) := by decide +kernel
theorem dX12_removes_112 : decode cX12_removes 112 = .ok (.iinc 2 8, 3) := by decide +kernel
theorem dX12_removes_115 : decode cX12_removes 115 = .ok (.goto (-17), 3) := by decide +kernel
theorem dX12_removes_118 : decode cX12_removes 118 = .ok (.iconst 0, 1) := by decide +kernel
theorem dX12_removes_119 : decode cX12_removes 119 = .ok (.istore_n 2, 1) := by decide +kernel
theorem dX12_removes_120 : decode cX12_removes 120 = .ok (.iload_n 2, 1) := by decide +kernel
theorem dX12_removes_121 : decode cX12_removes 121 = .ok (.aload_n 0, 1) := by decide +kernel
theorem dX12_removes_122 : decode cX12_removes 122 = .ok (.getfield 7, 3) := by decide +kernel
theorem dX12_removes_125 : decode cX12_removes 125 = .ok (.iconst 1, 1) := by decide +kernel
theorem dX12_removes_126 : decode cX12_removes 126 = .ok (.iaload, 1) := by decide +kernel
theorem dX12_removes_127 : decode cX12_removes 127 = .ok (.if_icmp .ge 51, 3) := by decide +kernel
theorem dX12_removes_130 : decode cX12_removes 130 = .ok (.aload_n 0, 1) := by decide +kernel
theorem dX12_removes_131 : decode cX12_removes 131 = .ok (.getfield 7, 3) := by decide +kernel
theorem dX12_removes_134 : decode cX12_removes 134 = .ok (.bipush 62, 2) := by decide +kernel
theorem dX12_removes_136 : decode cX12_removes 136 = .ok (.iload_n 2, 1) := by decide +kernel
theorem dX12_removes_137 : decode cX12_removes 137 = .ok (.iadd, 1) := by decide +kernel
theorem dX12_removes_138 : decode cX12_removes 138 = .ok (.iaload, 1) := by decide +kernel
theorem dX12_removes_139 : decode cX12_removes 139 = .ok (.iconst 1, 1) := by decide +kernel
theorem dX12_removes_140 : decode cX12_removes 140 = .ok (.isub, 1) := by decide +kernel
theorem dX12_removes_141 : decode cX12_removes 141 = .ok (.istore_n 3, 1) := by decide +kernel
theorem dX12_removes_142 : decode cX12_removes 142 = .ok (.aload_n 0, 1) := by decide +kernel
theorem dX12_removes_143 : decode cX12_removes 143 = .ok (.getfield 7, 3) := by decide +kernel
theorem dX12_removes_146 : decode cX12_removes 146 = .ok (.bipush 62, 2) := by decide +kernel
theorem dX12_removes_148 : decode cX12_removes 148 = .ok (.iload_n 2, 1) := by decide +kernel
theorem dX12_removes_149 : decode cX12_removes 149 = .ok (.iadd, 1) := by decide +kernel
theorem dX12_removes_150 : decode cX12_removes 150 = .ok (.iload_n 3, 1) := by decide +kernel
theorem dX12_removes_151 : decode cX12_removes 151 = .ok (.iload_n 1, 1) := by decide +kernel
theorem dX12_removes_152 : decode cX12_removes 152 = .ok (.if_icmp .ne 7, 3) := by decide +kernel
theorem dX12_removes_155 : decode cX12_removes 155 = .ok (.iconst 0, 1) := by decide +kernel
theorem dX12_removes_156 : decode cX12_removes 156 = .ok (.goto 15, 3) := by decide +kernel
theorem dX12_removes_159 : decode cX12_removes 159 = .ok (.iload_n 3, 1) := by decide +kernel
theorem dX12_removes_160 : decode cX12_removes 160 = .ok (.iload_n 1, 1) := by decide +kernel
theorem dX12_removes_161 : decode cX12_removes 161 = .ok (.if_icmp .le 7, 3) := by decide +kernel
theorem dX12_removes_164 : decode cX12_removes 164 = .ok (.iload_n 3, 1) := by decide +kernel
theorem dX12_removes_165 : decode cX12_removes 165 = .ok (.goto 6, 3) := by decide +kernel
theorem dX12_removes_168 : decode cX12_removes 168 = .ok (.iload_n 3, 1) := by decide +kernel
theorem dX12_removes_169 : decode cX12_removes 169 = .ok (.iconst 1, 1) := by decide +kernel
theorem dX12_removes_170 : decode cX12_removes 170 = .ok (.iadd, 1) := by decide +kernel
theorem dX12_removes_171 : decode cX12_removes 171 = .ok (.iastore, 1) := by decide +kernel
theorem dX12_removes_172 : decode cX12_removes 172 = .ok (.iinc 2 1, 3) := by decide +kernel
theorem dX12_removes_175 : decode cX12_removes 175 = .ok (.goto (-55), 3) := by decide +kernel
theorem dX12_removes_178 : decode cX12_removes 178 = .ok (.aload_n 0, 1) := by decide +kernel
theorem dX12_removes_179 : decode cX12_removes 179 = .ok (.getfield 7, 3) := by decide +kernel
theorem dX12_removes_182 : decode cX12_removes 182 = .ok (.iconst 0, 1) := by decide +kernel
theorem dX12_removes_183 : decode cX12_removes 183 = .ok (.dup2, 1) := by decide +kernel
theorem dX12_removes_184 : decode cX12_removes 184 = .ok (.iaload, 1) := by decide +kernel
theorem dX12_removes_185 : decode cX12_removes 185 = .ok (.iconst 1, 1) := by decide +kernel
theorem dX12_removes_186 : decode cX12_removes 186 = .ok (.isub, 1) := by decide +kernel
theorem dX12_removes_187 : decode cX12_removes 187 = .ok (.iastore, 1) := by decide +kernel
theorem dX12_removes_188 : decode cX12_removes 188 = .ok (.aload_n 0, 1) := by decide +kernel
theorem dX12_removes_189 : decode cX12_removes 189 = .ok (.aload_n 0, 1) := by decide +kernel
theorem dX12_removes_190 : decode cX12_removes 190 = .ok (.getfield 7, 3) := by decide +kernel
theorem dX12_removes_193 : decode cX12_removes 193 = .ok (.iconst 0, 1) := by decide +kernel
theorem dX12_removes_194 : decode cX12_removes 194 = .ok (.iaload, 1) := by decide +kernel
theorem dX12_removes_195 : decode cX12_removes 195 = .ok (.invokevirtual 57, 3) := by decide +kernel
theorem dX12_removes_198 : decode cX12_removes 198 = .ok (.ireturn, 1) := by decide +kernel
set_option maxRecDepth 20000 in
theorem ggX12_removeLamp_X12_begin : GoodIn wsX12_removeLamp wsX12_begin := goodIn_ca (goodIn_r _ [5, 6, 7, 8, 9, 4, 10, 41, 42, 43, 44, 45, 46, 47, 48, 49, 50, 51, 52, 53, 54, 55, 56] (by decide +kernel) (by decide +kernel)) (goodIn_sub (fun _ h => List.mem_cons_of_mem _ (List.mem_append_right _ h)) (by decide +kernel))
set_option maxRecDepth 20000 in
theorem gX12_removeLamp_X12_begin : GoodIn wsX12_removeLamp (wsV RX12 60 RX12 yX12_begin wsX12_begin) := goodIn_app (goodIn_of _ (by decide +kernel)) ggX12_removeLamp_X12_begin
set_option maxRecDepth 20000 in
theorem ggX12_removeLamp_X12_removes : GoodIn wsX12_removeLamp wsX12_removes := goodIn_ca (goodIn_r _ [14, 6, 15, 16, 17, 4, 18, 19, 20, 21, 22, 23, 24, 25, 26, 27, 28, 29, 30, 31, 32, 33, 34, 41, 42, 43, 44, 45, 46, 47, 48, 49, 50, 51, 52, 53, 54, 55, 56] (by decide +kernel) (by decide +kernel)) (goodIn_sub (fun _ h => List.mem_cons_of_mem _ (List.mem_append_right _ h)) (by decide +kernel))
set_option maxRecDepth 20000 in
theorem gX12_removeLamp_X12_removes : GoodIn wsX12_removeLamp (wsV RX12 78 RX12 yX12_removes wsX12_removes) := goodIn_app (goodIn_of _ (by decide +kernel)) ggX12_removeLamp_X12_removes
set_option maxRecDepth 20000 in
theorem ggX12_removeLamp_X12_kept : GoodIn wsX12_removeLamp wsX12_kept := goodIn_ca (goodIn_r _ [38, 26, 7, 6, 39, 40, 8, 9, 4, 10, 41, 42, 43, 44, 45, 46, 47, 48, 49, 50, 51, 52, 53, 54, 55, 56] (by decide +kernel) (by decide +kernel)) (goodIn_sub (fun _ h => List.mem_cons_of_mem _ (List.mem_append_right _ h)) (by decide +kernel))
set_option maxRecDepth 20000 in
theorem gX12_removeLamp_X12_kept : GoodIn wsX12_removeLamp (wsV RX12 67 RX12 yX12_kept wsX12_kept) := goodIn_app (goodIn_of _ (by decide +kernel)) ggX12_removeLamp_X12_kept
theorem dX12_removeLamp_0 : decode cX12_removeLamp 0 = .ok (.aload_n 0, 1) := by decide +kernel
theorem dX12_removeLamp_1 : decode cX12_removeLamp 1 = .ok (.invokevirtual 60, 3) := by decide +kernel
theorem dX12_removeLamp_4 : decode cX12_removeLamp 4 = .ok (.aload_n 0, 1) := by decide +kernel
theorem dX12_removeLamp_5 : decode cX12_removeLamp 5 = .ok (.aload_n 0, 1) := by decide +kernel
theorem dX12_removeLamp_6 : decode cX12_removeLamp 6 = .ok (.iload_n 1, 1) := by decide +kernel
theorem dX12_removeLamp_7 : decode cX12_removeLamp 7 = .ok (.invokevirtual 78, 3) := by decide +kernel
theorem dX12_removeLamp_10 : decode cX12_removeLamp 10 = .ok (.invokevirtual 67, 3) := by decide +kernel
theorem dX12_removeLamp_13 : decode cX12_removeLamp 13 = .ok (.ireturn, 1) := by decide +kernel
set_option maxRecDepth 20000 in
theorem ggX12_sets_X12_isLamp : GoodIn wsX12_sets wsX12_isLamp := goodIn_ca (goodIn_r _ [6, 1, 7, 8, 5, 9, 19, 20, 21, 22, 23, 24, 25, 26, 27, 28, 29, 30, 31, 32, 33, 34] (by decide +kernel) (by decide +kernel)) (goodIn_sub (fun _ h => List.mem_cons_of_mem _ (List.mem_append_right _ h)) (by decide +kernel))
set_option maxRecDepth 20000 in
theorem gX12_sets_X12_isLamp : GoodIn wsX12_sets (wsV RX12 70 RX12 yX12_isLamp wsX12_isLamp) := goodIn_app (goodIn_of _ (by decide +kernel)) ggX12_sets_X12_isLamp
set_option maxRecDepth 20000 in
theorem ggX12_sets_X12_fails : GoodIn wsX12_sets wsX12_fails := goodIn_r _ [13, 14, 19, 20, 21, 22, 23, 24, 25, 26, 27, 28, 29, 30, 31, 32, 33, 34] (by decide +kernel) (by decide +kernel)
set_option maxRecDepth 20000 in
theorem gX12_sets_X12_fails : GoodIn wsX12_sets (wsV RX12 53 RX12 yX12_fails wsX12_fails) := goodIn_app (goodIn_of _ (by decide +kernel)) ggX12_sets_X12_fails
set_option maxRecDepth 20000 in
theorem ggX12_sets_X12_in : GoodIn wsX12_sets wsX12_in := goodIn_r _ [9] (by decide +kernel) (by decide +kernel)
set_option maxRecDepth 20000 in
theorem gX12_sets_X12_in : GoodIn wsX12_sets (va_wsS RX12 49 yX12_in wsX12_in) := goodIn_app (goodIn_of _ (by decide +kernel)) ggX12_sets_X12_in
set_option maxRecDepth 20000 in
theorem ggX12_sets_X12_done : GoodIn wsX12_sets wsX12_done := goodIn_r _ [18, 14, 19, 20, 21, 22, 23, 24, 25, 26, 27, 28, 29, 30, 31, 32, 33, 34] (by decide +kernel) (by decide +kernel)
set_option maxRecDepth 20000 in
theorem gX12_sets_X12_done : GoodIn wsX12_sets (wsV RX12 57 RX12 yX12_done wsX12_done) := goodIn_app (goodIn_of _ (by decide +kernel)) ggX12_sets_X12_done
theorem dX12_sets_0 : decode cX12_sets 0 = .ok (.aload_n 0, 1) := by decide +kernel
theorem dX12_sets_1 : decode cX12_sets 1 = .ok (.iload_n 2, 1) := by decide +kernel
theorem dX12_sets_2 : decode cX12_sets 2 = .ok (.invokevirtual 70, 3) := by decide +kernel
theorem dX12_sets_5 : decode cX12_sets 5 = .ok (.ifCond .ne 9, 3) := by decide +kernel
theorem dX12_sets_8 : decode cX12_sets 8 = .ok (.aload_n 0, 1) := by decide +kernel
theorem dX12_sets_9 : decode cX12_sets 9 = .ok (.iconst 1, 1) := by decide +kernel
theorem dX12_sets_10 : decode cX12_sets 10 = .ok (.invokevirtual 53, 3) := by decide +kernel
theorem dX12_sets_13 : decode cX12_sets 13 = .ok (.ireturn, 1) := by decide +kernel
theorem dX12_sets_14 : decode cX12_sets 14 = .ok (.iload_n 3, 1) := by decide +kernel
theorem dX12_sets_15 : decode cX12_sets 15 = .ok (.iconst 1, 1) := by decide +kernel
theorem dX12_sets_16 : decode cX12_sets 16 = .ok (.iload 4, 2) := by decide +kernel
theorem dX12_sets_18 : decode cX12_sets 18 = .ok (.invokestatic 49, 3) := by decide +kernel
theorem dX12_sets_21 : decode cX12_sets 21 = .ok (.ifCond .ne 9, 3) := by decide +kernel
theorem dX12_sets_24 : decode cX12_sets 24 = .ok (.aload_n 0, 1) := by decide +kernel
theorem dX12_sets_25 : decode cX12_sets 25 = .ok (.iconst 2, 1) := by decide +kernel
theorem dX12_sets_26 : decode cX12_sets 26 = .ok (.invokevirtual 53, 3) := by decide +kernel
theorem dX12_sets_29 : decode cX12_sets 29 = .ok (.ireturn, 1) := by decide +kernel
theorem dX12_sets_30 : decode cX12_sets 30 = .ok (.aload_n 0, 1) := by decide +kernel
theorem dX12_sets_31 : decode cX12_sets 31 = .ok (.getfield 7, 3) := by decide +kernel
theorem dX12_sets_34 : decode cX12_sets 34 = .ok (.iload_n 1, 1) := by decide +kernel
theorem dX12_sets_35 : decode cX12_sets 35 = .ok (.iload_n 2, 1) := by decide +kernel
theorem dX12_sets_36 : decode cX12_sets 36 = .ok (.iadd, 1) := by decide +kernel
theorem dX12_sets_37 : decode cX12_sets 37 = .ok (.iaload, 1) := by decide +kernel
theorem dX12_sets_38 : decode cX12_sets 38 = .ok (.istore 5, 2) := by decide +kernel
theorem dX12_sets_40 : decode cX12_sets 40 = .ok (.aload_n 0, 1) := by decide +kernel
theorem dX12_sets_41 : decode cX12_sets 41 = .ok (.getfield 7, 3) := by decide +kernel
theorem dX12_sets_44 : decode cX12_sets 44 = .ok (.iload_n 1, 1) := by decide +kernel
theorem dX12_sets_45 : decode cX12_sets 45 = .ok (.iload_n 2, 1) := by decide +kernel
theorem dX12_sets_46 : decode cX12_sets 46 = .ok (.iadd, 1) := by decide +kernel
theorem dX12_sets_47 : decode cX12_sets 47 = .ok (.iload_n 3, 1) := by decide +kernel
theorem dX12_sets_48 : decode cX12_sets 48 = .ok (.iastore, 1) := by decide +kernel
theorem dX12_sets_49 : decode cX12_sets 49 = .ok (.aload_n 0, 1) := by decide +kernel
theorem dX12_sets_50 : decode cX12_sets 50 = .ok (.iload 5, 2) := by decide +kernel
theorem dX12_sets_52 : decode cX12_sets 52 = .ok (.invokevirtual 57, 3) := by decide +kernel
theorem dX12_sets_55 : decode cX12_sets 55 = .ok (.ireturn, 1) := by decide +kernel
set_option maxRecDepth 20000 in
theorem ggX12_setShares_X12_begin : GoodIn wsX12_setShares wsX12_begin := goodIn_ca (goodIn_r _ [5, 6, 7, 8, 9, 4, 10, 37, 38, 39, 40, 41, 42, 43, 44, 45, 46, 47, 48, 49, 50, 51, 52] (by decide +kernel) (by decide +kernel)) (goodIn_sub (fun _ h => List.mem_cons_of_mem _ (List.mem_append_right _ h)) (by decide +kernel))
set_option maxRecDepth 20000 in
theorem gX12_setShares_X12_begin : GoodIn wsX12_setShares (wsV RX12 60 RX12 yX12_begin wsX12_begin) := goodIn_app (goodIn_of _ (by decide +kernel)) ggX12_setShares_X12_begin
set_option maxRecDepth 20000 in
theorem ggX12_setShares_X12_sets : GoodIn wsX12_setShares wsX12_sets := goodIn_ca (goodIn_r _ [14, 6, 15, 16, 17, 4, 18, 19, 20, 21, 22, 23, 24, 25, 26, 27, 28, 29, 30, 37, 38, 39, 40, 41, 42, 43, 44, 45, 46, 47, 48, 49, 50, 51, 52] (by decide +kernel) (by decide +kernel)) (goodIn_sub (fun _ h => List.mem_cons_of_mem _ (List.mem_append_right _ h)) (by decide +kernel))
set_option maxRecDepth 20000 in
theorem gX12_setShares_X12_sets : GoodIn wsX12_setShares (wsV RX12 81 RX12 yX12_sets wsX12_sets) := goodIn_app (goodIn_of _ (by decide +kernel)) ggX12_setShares_X12_sets
set_option maxRecDepth 20000 in
theorem ggX12_setShares_X12_kept : GoodIn wsX12_setShares wsX12_kept := goodIn_ca (goodIn_r _ [34, 26, 7, 6, 35, 36, 8, 9, 4, 10, 37, 38, 39, 40, 41, 42, 43, 44, 45, 46, 47, 48, 49, 50, 51, 52] (by decide +kernel) (by decide +kernel)) (goodIn_sub (fun _ h => List.mem_cons_of_mem _ (List.mem_append_right _ h)) (by decide +kernel))
set_option maxRecDepth 20000 in
theorem gX12_setShares_X12_kept : GoodIn wsX12_setShares (wsV RX12 67 RX12 yX12_kept wsX12_kept) := goodIn_app (goodIn_of _ (by decide +kernel)) ggX12_setShares_X12_kept
theorem dX12_setShares_0 : decode cX12_setShares 0 = .ok (.aload_n 0, 1) := by decide +kernel
theorem dX12_setShares_1 : decode cX12_setShares 1 = .ok (.invokevirtual 60, 3) := by decide +kernel
theorem dX12_setShares_4 : decode cX12_setShares 4 = .ok (.aload_n 0, 1) := by decide +kernel
theorem dX12_setShares_5 : decode cX12_setShares 5 = .ok (.aload_n 0, 1) := by decide +kernel
theorem dX12_setShares_6 : decode cX12_setShares 6 = .ok (.bipush 14, 2) := by decide +kernel
theorem dX12_setShares_8 : decode cX12_setShares 8 = .ok (.iload_n 1, 1) := by decide +kernel
theorem dX12_setShares_9 : decode cX12_setShares 9 = .ok (.iload_n 2, 1) := by decide +kernel
theorem dX12_setShares_10 : decode cX12_setShares 10 = .ok (.bipush 9, 2) := by decide +kernel
theorem dX12_setShares_12 : decode cX12_setShares 12 = .ok (.invokevirtual 81, 3) := by decide +kernel
theorem dX12_setShares_15 : decode cX12_setShares 15 = .ok (.invokevirtual 67, 3) := by decide +kernel
theorem dX12_setShares_18 : decode cX12_setShares 18 = .ok (.ireturn, 1) := by decide +kernel
set_option maxRecDepth 20000 in
theorem ggX12_setBrightness_X12_begin : GoodIn wsX12_setBrightness wsX12_begin := goodIn_ca (goodIn_r _ [5, 6, 7, 8, 9, 4, 10, 37, 38, 39, 40, 41, 42, 43, 44, 45, 46, 47, 48, 49, 50, 51, 52] (by decide +kernel) (by decide +kernel)) (goodIn_sub (fun _ h => List.mem_cons_of_mem _ (List.mem_append_right _ h)) (by decide +kernel))
set_option maxRecDepth 20000 in
theorem gX12_setBrightness_X12_begin : GoodIn wsX12_setBrightness (wsV RX12 60 RX12 yX12_begin wsX12_begin) := goodIn_app (goodIn_of _ (by decide +kernel)) ggX12_setBrightness_X12_begin
set_option maxRecDepth 20000 in
theorem ggX12_setBrightness_X12_sets : GoodIn wsX12_setBrightness wsX12_sets := goodIn_ca (goodIn_r _ [14, 6, 15, 16, 17, 4, 18, 19, 20, 21, 22, 23, 24, 25, 26, 27, 28, 29, 30, 37, 38, 39, 40, 41, 42, 43, 44, 45, 46, 47, 48, 49, 50, 51, 52] (by decide +kernel) (by decide +kernel)) (goodIn_sub (fun _ h => List.mem_cons_of_mem _ (List.mem_append_right _ h)) (by decide +kernel))
set_option maxRecDepth 20000 in
theorem gX12_setBrightness_X12_sets : GoodIn wsX12_setBrightness (wsV RX12 81 RX12 yX12_sets wsX12_sets) := goodIn_app (goodIn_of _ (by decide +kernel)) ggX12_setBrightness_X12_sets
set_option maxRecDepth 20000 in
theorem ggX12_setBrightness_X12_kept : GoodIn wsX12_setBrightness wsX12_kept := goodIn_ca (goodIn_r _ [34, 26, 7, 6, 35, 36, 8, 9, 4, 10, 37, 38, 39, 40, 41, 42, 43, 44, 45, 46, 47, 48, 49, 50, 51, 52] (by decide +kernel) (by decide +kernel)) (goodIn_sub (fun _ h => List.mem_cons_of_mem _ (List.mem_append_right _ h)) (by decide +kernel))
set_option maxRecDepth 20000 in
theorem gX12_setBrightness_X12_kept : GoodIn wsX12_setBrightness (wsV RX12 67 RX12 yX12_kept wsX12_kept) := goodIn_app (goodIn_of _ (by decide +kernel)) ggX12_setBrightness_X12_kept
theorem dX12_setBrightness_0 : decode cX12_setBrightness 0 = .ok (.aload_n 0, 1) := by decide +kernel
theorem dX12_setBrightness_1 : decode cX12_setBrightness 1 = .ok (.invokevirtual 60, 3) := by decide +kernel
theorem dX12_setBrightness_4 : decode cX12_setBrightness 4 = .ok (.aload_n 0, 1) := by decide +kernel
theorem dX12_setBrightness_5 : decode cX12_setBrightness 5 = .ok (.aload_n 0, 1) := by decide +kernel
theorem dX12_setBrightness_6 : decode cX12_setBrightness 6 = .ok (.bipush 22, 2) := by decide +kernel
theorem dX12_setBrightness_8 : decode cX12_setBrightness 8 = .ok (.iload_n 1, 1) := by decide +kernel
theorem dX12_setBrightness_9 : decode cX12_setBrightness 9 = .ok (.iload_n 2, 1) := by decide +kernel
theorem dX12_setBrightness_10 : decode cX12_setBrightness 10 = .ok (.iconst 5, 1) := by decide +kernel
theorem dX12_setBrightness_11 : decode cX12_setBrightness 11 = .ok (.invokevirtual 81, 3) := by decide +kernel
theorem dX12_setBrightness_14 : decode cX12_setBrightness 14 = .ok (.invokevirtual 67, 3) := by decide +kernel
theorem dX12_setBrightness_17 : decode cX12_setBrightness 17 = .ok (.ireturn, 1) := by decide +kernel
set_option maxRecDepth 20000 in
theorem ggX12_switches_X12_isLamp : GoodIn wsX12_switches wsX12_isLamp := goodIn_ca (goodIn_r _ [6, 1, 7, 8, 5, 9, 19, 20, 21, 22, 23, 24, 25, 26, 27, 28, 29, 30, 31, 32, 33, 34] (by decide +kernel) (by decide +kernel)) (goodIn_sub (fun _ h => List.mem_cons_of_mem _ (List.mem_append_right _ h)) (by decide +kernel))
set_option maxRecDepth 20000 in
theorem gX12_switches_X12_isLamp : GoodIn wsX12_switches (wsV RX12 70 RX12 yX12_isLamp wsX12_isLamp) := goodIn_app (goodIn_of _ (by decide +kernel)) ggX12_switches_X12_isLamp
set_option maxRecDepth 20000 in
theorem ggX12_switches_X12_fails : GoodIn wsX12_switches wsX12_fails := goodIn_r _ [13, 14, 19, 20, 21, 22, 23, 24, 25, 26, 27, 28, 29, 30, 31, 32, 33, 34] (by decide +kernel) (by decide +kernel)
set_option maxRecDepth 20000 in
theorem gX12_switches_X12_fails : GoodIn wsX12_switches (wsV RX12 53 RX12 yX12_fails wsX12_fails) := goodIn_app (goodIn_of _ (by decide +kernel)) ggX12_switches_X12_fails
set_option maxRecDepth 20000 in
theorem ggX12_switches_X12_done : GoodIn wsX12_switches wsX12_done := goodIn_r _ [18, 14, 19, 20, 21, 22, 23, 24, 25, 26, 27, 28, 29, 30, 31, 32, 33, 34] (by decide +kernel) (by decide +kernel)
set_option maxRecDepth 20000 in
theorem gX12_switches_X12_done : GoodIn wsX12_switches (wsV RX12 57 RX12 yX12_done wsX12_done) := goodIn_app (goodIn_of _ (by decide +kernel)) ggX12_switches_X12_done
theorem dX12_switches_0 : decode cX12_switches 0 = .ok (.aload_n 0, 1) := by decide +kernel
theorem dX12_switches_1 : decode cX12_switches 1 = .ok (.iload_n 1, 1) := by decide +kernel
theorem dX12_switches_2 : decode cX12_switches 2 = .ok (.invokevirtual 70, 3) := by decide +kernel
theorem dX12_switches_5 : decode cX12_switches 5 = .ok (.ifCond .ne 9, 3) := by decide +kernel
theorem dX12_switches_8 : decode cX12_switches 8 = .ok (.aload_n 0, 1) := by decide +kernel
theorem dX12_switches_9 : decode cX12_switches 9 = .ok (.iconst 1, 1) := by decide +kernel
theorem dX12_switches_10 : decode cX12_switches 10 = .ok (.invokevirtual 53, 3) := by decide +kernel
theorem dX12_switches_13 : decode cX12_switches 13 = .ok (.ireturn, 1) := by decide +kernel
theorem dX12_switches_14 : decode cX12_switches 14 = .ok (.aload_n 0, 1) := by decide +kernel
theorem dX12_switches_15 : decode cX12_switches 15 = .ok (.getfield 7, 3) := by decide +kernel
theorem dX12_switches_18 : decode cX12_switches 18 = .ok (.bipush 30, 2) := by decide +kernel
theorem dX12_switches_20 : decode cX12_switches 20 = .ok (.iload_n 1, 1) := by decide +kernel
theorem dX12_switches_21 : decode cX12_switches 21 = .ok (.iadd, 1) := by decide +kernel
theorem dX12_switches_22 : decode cX12_switches 22 = .ok (.iaload, 1) := by decide +kernel
theorem dX12_switches_23 : decode cX12_switches 23 = .ok (.iload_n 2, 1) := by decide +kernel
theorem dX12_switches_24 : decode cX12_switches 24 = .ok (.if_icmp .ne 7, 3) := by decide +kernel
theorem dX12_switches_27 : decode cX12_switches 27 = .ok (.iconst 0, 1) := by decide +kernel
theorem dX12_switches_28 : decode cX12_switches 28 = .ok (.goto 4, 3) := by decide +kernel
theorem dX12_switches_31 : decode cX12_switches 31 = .ok (.iconst 1, 1) := by decide +kernel
theorem dX12_switches_32 : decode cX12_switches 32 = .ok (.istore_n 3, 1) := by decide +kernel
theorem dX12_switches_33 : decode cX12_switches 33 = .ok (.aload_n 0, 1) := by decide +kernel
theorem dX12_switches_34 : decode cX12_switches 34 = .ok (.getfield 7, 3) := by decide +kernel
theorem dX12_switches_37 : decode cX12_switches 37 = .ok (.bipush 30, 2) := by decide +kernel
theorem dX12_switches_39 : decode cX12_switches 39 = .ok (.iload_n 1, 1) := by decide +kernel
theorem dX12_switches_40 : decode cX12_switches 40 = .ok (.iadd, 1) := by decide +kernel
theorem dX12_switches_41 : decode cX12_switches 41 = .ok (.iload_n 2, 1) := by decide +kernel
theorem dX12_switches_42 : decode cX12_switches 42 = .ok (.iastore, 1) := by decide +kernel
theorem dX12_switches_43 : decode cX12_switches 43 = .ok (.aload_n 0, 1) := by decide +kernel
theorem dX12_switches_44 : decode cX12_switches 44 = .ok (.iload_n 3, 1) := by decide +kernel
theorem dX12_switches_45 : decode cX12_switches 45 = .ok (.invokevirtual 57, 3) := by decide +kernel
theorem dX12_switches_48 : decode cX12_switches 48 = .ok (.ireturn, 1) := by decide +kernel
set_option maxRecDepth 20000 in
theorem ggX12_switchOn_X12_begin : GoodIn wsX12_switchOn wsX12_begin := goodIn_ca (goodIn_r _ [5, 6, 7, 8, 9, 4, 10, 37, 38, 39, 40, 41, 42, 43, 44, 45, 46, 47, 48, 49, 50, 51, 52] (by decide +kernel) (by decide +kernel)) (goodIn_sub (fun _ h => List.mem_cons_of_mem _ (List.mem_append_right _ h)) (by decide +kernel))
set_option maxRecDepth 20000 in
theorem gX12_switchOn_X12_begin : GoodIn wsX12_switchOn (wsV RX12 60 RX12 yX12_begin wsX12_begin) := goodIn_app (goodIn_of _ (by decide +kernel)) ggX12_switchOn_X12_begin
set_option maxRecDepth 20000 in
theorem ggX12_switchOn_X12_switches : GoodIn wsX12_switchOn wsX12_switches := goodIn_ca (goodIn_r _ [14, 6, 15, 16, 17, 4, 18, 19, 20, 21, 22, 23, 24, 25, 26, 27, 28, 29, 30, 37, 38, 39, 40, 41, 42, 43, 44, 45, 46, 47, 48, 49, 50, 51, 52] (by decide +kernel) (by decide +kernel)) (goodIn_sub (fun _ h => List.mem_cons_of_mem _ (List.mem_append_right _ h)) (by decide +kernel))
set_option maxRecDepth 20000 in
theorem gX12_switchOn_X12_switches : GoodIn wsX12_switchOn (wsV RX12 85 RX12 yX12_switches wsX12_switches) := goodIn_app (goodIn_of _ (by decide +kernel)) ggX12_switchOn_X12_switches
set_option maxRecDepth 20000 in
theorem ggX12_switchOn_X12_kept : GoodIn wsX12_switchOn wsX12_kept := goodIn_ca (goodIn_r _ [34, 26, 7, 6, 35, 36, 8, 9, 4, 10, 37, 38, 39, 40, 41, 42, 43, 44, 45, 46, 47, 48, 49, 50, 51, 52] (by decide +kernel) (by decide +kernel)) (goodIn_sub (fun _ h => List.mem_cons_of_mem _ (List.mem_append_right _ h)) (by decide +kernel))
set_option maxRecDepth 20000 in
theorem gX12_switchOn_X12_kept : GoodIn wsX12_switchOn (wsV RX12 67 RX12 yX12_kept wsX12_kept) := goodIn_app (goodIn_of _ (by decide +kernel)) ggX12_switchOn_X12_kept
theorem dX12_switchOn_0 : decode cX12_switchOn 0 = .ok (.aload_n 0, 1) := by decide +kernel
theorem dX12_switchOn_1 : decode cX12_switchOn 1 = .ok (.invokevirtual 60, 3) := by decide +kernel
theorem dX12_switchOn_4 : decode cX12_switchOn 4 = .ok (.aload_n 0, 1) := by decide +kernel
theorem dX12_switchOn_5 : decode cX12_switchOn 5 = .ok (.aload_n 0, 1) := by decide +kernel
theorem dX12_switchOn_6 : decode cX12_switchOn 6 = .ok (.iload_n 1, 1) := by decide +kernel
theorem dX12_switchOn_7 : decode cX12_switchOn 7 = .ok (.iconst 0, 1) := by decide +kernel
theorem dX12_switchOn_8 : decode cX12_switchOn 8 = .ok (.invokevirtual 85, 3) := by decide +kernel
theorem dX12_switchOn_11 : decode cX12_switchOn 11 = .ok (.invokevirtual 67, 3) := by decide +kernel
theorem dX12_switchOn_14 : decode cX12_switchOn 14 = .ok (.iconst 1, 1) := by decide +kernel
theorem dX12_switchOn_15 : decode cX12_switchOn 15 = .ok (.if_icmp .ne 7, 3) := by decide +kernel
theorem dX12_switchOn_18 : decode cX12_switchOn 18 = .ok (.iconst 1, 1) := by decide +kernel
theorem dX12_switchOn_19 : decode cX12_switchOn 19 = .ok (.goto 4, 3) := by decide +kernel
theorem dX12_switchOn_22 : decode cX12_switchOn 22 = .ok (.iconst 0, 1) := by decide +kernel
theorem dX12_switchOn_23 : decode cX12_switchOn 23 = .ok (.ireturn, 1) := by decide +kernel
set_option maxRecDepth 20000 in
theorem ggX12_switchOff_X12_begin : GoodIn wsX12_switchOff wsX12_begin := goodIn_ca (goodIn_r _ [5, 6, 7, 8, 9, 4, 10, 37, 38, 39, 40, 41, 42, 43, 44, 45, 46, 47, 48, 49, 50, 51, 52] (by decide +kernel) (by decide +kernel)) (goodIn_sub (fun _ h => List.mem_cons_of_mem _ (List.mem_append_right _ h)) (by decide +kernel))
set_option maxRecDepth 20000 in
theorem gX12_switchOff_X12_begin : GoodIn wsX12_switchOff (wsV RX12 60 RX12 yX12_begin wsX12_begin) := goodIn_app (goodIn_of _ (by decide +kernel)) ggX12_switchOff_X12_begin
set_option maxRecDepth 20000 in
theorem ggX12_switchOff_X12_switches : GoodIn wsX12_switchOff wsX12_switches := goodIn_ca (goodIn_r _ [14, 6, 15, 16, 17, 4, 18, 19, 20, 21, 22, 23, 24, 25, 26, 27, 28, 29, 30, 37, 38, 39, 40, 41, 42, 43, 44, 45, 46, 47, 48, 49, 50, 51, 52] (by decide +kernel) (by decide +kernel)) (goodIn_sub (fun _ h => List.mem_cons_of_mem _ (List.mem_append_right _ h)) (by decide +kernel))
set_option maxRecDepth 20000 in
theorem gX12_switchOff_X12_switches : GoodIn wsX12_switchOff (wsV RX12 85 RX12 yX12_switches wsX12_switches) := goodIn_app (goodIn_of _ (by decide +kernel)) ggX12_switchOff_X12_switches
set_option maxRecDepth 20000 in
theorem ggX12_switchOff_X12_kept : GoodIn wsX12_switchOff wsX12_kept := goodIn_ca (goodIn_r _ [34, 26, 7, 6, 35, 36, 8, 9, 4, 10, 37, 38, 39, 40, 41, 42, 43, 44, 45, 46, 47, 48, 49, 50, 51, 52] (by decide +kernel) (by decide +kernel)) (goodIn_sub (fun _ h => List.mem_cons_of_mem _ (List.mem_append_right _ h)) (by decide +kernel))
set_option maxRecDepth 20000 in
theorem gX12_switchOff_X12_kept : GoodIn wsX12_switchOff (wsV RX12 67 RX12 yX12_kept wsX12_kept) := goodIn_app (goodIn_of _ (by decide +kernel)) ggX12_switchOff_X12_kept
theorem dX12_switchOff_0 : decode cX12_switchOff 0 = .ok (.aload_n 0, 1) := by decide +kernel
theorem dX12_switchOff_1 : decode cX12_switchOff 1 = .ok (.invokevirtual 60, 3) := by decide +kernel
theorem dX12_switchOff_4 : decode cX12_switchOff 4 = .ok (.aload_n 0, 1) := by decide +kernel
theorem dX12_switchOff_5 : decode cX12_switchOff 5 = .ok (.aload_n 0, 1) := by decide +kernel
theorem dX12_switchOff_6 : decode cX12_switchOff 6 = .ok (.iload_n 1, 1) := by decide +kernel
theorem dX12_switchOff_7 : decode cX12_switchOff 7 = .ok (.iconst 1, 1) := by decide +kernel
theorem dX12_switchOff_8 : decode cX12_switchOff 8 = .ok (.invokevirtual 85, 3) := by decide +kernel
theorem dX12_switchOff_11 : decode cX12_switchOff 11 = .ok (.invokevirtual 67, 3) := by decide +kernel
theorem dX12_switchOff_14 : decode cX12_switchOff 14 = .ok (.iconst 1, 1) := by decide +kernel
theorem dX12_switchOff_15 : decode cX12_switchOff 15 = .ok (.if_icmp .ne 7, 3) := by decide +kernel
theorem dX12_switchOff_18 : decode cX12_switchOff 18 = .ok (.iconst 1, 1) := by decide +kernel
theorem dX12_switchOff_19 : decode cX12_switchOff 19 = .ok (.goto 4, 3) := by decide +kernel
theorem dX12_switchOff_22 : decode cX12_switchOff 22 = .ok (.iconst 0, 1) := by decide +kernel
theorem dX12_switchOff_23 : decode cX12_switchOff 23 = .ok (.ireturn, 1) := by decide +kernel
set_option maxRecDepth 20000 in
theorem ggX12_lampCount_X12_done : GoodIn wsX12_lampCount wsX12_done := goodIn_r _ [6, 7, 8, 9, 10, 11, 12, 13, 14, 15, 16, 17, 18, 19, 20, 21, 22, 23] (by decide +kernel) (by decide +kernel)
set_option maxRecDepth 20000 in
theorem gX12_lampCount_X12_done : GoodIn wsX12_lampCount (wsV RX12 57 RX12 yX12_done wsX12_done) := goodIn_app (goodIn_of _ (by decide +kernel)) ggX12_lampCount_X12_done
theorem dX12_lampCount_0 : decode cX12_lampCount 0 = .ok (.aload_n 0, 1) := by decide +kernel
theorem dX12_lampCount_1 : decode cX12_lampCount 1 = .ok (.aload_n 0, 1) := by decide +kernel
theorem dX12_lampCount_2 : decode cX12_lampCount 2 = .ok (.getfield 7, 3) := by decide +kernel
theorem dX12_lampCount_5 : decode cX12_lampCount 5 = .ok (.iconst 0, 1) := by decide +kernel
theorem dX12_lampCount_6 : decode cX12_lampCount 6 = .ok (.iaload, 1) := by decide +kernel
theorem dX12_lampCount_7 : decode cX12_lampCount 7 = .ok (.invokevirtual 57, 3) := by decide +kernel
theorem dX12_lampCount_10 : decode cX12_lampCount 10 = .ok (.ireturn, 1) := by decide +kernel
set_option maxRecDepth 20000 in
theorem ggX12_lampNumber_X12_isLamp : GoodIn wsX12_lampNumber wsX12_isLamp := goodIn_ca (goodIn_r _ [6, 1, 7, 8, 5, 9, 19, 20, 21, 22, 23, 24, 25, 26, 27, 28, 29, 30, 31, 32, 33, 34] (by decide +kernel) (by decide +kernel)) (goodIn_sub (fun _ h => List.mem_cons_of_mem _ (List.mem_append_right _ h)) (by decide +kernel))
set_option maxRecDepth 20000 in
theorem gX12_lampNumber_X12_isLamp : GoodIn wsX12_lampNumber (wsV RX12 70 RX12 yX12_isLamp wsX12_isLamp) := goodIn_app (goodIn_of _ (by decide +kernel)) ggX12_lampNumber_X12_isLamp
set_option maxRecDepth 20000 in
theorem ggX12_lampNumber_X12_done : GoodIn wsX12_lampNumber wsX12_done := goodIn_r _ [13, 14, 19, 20, 21, 22, 23, 24, 25, 26, 27, 28, 29, 30, 31, 32, 33, 34] (by decide +kernel) (by decide +kernel)
set_option maxRecDepth 20000 in
theorem gX12_lampNumber_X12_done : GoodIn wsX12_lampNumber (wsV RX12 57 RX12 yX12_done wsX12_done) := goodIn_app (goodIn_of _ (by decide +kernel)) ggX12_lampNumber_X12_done
set_option maxRecDepth 20000 in
theorem ggX12_lampNumber_X12_fails : GoodIn wsX12_lampNumber wsX12_fails := goodIn_r _ [18, 14, 19, 20, 21, 22, 23, 24, 25, 26, 27, 28, 29, 30, 31, 32, 33, 34] (by decide +kernel) (by decide +kernel)
set_option maxRecDepth 20000 in
theorem gX12_lampNumber_X12_fails : GoodIn wsX12_lampNumber (wsV RX12 53 RX12 yX12_fails wsX12_fails) := goodIn_app (goodIn_of _ (by decide +kernel)) ggX12_lampNumber_X12_fails
theorem dX12_lampNumber_0 : decode cX12_lampNumber 0 = .ok (.aload_n 0, 1) := by decide +kernel
theorem dX12_lampNumber_1 : decode cX12_lampNumber 1 = .ok (.iload_n 2, 1) := by decide +kernel
theorem dX12_lampNumber_2 : decode cX12_lampNumber 2 = .ok (.invokevirtual 70, 3) := by decide +kernel
theorem dX12_lampNumber_5 : decode cX12_lampNumber 5 = .ok (.ifCond .eq 18, 3) := by decide +kernel
theorem dX12_lampNumber_8 : decode cX12_lampNumber 8 = .ok (.aload_n 0, 1) := by decide +kernel
theorem dX12_lampNumber_9 : decode cX12_lampNumber 9 = .ok (.aload_n 0, 1) := by decide +kernel
theorem dX12_lampNumber_10 : decode cX12_lampNumber 10 = .ok (.getfield 7, 3) := by decide +kernel
theorem dX12_lampNumber_13 : decode cX12_lampNumber 13 = .ok (.iload_n 1, 1) := by decide +kernel
theorem dX12_lampNumber_14 : decode cX12_lampNumber 14 = .ok (.iload_n 2, 1) := by decide +kernel
theorem dX12_lampNumber_15 : decode cX12_lampNumber 15 = .ok (.iadd, 1) := by decide +kernel
theorem dX12_lampNumber_16 : decode cX12_lampNumber 16 = .ok (.iaload, 1) := by decide +kernel
theorem dX12_lampNumber_17 : decode cX12_lampNumber 17 = .ok (.invokevirtual 57, 3) := by decide +kernel
theorem dX12_lampNumber_20 : decode cX12_lampNumber 20 = .ok (.goto 8, 3) := by decide +kernel
theorem dX12_lampNumber_23 : decode cX12_lampNumber 23 = .ok (.aload_n 0, 1) := by decide +kernel
theorem dX12_lampNumber_24 : decode cX12_lampNumber 24 = .ok (.iconst 1, 1) := by decide +kernel
theorem dX12_lampNumber_25 : decode cX12_lampNumber 25 = .ok (.invokevirtual 53, 3) := by decide +kernel
theorem dX12_lampNumber_28 : decode cX12_lampNumber 28 = .ok (.ireturn, 1) := by decide +kernel
set_option maxRecDepth 20000 in
theorem ggX12_streetOf_X12_lampNumber : GoodIn wsX12_streetOf wsX12_lampNumber := goodIn_ca (goodIn_r _ [5, 6, 7, 8, 9, 4, 10, 11, 12, 13, 14, 15, 16, 17, 18, 19, 20, 21, 22, 23, 24, 25, 26, 27, 28, 29, 30, 31, 32, 33, 34, 35, 36, 37, 38] (by decide +kernel) (by decide +kernel)) (goodIn_sub (fun _ h => List.mem_cons_of_mem _ (List.mem_append_right _ h)) (by decide +kernel))
set_option maxRecDepth 20000 in
theorem gX12_streetOf_X12_lampNumber : GoodIn wsX12_streetOf (wsV RX12 88 RX12 yX12_lampNumber wsX12_lampNumber) := goodIn_app (goodIn_of _ (by decide +kernel)) ggX12_streetOf_X12_lampNumber
theorem dX12_streetOf_0 : decode cX12_streetOf 0 = .ok (.aload_n 0, 1) := by decide +kernel
theorem dX12_streetOf_1 : decode cX12_streetOf 1 = .ok (.bipush 6, 2) := by decide +kernel
theorem dX12_streetOf_3 : decode cX12_streetOf 3 = .ok (.iload_n 1, 1) := by decide +kernel
theorem dX12_streetOf_4 : decode cX12_streetOf 4 = .ok (.invokevirtual 88, 3) := by decide +kernel
theorem dX12_streetOf_7 : decode cX12_streetOf 7 = .ok (.ireturn, 1) := by decide +kernel
set_option maxRecDepth 20000 in
theorem ggX12_sharesOf_X12_lampNumber : GoodIn wsX12_sharesOf wsX12_lampNumber := goodIn_ca (goodIn_r _ [5, 6, 7, 8, 9, 4, 10, 11, 12, 13, 14, 15, 16, 17, 18, 19, 20, 21, 22, 23, 24, 25, 26, 27, 28, 29, 30, 31, 32, 33, 34, 35, 36, 37, 38] (by decide +kernel) (by decide +kernel)) (goodIn_sub (fun _ h => List.mem_cons_of_mem _ (List.mem_append_right _ h)) (by decide +kernel))
set_option maxRecDepth 20000 in
theorem gX12_sharesOf_X12_lampNumber : GoodIn wsX12_sharesOf (wsV RX12 88 RX12 yX12_lampNumber wsX12_lampNumber) := goodIn_app (goodIn_of _ (by decide +kernel)) ggX12_sharesOf_X12_lampNumber
theorem dX12_sharesOf_0 : decode cX12_sharesOf 0 = .ok (.aload_n 0, 1) := by decide +kernel
theorem dX12_sharesOf_1 : decode cX12_sharesOf 1 = .ok (.bipush 14, 2) := by decide +kernel
theorem dX12_sharesOf_3 : decode cX12_sharesOf 3 = .ok (.iload_n 1, 1) := by decide +kernel
theorem dX12_sharesOf_4 : decode cX12_sharesOf 4 = .ok (.invokevirtual 88, 3) := by decide +kernel
theorem dX12_sharesOf_7 : decode cX12_sharesOf 7 = .ok (.ireturn, 1) := by decide +kernel
set_option maxRecDepth 20000 in
theorem ggX12_brightnessOf_X12_lampNumber : GoodIn wsX12_brightnessOf wsX12_lampNumber := goodIn_ca (goodIn_r _ [5, 6, 7, 8, 9, 4, 10, 11, 12, 13, 14, 15, 16, 17, 18, 19, 20, 21, 22, 23, 24, 25, 26, 27, 28, 29, 30, 31, 32, 33, 34, 35, 36, 37, 38] (by decide +kernel) (by decide +kernel)) (goodIn_sub (fun _ h => List.mem_cons_of_mem _ (List.mem_append_right _ h)) (by decide +kernel))
set_option maxRecDepth 20000 in
theorem gX12_brightnessOf_X12_lampNumber : GoodIn wsX12_brightnessOf (wsV RX12 88 RX12 yX12_lampNumber wsX12_lampNumber) := goodIn_app (goodIn_of _ (by decide +kernel)) ggX12_brightnessOf_X12_lampNumber
theorem dX12_brightnessOf_0 : decode cX12_brightnessOf 0 = .ok (.aload_n 0, 1) := by decide +kernel
theorem dX12_brightnessOf_1 : decode cX12_brightnessOf 1 = .ok (.bipush 22, 2) := by decide +kernel
theorem dX12_brightnessOf_3 : decode cX12_brightnessOf 3 = .ok (.iload_n 1, 1) := by decide +kernel
theorem dX12_brightnessOf_4 : decode cX12_brightnessOf 4 = .ok (.invokevirtual 88, 3) := by decide +kernel
theorem dX12_brightnessOf_7 : decode cX12_brightnessOf 7 = .ok (.ireturn, 1) := by decide +kernel
set_option maxRecDepth 20000 in
theorem ggX12_isOn_X12_lampNumber : GoodIn wsX12_isOn wsX12_lampNumber := goodIn_ca (goodIn_r _ [6, 7, 8, 9, 10, 5, 11, 12, 13, 14, 15, 16, 17, 18, 1, 19, 20, 21, 22, 23, 24, 25, 26, 27, 28, 29, 30, 31, 32, 33, 34, 35, 36, 37, 38] (by decide +kernel) (by decide +kernel)) (goodIn_sub (fun _ h => List.mem_cons_of_mem _ (List.mem_append_right _ h)) (by decide +kernel))
set_option maxRecDepth 20000 in
theorem gX12_isOn_X12_lampNumber : GoodIn wsX12_isOn (wsV RX12 88 RX12 yX12_lampNumber wsX12_lampNumber) := goodIn_app (goodIn_of _ (by decide +kernel)) ggX12_isOn_X12_lampNumber
theorem dX12_isOn_0 : decode cX12_isOn 0 = .ok (.aload_n 0, 1) := by decide +kernel
theorem dX12_isOn_1 : decode cX12_isOn 1 = .ok (.bipush 30, 2) := by decide +kernel
theorem dX12_isOn_3 : decode cX12_isOn 3 = .ok (.iload_n 1, 1) := by decide +kernel
theorem dX12_isOn_4 : decode cX12_isOn 4 = .ok (.invokevirtual 88, 3) := by decide +kernel
theorem dX12_isOn_7 : decode cX12_isOn 7 = .ok (.ifCond .ne 14, 3) := by decide +kernel
theorem dX12_isOn_10 : decode cX12_isOn 10 = .ok (.aload_n 0, 1) := by decide +kernel
theorem dX12_isOn_11 : decode cX12_isOn 11 = .ok (.getfield 39, 3) := by decide +kernel
theorem dX12_isOn_14 : decode cX12_isOn 14 = .ok (.ifCond .ne 7, 3) := by decide +kernel
theorem dX12_isOn_17 : decode cX12_isOn 17 = .ok (.iconst 1, 1) := by decide +kernel
theorem dX12_isOn_18 : decode cX12_isOn 18 = .ok (.goto 4, 3) := by decide +kernel
theorem dX12_isOn_21 : decode cX12_isOn 21 = .ok (.iconst 0, 1) := by decide +kernel
theorem dX12_isOn_22 : decode cX12_isOn 22 = .ok (.ireturn, 1) := by decide +kernel
set_option maxRecDepth 20000 in
theorem ggX12_oilOf_X12_lampNumber : GoodIn wsX12_oilOf wsX12_lampNumber := goodIn_ca (goodIn_r _ [5, 6, 7, 8, 9, 4, 10, 11, 12, 13, 14, 15, 16, 17, 18, 19, 20, 21, 22, 23, 24, 25, 26, 27, 28, 29, 30, 31, 32, 33, 34, 35, 36, 37, 38] (by decide +kernel) (by decide +kernel)) (goodIn_sub (fun _ h => List.mem_cons_of_mem _ (List.mem_append_right _ h)) (by decide +kernel))
set_option maxRecDepth 20000 in
theorem gX12_oilOf_X12_lampNumber : GoodIn wsX12_oilOf (wsV RX12 88 RX12 yX12_lampNumber wsX12_lampNumber) := goodIn_app (goodIn_of _ (by decide +kernel)) ggX12_oilOf_X12_lampNumber
theorem dX12_oilOf_0 : decode cX12_oilOf 0 = .ok (.aload_n 0, 1) := by decide +kernel
theorem dX12_oilOf_1 : decode cX12_oilOf 1 = .ok (.bipush 38, 2) := by decide +kernel
theorem dX12_oilOf_3 : decode cX12_oilOf 3 = .ok (.iload_n 1, 1) := by decide +kernel
theorem dX12_oilOf_4 : decode cX12_oilOf 4 = .ok (.invokevirtual 88, 3) := by decide +kernel
theorem dX12_oilOf_7 : decode cX12_oilOf 7 = .ok (.ireturn, 1) := by decide +kernel
set_option maxRecDepth 20000 in
theorem ggX12_wickOf_X12_lampNumber : GoodIn wsX12_wickOf wsX12_lampNumber := goodIn_ca (goodIn_r _ [5, 6, 7, 8, 9, 4, 10, 11, 12, 13, 14, 15, 16, 17, 18, 19, 20, 21, 22, 23, 24, 25, 26, 27, 28, 29, 30, 31, 32, 33, 34, 35, 36, 37, 38] (by decide +kernel) (by decide +kernel)) (goodIn_sub (fun _ h => List.mem_cons_of_mem _ (List.mem_append_right _ h)) (by decide +kernel))
set_option maxRecDepth 20000 in
theorem gX12_wickOf_X12_lampNumber : GoodIn wsX12_wickOf (wsV RX12 88 RX12 yX12_lampNumber wsX12_lampNumber) := goodIn_app (goodIn_of _ (by decide +kernel)) ggX12_wickOf_X12_lampNumber
theorem dX12_wickOf_0 : decode cX12_wickOf 0 = .ok (.aload_n 0, 1) := by decide +kernel
theorem dX12_wickOf_1 : decode cX12_wickOf 1 = .ok (.bipush 46, 2) := by decide +kernel
theorem dX12_wickOf_3 : decode cX12_wickOf 3 = .ok (.iload_n 1, 1) := by decide +kernel
theorem dX12_wickOf_4 : decode cX12_wickOf 4 = .ok (.invokevirtual 88, 3) := by decide +kernel
theorem dX12_wickOf_7 : decode cX12_wickOf 7 = .ok (.ireturn, 1) := by decide +kernel
set_option maxRecDepth 20000 in
theorem ggX12_balanceOf_X12_lampNumber : GoodIn wsX12_balanceOf wsX12_lampNumber := goodIn_ca (goodIn_r _ [5, 6, 7, 8, 9, 4, 10, 11, 12, 13, 14, 15, 16, 17, 18, 19, 20, 21, 22, 23, 24, 25, 26, 27, 28, 29, 30, 31, 32, 33, 34, 35, 36, 37, 38] (by decide +kernel) (by decide +kernel)) (goodIn_sub (fun _ h => List.mem_cons_of_mem _ (List.mem_append_right _ h)) (by decide +kernel))
set_option maxRecDepth 20000 in
theorem gX12_balanceOf_X12_lampNumber : GoodIn wsX12_balanceOf (wsV RX12 88 RX12 yX12_lampNumber wsX12_lampNumber) := goodIn_app (goodIn_of _ (by decide +kernel)) ggX12_balanceOf_X12_lampNumber
theorem dX12_balanceOf_0 : decode cX12_balanceOf 0 = .ok (.aload_n 0, 1) := by decide +kernel
theorem dX12_balanceOf_1 : decode cX12_balanceOf 1 = .ok (.bipush 54, 2) := by decide +kernel
theorem dX12_balanceOf_3 : decode cX12_balanceOf 3 = .ok (.iload_n 1, 1) := by decide +kernel
theorem dX12_balanceOf_4 : decode cX12_balanceOf 4 = .ok (.invokevirtual 88, 3) := by decide +kernel
theorem dX12_balanceOf_7 : decode cX12_balanceOf 7 = .ok (.ireturn, 1) := by decide +kernel
theorem dX12_allShares_0 : decode cX12_allShares 0 = .ok (.iconst 0, 1) := by decide +kernel
theorem dX12_allShares_1 : decode cX12_allShares 1 = .ok (.istore_n 1, 1) := by decide +kernel
theorem dX12_allShares_2 : decode cX12_allShares 2 = .ok (.iconst 0, 1) := by decide +kernel
theorem dX12_allShares_3 : decode cX12_allShares 3 = .ok (.istore_n 2, 1) := by decide +kernel
theorem dX12_allShares_4 : decode cX12_allShares 4 = .ok (.iload_n 2, 1) := by decide +kernel
theorem dX12_allShares_5 : decode cX12_allShares 5 = .ok (.aload_n 0, 1) := by decide +kernel
theorem dX12_allShares_6 : decode cX12_allShares 6 = .ok (.getfield 7, 3) := by decide +kernel
theorem dX12_allShares_9 : decode cX12_allShares 9 = .ok (.iconst 0, 1) := by decide +kernel
theorem dX12_allShares_10 : decode cX12_allShares 10 = .ok (.iaload, 1) := by decide +kernel
theorem dX12_allShares_11 : decode cX12_allShares 11 = .ok (.if_icmp .ge 21, 3) := by decide +kernel
theorem dX12_allShares_14 : decode cX12_allShares 14 = .ok (.iload_n 1, 1) := by decide +kernel
theorem dX12_allShares_15 : decode cX12_allShares 15 = .ok (.aload_n 0, 1) := by decide +kernel
theorem dX12_allShares_16 : decode cX12_allShares 16 = .ok (.getfield 7, 3) := by decide +kernel
theorem dX12_allShares_19 : decode cX12_allShares 19 = .ok (.bipush 14, 2) := by decide +kernel
theorem dX12_allShares_21 : decode cX12_allShares 21 = .ok (.iload_n 2, 1) := by decide +kernel
theorem dX12_allShares_22 : decode cX12_allShares 22 = .ok (.iadd, 1) := by decide +kernel
theorem dX12_allShares_23 : decode cX12_allShares 23 = .ok (.iaload, 1) := by decide +kernel
theorem dX12_allShares_24 : decode cX12_allShares 24 = .ok (.iadd, 1) := by decide +kernel
theorem dX12_allShares_25 : decode cX12_allShares 25 = .ok (.istore_n 1, 1) := by decide +kernel
theorem dX12_allShares_26 : decode cX12_allShares 26 = .ok (.iinc 2 1, 3) := by decide +kernel
theorem dX12_allShares_29 : decode cX12_allShares 29 = .ok (.goto (-25), 3) := by decide +kernel
theorem dX12_allShares_32 : decode cX12_allShares 32 = .ok (.iload_n 1, 1) := by decide +kernel
theorem dX12_allShares_33 : decode cX12_allShares 33 = .ok (.ireturn, 1) := by decide +kernel
set_option maxRecDepth 20000 in
theorem ggX12_quota_X12_allShares : GoodIn wsX12_quota wsX12_allShares := goodIn_ca (goodIn_r _ [6, 1, 7, 8, 9, 10, 11, 12, 13, 14, 15, 16, 17, 18, 19, 20, 21, 22] (by decide +kernel) (by decide +kernel)) (goodIn_sub (fun _ h => List.mem_cons_of_mem _ (List.mem_append_left _ (List.mem_append_right _ h))) (by decide +kernel))
set_option maxRecDepth 20000 in
theorem gX12_quota_X12_allShares : GoodIn wsX12_quota (wsV RX12 91 RX12 yX12_allShares wsX12_allShares) := goodIn_app (goodIn_of _ (by decide +kernel)) ggX12_quota_X12_allShares
theorem dX12_quota_0 : decode cX12_quota 0 = .ok (.iload_n 2, 1) := by decide +kernel
theorem dX12_quota_1 : decode cX12_quota 1 = .ok (.aload_n 0, 1) := by decide +kernel
theorem dX12_quota_2 : decode cX12_quota 2 = .ok (.getfield 7, 3) := by decide +kernel
theorem dX12_quota_5 : decode cX12_quota 5 = .ok (.bipush 14, 2) := by decide +kernel
theorem dX12_quota_7 : decode cX12_quota 7 = .ok (.iload_n 1, 1) := by decide +kernel
theorem dX12_quota_8 : decode cX12_quota 8 = .ok (.iadd, 1) := by decide +kernel
theorem dX12_quota_9 : decode cX12_quota 9 = .ok (.iaload, 1) := by decide +kernel
theorem dX12_quota_10 : decode cX12_quota 10 = .ok (.imul, 1) := by decide +kernel
theorem dX12_quota_11 : decode cX12_quota 11 = .ok (.aload_n 0, 1) := by decide +kernel
theorem dX12_quota_12 : decode cX12_quota 12 = .ok (.invokevirtual 91, 3) := by decide +kernel
theorem dX12_quota_15 : decode cX12_quota 15 = .ok (.idiv, 1) := by decide +kernel
theorem dX12_quota_16 : decode cX12_quota 16 = .ok (.ireturn, 1) := by decide +kernel
set_option maxRecDepth 20000 in
theorem ggX12_remainder_X12_allShares : GoodIn wsX12_remainder wsX12_allShares := goodIn_ca (goodIn_r _ [6, 1, 7, 8, 9, 10, 11, 12, 13, 14, 15, 16, 17, 18, 19, 20, 21, 22] (by decide +kernel) (by decide +kernel)) (goodIn_sub (fun _ h => List.mem_cons_of_mem _ (List.mem_append_left _ (List.mem_append_right _ h))) (by decide +kernel))
set_option maxRecDepth 20000 in
theorem gX12_remainder_X12_allShares : GoodIn wsX12_remainder (wsV RX12 91 RX12 yX12_allShares wsX12_allShares) := goodIn_app (goodIn_of _ (by decide +kernel)) ggX12_remainder_X12_allShares
theorem dX12_remainder_0 : decode cX12_remainder 0 = .ok (.iload_n 2, 1) := by decide +kernel
theorem dX12_remainder_1 : decode cX12_remainder 1 = .ok (.aload_n 0, 1) := by decide +kernel
theorem dX12_remainder_2 : decode cX12_remainder 2 = .ok (.getfield 7, 3) := by decide +kernel
theorem dX12_remainder_5 : decode cX12_remainder 5 = .ok (.bipush 14, 2) := by decide +kernel
theorem dX12_remainder_7 : decode cX12_remainder 7 = .ok (.iload_n 1, 1) := by decide +kernel
theorem dX12_remainder_8 : decode cX12_remainder 8 = .ok (.iadd, 1) := by decide +kernel
theorem dX12_remainder_9 : decode cX12_remainder 9 = .ok (.iaload, 1) := by decide +kernel
theorem dX12_remainder_10 : decode cX12_remainder 10 = .ok (.imul, 1) := by decide +kernel
theorem dX12_remainder_11 : decode cX12_remainder 11 = .ok (.aload_n 0, 1) := by decide +kernel
theorem dX12_remainder_12 : decode cX12_remainder 12 = .ok (.invokevirtual 91, 3) := by decide +kernel
theorem dX12_remainder_15 : decode cX12_remainder 15 = .ok (.irem, 1) := by decide +kernel
theorem dX12_remainder_16 : decode cX12_remainder 16 = .ok (.ireturn, 1) := by decide +kernel
set_option maxRecDepth 20000 in
theorem ggX12_portion_X12_quota : GoodIn wsX12_portion wsX12_quota := goodIn_ca (goodIn_ca (goodIn_r _ [6, 1, 7, 8, 9, 5, 10, 15, 16, 17, 18, 19, 20, 21, 22, 23, 24, 25, 26, 27, 28, 29, 30] (by decide +kernel) (by decide +kernel)) (goodIn_sub (fun _ h => List.mem_cons_of_mem _ (List.mem_append_left _ (List.mem_append_right _ h))) (by decide +kernel))) (goodIn_sub (fun _ h => List.mem_cons_of_mem _ (List.mem_append_right _ h)) (by decide +kernel))
set_option maxRecDepth 20000 in
theorem gX12_portion_X12_quota : GoodIn wsX12_portion (wsV RX12 95 RX12 yX12_quota wsX12_quota) := goodIn_app (goodIn_of _ (by decide +kernel)) ggX12_portion_X12_quota
set_option maxRecDepth 20000 in
theorem ggX12_portion_X12_remainder : GoodIn wsX12_portion wsX12_remainder := goodIn_ca (goodIn_ca (goodIn_r _ [14, 1, 7, 8, 9, 5, 10, 15, 16, 17, 18, 19, 20, 21, 22, 23, 24, 25, 26, 27, 28, 29, 30] (by decide +kernel) (by decide +kernel)) (goodIn_sub (fun _ h => List.mem_cons_of_mem _ (List.mem_append_left _ (List.mem_append_right _ h))) (by decide +kernel))) (goodIn_sub (fun _ h => List.mem_cons_of_mem _ (List.mem_append_right _ h)) (by decide +kernel))
set_option maxRecDepth 20000 in
theorem gX12_portion_X12_remainder : GoodIn wsX12_portion (wsV RX12 98 RX12 yX12_remainder wsX12_remainder) := goodIn_app (goodIn_of _ (by decide +kernel)) ggX12_portion_X12_remainder
theorem dX12_portion_0 : decode cX12_portion 0 = .ok (.iload_n 2, 1) := by decide +kernel
theorem dX12_portion_1 : decode cX12_portion 1 = .ok (.istore_n 3, 1) := by decide +kernel
theorem dX12_portion_2 : decode cX12_portion 2 = .ok (.iconst 0, 1) := by decide +kernel
theorem dX12_portion_3 : decode cX12_portion 3 = .ok (.istore 4, 2) := by decide +kernel
theorem dX12_portion_5 : decode cX12_portion 5 = .ok (.iconst 0, 1) := by decide +kernel
theorem dX12_portion_6 : decode cX12_portion 6 = .ok (.istore 5, 2) := by decide +kernel
theorem dX12_portion_8 : decode cX12_portion 8 = .ok (.iload 5, 2) := by decide +kernel
theorem dX12_portion_10 : decode cX12_portion 10 = .ok (.aload_n 0, 1) := by decide +kernel
theorem dX12_portion_11 : decode cX12_portion 11 = .ok (.getfield 7, 3) := by decide +kernel
theorem dX12_portion_14 : decode cX12_portion 14 = .ok (.iconst 0, 1) := by decide +kernel
theorem dX12_portion_15 : decode cX12_portion 15 = .ok (.iaload, 1) := by decide +kernel
theorem dX12_portion_16 : decode cX12_portion 16 = .ok (.if_icmp .ge 61, 3) := by decide +kernel
theorem dX12_portion_19 : decode cX12_portion 19 = .ok (.iload_n 3, 1) := by decide +kernel
theorem dX12_portion_20 : decode cX12_portion 20 = .ok (.aload_n 0, 1) := by decide +kernel
theorem dX12_portion_21 : decode cX12_portion 21 = .ok (.iload 5, 2) := by decide +kernel
theorem dX12_portion_23 : decode cX12_portion 23 = .ok (.iload_n 2, 1) := by decide +kernel
theorem dX12_portion_24 : decode cX12_portion 24 = .ok (.invokevirtual 95, 3) := by decide +kernel
theorem dX12_portion_27 : decode cX12_portion 27 = .ok (.isub, 1) := by decide +kernel
theorem dX12_portion_28 : decode cX12_portion 28 = .ok (.istore_n 3, 1) := by decide +kernel
theorem dX12_portion_29 : decode cX12_portion 29 = .ok (.aload_n 0, 1) := by decide +kernel
theorem dX12_portion_30 : decode cX12_portion 30 = .ok (.iload 5, 2) := by decide +kernel
theorem dX12_portion_32 : decode cX12_portion 32 = .ok (.iload_n 2, 1) := by decide +kernel
theorem dX12_portion_33 : decode cX12_portion 33 = .ok (.invokevirtual 98, 3) := by decide +kernel
theorem dX12_portion_36 : decode cX12_portion 36 = .ok (.aload_n 0, 1) := by decide +kernel
theorem dX12_portion_37 : decode cX12_portion 37 = .ok (.iload_n 1, 1) := by decide +kernel
theorem dX12_portion_38 : decode cX12_portion 38 = .ok (.iload_n 2, 1) := by decide +kernel
theorem dX12_portion_39 : decode cX12_portion 39 = .ok (.invokevirtual 98, 3) := by decide +kernel
theorem dX12_portion_42 : decode cX12_portion 42 = .ok (.isub, 1) := by decide +kernel
theorem dX12_portion_43 : decode cX12_portion 43 = .ok (.istore 6, 2) := by decide +kernel
theorem dX12_portion_45 : decode cX12_portion 45 = .ok (.iload 4, 2) := by decide +kernel
theorem dX12_portion_47 : decode cX12_portion 47 = .ok (.iload 6, 2) := by decide +kernel
theorem dX12_portion_49 : decode cX12_portion 49 = .ok (.ifCond .gt 14, 3) := by decide +kernel
theorem dX12_portion_52 : decode cX12_portion 52 = .ok (.iload 6, 2) := by decide +kernel
theorem dX12_portion_54 : decode cX12_portion 54 = .ok (.ifCond .ne 13, 3) := by decide +kernel
theorem dX12_portion_57 : decode cX12_portion 57 = .ok (.iload 5, 2) := by decide +kernel
theorem dX12_portion_59 : decode cX12_portion 59 = .ok (.iload_n 1, 1) := by decide +kernel
theorem dX12_portion_60 : decode cX12_portion 60 = .ok (.if_icmp .ge 7, 3) := by decide +kernel
theorem dX12_portion_63 : decode cX12_portion 63 = .ok (.iconst 1, 1) := by decide +kernel
theorem dX12_portion_64 : decode cX12_portion 64 = .ok (.goto 4, 3) := by decide +kernel
theorem dX12_portion_67 : decode cX12_portion 67 = .ok (.iconst 0, 1) := by decide +kernel
theorem dX12_portion_68 : decode cX12_portion 68 = .ok (.iadd, 1) := by decide +kernel
theorem dX12_portion_69 : decode cX12_portion 69 = .ok (.istore 4, 2) := by decide +kernel
theorem dX12_portion_71 : decode cX12_portion 71 = .ok (.iinc 5 1, 3) := by decide +kernel
theorem dX12_portion_74 : decode cX12_portion 74 = .ok (.goto (-66), 3) := by decide +kernel
theorem dX12_portion_77 : decode cX12_portion 77 = .ok (.aload_n 0, 1) := by decide +kernel
theorem dX12_portion_78 : decode cX12_portion 78 = .ok (.iload_n 1, 1) := by decide +kernel
theorem dX12_portion_79 : decode cX12_portion 79 = .ok (.iload_n 2, 1) := by decide +kernel
theorem dX12_portion_80 : decode cX12_portion 80 = .ok (.invokevirtual 95, 3) := by decide +kernel
theorem dX12_portion_83 : decode cX12_portion 83 = .ok (.iload 4, 2) := by decide +kernel
theorem dX12_portion_85 : decode cX12_portion 85 = .ok (.iload_n 3, 1) := by decide +kernel
theorem dX12_portion_86 : decode cX12_portion 86 = .ok (.if_icmp .ge 7, 3) := by decide +kernel
theorem dX12_portion_89 : decode cX12_portion 89 = .ok (.iconst 1, 1) := by decide +kernel
theorem dX12_portion_90 : decode cX12_portion 90 = .ok (.goto 4, 3) := by decide +kernel
theorem dX12_portion_93 : decode cX12_portion 93 = .ok (.iconst 0, 1) := by decide +kernel
theorem dX12_portion_94 : decode cX12_portion 94 = .ok (.iadd, 1) := by decide +kernel
theorem dX12_portion_95 : decode cX12_portion 95 = .ok (.ireturn, 1) := by decide +kernel
set_option maxRecDepth 20000 in
theorem ggX12_delivers_X12_in : GoodIn wsX12_delivers wsX12_in := goodIn_r _ [5] (by decide +kernel) (by decide +kernel)
set_option maxRecDepth 20000 in
theorem gX12_delivers_X12_in : GoodIn wsX12_delivers (va_wsS RX12 49 yX12_in wsX12_in) := goodIn_app (goodIn_of _ (by decide +kernel)) ggX12_delivers_X12_in
set_option maxRecDepth 20000 in
theorem ggX12_delivers_X12_fails : GoodIn wsX12_delivers wsX12_fails := goodIn_r _ [9, 10, 34, 35, 36, 37, 38, 39, 40, 41, 42, 43, 44, 45, 46, 47, 48, 49] (by decide +kernel) (by decide +kernel)
set_option maxRecDepth 20000 in
theorem gX12_delivers_X12_fails : GoodIn wsX12_delivers (wsV RX12 53 RX12 yX12_fails wsX12_fails) := goodIn_app (goodIn_of _ (by decide +kernel)) ggX12_delivers_X12_fails
set_option maxRecDepth 20000 in
theorem ggX12_delivers_X12_portion : GoodIn wsX12_delivers wsX12_portion := goodIn_ca (goodIn_ca (goodIn_r _ [14, 1, 15, 16, 17, 4, 18, 19, 20, 21, 22, 23, 24, 25, 26, 34, 35, 36, 37, 38, 39, 40, 41, 42, 43, 44, 45, 46, 47, 48, 49] (by decide +kernel) (by decide +kernel)) (goodIn_sub (fun _ h => List.mem_cons_of_mem _ (List.mem_append_left _ (List.mem_append_right _ h))) (by decide +kernel))) (goodIn_sub (fun _ h => List.mem_cons_of_mem _ (List.mem_append_right _ h)) (by decide +kernel))
set_option maxRecDepth 20000 in
theorem gX12_delivers_X12_portion : GoodIn wsX12_delivers (wsV RX12 101 RX12 yX12_portion wsX12_portion) := goodIn_app (goodIn_of _ (by decide +kernel)) ggX12_delivers_X12_portion
set_option maxRecDepth 20000 in
theorem ggX12_delivers_X12_least : GoodIn wsX12_delivers wsX12_least := goodIn_r _ [29] (by decide +kernel) (by decide +kernel)
set_option maxRecDepth 20000 in
theorem gX12_delivers_X12_least : GoodIn wsX12_delivers (va_wsS RX12 104 yX12_least wsX12_least) := goodIn_app (goodIn_of _ (by decide +kernel)) ggX12_delivers_X12_least
set_option maxRecDepth 20000 in
theorem ggX12_delivers_X12_done : GoodIn wsX12_delivers wsX12_done := goodIn_r _ [33, 10, 34, 35, 36, 37, 38, 39, 40, 41, 42, 43, 44, 45, 46, 47, 48, 49] (by decide +kernel) (by decide +kernel)
set_option maxRecDepth 20000 in
theorem gX12_delivers_X12_done : GoodIn wsX12_delivers (wsV RX12 57 RX12 yX12_done wsX12_done) := goodIn_app (goodIn_of _ (by decide +kernel)) ggX12_delivers_X12_done
theorem dX12_delivers_0 : decode cX12_delivers 0 = .ok (.iload_n 1, 1) := by decide +kernel
theorem dX12_delivers_1 : decode cX12_delivers 1 = .ok (.iconst 1, 1) := by decide +kernel
theorem dX12_delivers_2 : decode cX12_delivers 2 = .ok (.sipush 200, 3) := by decide +kernel
theorem dX12_delivers_5 : decode cX12_delivers 5 = .ok (.invokestatic 49, 3) := by decide +kernel
theorem dX12_delivers_8 : decode cX12_delivers 8 = .ok (.ifCond .ne 9, 3) := by decide +kernel
theorem dX12_delivers_11 : decode cX12_delivers 11 = .ok (.aload_n 0, 1) := by decide +kernel
theorem dX12_delivers_12 : decode cX12_delivers 12 = .ok (.iconst 1, 1) := by decide +kernel
theorem dX12_delivers_13 : decode cX12_delivers 13 = .ok (.invokevirtual 53, 3) := by decide +kernel
theorem dX12_delivers_16 : decode cX12_delivers 16 = .ok (.ireturn, 1) := by decide +kernel
theorem dX12_delivers_17 : decode cX12_delivers 17 = .ok (.aload_n 0, 1) := by decide +kernel
theorem dX12_delivers_18 : decode cX12_delivers 18 = .ok (.getfield 7, 3) := by decide +kernel
theorem dX12_delivers_21 : decode cX12_delivers 21 = .ok (.iconst 0, 1) := by decide +kernel
theorem dX12_delivers_22 : decode cX12_delivers 22 = .ok (.iaload, 1) := by decide +kernel
theorem dX12_delivers_23 : decode cX12_delivers 23 = .ok (.ifCond .ne 9, 3) := by decide +kernel
theorem dX12_delivers_26 : decode cX12_delivers 26 = .ok (.aload_n 0, 1) := by decide +kernel
theorem dX12_delivers_27 : decode cX12_delivers 27 = .ok (.iconst 2, 1) := by decide +kernel
theorem dX12_delivers_28 : decode cX12_delivers 28 = .ok (.invokevirtual 53, 3) := by decide +kernel
theorem dX12_delivers_31 : decode cX12_delivers 31 = .ok (.ireturn, 1) := by decide +kernel
theorem dX12_delivers_32 : decode cX12_delivers 32 = .ok (.iconst 0, 1) := by decide +kernel
theorem dX12_delivers_33 : decode cX12_delivers 33 = .ok (.istore_n 2, 1) := by decide +kernel
theorem dX12_delivers_34 : decode cX12_delivers 34 = .ok (.iconst 0, 1) := by decide +kernel
theorem dX12_delivers_35 : decode cX12_delivers 35 = .ok (.istore_n 3, 1) := by decide +kernel
theorem dX12_delivers_36 : decode cX12_delivers 36 = .ok (.iload_n 3, 1) := by decide +kernel
theorem dX12_delivers_37 : decode cX12_delivers 37 = .ok (.aload_n 0, 1) := by decide +kernel
theorem dX12_delivers_38 : decode cX12_delivers 38 = .ok (.getfield 7, 3) := by decide +kernel
theorem dX12_delivers_41 : decode cX12_delivers 41 = .ok (.iconst 0, 1) := by decide +kernel
theorem dX12_delivers_42 : decode cX12_delivers 42 = .ok (.iaload, 1) := by decide +kernel
theorem dX12_delivers_43 : decode cX12_delivers 43 = .ok (.if_icmp .ge 69, 3) := by decide +kernel
theorem dX12_delivers_46 : decode cX12_delivers 46 = .ok (.aload_n 0, 1) := by decide +kernel
theorem dX12_delivers_47 : decode cX12_delivers 47 = .ok (.iload_n 3, 1) := by decide +kernel
theorem dX12_delivers_48 : decode cX12_delivers 48 = .ok (.iload_n 1, 1) := by decide +kernel
theorem dX12_delivers_49 : decode cX12_delivers 49 = .ok (.invokevirtual 101, 3) := by decide +kernel
theorem dX12_delivers_52 : decode cX12_delivers 52 = .ok (.istore 4, 2) := by decide +kernel
theorem dX12_delivers_54 : decode cX12_delivers 54 = .ok (.iload 4, 2) := by decide +kernel
theorem dX12_delivers_56 : decode cX12_delivers 56 = .ok (.bipush 60, 2) := by decide +kernel
theorem dX12_delivers_58 : decode cX12_delivers 58 = .ok (.aload_n 0, 1) := by decide +kernel
theorem dX12_delivers_59 : decode cX12_delivers 59 = .ok (.getfield 7, 3) := by decide +kernel
theorem dX12_delivers_62 : decode cX12_delivers 62 = .ok (.bipush 38, 2) := by decide +kernel
theorem dX12_delivers_64 : decode cX12_delivers 64 = .ok (.iload_n 3, 1) := by decide +kernel
theorem dX12_delivers_65 : decode cX12_delivers 65 = .ok (.iadd, 1) := by decide +kernel
theorem dX12_delivers_66 : decode cX12_delivers 66 = .ok (.iaload, 1) := by decide +kernel
theorem dX12_delivers_67 : decode cX12_delivers 67 = .ok (.isub, 1) := by decide +kernel
theorem dX12_delivers_68 : decode cX12_delivers 68 = .ok (.invokestatic 104, 3) := by decide +kernel
theorem dX12_delivers_71 : decode cX12_delivers 71 = .ok (.istore 5, 2) := by decide +kernel
theorem dX12_delivers_73 : decode cX12_delivers 73 = .ok (.aload_n 0, 1) := by decide +kernel
theorem dX12_delivers_74 : decode cX12_delivers 74 = .ok (.getfield 7, 3) := by decide +kernel
theorem dX12_delivers_77 : decode cX12_delivers 77 = .ok (.bipush 38, 2) := by decide +kernel
theorem dX12_delivers_79 : decode cX12_delivers 79 = .ok (.iload_n 3, 1) := by decide +kernel
theorem dX12_delivers_80 : decode cX12_delivers 80 = .ok (.iadd, 1) := by decide +kernel
theorem dX12_delivers_81 : decode cX12_delivers 81 = .ok (.dup2, 1) := by decide +kernel
theorem dX12_delivers_82 : decode cX12_delivers 82 = .ok (.iaload, 1) := by decide +kernel
theorem dX12_delivers_83 : decode cX12_delivers 83 = .ok (.iload 5, 2) := by decide +kernel
theorem dX12_delivers_85 : decode cX12_delivers 85 = .ok (.iadd, 1) := by decide +kernel
theorem dX12_delivers_86 : decode cX12_delivers 86 = .ok (.iastore, 1) := by decide +kernel
theorem dX12_delivers_87 : decode cX12_delivers 87 = .ok (.aload_n 0, 1) := by decide +kernel
theorem dX12_delivers_88 : decode cX12_delivers 88 = .ok (.getfield 7, 3) := by decide +kernel
theorem dX12_delivers_91 : decode cX12_delivers 91 = .ok (.iconst 3, 1) := by decide +kernel
theorem dX12_delivers_92 : decode cX12_delivers 92 = .ok (.dup2, 1) := by decide +kernel
theorem dX12_delivers_93 : decode cX12_delivers 93 = .ok (.iaload, 1) := by decide +kernel
theorem dX12_delivers_94 : decode cX12_delivers 94 = .ok (.iload 4, 2) := by decide +kernel
theorem dX12_delivers_96 : decode cX12_delivers 96 = .ok (.iload 5, 2) := by decide +kernel
theorem dX12_delivers_98 : decode cX12_delivers 98 = .ok (.isub, 1) := by decide +kernel
theorem dX12_delivers_99 : decode cX12_delivers 99 = .ok (.iadd, 1) := by decide +kernel
theorem dX12_delivers_100 : decode cX12_delivers 100 = .ok (.iastore, 1) := by decide +kernel
theorem dX12_delivers_101 : decode cX12_delivers 101 = .ok (.iload_n 2, 1) := by decide +kernel
theorem dX12_delivers_102 : decode cX12_delivers 102 = .ok (.iload 5, 2) := by decide +kernel
theorem dX12_delivers_104 : decode cX12_delivers 104 = .ok (.iadd, 1) := by decide +kernel
theorem dX12_delivers_105 : decode cX12_delivers 105 = .ok (.istore_n 2, 1) := by decide +kernel
theorem dX12_delivers_106 : decode cX12_delivers 106 = .ok (.iinc 3 1, 3) := by decide +kernel
theorem dX12_delivers_109 : decode cX12_delivers 109 = .ok (.goto (-73), 3) := by decide +kernel
theorem dX12_delivers_112 : decode cX12_delivers 112 = .ok (.aload_n 0, 1) := by decide +kernel
theorem dX12_delivers_113 : decode cX12_delivers 113 = .ok (.iload_n 2, 1) := by decide +kernel
theorem dX12_delivers_114 : decode cX12_delivers 114 = .ok (.invokevirtual 57, 3) := by decide +kernel
theorem dX12_delivers_117 : decode cX12_delivers 117 = .ok (.ireturn, 1) := by decide +kernel
set_option maxRecDepth 20000 in
theorem ggX12_deliverOil_X12_begin : GoodIn wsX12_deliverOil wsX12_begin := goodIn_ca (goodIn_r _ [5, 6, 7, 8, 9, 4, 10, 52, 53, 54, 55, 56, 57, 58, 59, 60, 61, 62, 63, 64, 65, 66, 67] (by decide +kernel) (by decide +kernel)) (goodIn_sub (fun _ h => List.mem_cons_of_mem _ (List.mem_append_left _ (List.mem_append_right _ h))) (by decide +kernel))
set_option maxRecDepth 20000 in
theorem gX12_deliverOil_X12_begin : GoodIn wsX12_deliverOil (wsV RX12 60 RX12 yX12_begin wsX12_begin) := goodIn_app (goodIn_of _ (by decide +kernel)) ggX12_deliverOil_X12_begin
set_option maxRecDepth 20000 in
theorem ggX12_deliverOil_X12_delivers : GoodIn wsX12_deliverOil wsX12_delivers := goodIn_ca (goodIn_ca (goodIn_r _ [14, 6, 15, 16, 4, 17, 18, 19, 20, 21, 22, 23, 24, 25, 26, 27, 28, 29, 30, 31, 32, 33, 34, 35, 36, 37, 38, 39, 40, 41, 42, 43, 44, 45, 52, 53, 54, 55, 56, 57, 58, 59, 60, 61, 62, 63, 64, 65, 66, 67] (by decide +kernel) (by decide +kernel)) (goodIn_sub (fun _ h => List.mem_cons_of_mem _ (List.mem_append_left _ (List.mem_append_right _ h))) (by decide +kernel))) (goodIn_sub (fun _ h => List.mem_cons_of_mem _ (List.mem_append_right _ h)) (by decide +kernel))
set_option maxRecDepth 20000 in
theorem gX12_deliverOil_X12_delivers : GoodIn wsX12_deliverOil (wsV RX12 107 RX12 yX12_delivers wsX12_delivers) := goodIn_app (goodIn_of _ (by decide +kernel)) ggX12_deliverOil_X12_delivers
set_option maxRecDepth 20000 in
theorem ggX12_deliverOil_X12_kept : GoodIn wsX12_deliverOil wsX12_kept := goodIn_ca (goodIn_r _ [49, 22, 7, 6, 50, 51, 8, 9, 4, 10, 52, 53, 54, 55, 56, 57, 58, 59, 60, 61, 62, 63, 64, 65, 66, 67] (by decide +kernel) (by decide +kernel)) (goodIn_sub (fun _ h => List.mem_cons_of_mem _ (List.mem_append_left _ (List.mem_append_right _ h))) (by decide +kernel))
set_option maxRecDepth 20000 in
theorem gX12_deliverOil_X12_kept : GoodIn wsX12_deliverOil (wsV RX12 67 RX12 yX12_kept wsX12_kept) := goodIn_app (goodIn_of _ (by decide +kernel)) ggX12_deliverOil_X12_kept
theorem dX12_deliverOil_0 : decode cX12_deliverOil 0 = .ok (.aload_n 0, 1) := by decide +kernel
theorem dX12_deliverOil_1 : decode cX12_deliverOil 1 = .ok (.invokevirtual 60, 3) := by decide +kernel
theorem dX12_deliverOil_4 : decode cX12_deliverOil 4 = .ok (.aload_n 0, 1) := by decide +kernel
theorem dX12_deliverOil_5 : decode cX12_deliverOil 5 = .ok (.aload_n 0, 1) := by decide +kernel
theorem dX12_deliverOil_6 : decode cX12_deliverOil 6 = .ok (.iload_n 1, 1) := by decide +kernel
theorem dX12_deliverOil_7 : decode cX12_deliverOil 7 = .ok (.invokevirtual 107, 3) := by decide +kernel
theorem dX12_deliverOil_10 : decode cX12_deliverOil 10 = .ok (.invokevirtual 67, 3) := by decide +kernel
theorem dX12_deliverOil_13 : decode cX12_deliverOil 13 = .ok (.ireturn, 1) := by decide +kernel
set_option maxRecDepth 20000 in
theorem ggX12_buys_X12_isLamp : GoodIn wsX12_buys wsX12_isLamp := goodIn_ca (goodIn_r _ [6, 1, 7, 8, 5, 9, 19, 20, 21, 22, 23, 24, 25, 26, 27, 28, 29, 30, 31, 32, 33, 34] (by decide +kernel) (by decide +kernel)) (goodIn_sub (fun _ h => List.mem_cons_of_mem _ (List.mem_append_right _ h)) (by decide +kernel))
set_option maxRecDepth 20000 in
theorem gX12_buys_X12_isLamp : GoodIn wsX12_buys (wsV RX12 70 RX12 yX12_isLamp wsX12_isLamp) := goodIn_app (goodIn_of _ (by decide +kernel)) ggX12_buys_X12_isLamp
set_option maxRecDepth 20000 in
theorem ggX12_buys_X12_fails : GoodIn wsX12_buys wsX12_fails := goodIn_r _ [13, 14, 19, 20, 21, 22, 23, 24, 25, 26, 27, 28, 29, 30, 31, 32, 33, 34] (by decide +kernel) (by decide +kernel)
set_option maxRecDepth 20000 in
theorem gX12_buys_X12_fails : GoodIn wsX12_buys (wsV RX12 53 RX12 yX12_fails wsX12_fails) := goodIn_app (goodIn_of _ (by decide +kernel)) ggX12_buys_X12_fails
set_option maxRecDepth 20000 in
theorem ggX12_buys_X12_in : GoodIn wsX12_buys wsX12_in := goodIn_r _ [9] (by decide +kernel) (by decide +kernel)
set_option maxRecDepth 20000 in
theorem gX12_buys_X12_in : GoodIn wsX12_buys (va_wsS RX12 49 yX12_in wsX12_in) := goodIn_app (goodIn_of _ (by decide +kernel)) ggX12_buys_X12_in
set_option maxRecDepth 20000 in
theorem ggX12_buys_X12_done : GoodIn wsX12_buys wsX12_done := goodIn_r _ [18, 14, 19, 20, 21, 22, 23, 24, 25, 26, 27, 28, 29, 30, 31, 32, 33, 34] (by decide +kernel) (by decide +kernel)
set_option maxRecDepth 20000 in
theorem gX12_buys_X12_done : GoodIn wsX12_buys (wsV RX12 57 RX12 yX12_done wsX12_done) := goodIn_app (goodIn_of _ (by decide +kernel)) ggX12_buys_X12_done
theorem dX12_buys_0 : decode cX12_buys 0 = .ok (.aload_n 0, 1) := by decide +kernel
theorem dX12_buys_1 : decode cX12_buys 1 = .ok (.iload_n 1, 1) := by decide +kernel
theorem dX12_buys_2 : decode cX12_buys 2 = .ok (.invokevirtual 70, 3) := by decide +kernel
theorem dX12_buys_5 : decode cX12_buys 5 = .ok (.ifCond .ne 9, 3) := by decide +kernel
theorem dX12_buys_8 : decode cX12_buys 8 = .ok (.aload_n 0, 1) := by decide +kernel
theorem dX12_buys_9 : decode cX12_buys 9 = .ok (.iconst 1, 1) := by decide +kernel
theorem dX12_buys_10 : decode cX12_buys 10 = .ok (.invokevirtual 53, 3) := by decide +kernel
theorem dX12_buys_13 : decode cX12_buys 13 = .ok (.ireturn, 1) := by decide +kernel
theorem dX12_buys_14 : decode cX12_buys 14 = .ok (.iload_n 2, 1) := by decide +kernel
theorem dX12_buys_15 : decode cX12_buys 15 = .ok (.iconst 1, 1) := by decide +kernel
theorem dX12_buys_16 : decode cX12_buys 16 = .ok (.bipush 60, 2) := by decide +kernel
theorem dX12_buys_18 : decode cX12_buys 18 = .ok (.invokestatic 49, 3) := by decide +kernel
theorem dX12_buys_21 : decode cX12_buys 21 = .ok (.ifCond .ne 9, 3) := by decide +kernel
theorem dX12_buys_24 : decode cX12_buys 24 = .ok (.aload_n 0, 1) := by decide +kernel
theorem dX12_buys_25 : decode cX12_buys 25 = .ok (.iconst 2, 1) := by decide +kernel
theorem dX12_buys_26 : decode cX12_buys 26 = .ok (.invokevirtual 53, 3) := by decide +kernel
theorem dX12_buys_29 : decode cX12_buys 29 = .ok (.ireturn, 1) := by decide +kernel
theorem dX12_buys_30 : decode cX12_buys 30 = .ok (.aload_n 0, 1) := by decide +kernel
theorem dX12_buys_31 : decode cX12_buys 31 = .ok (.getfield 7, 3) := by decide +kernel
theorem dX12_buys_34 : decode cX12_buys 34 = .ok (.iconst 3, 1) := by decide +kernel
theorem dX12_buys_35 : decode cX12_buys 35 = .ok (.iaload, 1) := by decide +kernel
theorem dX12_buys_36 : decode cX12_buys 36 = .ok (.iload_n 2, 1) := by decide +kernel
theorem dX12_buys_37 : decode cX12_buys 37 = .ok (.if_icmp .lt 32, 3) := by decide +kernel
theorem dX12_buys_40 : decode cX12_buys 40 = .ok (.aload_n 0, 1) := by decide +kernel
theorem dX12_buys_41 : decode cX12_buys 41 = .ok (.getfield 7, 3) := by decide +kernel
theorem dX12_buys_44 : decode cX12_buys 44 = .ok (.bipush 38, 2) := by decide +kernel
theorem dX12_buys_46 : decode cX12_buys 46 = .ok (.iload_n 1, 1) := by decide +kernel
theorem dX12_buys_47 : decode cX12_buys 47 = .ok (.iadd, 1) := by decide +kernel
theorem dX12_buys_48 : decode cX12_buys 48 = .ok (.iaload, 1) := by decide +kernel
theorem dX12_buys_49 : decode cX12_buys 49 = .ok (.iload_n 2, 1) := by decide +kernel
theorem dX12_buys_50 : decode cX12_buys 50 = .ok (.iadd, 1) := by decide +kernel
theorem dX12_buys_51 : decode cX12_buys 51 = .ok (.bipush 60, 2) := by decide +kernel
theorem dX12_buys_53 : decode cX12_buys 53 = .ok (.if_icmp .gt 16, 3) := by decide +kernel
theorem dX12_buys_56 : decode cX12_buys 56 = .ok (.aload_n 0, 1) := by decide +kernel
theorem dX12_buys_57 : decode cX12_buys 57 = .ok (.getfield 7, 3) := by decide +kernel
theorem dX12_buys_60 : decode cX12_buys 60 = .ok (.bipush 54, 2) := by decide +kernel
theorem dX12_buys_62 : decode cX12_buys 62 = .ok (.iload_n 1, 1) := by decide +kernel
theorem dX12_buys_63 : decode cX12_buys 63 = .ok (.iadd, 1) := by decide +kernel
theorem dX12_buys_64 : decode cX12_buys 64 = .ok (.iaload, 1) := by decide +kernel
theorem dX12_buys_65 : decode cX12_buys 65 = .ok (.iload_n 2, 1) := by decide +kernel
theorem dX12_buys_66 : decode cX12_buys 66 = .ok (.if_icmp .ge 9, 3) := by decide +kernel
theorem dX12_buys_69 : decode cX12_buys 69 = .ok (.aload_n 0, 1) := by decide +kernel
theorem dX12_buys_70 : decode cX12_buys 70 = .ok (.iconst 3, 1) := by decide +kernel
theorem dX12_buys_71 : decode cX12_buys 71 = .ok (.invokevirtual 53, 3) := by decide +kernel
theorem dX12_buys_74 : decode cX12_buys 74 = .ok (.ireturn, 1) := by decide +kernel
theorem dX12_buys_75 : decode cX12_buys 75 = .ok (.aload_n 0, 1) := by decide +kernel
theorem dX12_buys_76 : decode cX12_buys 76 = .ok (.getfield 7, 3) := by decide +kernel
theorem dX12_buys_79 : decode cX12_buys 79 = .ok (.iconst 3, 1) := by decide +kernel
theorem dX12_buys_80 : decode cX12_buys 80 = .ok (.dup2, 1) := by decide +kernel
theorem dX12_buys_81 : decode cX12_buys 81 = .ok (.iaload, 1) := by decide +kernel
theorem dX12_buys_82 : decode cX12_buys 82 = .ok (.iload_n 2, 1) := by decide +kernel
theorem dX12_buys_83 : decode cX12_buys 83 = .ok (.isub, 1) := by decide +kernel
theorem dX12_buys_84 : decode cX12_buys 84 = .ok (.iastore, 1) := by decide +kernel
theorem dX12_buys_85 : decode cX12_buys 85 = .ok (.aload_n 0, 1) := by decide +kernel
theorem dX12_buys_86 : decode cX12_buys 86 = .ok (.getfield 7, 3) := by decide +kernel
theorem dX12_buys_89 : decode cX12_buys 89 = .ok (.bipush 38, 2) := by decide +kernel
theorem dX12_buys_91 : decode cX12_buys 91 = .ok (.iload_n 1, 1) := by decide +kernel
theorem dX12_buys_92 : decode cX12_buys 92 = .ok (.iadd, 1) := by decide +kernel
theorem dX12_buys_93 : decode cX12_buys 93 = .ok (.dup2, 1) := by decide +kernel
theorem dX12_buys_94 : decode cX12_buys 94 = .ok (.iaload, 1) := by decide +kernel
theorem dX12_buys_95 : decode cX12_buys 95 = .ok (.iload_n 2, 1) := by decide +kernel
theorem dX12_buys_96 : decode cX12_buys 96 = .ok (.iadd, 1) := by decide +kernel
theorem dX12_buys_97 : decode cX12_buys 97 = .ok (.iastore, 1) := by decide +kernel
theorem dX12_buys_98 : decode cX12_buys 98 = .ok (.aload_n 0, 1) := by decide +kernel
theorem dX12_buys_99 : decode cX12_buys 99 = .ok (.getfield 7, 3) := by decide +kernel
theorem dX12_buys_102 : decode cX12_buys 102 = .ok (.bipush 54, 2) := by decide +kernel
theorem dX12_buys_104 : decode cX12_buys 104 = .ok (.iload_n 1, 1) := by decide +kernel
theorem dX12_buys_105 : decode cX12_buys 105 = .ok (.iadd, 1) := by decide +kernel
theorem dX12_buys_106 : decode cX12_buys 106 = .ok (.dup2, 1) := by decide +kernel
theorem dX12_buys_107 : decode cX12_buys 107 = .ok (.iaload, 1) := by decide +kernel
theorem dX12_buys_108 : decode cX12_buys 108 = .ok (.iload_n 2, 1) := by decide +kernel
theorem dX12_buys_109 : decode cX12_buys 109 = .ok (.isub, 1) := by decide +kernel
theorem dX12_buys_110 : decode cX12_buys 110 = .ok (.iastore, 1) := by decide +kernel
theorem dX12_buys_111 : decode cX12_buys 111 = .ok (.aload_n 0, 1) := by decide +kernel
theorem dX12_buys_112 : decode cX12_buys 112 = .ok (.getfield 7, 3) := by decide +kernel
theorem dX12_buys_115 : decode cX12_buys 115 = .ok (.iconst 5, 1) := by decide +kernel
theorem dX12_buys_116 : decode cX12_buys 116 = .ok (.dup2, 1) := by decide +kernel
theorem dX12_buys_117 : decode cX12_buys 117 = .ok (.iaload, 1) := by decide +kernel
theorem dX12_buys_118 : decode cX12_buys 118 = .ok (.iload_n 2, 1) := by decide +kernel
theorem dX12_buys_119 : decode cX12_buys 119 = .ok (.iadd, 1) := by decide +kernel
theorem dX12_buys_120 : decode cX12_buys 120 = .ok (.iastore, 1) := by decide +kernel
theorem dX12_buys_121 : decode cX12_buys 121 = .ok (.aload_n 0, 1) := by decide +kernel
theorem dX12_buys_122 : decode cX12_buys 122 = .ok (.aload_n 0, 1) := by decide +kernel
theorem dX12_buys_123 : decode cX12_buys 123 = .ok (.getfield 7, 3) := by decide +kernel
theorem dX12_buys_126 : decode cX12_buys 126 = .ok (.bipush 38, 2) := by decide +kernel
theorem dX12_buys_128 : decode cX12_buys 128 = .ok (.iload_n 1, 1) := by decide +kernel
theorem dX12_buys_129 : decode cX12_buys 129 = .ok (.iadd, 1) := by decide +kernel
theorem dX12_buys_130 : decode cX12_buys 130 = .ok (.iaload, 1) := by decide +kernel
theorem dX12_buys_131 : decode cX12_buys 131 = .ok (.invokevirtual 57, 3) := by decide +kernel
theorem dX12_buys_134 : decode cX12_buys 134 = .ok (.ireturn, 1) := by decide +kernel
set_option maxRecDepth 20000 in
theorem ggX12_buyOil_X12_begin : GoodIn wsX12_buyOil wsX12_begin := goodIn_ca (goodIn_r _ [5, 6, 7, 8, 9, 4, 10, 37, 38, 39, 40, 41, 42, 43, 44, 45, 46, 47, 48, 49, 50, 51, 52] (by decide +kernel) (by decide +kernel)) (goodIn_sub (fun _ h => List.mem_cons_of_mem _ (List.mem_append_right _ h)) (by decide +kernel))
set_option maxRecDepth 20000 in
theorem gX12_buyOil_X12_begin : GoodIn wsX12_buyOil (wsV RX12 60 RX12 yX12_begin wsX12_begin) := goodIn_app (goodIn_of _ (by decide +kernel)) ggX12_buyOil_X12_begin
set_option maxRecDepth 20000 in
theorem ggX12_buyOil_X12_buys : GoodIn wsX12_buyOil wsX12_buys := goodIn_ca (goodIn_r _ [14, 6, 15, 16, 17, 4, 18, 19, 20, 21, 22, 23, 24, 25, 26, 27, 28, 29, 30, 37, 38, 39, 40, 41, 42, 43, 44, 45, 46, 47, 48, 49, 50, 51, 52] (by decide +kernel) (by decide +kernel)) (goodIn_sub (fun _ h => List.mem_cons_of_mem _ (List.mem_append_right _ h)) (by decide +kernel))
set_option maxRecDepth 20000 in
theorem gX12_buyOil_X12_buys : GoodIn wsX12_buyOil (wsV RX12 110 RX12 yX12_buys wsX12_buys) := goodIn_app (goodIn_of _ (by decide +kernel)) ggX12_buyOil_X12_buys
set_option maxRecDepth 20000 in
theorem ggX12_buyOil_X12_kept : GoodIn wsX12_buyOil wsX12_kept := goodIn_ca (goodIn_r _ [34, 26, 7, 6, 35, 36, 8, 9, 4, 10, 37, 38, 39, 40, 41, 42, 43, 44, 45, 46, 47, 48, 49, 50, 51, 52] (by decide +kernel) (by decide +kernel)) (goodIn_sub (fun _ h => List.mem_cons_of_mem _ (List.mem_append_right _ h)) (by decide +kernel))
set_option maxRecDepth 20000 in
theorem gX12_buyOil_X12_kept : GoodIn wsX12_buyOil (wsV RX12 67 RX12 yX12_kept wsX12_kept) := goodIn_app (goodIn_of _ (by decide +kernel)) ggX12_buyOil_X12_kept
theorem dX12_buyOil_0 : decode cX12_buyOil 0 = .ok (.aload_n 0, 1) := by decide +kernel
theorem dX12_buyOil_1 : decode cX12_buyOil 1 = .ok (.invokevirtual 60, 3) := by decide +kernel
theorem dX12_buyOil_4 : decode cX12_buyOil 4 = .ok (.aload_n 0, 1) := by decide +kernel
theorem dX12_buyOil_5 : decode cX12_buyOil 5 = .ok (.aload_n 0, 1) := by decide +kernel
theorem dX12_buyOil_6 : decode cX12_buyOil 6 = .ok (.iload_n 1, 1) := by decide +kernel
theorem dX12_buyOil_7 : decode cX12_buyOil 7 = .ok (.iload_n 2, 1) := by decide +kernel
theorem dX12_buyOil_8 : decode cX12_buyOil 8 = .ok (.invokevirtual 110, 3) := by decide +kernel
theorem dX12_buyOil_11 : decode cX12_buyOil 11 = .ok (.invokevirtual 67, 3) := by decide +kernel
theorem dX12_buyOil_14 : decode cX12_buyOil 14 = .ok (.ireturn, 1) := by decide +kernel
set_option maxRecDepth 20000 in
theorem ggX12_donates_X12_in : GoodIn wsX12_donates wsX12_in := goodIn_r _ [5] (by decide +kernel) (by decide +kernel)
set_option maxRecDepth 20000 in
theorem gX12_donates_X12_in : GoodIn wsX12_donates (va_wsS RX12 49 yX12_in wsX12_in) := goodIn_app (goodIn_of _ (by decide +kernel)) ggX12_donates_X12_in
set_option maxRecDepth 20000 in
theorem ggX12_donates_X12_fails : GoodIn wsX12_donates wsX12_fails := goodIn_r _ [9, 10, 15, 16, 17, 18, 19, 20, 21, 22, 23, 24, 25, 26, 27, 28, 29, 30] (by decide +kernel) (by decide +kernel)
set_option maxRecDepth 20000 in
theorem gX12_donates_X12_fails : GoodIn wsX12_donates (wsV RX12 53 RX12 yX12_fails wsX12_fails) := goodIn_app (goodIn_of _ (by decide +kernel)) ggX12_donates_X12_fails
set_option maxRecDepth 20000 in
theorem ggX12_donates_X12_done : GoodIn wsX12_donates wsX12_done := goodIn_r _ [14, 10, 15, 16, 17, 18, 19, 20, 21, 22, 23, 24, 25, 26, 27, 28, 29, 30] (by decide +kernel) (by decide +kernel)
set_option maxRecDepth 20000 in
theorem gX12_donates_X12_done : GoodIn wsX12_donates (wsV RX12 57 RX12 yX12_done wsX12_done) := goodIn_app (goodIn_of _ (by decide +kernel)) ggX12_donates_X12_done
theorem dX12_donates_0 : decode cX12_donates 0 = .ok (.iload_n 1, 1) := by decide +kernel
theorem dX12_donates_1 : decode cX12_donates 1 = .ok (.iconst 1, 1) := by decide +kernel
theorem dX12_donates_2 : decode cX12_donates 2 = .ok (.bipush 50, 2) := by decide +kernel
theorem dX12_donates_4 : decode cX12_donates 4 = .ok (.invokestatic 49, 3) := by decide +kernel
theorem dX12_donates_7 : decode cX12_donates 7 = .ok (.ifCond .ne 9, 3) := by decide +kernel
theorem dX12_donates_10 : decode cX12_donates 10 = .ok (.aload_n 0, 1) := by decide +kernel
theorem dX12_donates_11 : decode cX12_donates 11 = .ok (.iconst 1, 1) := by decide +kernel
theorem dX12_donates_12 : decode cX12_donates 12 = .ok (.invokevirtual 53, 3) := by decide +kernel
theorem dX12_donates_15 : decode cX12_donates 15 = .ok (.ireturn, 1) := by decide +kernel
theorem dX12_donates_16 : decode cX12_donates 16 = .ok (.aload_n 0, 1) := by decide +kernel
theorem dX12_donates_17 : decode cX12_donates 17 = .ok (.getfield 7, 3) := by decide +kernel
theorem dX12_donates_20 : decode cX12_donates 20 = .ok (.iconst 4, 1) := by decide +kernel
theorem dX12_donates_21 : decode cX12_donates 21 = .ok (.iaload, 1) := by decide +kernel
theorem dX12_donates_22 : decode cX12_donates 22 = .ok (.iload_n 1, 1) := by decide +kernel
theorem dX12_donates_23 : decode cX12_donates 23 = .ok (.iadd, 1) := by decide +kernel
theorem dX12_donates_24 : decode cX12_donates 24 = .ok (.bipush 99, 2) := by decide +kernel
theorem dX12_donates_26 : decode cX12_donates 26 = .ok (.if_icmp .le 9, 3) := by decide +kernel
theorem dX12_donates_29 : decode cX12_donates 29 = .ok (.aload_n 0, 1) := by decide +kernel
theorem dX12_donates_30 : decode cX12_donates 30 = .ok (.iconst 2, 1) := by decide +kernel
theorem dX12_donates_31 : decode cX12_donates 31 = .ok (.invokevirtual 53, 3) := by decide +kernel
theorem dX12_donates_34 : decode cX12_donates 34 = .ok (.ireturn, 1) := by decide +kernel
theorem dX12_donates_35 : decode cX12_donates 35 = .ok (.aload_n 0, 1) := by decide +kernel
theorem dX12_donates_36 : decode cX12_donates 36 = .ok (.getfield 7, 3) := by decide +kernel
theorem dX12_donates_39 : decode cX12_donates 39 = .ok (.iconst 4, 1) := by decide +kernel
theorem dX12_donates_40 : decode cX12_donates 40 = .ok (.dup2, 1) := by decide +kernel
theorem dX12_donates_41 : decode cX12_donates 41 = .ok (.iaload, 1) := by decide +kernel
theorem dX12_donates_42 : decode cX12_donates 42 = .ok (.iload_n 1, 1) := by decide +kernel
theorem dX12_donates_43 : decode cX12_donates 43 = .ok (.iadd, 1) := by decide +kernel
theorem dX12_donates_44 : decode cX12_donates 44 = .ok (.iastore, 1) := by decide +kernel
theorem dX12_donates_45 : decode cX12_donates 45 = .ok (.aload_n 0, 1) := by decide +kernel
theorem dX12_donates_46 : decode cX12_donates 46 = .ok (.aload_n 0, 1) := by decide +kernel
theorem dX12_donates_47 : decode cX12_donates 47 = .ok (.getfield 7, 3) := by decide +kernel
theorem dX12_donates_50 : decode cX12_donates 50 = .ok (.iconst 4, 1) := by decide +kernel
theorem dX12_donates_51 : decode cX12_donates 51 = .ok (.iaload, 1) := by decide +kernel
theorem dX12_donates_52 : decode cX12_donates 52 = .ok (.invokevirtual 57, 3) := by decide +kernel
theorem dX12_donates_55 : decode cX12_donates 55 = .ok (.ireturn, 1) := by decide +kernel
set_option maxRecDepth 20000 in
theorem ggX12_donateWicks_X12_begin : GoodIn wsX12_donateWicks wsX12_begin := goodIn_ca (goodIn_r _ [5, 6, 7, 8, 9, 4, 10, 33, 34, 35, 36, 37, 38, 39, 40, 41, 42, 43, 44, 45, 46, 47, 48] (by decide +kernel) (by decide +kernel)) (goodIn_sub (fun _ h => List.mem_cons_of_mem _ (List.mem_append_right _ h)) (by decide +kernel))
set_option maxRecDepth 20000 in
theorem gX12_donateWicks_X12_begin : GoodIn wsX12_donateWicks (wsV RX12 60 RX12 yX12_begin wsX12_begin) := goodIn_app (goodIn_of _ (by decide +kernel)) ggX12_donateWicks_X12_begin
set_option maxRecDepth 20000 in
theorem ggX12_donateWicks_X12_donates : GoodIn wsX12_donateWicks wsX12_donates := goodIn_ca (goodIn_r _ [14, 6, 15, 16, 4, 17, 18, 19, 20, 21, 22, 23, 24, 25, 26, 33, 34, 35, 36, 37, 38, 39, 40, 41, 42, 43, 44, 45, 46, 47, 48] (by decide +kernel) (by decide +kernel)) (goodIn_sub (fun _ h => List.mem_cons_of_mem _ (List.mem_append_right _ h)) (by decide +kernel))
set_option maxRecDepth 20000 in
theorem gX12_donateWicks_X12_donates : GoodIn wsX12_donateWicks (wsV RX12 113 RX12 yX12_donates wsX12_donates) := goodIn_app (goodIn_of _ (by decide +kernel)) ggX12_donateWicks_X12_donates
set_option maxRecDepth 20000 in
theorem ggX12_donateWicks_X12_kept : GoodIn wsX12_donateWicks wsX12_kept := goodIn_ca (goodIn_r _ [30, 22, 7, 6, 31, 32, 8, 9, 4, 10, 33, 34, 35, 36, 37, 38, 39, 40, 41, 42, 43, 44, 45, 46, 47, 48] (by decide +kernel) (by decide +kernel)) (goodIn_sub (fun _ h => List.mem_cons_of_mem _ (List.mem_append_right _ h)) (by decide +kernel))
set_option maxRecDepth 20000 in
theorem gX12_donateWicks_X12_kept : GoodIn wsX12_donateWicks (wsV RX12 67 RX12 yX12_kept wsX12_kept) := goodIn_app (goodIn_of _ (by decide +kernel)) ggX12_donateWicks_X12_kept
theorem dX12_donateWicks_0 : decode cX12_donateWicks 0 = .ok (.aload_n 0, 1) := by decide +kernel
theorem dX12_donateWicks_1 : decode cX12_donateWicks 1 = .ok (.invokevirtual 60, 3) := by decide +kernel
theorem dX12_donateWicks_4 : decode cX12_donateWicks 4 = .ok (.aload_n 0, 1) := by decide +kernel
theorem dX12_donateWicks_5 : decode cX12_donateWicks 5 = .ok (.aload_n 0, 1) := by decide +kernel
theorem dX12_donateWicks_6 : decode cX12_donateWicks 6 = .ok (.iload_n 1, 1) := by decide +kernel
theorem dX12_donateWicks_7 : decode cX12_donateWicks 7 = .ok (.invokevirtual 113, 3) := by decide +kernel
theorem dX12_donateWicks_10 : decode cX12_donateWicks 10 = .ok (.invokevirtual 67, 3) := by decide +kernel
theorem dX12_donateWicks_13 : decode cX12_donateWicks 13 = .ok (.ireturn, 1) := by decide +kernel
set_option maxRecDepth 20000 in
theorem ggX12_movesWick_X12_isLamp : GoodIn wsX12_movesWick wsX12_isLamp := goodIn_ca (goodIn_r _ [6, 1, 7, 8, 5, 9, 19, 20, 21, 22, 23, 24, 25, 26, 27, 28, 29, 30, 31, 32, 33, 34] (by decide +kernel) (by decide +kernel)) (goodIn_sub (fun _ h => List.mem_cons_of_mem _ (List.mem_append_right _ h)) (by decide +kernel))
set_option maxRecDepth 20000 in
theorem gX12_movesWick_X12_isLamp : GoodIn wsX12_movesWick (wsV RX12 70 RX12 yX12_isLamp wsX12_isLamp) := goodIn_app (goodIn_of _ (by decide +kernel)) ggX12_movesWick_X12_isLamp
set_option maxRecDepth 20000 in
theorem ggX12_movesWick_X12_fails : GoodIn wsX12_movesWick wsX12_fails := goodIn_r _ [13, 14, 19, 20, 21, 22, 23, 24, 25, 26, 27, 28, 29, 30, 31, 32, 33, 34] (by decide +kernel) (by decide +kernel)
set_option maxRecDepth 20000 in
theorem gX12_movesWick_X12_fails : GoodIn wsX12_movesWick (wsV RX12 53 RX12 yX12_fails wsX12_fails) := goodIn_app (goodIn_of _ (by decide +kernel)) ggX12_movesWick_X12_fails
set_option maxRecDepth 20000 in
theorem ggX12_movesWick_X12_in : GoodIn wsX12_movesWick wsX12_in := goodIn_r _ [9] (by decide +kernel) (by decide +kernel)
set_option maxRecDepth 20000 in
theorem gX12_movesWick_X12_in : GoodIn wsX12_movesWick (va_wsS RX12 49 yX12_in wsX12_in) := goodIn_app (goodIn_of _ (by decide +kernel)) ggX12_movesWick_X12_in
set_option maxRecDepth 20000 in
theorem ggX12_movesWick_X12_done : GoodIn wsX12_movesWick wsX12_done := goodIn_r _ [18, 14, 19, 20, 21, 22, 23, 24, 25, 26, 27, 28, 29, 30, 31, 32, 33, 34] (by decide +kernel) (by decide +kernel)
set_option maxRecDepth 20000 in
theorem gX12_movesWick_X12_done : GoodIn wsX12_movesWick (wsV RX12 57 RX12 yX12_done wsX12_done) := goodIn_app (goodIn_of _ (by decide +kernel)) ggX12_movesWick_X12_done
theorem dX12_movesWick_0 : decode cX12_movesWick 0 = .ok (.aload_n 0, 1) := by decide +kernel
theorem dX12_movesWick_1 : decode cX12_movesWick 1 = .ok (.iload_n 1, 1) := by decide +kernel
theorem dX12_movesWick_2 : decode cX12_movesWick 2 = .ok (.invokevirtual 70, 3) := by decide +kernel
theorem dX12_movesWick_5 : decode cX12_movesWick 5 = .ok (.ifCond .ne 9, 3) := by decide +kernel
theorem dX12_movesWick_8 : decode cX12_movesWick 8 = .ok (.aload_n 0, 1) := by decide +kernel
theorem dX12_movesWick_9 : decode cX12_movesWick 9 = .ok (.iconst 1, 1) := by decide +kernel
theorem dX12_movesWick_10 : decode cX12_movesWick 10 = .ok (.invokevirtual 53, 3) := by decide +kernel
theorem dX12_movesWick_13 : decode cX12_movesWick 13 = .ok (.ireturn, 1) := by decide +kernel
theorem dX12_movesWick_14 : decode cX12_movesWick 14 = .ok (.iload_n 2, 1) := by decide +kernel
theorem dX12_movesWick_15 : decode cX12_movesWick 15 = .ok (.iconst 1, 1) := by decide +kernel
theorem dX12_movesWick_16 : decode cX12_movesWick 16 = .ok (.bipush 9, 2) := by decide +kernel
theorem dX12_movesWick_18 : decode cX12_movesWick 18 = .ok (.invokestatic 49, 3) := by decide +kernel
theorem dX12_movesWick_21 : decode cX12_movesWick 21 = .ok (.ifCond .ne 9, 3) := by decide +kernel
theorem dX12_movesWick_24 : decode cX12_movesWick 24 = .ok (.aload_n 0, 1) := by decide +kernel
theorem dX12_movesWick_25 : decode cX12_movesWick 25 = .ok (.iconst 2, 1) := by decide +kernel
theorem dX12_movesWick_26 : decode cX12_movesWick 26 = .ok (.invokevirtual 53, 3) := by decide +kernel
theorem dX12_movesWick_29 : decode cX12_movesWick 29 = .ok (.ireturn, 1) := by decide +kernel
theorem dX12_movesWick_30 : decode cX12_movesWick 30 = .ok (.aload_n 0, 1) := by decide +kernel
theorem dX12_movesWick_31 : decode cX12_movesWick 31 = .ok (.getfield 7, 3) := by decide +kernel
theorem dX12_movesWick_34 : decode cX12_movesWick 34 = .ok (.bipush 46, 2) := by decide +kernel
theorem dX12_movesWick_36 : decode cX12_movesWick 36 = .ok (.iload_n 1, 1) := by decide +kernel
theorem dX12_movesWick_37 : decode cX12_movesWick 37 = .ok (.iadd, 1) := by decide +kernel
theorem dX12_movesWick_38 : decode cX12_movesWick 38 = .ok (.iaload, 1) := by decide +kernel
theorem dX12_movesWick_39 : decode cX12_movesWick 39 = .ok (.iload_n 3, 1) := by decide +kernel
theorem dX12_movesWick_40 : decode cX12_movesWick 40 = .ok (.iload_n 2, 1) := by decide +kernel
theorem dX12_movesWick_41 : decode cX12_movesWick 41 = .ok (.imul, 1) := by decide +kernel
theorem dX12_movesWick_42 : decode cX12_movesWick 42 = .ok (.iadd, 1) := by decide +kernel
theorem dX12_movesWick_43 : decode cX12_movesWick 43 = .ok (.istore 4, 2) := by decide +kernel
theorem dX12_movesWick_45 : decode cX12_movesWick 45 = .ok (.aload_n 0, 1) := by decide +kernel
theorem dX12_movesWick_46 : decode cX12_movesWick 46 = .ok (.getfield 7, 3) := by decide +kernel
theorem dX12_movesWick_49 : decode cX12_movesWick 49 = .ok (.iconst 4, 1) := by decide +kernel
theorem dX12_movesWick_50 : decode cX12_movesWick 50 = .ok (.iaload, 1) := by decide +kernel
theorem dX12_movesWick_51 : decode cX12_movesWick 51 = .ok (.iload_n 3, 1) := by decide +kernel
theorem dX12_movesWick_52 : decode cX12_movesWick 52 = .ok (.iload_n 2, 1) := by decide +kernel
theorem dX12_movesWick_53 : decode cX12_movesWick 53 = .ok (.imul, 1) := by decide +kernel
theorem dX12_movesWick_54 : decode cX12_movesWick 54 = .ok (.isub, 1) := by decide +kernel
theorem dX12_movesWick_55 : decode cX12_movesWick 55 = .ok (.istore 5, 2) := by decide +kernel
theorem dX12_movesWick_57 : decode cX12_movesWick 57 = .ok (.iload 4, 2) := by decide +kernel
theorem dX12_movesWick_59 : decode cX12_movesWick 59 = .ok (.iconst 0, 1) := by decide +kernel
theorem dX12_movesWick_60 : decode cX12_movesWick 60 = .ok (.bipush 9, 2) := by decide +kernel
theorem dX12_movesWick_62 : decode cX12_movesWick 62 = .ok (.invokestatic 49, 3) := by decide +kernel
theorem dX12_movesWick_65 : decode cX12_movesWick 65 = .ok (.ifCond .eq 14, 3) := by decide +kernel
theorem dX12_movesWick_68 : decode cX12_movesWick 68 = .ok (.iload 5, 2) := by decide +kernel
theorem dX12_movesWick_70 : decode cX12_movesWick 70 = .ok (.iconst 0, 1) := by decide +kernel
theorem dX12_movesWick_71 : decode cX12_movesWick 71 = .ok (.bipush 99, 2) := by decide +kernel
theorem dX12_movesWick_73 : decode cX12_movesWick 73 = .ok (.invokestatic 49, 3) := by decide +kernel
theorem dX12_movesWick_76 : decode cX12_movesWick 76 = .ok (.ifCond .ne 9, 3) := by decide +kernel
theorem dX12_movesWick_79 : decode cX12_movesWick 79 = .ok (.aload_n 0, 1) := by decide +kernel
theorem dX12_movesWick_80 : decode cX12_movesWick 80 = .ok (.iconst 3, 1) := by decide +kernel
theorem dX12_movesWick_81 : decode cX12_movesWick 81 = .ok (.invokevirtual 53, 3) := by decide +kernel
theorem dX12_movesWick_84 : decode cX12_movesWick 84 = .ok (.ireturn, 1) := by decide +kernel
theorem dX12_movesWick_85 : decode cX12_movesWick 85 = .ok (.aload_n 0, 1) := by decide +kernel
theorem dX12_movesWick_86 : decode cX12_movesWick 86 = .ok (.getfield 7, 3) := by decide +kernel
theorem dX12_movesWick_89 : decode cX12_movesWick 89 = .ok (.bipush 46, 2) := by decide +kernel
theorem dX12_movesWick_91 : decode cX12_movesWick 91 = .ok (.iload_n 1, 1) := by decide +kernel
theorem dX12_movesWick_92 : decode cX12_movesWick 92 = .ok (.iadd, 1) := by decide +kernel
theorem dX12_movesWick_93 : decode cX12_movesWick 93 = .ok (.iload 4, 2) := by decide +kernel
theorem dX12_movesWick_95 : decode cX12_movesWick 95 = .ok (.iastore, 1) := by decide +kernel
theorem dX12_movesWick_96 : decode cX12_movesWick 96 = .ok (.aload_n 0, 1) := by decide +kernel
theorem dX12_movesWick_97 : decode cX12_movesWick 97 = .ok (.getfield 7, 3) := by decide +kernel
theorem dX12_movesWick_100 : decode cX12_movesWick 100 = .ok (.iconst 4, 1) := by decide +kernel
theorem dX12_movesWick_101 : decode cX12_movesWick 101 = .ok (.iload 5, 2) := by decide +kernel
theorem dX12_movesWick_103 : decode cX12_movesWick 103 = .ok (.iastore, 1) := by decide +kernel
theorem dX12_movesWick_104 : decode cX12_movesWick 104 = .ok (.aload_n 0, 1) := by decide +kernel
theorem dX12_movesWick_105 : decode cX12_movesWick 105 = .ok (.iload 4, 2) := by decide +kernel
theorem dX12_movesWick_107 : decode cX12_movesWick 107 = .ok (.invokevirtual 57, 3) := by decide +kernel
theorem dX12_movesWick_110 : decode cX12_movesWick 110 = .ok (.ireturn, 1) := by decide +kernel
set_option maxRecDepth 20000 in
theorem ggX12_giveWick_X12_begin : GoodIn wsX12_giveWick wsX12_begin := goodIn_ca (goodIn_r _ [5, 6, 7, 8, 9, 4, 10, 37, 38, 39, 40, 41, 42, 43, 44, 45, 46, 47, 48, 49, 50, 51, 52] (by decide +kernel) (by decide +kernel)) (goodIn_sub (fun _ h => List.mem_cons_of_mem _ (List.mem_append_right _ h)) (by decide +kernel))
set_option maxRecDepth 20000 in
theorem gX12_giveWick_X12_begin : GoodIn wsX12_giveWick (wsV RX12 60 RX12 yX12_begin wsX12_begin) := goodIn_app (goodIn_of _ (by decide +kernel)) ggX12_giveWick_X12_begin
set_option maxRecDepth 20000 in
theorem ggX12_giveWick_X12_movesWick : GoodIn wsX12_giveWick wsX12_movesWick := goodIn_ca (goodIn_r _ [14, 6, 15, 16, 17, 4, 18, 19, 20, 21, 22, 23, 24, 25, 26, 27, 28, 29, 30, 37, 38, 39, 40, 41, 42, 43, 44, 45, 46, 47, 48, 49, 50, 51, 52] (by decide +kernel) (by decide +kernel)) (goodIn_sub (fun _ h => List.mem_cons_of_mem _ (List.mem_append_right _ h)) (by decide +kernel))
set_option maxRecDepth 20000 in
theorem gX12_giveWick_X12_movesWick : GoodIn wsX12_giveWick (wsV RX12 116 RX12 yX12_movesWick wsX12_movesWick) := goodIn_app (goodIn_of _ (by decide +kernel)) ggX12_giveWick_X12_movesWick
set_option maxRecDepth 20000 in
theorem ggX12_giveWick_X12_kept : GoodIn wsX12_giveWick wsX12_kept := goodIn_ca (goodIn_r _ [34, 26, 7, 6, 35, 36, 8, 9, 4, 10, 37, 38, 39, 40, 41, 42, 43, 44, 45, 46, 47, 48, 49, 50, 51, 52] (by decide +kernel) (by decide +kernel)) (goodIn_sub (fun _ h => List.mem_cons_of_mem _ (List.mem_append_right _ h)) (by decide +kernel))
set_option maxRecDepth 20000 in
theorem gX12_giveWick_X12_kept : GoodIn wsX12_giveWick (wsV RX12 67 RX12 yX12_kept wsX12_kept) := goodIn_app (goodIn_of _ (by decide +kernel)) ggX12_giveWick_X12_kept
theorem dX12_giveWick_0 : decode cX12_giveWick 0 = .ok (.aload_n 0, 1) := by decide +kernel
theorem dX12_giveWick_1 : decode cX12_giveWick 1 = .ok (.invokevirtual 60, 3) := by decide +kernel
theorem dX12_giveWick_4 : decode cX12_giveWick 4 = .ok (.aload_n 0, 1) := by decide +kernel
theorem dX12_giveWick_5 : decode cX12_giveWick 5 = .ok (.aload_n 0, 1) := by decide +kernel
theorem dX12_giveWick_6 : decode cX12_giveWick 6 = .ok (.iload_n 1, 1) := by decide +kernel
theorem dX12_giveWick_7 : decode cX12_giveWick 7 = .ok (.iload_n 2, 1) := by decide +kernel
theorem dX12_giveWick_8 : decode cX12_giveWick 8 = .ok (.iconst 1, 1) := by decide +kernel
theorem dX12_giveWick_9 : decode cX12_giveWick 9 = .ok (.invokevirtual 116, 3) := by decide +kernel
theorem dX12_giveWick_12 : decode cX12_giveWick 12 = .ok (.invokevirtual 67, 3) := by decide +kernel
theorem dX12_giveWick_15 : decode cX12_giveWick 15 = .ok (.ireturn, 1) := by decide +kernel
set_option maxRecDepth 20000 in
theorem ggX12_returnWick_X12_begin : GoodIn wsX12_returnWick wsX12_begin := goodIn_ca (goodIn_r _ [5, 6, 7, 8, 9, 4, 10, 37, 38, 39, 40, 41, 42, 43, 44, 45, 46, 47, 48, 49, 50, 51, 52] (by decide +kernel) (by decide +kernel)) (goodIn_sub (fun _ h => List.mem_cons_of_mem _ (List.mem_append_right _ h)) (by decide +kernel))
set_option maxRecDepth 20000 in
theorem gX12_returnWick_X12_begin : GoodIn wsX12_returnWick (wsV RX12 60 RX12 yX12_begin wsX12_begin) := goodIn_app (goodIn_of _ (by decide +kernel)) ggX12_returnWick_X12_begin
set_option maxRecDepth 20000 in
theorem ggX12_returnWick_X12_movesWick : GoodIn wsX12_returnWick wsX12_movesWick := goodIn_ca (goodIn_r _ [14, 6, 15, 16, 17, 4, 18, 19, 20, 21, 22, 23, 24, 25, 26, 27, 28, 29, 30, 37, 38, 39, 40, 41, 42, 43, 44, 45, 46, 47, 48, 49, 50, 51, 52] (by decide +kernel) (by decide +kernel)) (goodIn_sub (fun _ h => List.mem_cons_of_mem _ (List.mem_append_right _ h)) (by decide +kernel))
set_option maxRecDepth 20000 in
theorem gX12_returnWick_X12_movesWick : GoodIn wsX12_returnWick (wsV RX12 116 RX12 yX12_movesWick wsX12_movesWick) := goodIn_app (goodIn_of _ (by decide +kernel)) ggX12_returnWick_X12_movesWick
set_option maxRecDepth 20000 in
theorem ggX12_returnWick_X12_kept : GoodIn wsX12_returnWick wsX12_kept := goodIn_ca (goodIn_r _ [34, 26, 7, 6, 35, 36, 8, 9, 4, 10, 37, 38, 39, 40, 41, 42, 43, 44, 45, 46, 47, 48, 49, 50, 51, 52] (by decide +kernel) (by decide +kernel)) (goodIn_sub (fun _ h => List.mem_cons_of_mem _ (List.mem_append_right _ h)) (by decide +kernel))
set_option maxRecDepth 20000 in
theorem gX12_returnWick_X12_kept : GoodIn wsX12_returnWick (wsV RX12 67 RX12 yX12_kept wsX12_kept) := goodIn_app (goodIn_of _ (by decide +kernel)) ggX12_returnWick_X12_kept
theorem dX12_returnWick_0 : decode cX12_returnWick 0 = .ok (.aload_n 0, 1) := by decide +kernel
theorem dX12_returnWick_1 : decode cX12_returnWick 1 = .ok (.invokevirtual 60, 3) := by decide +kernel
theorem dX12_returnWick_4 : decode cX12_returnWick 4 = .ok (.aload_n 0, 1) := by decide +kernel
theorem dX12_returnWick_5 : decode cX12_returnWick 5 = .ok (.aload_n 0, 1) := by decide +kernel
theorem dX12_returnWick_6 : decode cX12_returnWick 6 = .ok (.iload_n 1, 1) := by decide +kernel
theorem dX12_returnWick_7 : decode cX12_returnWick 7 = .ok (.iload_n 2, 1) := by decide +kernel
theorem dX12_returnWick_8 : decode cX12_returnWick 8 = .ok (.iconst (-1), 1) := by decide +kernel
theorem dX12_returnWick_9 : decode cX12_returnWick 9 = .ok (.invokevirtual 116, 3) := by decide +kernel
theorem dX12_returnWick_12 : decode cX12_returnWick 12 = .ok (.invokevirtual 67, 3) := by decide +kernel
theorem dX12_returnWick_15 : decode cX12_returnWick 15 = .ok (.ireturn, 1) := by decide +kernel
set_option maxRecDepth 20000 in
theorem ggX12_pays_X12_fails : GoodIn wsX12_pays wsX12_fails := goodIn_r _ [6, 7, 28, 29, 30, 31, 32, 33, 34, 35, 36, 37, 38, 39, 40, 41, 42, 43] (by decide +kernel) (by decide +kernel)
set_option maxRecDepth 20000 in
theorem gX12_pays_X12_fails : GoodIn wsX12_pays (wsV RX12 53 RX12 yX12_fails wsX12_fails) := goodIn_app (goodIn_of _ (by decide +kernel)) ggX12_pays_X12_fails
set_option maxRecDepth 20000 in
theorem ggX12_pays_X12_portion : GoodIn wsX12_pays wsX12_portion := goodIn_ca (goodIn_ca (goodIn_r _ [11, 1, 12, 13, 14, 5, 15, 16, 17, 18, 19, 20, 21, 22, 23, 28, 29, 30, 31, 32, 33, 34, 35, 36, 37, 38, 39, 40, 41, 42, 43] (by decide +kernel) (by decide +kernel)) (goodIn_sub (fun _ h => List.mem_cons_of_mem _ (List.mem_append_left _ (List.mem_append_right _ h))) (by decide +kernel))) (goodIn_sub (fun _ h => List.mem_cons_of_mem _ (List.mem_append_right _ h)) (by decide +kernel))
set_option maxRecDepth 20000 in
theorem gX12_pays_X12_portion : GoodIn wsX12_pays (wsV RX12 101 RX12 yX12_portion wsX12_portion) := goodIn_app (goodIn_of _ (by decide +kernel)) ggX12_pays_X12_portion
set_option maxRecDepth 20000 in
theorem ggX12_pays_X12_done : GoodIn wsX12_pays wsX12_done := goodIn_r _ [27, 7, 28, 29, 30, 31, 32, 33, 34, 35, 36, 37, 38, 39, 40, 41, 42, 43] (by decide +kernel) (by decide +kernel)
set_option maxRecDepth 20000 in
theorem gX12_pays_X12_done : GoodIn wsX12_pays (wsV RX12 57 RX12 yX12_done wsX12_done) := goodIn_app (goodIn_of _ (by decide +kernel)) ggX12_pays_X12_done
theorem dX12_pays_0 : decode cX12_pays 0 = .ok (.aload_n 0, 1) := by decide +kernel
theorem dX12_pays_1 : decode cX12_pays 1 = .ok (.getfield 7, 3) := by decide +kernel
theorem dX12_pays_4 : decode cX12_pays 4 = .ok (.iconst 5, 1) := by decide +kernel
theorem dX12_pays_5 : decode cX12_pays 5 = .ok (.iaload, 1) := by decide +kernel
theorem dX12_pays_6 : decode cX12_pays 6 = .ok (.istore_n 1, 1) := by decide +kernel
theorem dX12_pays_7 : decode cX12_pays 7 = .ok (.aload_n 0, 1) := by decide +kernel
theorem dX12_pays_8 : decode cX12_pays 8 = .ok (.getfield 7, 3) := by decide +kernel
theorem dX12_pays_11 : decode cX12_pays 11 = .ok (.iconst 0, 1) := by decide +kernel
theorem dX12_pays_12 : decode cX12_pays 12 = .ok (.iaload, 1) := by decide +kernel
theorem dX12_pays_13 : decode cX12_pays 13 = .ok (.ifCond .eq 7, 3) := by decide +kernel
theorem dX12_pays_16 : decode cX12_pays 16 = .ok (.iload_n 1, 1) := by decide +kernel
theorem dX12_pays_17 : decode cX12_pays 17 = .ok (.ifCond .ne 9, 3) := by decide +kernel
theorem dX12_pays_20 : decode cX12_pays 20 = .ok (.aload_n 0, 1) := by decide +kernel
theorem dX12_pays_21 : decode cX12_pays 21 = .ok (.iconst 1, 1) := by decide +kernel
theorem dX12_pays_22 : decode cX12_pays 22 = .ok (.invokevirtual 53, 3) := by decide +kernel
theorem dX12_pays_25 : decode cX12_pays 25 = .ok (.ireturn, 1) := by decide +kernel
theorem dX12_pays_26 : decode cX12_pays 26 = .ok (.iconst 0, 1) := by decide +kernel
theorem dX12_pays_27 : decode cX12_pays 27 = .ok (.istore_n 2, 1) := by decide +kernel
theorem dX12_pays_28 : decode cX12_pays 28 = .ok (.iload_n 2, 1) := by decide +kernel
theorem dX12_pays_29 : decode cX12_pays 29 = .ok (.aload_n 0, 1) := by decide +kernel
theorem dX12_pays_30 : decode cX12_pays 30 = .ok (.getfield 7, 3) := by decide +kernel
theorem dX12_pays_33 : decode cX12_pays 33 = .ok (.iconst 0, 1) := by decide +kernel
theorem dX12_pays_34 : decode cX12_pays 34 = .ok (.iaload, 1) := by decide +kernel
theorem dX12_pays_35 : decode cX12_pays 35 = .ok (.if_icmp .ge 27, 3) := by decide +kernel
theorem dX12_pays_38 : decode cX12_pays 38 = .ok (.aload_n 0, 1) := by decide +kernel
theorem dX12_pays_39 : decode cX12_pays 39 = .ok (.getfield 7, 3) := by decide +kernel
theorem dX12_pays_42 : decode cX12_pays 42 = .ok (.bipush 54, 2) := by decide +kernel
theorem dX12_pays_44 : decode cX12_pays 44 = .ok (.iload_n 2, 1) := by decide +kernel
theorem dX12_pays_45 : decode cX12_pays 45 = .ok (.iadd, 1) := by decide +kernel
theorem dX12_pays_46 : decode cX12_pays 46 = .ok (.dup2, 1) := by decide +kernel
theorem dX12_pays_47 : decode cX12_pays 47 = .ok (.iaload, 1) := by decide +kernel
theorem dX12_pays_48 : decode cX12_pays 48 = .ok (.aload_n 0, 1) := by decide +kernel
theorem dX12_pays_49 : decode cX12_pays 49 = .ok (.iload_n 2, 1) := by decide +kernel
theorem dX12_pays_50 : decode cX12_pays 50 = .ok (.iload_n 1, 1) := by decide +kernel
theorem dX12_pays_51 : decode cX12_pays 51 = .ok (.invokevirtual 101, 3) := by decide +kernel
theorem dX12_pays_54 : decode cX12_pays 54 = .ok (.iadd, 1) := by decide +kernel
theorem dX12_pays_55 : decode cX12_pays 55 = .ok (.iastore, 1) := by decide +kernel
theorem dX12_pays_56 : decode cX12_pays 56 = .ok (.iinc 2 1, 3) := by decide +kernel
theorem dX12_pays_59 : decode cX12_pays 59 = .ok (.goto (-31), 3) := by decide +kernel
theorem dX12_pays_62 : decode cX12_pays 62 = .ok (.aload_n 0, 1) := by decide +kernel
theorem dX12_pays_63 : decode cX12_pays 63 = .ok (.getfield 7, 3) := by decide +kernel
theorem dX12_pays_66 : decode cX12_pays 66 = .ok (.iconst 5, 1) := by decide +kernel
theorem dX12_pays_67 : decode cX12_pays 67 = .ok (.iconst 0, 1) := by decide +kernel
theorem dX12_pays_68 : decode cX12_pays 68 = .ok (.iastore, 1) := by decide +kernel
theorem dX12_pays_69 : decode cX12_pays 69 = .ok (.aload_n 0, 1) := by decide +kernel
theorem dX12_pays_70 : decode cX12_pays 70 = .ok (.iload_n 1, 1) := by decide +kernel
theorem dX12_pays_71 : decode cX12_pays 71 = .ok (.invokevirtual 57, 3) := by decide +kernel
theorem dX12_pays_74 : decode cX12_pays 74 = .ok (.ireturn, 1) := by decide +kernel
set_option maxRecDepth 20000 in
theorem ggX12_payDividend_X12_begin : GoodIn wsX12_payDividend wsX12_begin := goodIn_ca (goodIn_r _ [5, 6, 7, 8, 9, 4, 10, 46, 47, 48, 49, 50, 51, 52, 53, 54, 55, 56, 57, 58, 59, 60, 61] (by decide +kernel) (by decide +kernel)) (goodIn_sub (fun _ h => List.mem_cons_of_mem _ (List.mem_append_left _ (List.mem_append_right _ h))) (by decide +kernel))
set_option maxRecDepth 20000 in
theorem gX12_payDividend_X12_begin : GoodIn wsX12_payDividend (wsV RX12 60 RX12 yX12_begin wsX12_begin) := goodIn_app (goodIn_of _ (by decide +kernel)) ggX12_payDividend_X12_begin
set_option maxRecDepth 20000 in
theorem ggX12_payDividend_X12_pays : GoodIn wsX12_payDividend wsX12_pays := goodIn_ca (goodIn_ca (goodIn_r _ [14, 6, 15, 16, 17, 4, 18, 19, 20, 21, 22, 23, 24, 25, 26, 27, 28, 29, 30, 31, 32, 33, 34, 35, 36, 37, 38, 39, 46, 47, 48, 49, 50, 51, 52, 53, 54, 55, 56, 57, 58, 59, 60, 61] (by decide +kernel) (by decide +kernel)) (goodIn_sub (fun _ h => List.mem_cons_of_mem _ (List.mem_append_left _ (List.mem_append_right _ h))) (by decide +kernel))) (goodIn_sub (fun _ h => List.mem_cons_of_mem _ (List.mem_append_right _ h)) (by decide +kernel))
set_option maxRecDepth 20000 in
theorem gX12_payDividend_X12_pays : GoodIn wsX12_payDividend (wsV RX12 120 RX12 yX12_pays wsX12_pays) := goodIn_app (goodIn_of _ (by decide +kernel)) ggX12_payDividend_X12_pays
set_option maxRecDepth 20000 in
theorem ggX12_payDividend_X12_kept : GoodIn wsX12_payDividend wsX12_kept := goodIn_ca (goodIn_r _ [43, 19, 7, 6, 44, 45, 8, 9, 4, 10, 46, 47, 48, 49, 50, 51, 52, 53, 54, 55, 56, 57, 58, 59, 60, 61] (by decide +kernel) (by decide +kernel)) (goodIn_sub (fun _ h => List.mem_cons_of_mem _ (List.mem_append_left _ (List.mem_append_right _ h))) (by decide +kernel))
set_option maxRecDepth 20000 in
theorem gX12_payDividend_X12_kept : GoodIn wsX12_payDividend (wsV RX12 67 RX12 yX12_kept wsX12_kept) := goodIn_app (goodIn_of _ (by decide +kernel)) ggX12_payDividend_X12_kept
theorem dX12_payDividend_0 : decode cX12_payDividend 0 = .ok (.aload_n 0, 1) := by decide +kernel
theorem dX12_payDividend_1 : decode cX12_payDividend 1 = .ok (.invokevirtual 60, 3) := by decide +kernel
theorem dX12_payDividend_4 : decode cX12_payDividend 4 = .ok (.aload_n 0, 1) := by decide +kernel
theorem dX12_payDividend_5 : decode cX12_payDividend 5 = .ok (.aload_n 0, 1) := by decide +kernel
theorem dX12_payDividend_6 : decode cX12_payDividend 6 = .ok (.invokevirtual 120, 3) := by decide +kernel
theorem dX12_payDividend_9 : decode cX12_payDividend 9 = .ok (.invokevirtual 67, 3) := by decide +kernel
theorem dX12_payDividend_12 : decode cX12_payDividend 12 = .ok (.ireturn, 1) := by decide +kernel
set_option maxRecDepth 20000 in
theorem ggX12_reserve_X12_done : GoodIn wsX12_reserve wsX12_done := goodIn_r _ [6, 7, 8, 9, 10, 11, 12, 13, 14, 15, 16, 17, 18, 19, 20, 21, 22, 23] (by decide +kernel) (by decide +kernel)
set_option maxRecDepth 20000 in
theorem gX12_reserve_X12_done : GoodIn wsX12_reserve (wsV RX12 57 RX12 yX12_done wsX12_done) := goodIn_app (goodIn_of _ (by decide +kernel)) ggX12_reserve_X12_done
theorem dX12_reserve_0 : decode cX12_reserve 0 = .ok (.aload_n 0, 1) := by decide +kernel
theorem dX12_reserve_1 : decode cX12_reserve 1 = .ok (.aload_n 0, 1) := by decide +kernel
theorem dX12_reserve_2 : decode cX12_reserve 2 = .ok (.getfield 7, 3) := by decide +kernel
theorem dX12_reserve_5 : decode cX12_reserve 5 = .ok (.iconst 3, 1) := by decide +kernel
theorem dX12_reserve_6 : decode cX12_reserve 6 = .ok (.iaload, 1) := by decide +kernel
theorem dX12_reserve_7 : decode cX12_reserve 7 = .ok (.invokevirtual 57, 3) := by decide +kernel
theorem dX12_reserve_10 : decode cX12_reserve 10 = .ok (.ireturn, 1) := by decide +kernel
set_option maxRecDepth 20000 in
theorem ggX12_pool_X12_done : GoodIn wsX12_pool wsX12_done := goodIn_r _ [6, 7, 8, 9, 10, 11, 12, 13, 14, 15, 16, 17, 18, 19, 20, 21, 22, 23] (by decide +kernel) (by decide +kernel)
set_option maxRecDepth 20000 in
theorem gX12_pool_X12_done : GoodIn wsX12_pool (wsV RX12 57 RX12 yX12_done wsX12_done) := goodIn_app (goodIn_of _ (by decide +kernel)) ggX12_pool_X12_done
theorem dX12_pool_0 : decode cX12_pool 0 = .ok (.aload_n 0, 1) := by decide +kernel
theorem dX12_pool_1 : decode cX12_pool 1 = .ok (.aload_n 0, 1) := by decide +kernel
theorem dX12_pool_2 : decode cX12_pool 2 = .ok (.getfield 7, 3) := by decide +kernel
theorem dX12_pool_5 : decode cX12_pool 5 = .ok (.iconst 4, 1) := by decide +kernel
theorem dX12_pool_6 : decode cX12_pool 6 = .ok (.iaload, 1) := by decide +kernel
theorem dX12_pool_7 : decode cX12_pool 7 = .ok (.invokevirtual 57, 3) := by decide +kernel
theorem dX12_pool_10 : decode cX12_pool 10 = .ok (.ireturn, 1) := by decide +kernel
set_option maxRecDepth 20000 in
theorem ggX12_treasury_X12_done : GoodIn wsX12_treasury wsX12_done := goodIn_r _ [6, 7, 8, 9, 10, 11, 12, 13, 14, 15, 16, 17, 18, 19, 20, 21, 22, 23] (by decide +kernel) (by decide +kernel)
set_option maxRecDepth 20000 in
theorem gX12_treasury_X12_done : GoodIn wsX12_treasury (wsV RX12 57 RX12 yX12_done wsX12_done) := goodIn_app (goodIn_of _ (by decide +kernel)) ggX12_treasury_X12_done
theorem dX12_treasury_0 : decode cX12_treasury 0 = .ok (.aload_n 0, 1) := by decide +kernel
theorem dX12_treasury_1 : decode cX12_treasury 1 = .ok (.aload_n 0, 1) := by decide +kernel
theorem dX12_treasury_2 : decode cX12_treasury 2 = .ok (.getfield 7, 3) := by decide +kernel
theorem dX12_treasury_5 : decode cX12_treasury 5 = .ok (.iconst 5, 1) := by decide +kernel
theorem dX12_treasury_6 : decode cX12_treasury 6 = .ok (.iaload, 1) := by decide +kernel
theorem dX12_treasury_7 : decode cX12_treasury 7 = .ok (.invokevirtual 57, 3) := by decide +kernel
theorem dX12_treasury_10 : decode cX12_treasury 10 = .ok (.ireturn, 1) := by decide +kernel
set_option maxRecDepth 20000 in
theorem ggX12_portionOf_X12_isLamp : GoodIn wsX12_portionOf wsX12_isLamp := goodIn_ca (goodIn_r _ [5, 6, 7, 8, 4, 9, 35, 36, 37, 38, 39, 40, 41, 42, 43, 44, 45, 46, 47, 48, 49, 50] (by decide +kernel) (by decide +kernel)) (goodIn_sub (fun _ h => List.mem_cons_of_mem _ (List.mem_append_left _ (List.mem_append_right _ h))) (by decide +kernel))
set_option maxRecDepth 20000 in
theorem gX12_portionOf_X12_isLamp : GoodIn wsX12_portionOf (wsV RX12 70 RX12 yX12_isLamp wsX12_isLamp) := goodIn_app (goodIn_of _ (by decide +kernel)) ggX12_portionOf_X12_isLamp
set_option maxRecDepth 20000 in
theorem ggX12_portionOf_X12_fails : GoodIn wsX12_portionOf wsX12_fails := goodIn_r _ [13, 14, 35, 36, 37, 38, 39, 40, 41, 42, 43, 44, 45, 46, 47, 48, 49, 50] (by decide +kernel) (by decide +kernel)
set_option maxRecDepth 20000 in
theorem gX12_portionOf_X12_fails : GoodIn wsX12_portionOf (wsV RX12 53 RX12 yX12_fails wsX12_fails) := goodIn_app (goodIn_of _ (by decide +kernel)) ggX12_portionOf_X12_fails
set_option maxRecDepth 20000 in
theorem ggX12_portionOf_X12_in : GoodIn wsX12_portionOf wsX12_in := goodIn_r _ [9] (by decide +kernel) (by decide +kernel)
set_option maxRecDepth 20000 in
theorem gX12_portionOf_X12_in : GoodIn wsX12_portionOf (va_wsS RX12 49 yX12_in wsX12_in) := goodIn_app (goodIn_of _ (by decide +kernel)) ggX12_portionOf_X12_in
set_option maxRecDepth 20000 in
theorem ggX12_portionOf_X12_portion : GoodIn wsX12_portionOf wsX12_portion := goodIn_ca (goodIn_ca (goodIn_r _ [18, 6, 19, 20, 21, 4, 22, 23, 24, 25, 26, 27, 28, 29, 30, 35, 36, 37, 38, 39, 40, 41, 42, 43, 44, 45, 46, 47, 48, 49, 50] (by decide +kernel) (by decide +kernel)) (goodIn_sub (fun _ h => List.mem_cons_of_mem _ (List.mem_append_left _ (List.mem_append_right _ h))) (by decide +kernel))) (goodIn_sub (fun _ h => List.mem_cons_of_mem _ (List.mem_append_right _ h)) (by decide +kernel))
set_option maxRecDepth 20000 in
theorem gX12_portionOf_X12_portion : GoodIn wsX12_portionOf (wsV RX12 101 RX12 yX12_portion wsX12_portion) := goodIn_app (goodIn_of _ (by decide +kernel)) ggX12_portionOf_X12_portion
set_option maxRecDepth 20000 in
theorem ggX12_portionOf_X12_done : GoodIn wsX12_portionOf wsX12_done := goodIn_r _ [34, 14, 35, 36, 37, 38, 39, 40, 41, 42, 43, 44, 45, 46, 47, 48, 49, 50] (by decide +kernel) (by decide +kernel)
set_option maxRecDepth 20000 in
theorem gX12_portionOf_X12_done : GoodIn wsX12_portionOf (wsV RX12 57 RX12 yX12_done wsX12_done) := goodIn_app (goodIn_of _ (by decide +kernel)) ggX12_portionOf_X12_done
theorem dX12_portionOf_0 : decode cX12_portionOf 0 = .ok (.aload_n 0, 1) := by decide +kernel
theorem dX12_portionOf_1 : decode cX12_portionOf 1 = .ok (.iload_n 1, 1) := by decide +kernel
theorem dX12_portionOf_2 : decode cX12_portionOf 2 = .ok (.invokevirtual 70, 3) := by decide +kernel
theorem dX12_portionOf_5 : decode cX12_portionOf 5 = .ok (.ifCond .ne 9, 3) := by decide +kernel
theorem dX12_portionOf_8 : decode cX12_portionOf 8 = .ok (.aload_n 0, 1) := by decide +kernel
theorem dX12_portionOf_9 : decode cX12_portionOf 9 = .ok (.iconst 1, 1) := by decide +kernel
theorem dX12_portionOf_10 : decode cX12_portionOf 10 = .ok (.invokevirtual 53, 3) := by decide +kernel
theorem dX12_portionOf_13 : decode cX12_portionOf 13 = .ok (.ireturn, 1) := by decide +kernel
theorem dX12_portionOf_14 : decode cX12_portionOf 14 = .ok (.iload_n 2, 1) := by decide +kernel
theorem dX12_portionOf_15 : decode cX12_portionOf 15 = .ok (.iconst 0, 1) := by decide +kernel
theorem dX12_portionOf_16 : decode cX12_portionOf 16 = .ok (.sipush 999, 3) := by decide +kernel
theorem dX12_portionOf_19 : decode cX12_portionOf 19 = .ok (.invokestatic 49, 3) := by decide +kernel
theorem dX12_portionOf_22 : decode cX12_portionOf 22 = .ok (.ifCond .eq 16, 3) := by decide +kernel
theorem dX12_portionOf_25 : decode cX12_portionOf 25 = .ok (.aload_n 0, 1) := by decide +kernel
theorem dX12_portionOf_26 : decode cX12_portionOf 26 = .ok (.aload_n 0, 1) := by decide +kernel
theorem dX12_portionOf_27 : decode cX12_portionOf 27 = .ok (.iload_n 1, 1) := by decide +kernel
theorem dX12_portionOf_28 : decode cX12_portionOf 28 = .ok (.iload_n 2, 1) := by decide +kernel
theorem dX12_portionOf_29 : decode cX12_portionOf 29 = .ok (.invokevirtual 101, 3) := by decide +kernel
theorem dX12_portionOf_32 : decode cX12_portionOf 32 = .ok (.invokevirtual 57, 3) := by decide +kernel
theorem dX12_portionOf_35 : decode cX12_portionOf 35 = .ok (.goto 8, 3) := by decide +kernel
theorem dX12_portionOf_38 : decode cX12_portionOf 38 = .ok (.aload_n 0, 1) := by decide +kernel
theorem dX12_portionOf_39 : decode cX12_portionOf 39 = .ok (.iconst 2, 1) := by decide +kernel
theorem dX12_portionOf_40 : decode cX12_portionOf 40 = .ok (.invokevirtual 53, 3) := by decide +kernel
theorem dX12_portionOf_43 : decode cX12_portionOf 43 = .ok (.ireturn, 1) := by decide +kernel
set_option maxRecDepth 20000 in
theorem ggX12_portionByRounds_X12_portionOf : GoodIn wsX12_portionByRounds wsX12_portionOf := goodIn_ca (goodIn_ca (goodIn_r _ [5, 6, 7, 8, 4, 9, 10, 11, 12, 13, 14, 15, 16, 17, 18, 19, 20, 21, 22, 23, 24, 25, 26, 27, 28, 29, 30, 31, 32, 33, 34, 35, 36, 37, 38, 39, 40, 41, 42, 43, 44, 45, 46, 47, 48, 49, 50, 51, 52, 53, 54] (by decide +kernel) (by decide +kernel)) (goodIn_sub (fun _ h => List.mem_cons_of_mem _ (List.mem_append_left _ (List.mem_append_right _ h))) (by decide +kernel))) (goodIn_sub (fun _ h => List.mem_cons_of_mem _ (List.mem_append_right _ h)) (by decide +kernel))
set_option maxRecDepth 20000 in
theorem gX12_portionByRounds_X12_portionOf : GoodIn wsX12_portionByRounds (wsV RX12 123 RX12 yX12_portionOf wsX12_portionOf) := goodIn_app (goodIn_of _ (by decide +kernel)) ggX12_portionByRounds_X12_portionOf
theorem dX12_portionByRounds_0 : decode cX12_portionByRounds 0 = .ok (.aload_n 0, 1) := by decide +kernel
theorem dX12_portionByRounds_1 : decode cX12_portionByRounds 1 = .ok (.iload_n 1, 1) := by decide +kernel
theorem dX12_portionByRounds_2 : decode cX12_portionByRounds 2 = .ok (.iload_n 2, 1) := by decide +kernel
theorem dX12_portionByRounds_3 : decode cX12_portionByRounds 3 = .ok (.invokevirtual 123, 3) := by decide +kernel
theorem dX12_portionByRounds_6 : decode cX12_portionByRounds 6 = .ok (.ireturn, 1) := by decide +kernel
set_option maxRecDepth 20000 in
theorem ggX12_addsMoth_X12_isLamp : GoodIn wsX12_addsMoth wsX12_isLamp := goodIn_ca (goodIn_r _ [6, 1, 7, 8, 5, 9, 19, 20, 21, 22, 23, 24, 25, 26, 27, 28, 29, 30, 31, 32, 33, 34] (by decide +kernel) (by decide +kernel)) (goodIn_sub (fun _ h => List.mem_cons_of_mem _ (List.mem_append_right _ h)) (by decide +kernel))
set_option maxRecDepth 20000 in
theorem gX12_addsMoth_X12_isLamp : GoodIn wsX12_addsMoth (wsV RX12 70 RX12 yX12_isLamp wsX12_isLamp) := goodIn_app (goodIn_of _ (by decide +kernel)) ggX12_addsMoth_X12_isLamp
set_option maxRecDepth 20000 in
theorem ggX12_addsMoth_X12_fails : GoodIn wsX12_addsMoth wsX12_fails := goodIn_r _ [13, 14, 19, 20, 21, 22, 23, 24, 25, 26, 27, 28, 29, 30, 31, 32, 33, 34] (by decide +kernel) (by decide +kernel)
set_option maxRecDepth 20000 in
theorem gX12_addsMoth_X12_fails : GoodIn wsX12_addsMoth (wsV RX12 53 RX12 yX12_fails wsX12_fails) := goodIn_app (goodIn_of _ (by decide +kernel)) ggX12_addsMoth_X12_fails
set_option maxRecDepth 20000 in
theorem ggX12_addsMoth_X12_done : GoodIn wsX12_addsMoth wsX12_done := goodIn_r _ [18, 14, 19, 20, 21, 22, 23, 24, 25, 26, 27, 28, 29, 30, 31, 32, 33, 34] (by decide +kernel) (by decide +kernel)
set_option maxRecDepth 20000 in
theorem gX12_addsMoth_X12_done : GoodIn wsX12_addsMoth (wsV RX12 57 RX12 yX12_done wsX12_done) := goodIn_app (goodIn_of _ (by decide +kernel)) ggX12_addsMoth_X12_done
theorem dX12_addsMoth_0 : decode cX12_addsMoth 0 = .ok (.aload_n 0, 1) := by decide +kernel
theorem dX12_addsMoth_1 : decode cX12_addsMoth 1 = .ok (.iload_n 1, 1) := by decide +kernel
theorem dX12_addsMoth_2 : decode cX12_addsMoth 2 = .ok (.invokevirtual 70, 3) := by decide +kernel
theorem dX12_addsMoth_5 : decode cX12_addsMoth 5 = .ok (.ifCond .ne 9, 3) := by decide +kernel
theorem dX12_addsMoth_8 : decode cX12_addsMoth 8 = .ok (.aload_n 0, 1) := by decide +kernel
theorem dX12_addsMoth_9 : decode cX12_addsMoth 9 = .ok (.iconst 1, 1) := by decide +kernel
theorem dX12_addsMoth_10 : decode cX12_addsMoth 10 = .ok (.invokevirtual 53, 3) := by decide +kernel
theorem dX12_addsMoth_13 : decode cX12_addsMoth 13 = .ok (.ireturn, 1) := by decide +kernel
theorem dX12_addsMoth_14 : decode cX12_addsMoth 14 = .ok (.aload_n 0, 1) := by decide +kernel
theorem dX12_addsMoth_15 : decode cX12_addsMoth 15 = .ok (.getfield 7, 3) := by decide +kernel
theorem dX12_addsMoth_18 : decode cX12_addsMoth 18 = .ok (.iconst 1, 1) := by decide +kernel
theorem dX12_addsMoth_19 : decode cX12_addsMoth 19 = .ok (.iaload, 1) := by decide +kernel
theorem dX12_addsMoth_20 : decode cX12_addsMoth 20 = .ok (.istore_n 2, 1) := by decide +kernel
theorem dX12_addsMoth_21 : decode cX12_addsMoth 21 = .ok (.iload_n 2, 1) := by decide +kernel
theorem dX12_addsMoth_22 : decode cX12_addsMoth 22 = .ok (.bipush 6, 2) := by decide +kernel
theorem dX12_addsMoth_24 : decode cX12_addsMoth 24 = .ok (.if_icmp .ne 9, 3) := by decide +kernel
theorem dX12_addsMoth_27 : decode cX12_addsMoth 27 = .ok (.aload_n 0, 1) := by decide +kernel
theorem dX12_addsMoth_28 : decode cX12_addsMoth 28 = .ok (.iconst 2, 1) := by decide +kernel
theorem dX12_addsMoth_29 : decode cX12_addsMoth 29 = .ok (.invokevirtual 53, 3) := by decide +kernel
theorem dX12_addsMoth_32 : decode cX12_addsMoth 32 = .ok (.ireturn, 1) := by decide +kernel
theorem dX12_addsMoth_33 : decode cX12_addsMoth 33 = .ok (.aload_n 0, 1) := by decide +kernel
theorem dX12_addsMoth_34 : decode cX12_addsMoth 34 = .ok (.getfield 7, 3) := by decide +kernel
theorem dX12_addsMoth_37 : decode cX12_addsMoth 37 = .ok (.bipush 62, 2) := by decide +kernel
theorem dX12_addsMoth_39 : decode cX12_addsMoth 39 = .ok (.iload_n 2, 1) := by decide +kernel
theorem dX12_addsMoth_40 : decode cX12_addsMoth 40 = .ok (.iadd, 1) := by decide +kernel
theorem dX12_addsMoth_41 : decode cX12_addsMoth 41 = .ok (.iload_n 1, 1) := by decide +kernel
theorem dX12_addsMoth_42 : decode cX12_addsMoth 42 = .ok (.iconst 1, 1) := by decide +kernel
theorem dX12_addsMoth_43 : decode cX12_addsMoth 43 = .ok (.iadd, 1) := by decide +kernel
theorem dX12_addsMoth_44 : decode cX12_addsMoth 44 = .ok (.iastore, 1) := by decide +kernel
theorem dX12_addsMoth_45 : decode cX12_addsMoth 45 = .ok (.aload_n 0, 1) := by decide +kernel
theorem dX12_addsMoth_46 : decode cX12_addsMoth 46 = .ok (.getfield 7, 3) := by decide +kernel
theorem dX12_addsMoth_49 : decode cX12_addsMoth 49 = .ok (.bipush 68, 2) := by decide +kernel
theorem dX12_addsMoth_51 : decode cX12_addsMoth 51 = .ok (.iload_n 2, 1) := by decide +kernel
theorem dX12_addsMoth_52 : decode cX12_addsMoth 52 = .ok (.iadd, 1) := by decide +kernel
theorem dX12_addsMoth_53 : decode cX12_addsMoth 53 = .ok (.iconst 0, 1) := by decide +kernel
theorem dX12_addsMoth_54 : decode cX12_addsMoth 54 = .ok (.iastore, 1) := by decide +kernel
theorem dX12_addsMoth_55 : decode cX12_addsMoth 55 = .ok (.aload_n 0, 1) := by decide +kernel
theorem dX12_addsMoth_56 : decode cX12_addsMoth 56 = .ok (.getfield 7, 3) := by decide +kernel
theorem dX12_addsMoth_59 : decode cX12_addsMoth 59 = .ok (.bipush 74, 2) := by decide +kernel
theorem dX12_addsMoth_61 : decode cX12_addsMoth 61 = .ok (.iload_n 2, 1) := by decide +kernel
theorem dX12_addsMoth_62 : decode cX12_addsMoth 62 = .ok (.iadd, 1) := by decide +kernel
theorem dX12_addsMoth_63 : decode cX12_addsMoth 63 = .ok (.iconst 3, 1) := by decide +kernel
theorem dX12_addsMoth_64 : decode cX12_addsMoth 64 = .ok (.iastore, 1) := by decide +kernel
theorem dX12_addsMoth_65 : decode cX12_addsMoth 65 = .ok (.aload_n 0, 1) := by decide +kernel
theorem dX12_addsMoth_66 : decode cX12_addsMoth 66 = .ok (.getfield 7, 3) := by decide +kernel
theorem dX12_addsMoth_69 : decode cX12_addsMoth 69 = .ok (.iconst 1, 1) := by decide +kernel
theorem dX12_addsMoth_70 : decode cX12_addsMoth 70 = .ok (.dup2, 1) := by decide +kernel
theorem dX12_addsMoth_71 : decode cX12_addsMoth 71 = .ok (.iaload, 1) := by decide +kernel
theorem dX12_addsMoth_72 : decode cX12_addsMoth 72 = .ok (.iconst 1, 1) := by decide +kernel
theorem dX12_addsMoth_73 : decode cX12_addsMoth 73 = .ok (.iadd, 1) := by decide +kernel
theorem dX12_addsMoth_74 : decode cX12_addsMoth 74 = .ok (.iastore, 1) := by decide +kernel
theorem dX12_addsMoth_75 : decode cX12_addsMoth 75 = .ok (.aload_n 0, 1) := by decide +kernel
theorem dX12_addsMoth_76 : decode cX12_addsMoth 76 = .ok (.iload_n 2, 1) := by decide +kernel
theorem dX12_addsMoth_77 : decode cX12_addsMoth 77 = .ok (.invokevirtual 57, 3) := by decide +kernel
theorem dX12_addsMoth_80 : decode cX12_addsMoth 80 = .ok (.ireturn, 1) := by decide +kernel
set_option maxRecDepth 20000 in
theorem ggX12_addMoth_X12_begin : GoodIn wsX12_addMoth wsX12_begin := goodIn_ca (goodIn_r _ [5, 6, 7, 8, 9, 4, 10, 37, 38, 39, 40, 41, 42, 43, 44, 45, 46, 47, 48, 49, 50, 51, 52] (by decide +kernel) (by decide +kernel)) (goodIn_sub (fun _ h => List.mem_cons_of_mem _ (List.mem_append_right _ h)) (by decide +kernel))
set_option maxRecDepth 20000 in
theorem gX12_addMoth_X12_begin : GoodIn wsX12_addMoth (wsV RX12 60 RX12 yX12_begin wsX12_begin) := goodIn_app (goodIn_of _ (by decide +kernel)) ggX12_addMoth_X12_begin
set_option maxRecDepth 20000 in
theorem ggX12_addMoth_X12_addsMoth : GoodIn wsX12_addMoth wsX12_addsMoth := goodIn_ca (goodIn_r _ [14, 6, 15, 16, 17, 4, 18, 19, 20, 21, 22, 23, 24, 25, 26, 27, 28, 29, 30, 37, 38, 39, 40, 41, 42, 43, 44, 45, 46, 47, 48, 49, 50, 51, 52] (by decide +kernel) (by decide +kernel)) (goodIn_sub (fun _ h => List.mem_cons_of_mem _ (List.mem_append_right _ h)) (by decide +kernel))
set_option maxRecDepth 20000 in
theorem gX12_addMoth_X12_addsMoth : GoodIn wsX12_addMoth (wsV RX12 126 RX12 yX12_addsMoth wsX12_addsMoth) := goodIn_app (goodIn_of _ (by decide +kernel)) ggX12_addMoth_X12_addsMoth
set_option maxRecDepth 20000 in
theorem ggX12_addMoth_X12_kept : GoodIn wsX12_addMoth wsX12_kept := goodIn_ca (goodIn_r _ [34, 26, 7, 6, 35, 36, 8, 9, 4, 10, 37, 38, 39, 40, 41, 42, 43, 44, 45, 46, 47, 48, 49, 50, 51, 52] (by decide +kernel) (by decide +kernel)) (goodIn_sub (fun _ h => List.mem_cons_of_mem _ (List.mem_append_right _ h)) (by decide +kernel))
set_option maxRecDepth 20000 in
theorem gX12_addMoth_X12_kept : GoodIn wsX12_addMoth (wsV RX12 67 RX12 yX12_kept wsX12_kept) := goodIn_app (goodIn_of _ (by decide +kernel)) ggX12_addMoth_X12_kept
theorem dX12_addMoth_0 : decode cX12_addMoth 0 = .ok (.aload_n 0, 1) := by decide +kernel
theorem dX12_addMoth_1 : decode cX12_addMoth 1 = .ok (.invokevirtual 60, 3) := by decide +kernel
theorem dX12_addMoth_4 : decode cX12_addMoth 4 = .ok (.aload_n 0, 1) := by decide +kernel
theorem dX12_addMoth_5 : decode cX12_addMoth 5 = .ok (.aload_n 0, 1) := by decide +kernel
theorem dX12_addMoth_6 : decode cX12_addMoth 6 = .ok (.iload_n 1, 1) := by decide +kernel
theorem dX12_addMoth_7 : decode cX12_addMoth 7 = .ok (.invokevirtual 126, 3) := by decide +kernel
theorem dX12_addMoth_10 : decode cX12_addMoth 10 = .ok (.invokevirtual 67, 3) := by decide +kernel
theorem dX12_addMoth_13 : decode cX12_addMoth 13 = .ok (.ireturn, 1) := by decide +kernel
set_option maxRecDepth 20000 in
theorem ggX12_movesMoth_X12_isMoth : GoodIn wsX12_movesMoth wsX12_isMoth := goodIn_ca (goodIn_r _ [6, 1, 7, 8, 5, 9, 23, 24, 25, 26, 27, 28, 29, 30, 31, 32, 33, 34, 35, 36, 37, 38] (by decide +kernel) (by decide +kernel)) (goodIn_sub (fun _ h => List.mem_cons_of_mem _ (List.mem_append_right _ h)) (by decide +kernel))
set_option maxRecDepth 20000 in
theorem gX12_movesMoth_X12_isMoth : GoodIn wsX12_movesMoth (wsV RX12 129 RX12 yX12_isMoth wsX12_isMoth) := goodIn_app (goodIn_of _ (by decide +kernel)) ggX12_movesMoth_X12_isMoth
set_option maxRecDepth 20000 in
theorem ggX12_movesMoth_X12_isLamp : GoodIn wsX12_movesMoth wsX12_isLamp := goodIn_ca (goodIn_r _ [13, 1, 7, 8, 5, 9, 23, 24, 25, 26, 27, 28, 29, 30, 31, 32, 33, 34, 35, 36, 37, 38] (by decide +kernel) (by decide +kernel)) (goodIn_sub (fun _ h => List.mem_cons_of_mem _ (List.mem_append_right _ h)) (by decide +kernel))
set_option maxRecDepth 20000 in
theorem gX12_movesMoth_X12_isLamp : GoodIn wsX12_movesMoth (wsV RX12 70 RX12 yX12_isLamp wsX12_isLamp) := goodIn_app (goodIn_of _ (by decide +kernel)) ggX12_movesMoth_X12_isLamp
set_option maxRecDepth 20000 in
theorem ggX12_movesMoth_X12_fails : GoodIn wsX12_movesMoth wsX12_fails := goodIn_r _ [17, 18, 23, 24, 25, 26, 27, 28, 29, 30, 31, 32, 33, 34, 35, 36, 37, 38] (by decide +kernel) (by decide +kernel)
set_option maxRecDepth 20000 in
theorem gX12_movesMoth_X12_fails : GoodIn wsX12_movesMoth (wsV RX12 53 RX12 yX12_fails wsX12_fails) := goodIn_app (goodIn_of _ (by decide +kernel)) ggX12_movesMoth_X12_fails
set_option maxRecDepth 20000 in
theorem ggX12_movesMoth_X12_done : GoodIn wsX12_movesMoth wsX12_done := goodIn_r _ [22, 18, 23, 24, 25, 26, 27, 28, 29, 30, 31, 32, 33, 34, 35, 36, 37, 38] (by decide +kernel) (by decide +kernel)
set_option maxRecDepth 20000 in
theorem gX12_movesMoth_X12_done : GoodIn wsX12_movesMoth (wsV RX12 57 RX12 yX12_done wsX12_done) := goodIn_app (goodIn_of _ (by decide +kernel)) ggX12_movesMoth_X12_done
theorem dX12_movesMoth_0 : decode cX12_movesMoth 0 = .ok (.aload_n 0, 1) := by decide +kernel
theorem dX12_movesMoth_1 : decode cX12_movesMoth 1 = .ok (.iload_n 1, 1) := by decide +kernel
theorem dX12_movesMoth_2 : decode cX12_movesMoth 2 = .ok (.invokevirtual 129, 3) := by decide +kernel
theorem dX12_movesMoth_5 : decode cX12_movesMoth 5 = .ok (.ifCond .eq 16, 3) := by decide +kernel
theorem dX12_movesMoth_8 : decode cX12_movesMoth 8 = .ok (.iload_n 2, 1) := by decide +kernel
theorem dX12_movesMoth_9 : decode cX12_movesMoth 9 = .ok (.iconst (-1), 1) := by decide +kernel
theorem dX12_movesMoth_10 : decode cX12_movesMoth 10 = .ok (.if_icmp .eq 17, 3) := by decide +kernel
theorem dX12_movesMoth_13 : decode cX12_movesMoth 13 = .ok (.aload_n 0, 1) := by decide +kernel
theorem dX12_movesMoth_14 : decode cX12_movesMoth 14 = .ok (.iload_n 2, 1) := by decide +kernel
theorem dX12_movesMoth_15 : decode cX12_movesMoth 15 = .ok (.invokevirtual 70, 3) := by decide +kernel
theorem dX12_movesMoth_18 : decode cX12_movesMoth 18 = .ok (.ifCond .ne 9, 3) := by decide +kernel
theorem dX12_movesMoth_21 : decode cX12_movesMoth 21 = .ok (.aload_n 0, 1) := by decide +kernel
theorem dX12_movesMoth_22 : decode cX12_movesMoth 22 = .ok (.iconst 1, 1) := by decide +kernel
theorem dX12_movesMoth_23 : decode cX12_movesMoth 23 = .ok (.invokevirtual 53, 3) := by decide +kernel
theorem dX12_movesMoth_26 : decode cX12_movesMoth 26 = .ok (.ireturn, 1) := by decide +kernel
theorem dX12_movesMoth_27 : decode cX12_movesMoth 27 = .ok (.aload_n 0, 1) := by decide +kernel
theorem dX12_movesMoth_28 : decode cX12_movesMoth 28 = .ok (.getfield 7, 3) := by decide +kernel
theorem dX12_movesMoth_31 : decode cX12_movesMoth 31 = .ok (.bipush 62, 2) := by decide +kernel
theorem dX12_movesMoth_33 : decode cX12_movesMoth 33 = .ok (.iload_n 1, 1) := by decide +kernel
theorem dX12_movesMoth_34 : decode cX12_movesMoth 34 = .ok (.iadd, 1) := by decide +kernel
theorem dX12_movesMoth_35 : decode cX12_movesMoth 35 = .ok (.iaload, 1) := by decide +kernel
theorem dX12_movesMoth_36 : decode cX12_movesMoth 36 = .ok (.iconst 1, 1) := by decide +kernel
theorem dX12_movesMoth_37 : decode cX12_movesMoth 37 = .ok (.isub, 1) := by decide +kernel
theorem dX12_movesMoth_38 : decode cX12_movesMoth 38 = .ok (.istore_n 3, 1) := by decide +kernel
theorem dX12_movesMoth_39 : decode cX12_movesMoth 39 = .ok (.aload_n 0, 1) := by decide +kernel
theorem dX12_movesMoth_40 : decode cX12_movesMoth 40 = .ok (.getfield 7, 3) := by decide +kernel
theorem dX12_movesMoth_43 : decode cX12_movesMoth 43 = .ok (.bipush 62, 2) := by decide +kernel
theorem dX12_movesMoth_45 : decode cX12_movesMoth 45 = .ok (.iload_n 1, 1) := by decide +kernel
theorem dX12_movesMoth_46 : decode cX12_movesMoth 46 = .ok (.iadd, 1) := by decide +kernel
theorem dX12_movesMoth_47 : decode cX12_movesMoth 47 = .ok (.iload_n 2, 1) := by decide +kernel
theorem dX12_movesMoth_48 : decode cX12_movesMoth 48 = .ok (.iconst 1, 1) := by decide +kernel
theorem dX12_movesMoth_49 : decode cX12_movesMoth 49 = .ok (.iadd, 1) := by decide +kernel
theorem dX12_movesMoth_50 : decode cX12_movesMoth 50 = .ok (.iastore, 1) := by decide +kernel
theorem dX12_movesMoth_51 : decode cX12_movesMoth 51 = .ok (.aload_n 0, 1) := by decide +kernel
theorem dX12_movesMoth_52 : decode cX12_movesMoth 52 = .ok (.iload_n 3, 1) := by decide +kernel
theorem dX12_movesMoth_53 : decode cX12_movesMoth 53 = .ok (.invokevirtual 57, 3) := by decide +kernel
theorem dX12_movesMoth_56 : decode cX12_movesMoth 56 = .ok (.ireturn, 1) := by decide +kernel
set_option maxRecDepth 20000 in
theorem ggX12_moveMoth_X12_begin : GoodIn wsX12_moveMoth wsX12_begin := goodIn_ca (goodIn_r _ [5, 6, 7, 8, 9, 4, 10, 41, 42, 43, 44, 45, 46, 47, 48, 49, 50, 51, 52, 53, 54, 55, 56] (by decide +kernel) (by decide +kernel)) (goodIn_sub (fun _ h => List.mem_cons_of_mem _ (List.mem_append_right _ h)) (by decide +kernel))
set_option maxRecDepth 20000 in
theorem gX12_moveMoth_X12_begin : GoodIn wsX12_moveMoth (wsV RX12 60 RX12 yX12_begin wsX12_begin) := goodIn_app (goodIn_of _ (by decide +kernel)) ggX12_moveMoth_X12_begin
set_option maxRecDepth 20000 in
theorem ggX12_moveMoth_X12_movesMoth : GoodIn wsX12_moveMoth wsX12_movesMoth := goodIn_ca (goodIn_r _ [14, 6, 15, 16, 17, 4, 18, 19, 20, 21, 22, 23, 24, 25, 26, 27, 28, 29, 30, 31, 32, 33, 34, 41, 42, 43, 44, 45, 46, 47, 48, 49, 50, 51, 52, 53, 54, 55, 56] (by decide +kernel) (by decide +kernel)) (goodIn_sub (fun _ h => List.mem_cons_of_mem _ (List.mem_append_right _ h)) (by decide +kernel))
set_option maxRecDepth 20000 in
theorem gX12_moveMoth_X12_movesMoth : GoodIn wsX12_moveMoth (wsV RX12 132 RX12 yX12_movesMoth wsX12_movesMoth) := goodIn_app (goodIn_of _ (by decide +kernel)) ggX12_moveMoth_X12_movesMoth
set_option maxRecDepth 20000 in
theorem ggX12_moveMoth_X12_kept : GoodIn wsX12_moveMoth wsX12_kept := goodIn_ca (goodIn_r _ [38, 30, 7, 6, 39, 40, 8, 9, 4, 10, 41, 42, 43, 44, 45, 46, 47, 48, 49, 50, 51, 52, 53, 54, 55, 56] (by decide +kernel) (by decide +kernel)) (goodIn_sub (fun _ h => List.mem_cons_of_mem _ (List.mem_append_right _ h)) (by decide +kernel))
set_option maxRecDepth 20000 in
theorem gX12_moveMoth_X12_kept : GoodIn wsX12_moveMoth (wsV RX12 67 RX12 yX12_kept wsX12_kept) := goodIn_app (goodIn_of _ (by decide +kernel)) ggX12_moveMoth_X12_kept
theorem dX12_moveMoth_0 : decode cX12_moveMoth 0 = .ok (.aload_n 0, 1) := by decide +kernel
theorem dX12_moveMoth_1 : decode cX12_moveMoth 1 = .ok (.invokevirtual 60, 3) := by decide +kernel
theorem dX12_moveMoth_4 : decode cX12_moveMoth 4 = .ok (.aload_n 0, 1) := by decide +kernel
theorem dX12_moveMoth_5 : decode cX12_moveMoth 5 = .ok (.aload_n 0, 1) := by decide +kernel
theorem dX12_moveMoth_6 : decode cX12_moveMoth 6 = .ok (.iload_n 1, 1) := by decide +kernel
theorem dX12_moveMoth_7 : decode cX12_moveMoth 7 = .ok (.iload_n 2, 1) := by decide +kernel
theorem dX12_moveMoth_8 : decode cX12_moveMoth 8 = .ok (.invokevirtual 132, 3) := by decide +kernel
theorem dX12_moveMoth_11 : decode cX12_moveMoth 11 = .ok (.invokevirtual 67, 3) := by decide +kernel
theorem dX12_moveMoth_14 : decode cX12_moveMoth 14 = .ok (.ireturn, 1) := by decide +kernel
set_option maxRecDepth 20000 in
theorem ggX12_mothCount_X12_done : GoodIn wsX12_mothCount wsX12_done := goodIn_r _ [6, 7, 8, 9, 10, 11, 12, 13, 14, 15, 16, 17, 18, 19, 20, 21, 22, 23] (by decide +kernel) (by decide +kernel)
set_option maxRecDepth 20000 in
theorem gX12_mothCount_X12_done : GoodIn wsX12_mothCount (wsV RX12 57 RX12 yX12_done wsX12_done) := goodIn_app (goodIn_of _ (by decide +kernel)) ggX12_mothCount_X12_done
theorem dX12_mothCount_0 : decode cX12_mothCount 0 = .ok (.aload_n 0, 1) := by decide +kernel
theorem dX12_mothCount_1 : decode cX12_mothCount 1 = .ok (.aload_n 0, 1) := by decide +kernel
theorem dX12_mothCount_2 : decode cX12_mothCount 2 = .ok (.getfield 7, 3) := by decide +kernel
theorem dX12_mothCount_5 : decode cX12_mothCount 5 = .ok (.iconst 1, 1) := by decide +kernel
theorem dX12_mothCount_6 : decode cX12_mothCount 6 = .ok (.iaload, 1) := by decide +kernel
theorem dX12_mothCount_7 : decode cX12_mothCount 7 = .ok (.invokevirtual 57, 3) := by decide +kernel
theorem dX12_mothCount_10 : decode cX12_mothCount 10 = .ok (.ireturn, 1) := by decide +kernel
set_option maxRecDepth 20000 in
theorem ggX12_lampOfMoth_X12_isMoth : GoodIn wsX12_lampOfMoth wsX12_isMoth := goodIn_ca (goodIn_r _ [6, 1, 7, 8, 5, 9, 19, 20, 21, 22, 23, 24, 25, 26, 27, 28, 29, 30, 31, 32, 33, 34] (by decide +kernel) (by decide +kernel)) (goodIn_sub (fun _ h => List.mem_cons_of_mem _ (List.mem_append_right _ h)) (by decide +kernel))
set_option maxRecDepth 20000 in
theorem gX12_lampOfMoth_X12_isMoth : GoodIn wsX12_lampOfMoth (wsV RX12 129 RX12 yX12_isMoth wsX12_isMoth) := goodIn_app (goodIn_of _ (by decide +kernel)) ggX12_lampOfMoth_X12_isMoth
set_option maxRecDepth 20000 in
theorem ggX12_lampOfMoth_X12_done : GoodIn wsX12_lampOfMoth wsX12_done := goodIn_r _ [13, 14, 19, 20, 21, 22, 23, 24, 25, 26, 27, 28, 29, 30, 31, 32, 33, 34] (by decide +kernel) (by decide +kernel)
set_option maxRecDepth 20000 in
theorem gX12_lampOfMoth_X12_done : GoodIn wsX12_lampOfMoth (wsV RX12 57 RX12 yX12_done wsX12_done) := goodIn_app (goodIn_of _ (by decide +kernel)) ggX12_lampOfMoth_X12_done
set_option maxRecDepth 20000 in
theorem ggX12_lampOfMoth_X12_fails : GoodIn wsX12_lampOfMoth wsX12_fails := goodIn_r _ [18, 14, 19, 20, 21, 22, 23, 24, 25, 26, 27, 28, 29, 30, 31, 32, 33, 34] (by decide +kernel) (by decide +kernel)
set_option maxRecDepth 20000 in
theorem gX12_lampOfMoth_X12_fails : GoodIn wsX12_lampOfMoth (wsV RX12 53 RX12 yX12_fails wsX12_fails) := goodIn_app (goodIn_of _ (by decide +kernel)) ggX12_lampOfMoth_X12_fails
theorem dX12_lampOfMoth_0 : decode cX12_lampOfMoth 0 = .ok (.aload_n 0, 1) := by decide +kernel
theorem dX12_lampOfMoth_1 : decode cX12_lampOfMoth 1 = .ok (.iload_n 1, 1) := by decide +kernel
theorem dX12_lampOfMoth_2 : decode cX12_lampOfMoth 2 = .ok (.invokevirtual 129, 3) := by decide +kernel
theorem dX12_lampOfMoth_5 : decode cX12_lampOfMoth 5 = .ok (.ifCond .eq 21, 3) := by decide +kernel
theorem dX12_lampOfMoth_8 : decode cX12_lampOfMoth 8 = .ok (.aload_n 0, 1) := by decide +kernel
theorem dX12_lampOfMoth_9 : decode cX12_lampOfMoth 9 = .ok (.aload_n 0, 1) := by decide +kernel
theorem dX12_lampOfMoth_10 : decode cX12_lampOfMoth 10 = .ok (.getfield 7, 3) := by decide +kernel
theorem dX12_lampOfMoth_13 : decode cX12_lampOfMoth 13 = .ok (.bipush 62, 2) := by decide +kernel
theorem dX12_lampOfMoth_15 : decode cX12_lampOfMoth 15 = .ok (.iload_n 1, 1) := by decide +kernel
theorem dX12_lampOfMoth_16 : decode cX12_lampOfMoth 16 = .ok (.iadd, 1) := by decide +kernel
theorem dX12_lampOfMoth_17 : decode cX12_lampOfMoth 17 = .ok (.iaload, 1) := by decide +kernel
theorem dX12_lampOfMoth_18 : decode cX12_lampOfMoth 18 = .ok (.iconst 1, 1) := by decide +kernel
theorem dX12_lampOfMoth_19 : decode cX12_lampOfMoth 19 = .ok (.isub, 1) := by decide +kernel
theorem dX12_lampOfMoth_20 : decode cX12_lampOfMoth 20 = .ok (.invokevirtual 57, 3) := by decide +kernel
theorem dX12_lampOfMoth_23 : decode cX12_lampOfMoth 23 = .ok (.goto 8, 3) := by decide +kernel
theorem dX12_lampOfMoth_26 : decode cX12_lampOfMoth 26 = .ok (.aload_n 0, 1) := by decide +kernel
theorem dX12_lampOfMoth_27 : decode cX12_lampOfMoth 27 = .ok (.iconst 1, 1) := by decide +kernel
theorem dX12_lampOfMoth_28 : decode cX12_lampOfMoth 28 = .ok (.invokevirtual 53, 3) := by decide +kernel
theorem dX12_lampOfMoth_31 : decode cX12_lampOfMoth 31 = .ok (.ireturn, 1) := by decide +kernel
set_option maxRecDepth 20000 in
theorem ggX12_strikesOf_X12_isMoth : GoodIn wsX12_strikesOf wsX12_isMoth := goodIn_ca (goodIn_r _ [6, 1, 7, 8, 5, 9, 19, 20, 21, 22, 23, 24, 25, 26, 27, 28, 29, 30, 31, 32, 33, 34] (by decide +kernel) (by decide +kernel)) (goodIn_sub (fun _ h => List.mem_cons_of_mem _ (List.mem_append_right _ h)) (by decide +kernel))
set_option maxRecDepth 20000 in
theorem gX12_strikesOf_X12_isMoth : GoodIn wsX12_strikesOf (wsV RX12 129 RX12 yX12_isMoth wsX12_isMoth) := goodIn_app (goodIn_of _ (by decide +kernel)) ggX12_strikesOf_X12_isMoth
set_option maxRecDepth 20000 in
theorem ggX12_strikesOf_X12_done : GoodIn wsX12_strikesOf wsX12_done := goodIn_r _ [13, 14, 19, 20, 21, 22, 23, 24, 25, 26, 27, 28, 29, 30, 31, 32, 33, 34] (by decide +kernel) (by decide +kernel)
set_option maxRecDepth 20000 in
theorem gX12_strikesOf_X12_done : GoodIn wsX12_strikesOf (wsV RX12 57 RX12 yX12_done wsX12_done) := goodIn_app (goodIn_of _ (by decide +kernel)) ggX12_strikesOf_X12_done
set_option maxRecDepth 20000 in
theorem ggX12_strikesOf_X12_fails : GoodIn wsX12_strikesOf wsX12_fails := goodIn_r _ [18, 14, 19, 20, 21, 22, 23, 24, 25, 26, 27, 28, 29, 30, 31, 32, 33, 34] (by decide +kernel) (by decide +kernel)
set_option maxRecDepth 20000 in
theorem gX12_strikesOf_X12_fails : GoodIn wsX12_strikesOf (wsV RX12 53 RX12 yX12_fails wsX12_fails) := goodIn_app (goodIn_of _ (by decide +kernel)) ggX12_strikesOf_X12_fails
theorem dX12_strikesOf_0 : decode cX12_strikesOf 0 = .ok (.aload_n 0, 1) := by decide +kernel
theorem dX12_strikesOf_1 : decode cX12_strikesOf 1 = .ok (.iload_n 1, 1) := by decide +kernel
theorem dX12_strikesOf_2 : decode cX12_strikesOf 2 = .ok (.invokevirtual 129, 3) := by decide +kernel
theorem dX12_strikesOf_5 : decode cX12_strikesOf 5 = .ok (.ifCond .eq 19, 3) := by decide +kernel
theorem dX12_strikesOf_8 : decode cX12_strikesOf 8 = .ok (.aload_n 0, 1) := by decide +kernel
theorem dX12_strikesOf_9 : decode cX12_strikesOf 9 = .ok (.aload_n 0, 1) := by decide +kernel
theorem dX12_strikesOf_10 : decode cX12_strikesOf 10 = .ok (.getfield 7, 3) := by decide +kernel
theorem dX12_strikesOf_13 : decode cX12_strikesOf 13 = .ok (.bipush 68, 2) := by decide +kernel
theorem dX12_strikesOf_15 : decode cX12_strikesOf 15 = .ok (.iload_n 1, 1) := by decide +kernel
theorem dX12_strikesOf_16 : decode cX12_strikesOf 16 = .ok (.iadd, 1) := by decide +kernel
theorem dX12_strikesOf_17 : decode cX12_strikesOf 17 = .ok (.iaload, 1) := by decide +kernel
theorem dX12_strikesOf_18 : decode cX12_strikesOf 18 = .ok (.invokevirtual 57, 3) := by decide +kernel
theorem dX12_strikesOf_21 : decode cX12_strikesOf 21 = .ok (.goto 8, 3) := by decide +kernel
theorem dX12_strikesOf_24 : decode cX12_strikesOf 24 = .ok (.aload_n 0, 1) := by decide +kernel
theorem dX12_strikesOf_25 : decode cX12_strikesOf 25 = .ok (.iconst 1, 1) := by decide +kernel
theorem dX12_strikesOf_26 : decode cX12_strikesOf 26 = .ok (.invokevirtual 53, 3) := by decide +kernel
theorem dX12_strikesOf_29 : decode cX12_strikesOf 29 = .ok (.ireturn, 1) := by decide +kernel
set_option maxRecDepth 20000 in
theorem ggX12_probationOf_X12_isMoth : GoodIn wsX12_probationOf wsX12_isMoth := goodIn_ca (goodIn_r _ [6, 1, 7, 8, 5, 9, 19, 20, 21, 22, 23, 24, 25, 26, 27, 28, 29, 30, 31, 32, 33, 34] (by decide +kernel) (by decide +kernel)) (goodIn_sub (fun _ h => List.mem_cons_of_mem _ (List.mem_append_right _ h)) (by decide +kernel))
set_option maxRecDepth 20000 in
theorem gX12_probationOf_X12_isMoth : GoodIn wsX12_probationOf (wsV RX12 129 RX12 yX12_isMoth wsX12_isMoth) := goodIn_app (goodIn_of _ (by decide +kernel)) ggX12_probationOf_X12_isMoth
set_option maxRecDepth 20000 in
theorem ggX12_probationOf_X12_done : GoodIn wsX12_probationOf wsX12_done := goodIn_r _ [13, 14, 19, 20, 21, 22, 23, 24, 25, 26, 27, 28, 29, 30, 31, 32, 33, 34] (by decide +kernel) (by decide +kernel)
set_option maxRecDepth 20000 in
theorem gX12_probationOf_X12_done : GoodIn wsX12_probationOf (wsV RX12 57 RX12 yX12_done wsX12_done) := goodIn_app (goodIn_of _ (by decide +kernel)) ggX12_probationOf_X12_done
set_option maxRecDepth 20000 in
theorem ggX12_probationOf_X12_fails : GoodIn wsX12_probationOf wsX12_fails := goodIn_r _ [18, 14, 19, 20, 21, 22, 23, 24, 25, 26, 27, 28, 29, 30, 31, 32, 33, 34] (by decide +kernel) (by decide +kernel)
set_option maxRecDepth 20000 in
theorem gX12_probationOf_X12_fails : GoodIn wsX12_probationOf (wsV RX12 53 RX12 yX12_fails wsX12_fails) := goodIn_app (goodIn_of _ (by decide +kernel)) ggX12_probationOf_X12_fails
theorem dX12_probationOf_0 : decode cX12_probationOf 0 = .ok (.aload_n 0, 1) := by decide +kernel
theorem dX12_probationOf_1 : decode cX12_probationOf 1 = .ok (.iload_n 1, 1) := by decide +kernel
theorem dX12_probationOf_2 : decode cX12_probationOf 2 = .ok (.invokevirtual 129, 3) := by decide +kernel
theorem dX12_probationOf_5 : decode cX12_probationOf 5 = .ok (.ifCond .eq 19, 3) := by decide +kernel
theorem dX12_probationOf_8 : decode cX12_probationOf 8 = .ok (.aload_n 0, 1) := by decide +kernel
theorem dX12_probationOf_9 : decode cX12_probationOf 9 = .ok (.aload_n 0, 1) := by decide +kernel
theorem dX12_probationOf_10 : decode cX12_probationOf 10 = .ok (.getfield 7, 3) := by decide +kernel
theorem dX12_probationOf_13 : decode cX12_probationOf 13 = .ok (.bipush 74, 2) := by decide +kernel
theorem dX12_probationOf_15 : decode cX12_probationOf 15 = .ok (.iload_n 1, 1) := by decide +kernel
theorem dX12_probationOf_16 : decode cX12_probationOf 16 = .ok (.iadd, 1) := by decide +kernel
theorem dX12_probationOf_17 : decode cX12_probationOf 17 = .ok (.iaload, 1) := by decide +kernel
theorem dX12_probationOf_18 : decode cX12_probationOf 18 = .ok (.invokevirtual 57, 3) := by decide +kernel
theorem dX12_probationOf_21 : decode cX12_probationOf 21 = .ok (.goto 8, 3) := by decide +kernel
theorem dX12_probationOf_24 : decode cX12_probationOf 24 = .ok (.aload_n 0, 1) := by decide +kernel
theorem dX12_probationOf_25 : decode cX12_probationOf 25 = .ok (.iconst 1, 1) := by decide +kernel
theorem dX12_probationOf_26 : decode cX12_probationOf 26 = .ok (.invokevirtual 53, 3) := by decide +kernel
theorem dX12_probationOf_29 : decode cX12_probationOf 29 = .ok (.ireturn, 1) := by decide +kernel
set_option maxRecDepth 20000 in
theorem ggX12_isMember_X12_isMoth : GoodIn wsX12_isMember wsX12_isMoth := goodIn_ca (goodIn_r _ [7, 2, 8, 9, 6, 10, 11, 12, 13, 14, 15, 16, 17, 18, 19, 20, 21, 22, 23, 24, 25, 26] (by decide +kernel) (by decide +kernel)) (goodIn_sub (fun _ h => List.mem_cons_of_mem _ (List.mem_append_right _ h)) (by decide +kernel))
set_option maxRecDepth 20000 in
theorem gX12_isMember_X12_isMoth : GoodIn wsX12_isMember (wsV RX12 129 RX12 yX12_isMoth wsX12_isMoth) := goodIn_app (goodIn_of _ (by decide +kernel)) ggX12_isMember_X12_isMoth
theorem dX12_isMember_0 : decode cX12_isMember 0 = .ok (.aload_n 0, 1) := by decide +kernel
theorem dX12_isMember_1 : decode cX12_isMember 1 = .ok (.aload_n 0, 1) := by decide +kernel
theorem dX12_isMember_2 : decode cX12_isMember 2 = .ok (.iload_n 1, 1) := by decide +kernel
theorem dX12_isMember_3 : decode cX12_isMember 3 = .ok (.invokevirtual 129, 3) := by decide +kernel
theorem dX12_isMember_6 : decode cX12_isMember 6 = .ok (.ifCond .eq 7, 3) := by decide +kernel
theorem dX12_isMember_9 : decode cX12_isMember 9 = .ok (.iconst 0, 1) := by decide +kernel
theorem dX12_isMember_10 : decode cX12_isMember 10 = .ok (.goto 4, 3) := by decide +kernel
theorem dX12_isMember_13 : decode cX12_isMember 13 = .ok (.iconst 1, 1) := by decide +kernel
theorem dX12_isMember_14 : decode cX12_isMember 14 = .ok (.putfield 39, 3) := by decide +kernel
theorem dX12_isMember_17 : decode cX12_isMember 17 = .ok (.aload_n 0, 1) := by decide +kernel
theorem dX12_isMember_18 : decode cX12_isMember 18 = .ok (.getfield 39, 3) := by decide +kernel
theorem dX12_isMember_21 : decode cX12_isMember 21 = .ok (.ifCond .ne 19, 3) := by decide +kernel
theorem dX12_isMember_24 : decode cX12_isMember 24 = .ok (.aload_n 0, 1) := by decide +kernel
theorem dX12_isMember_25 : decode cX12_isMember 25 = .ok (.getfield 7, 3) := by decide +kernel
theorem dX12_isMember_28 : decode cX12_isMember 28 = .ok (.bipush 74, 2) := by decide +kernel
theorem dX12_isMember_30 : decode cX12_isMember 30 = .ok (.iload_n 1, 1) := by decide +kernel
theorem dX12_isMember_31 : decode cX12_isMember 31 = .ok (.iadd, 1) := by decide +kernel
theorem dX12_isMember_32 : decode cX12_isMember 32 = .ok (.iaload, 1) := by decide +kernel
theorem dX12_isMember_33 : decode cX12_isMember 33 = .ok (.ifCond .ne 7, 3) := by decide +kernel
theorem dX12_isMember_36 : decode cX12_isMember 36 = .ok (.iconst 1, 1) := by decide +kernel
theorem dX12_isMember_37 : decode cX12_isMember 37 = .ok (.goto 4, 3) := by decide +kernel
theorem dX12_isMember_40 : decode cX12_isMember 40 = .ok (.iconst 0, 1) := by decide +kernel
theorem dX12_isMember_41 : decode cX12_isMember 41 = .ok (.ireturn, 1) := by decide +kernel
theorem dX12_burns_0 : decode cX12_burns 0 = .ok (.aload_n 0, 1) := by decide +kernel
theorem dX12_burns_1 : decode cX12_burns 1 = .ok (.getfield 7, 3) := by decide +kernel
theorem dX12_burns_4 : decode cX12_burns 4 = .ok (.bipush 30, 2) := by decide +kernel
theorem dX12_burns_6 : decode cX12_burns 6 = .ok (.iload_n 1, 1) := by decide +kernel
theorem dX12_burns_7 : decode cX12_burns 7 = .ok (.iadd, 1) := by decide +kernel
theorem dX12_burns_8 : decode cX12_burns 8 = .ok (.iaload, 1) := by decide +kernel
theorem dX12_burns_9 : decode cX12_burns 9 = .ok (.ifCond .ne 40, 3) := by decide +kernel
theorem dX12_burns_12 : decode cX12_burns 12 = .ok (.aload_n 0, 1) := by decide +kernel
theorem dX12_burns_13 : decode cX12_burns 13 = .ok (.getfield 7, 3) := by decide +kernel
theorem dX12_burns_16 : decode cX12_burns 16 = .ok (.bipush 38, 2) := by decide +kernel
theorem dX12_burns_18 : decode cX12_burns 18 = .ok (.iload_n 1, 1) := by decide +kernel
theorem dX12_burns_19 : decode cX12_burns 19 = .ok (.iadd, 1) := by decide +kernel
theorem dX12_burns_20 : decode cX12_burns 20 = .ok (.iaload, 1) := by decide +kernel
theorem dX12_burns_21 : decode cX12_burns 21 = .ok (.aload_n 0, 1) := by decide +kernel
theorem dX12_burns_22 : decode cX12_burns 22 = .ok (.getfield 7, 3) := by decide +kernel
theorem dX12_burns_25 : decode cX12_burns 25 = .ok (.bipush 22, 2) := by decide +kernel
theorem dX12_burns_27 : decode cX12_burns 27 = .ok (.iload_n 1, 1) := by decide +kernel
theorem dX12_burns_28 : decode cX12_burns 28 = .ok (.iadd, 1) := by decide +kernel
theorem dX12_burns_29 : decode cX12_burns 29 = .ok (.iaload, 1) := by decide +kernel
theorem dX12_burns_30 : decode cX12_burns 30 = .ok (.if_icmp .lt 19, 3) := by decide +kernel
theorem dX12_burns_33 : decode cX12_burns 33 = .ok (.aload_n 0, 1) := by decide +kernel
theorem dX12_burns_34 : decode cX12_burns 34 = .ok (.getfield 7, 3) := by decide +kernel
theorem dX12_burns_37 : decode cX12_burns 37 = .ok (.bipush 46, 2) := by decide +kernel
theorem dX12_burns_39 : decode cX12_burns 39 = .ok (.iload_n 1, 1) := by decide +kernel
theorem dX12_burns_40 : decode cX12_burns 40 = .ok (.iadd, 1) := by decide +kernel
theorem dX12_burns_41 : decode cX12_burns 41 = .ok (.iaload, 1) := by decide +kernel
theorem dX12_burns_42 : decode cX12_burns 42 = .ok (.ifCond .le 7, 3) := by decide +kernel
theorem dX12_burns_45 : decode cX12_burns 45 = .ok (.iconst 1, 1) := by decide +kernel
theorem dX12_burns_46 : decode cX12_burns 46 = .ok (.goto 4, 3) := by decide +kernel
theorem dX12_burns_49 : decode cX12_burns 49 = .ok (.iconst 0, 1) := by decide +kernel
theorem dX12_burns_50 : decode cX12_burns 50 = .ok (.ireturn, 1) := by decide +kernel
set_option maxRecDepth 20000 in
theorem ggX12_burningLamps_X12_burns : GoodIn wsX12_burningLamps wsX12_burns := goodIn_ca (goodIn_r _ [6, 1, 7, 8, 9, 10, 11, 12, 13, 14, 15, 16, 17, 18, 19, 20, 21, 22] (by decide +kernel) (by decide +kernel)) (goodIn_sub (fun _ h => List.mem_cons_of_mem _ (List.mem_append_right _ h)) (by decide +kernel))
set_option maxRecDepth 20000 in
theorem gX12_burningLamps_X12_burns : GoodIn wsX12_burningLamps (wsV RX12 135 RX12 yX12_burns wsX12_burns) := goodIn_app (goodIn_of _ (by decide +kernel)) ggX12_burningLamps_X12_burns
theorem dX12_burningLamps_0 : decode cX12_burningLamps 0 = .ok (.iconst 0, 1) := by decide +kernel
theorem dX12_burningLamps_1 : decode cX12_burningLamps 1 = .ok (.istore_n 1, 1) := by decide +kernel
theorem dX12_burningLamps_2 : decode cX12_burningLamps 2 = .ok (.iconst 0, 1) := by decide +kernel
theorem dX12_burningLamps_3 : decode cX12_burningLamps 3 = .ok (.istore_n 2, 1) := by decide +kernel
theorem dX12_burningLamps_4 : decode cX12_burningLamps 4 = .ok (.iload_n 2, 1) := by decide +kernel
theorem dX12_burningLamps_5 : decode cX12_burningLamps 5 = .ok (.aload_n 0, 1) := by decide +kernel
theorem dX12_burningLamps_6 : decode cX12_burningLamps 6 = .ok (.getfield 7, 3) := by decide +kernel
theorem dX12_burningLamps_9 : decode cX12_burningLamps 9 = .ok (.iconst 0, 1) := by decide +kernel
theorem dX12_burningLamps_10 : decode cX12_burningLamps 10 = .ok (.iaload, 1) := by decide +kernel
theorem dX12_burningLamps_11 : decode cX12_burningLamps 11 = .ok (.if_icmp .ge 27, 3) := by decide +kernel
theorem dX12_burningLamps_14 : decode cX12_burningLamps 14 = .ok (.iload_n 1, 1) := by decide +kernel
theorem dX12_burningLamps_15 : decode cX12_burningLamps 15 = .ok (.aload_n 0, 1) := by decide +kernel
theorem dX12_burningLamps_16 : decode cX12_burningLamps 16 = .ok (.iload_n 2, 1) := by decide +kernel
theorem dX12_burningLamps_17 : decode cX12_burningLamps 17 = .ok (.invokevirtual 135, 3) := by decide +kernel
theorem dX12_burningLamps_20 : decode cX12_burningLamps 20 = .ok (.ifCond .eq 9, 3) := by decide +kernel
theorem dX12_burningLamps_23 : decode cX12_burningLamps 23 = .ok (.iconst 1, 1) := by decide +kernel
theorem dX12_burningLamps_24 : decode cX12_burningLamps 24 = .ok (.iload_n 2, 1) := by decide +kernel
theorem dX12_burningLamps_25 : decode cX12_burningLamps 25 = .ok (.ishl, 1) := by decide +kernel
theorem dX12_burningLamps_26 : decode cX12_burningLamps 26 = .ok (.goto 4, 3) := by decide +kernel
theorem dX12_burningLamps_29 : decode cX12_burningLamps 29 = .ok (.iconst 0, 1) := by decide +kernel
theorem dX12_burningLamps_30 : decode cX12_burningLamps 30 = .ok (.ior, 1) := by decide +kernel
theorem dX12_burningLamps_31 : decode cX12_burningLamps 31 = .ok (.istore_n 1, 1) := by decide +kernel
theorem dX12_burningLamps_32 : decode cX12_burningLamps 32 = .ok (.iinc 2 1, 3) := by decide +kernel
theorem dX12_burningLamps_35 : decode cX12_burningLamps 35 = .ok (.goto (-31), 3) := by decide +kernel
theorem dX12_burningLamps_38 : decode cX12_burningLamps 38 = .ok (.iload_n 1, 1) := by decide +kernel
theorem dX12_burningLamps_39 : decode cX12_burningLamps 39 = .ok (.ireturn, 1) := by decide +kernel
theorem dX12_mothActs_0 : decode cX12_mothActs 0 = .ok (.aload_n 0, 1) := by decide +kernel
theorem dX12_mothActs_1 : decode cX12_mothActs 1 = .ok (.getfield 7, 3) := by decide +kernel
theorem dX12_mothActs_4 : decode cX12_mothActs 4 = .ok (.bipush 62, 2) := by decide +kernel
theorem dX12_mothActs_6 : decode cX12_mothActs 6 = .ok (.iload_n 1, 1) := by decide +kernel
theorem dX12_mothActs_7 : decode cX12_mothActs 7 = .ok (.iadd, 1) := by decide +kernel
theorem dX12_mothActs_8 : decode cX12_mothActs 8 = .ok (.iaload, 1) := by decide +kernel
theorem dX12_mothActs_9 : decode cX12_mothActs 9 = .ok (.iconst 1, 1) := by decide +kernel
theorem dX12_mothActs_10 : decode cX12_mothActs 10 = .ok (.isub, 1) := by decide +kernel
theorem dX12_mothActs_11 : decode cX12_mothActs 11 = .ok (.istore_n 3, 1) := by decide +kernel
theorem dX12_mothActs_12 : decode cX12_mothActs 12 = .ok (.iload_n 3, 1) := by decide +kernel
theorem dX12_mothActs_13 : decode cX12_mothActs 13 = .ok (.iconst (-1), 1) := by decide +kernel
theorem dX12_mothActs_14 : decode cX12_mothActs 14 = .ok (.if_icmp .eq 16, 3) := by decide +kernel
theorem dX12_mothActs_17 : decode cX12_mothActs 17 = .ok (.iload_n 2, 1) := by decide +kernel
theorem dX12_mothActs_18 : decode cX12_mothActs 18 = .ok (.iload_n 3, 1) := by decide +kernel
theorem dX12_mothActs_19 : decode cX12_mothActs 19 = .ok (.ishr, 1) := by decide +kernel
theorem dX12_mothActs_20 : decode cX12_mothActs 20 = .ok (.iconst 1, 1) := by decide +kernel
theorem dX12_mothActs_21 : decode cX12_mothActs 21 = .ok (.iand, 1) := by decide +kernel
theorem dX12_mothActs_22 : decode cX12_mothActs 22 = .ok (.iconst 1, 1) := by decide +kernel
theorem dX12_mothActs_23 : decode cX12_mothActs 23 = .ok (.if_icmp .ne 7, 3) := by decide +kernel
theorem dX12_mothActs_26 : decode cX12_mothActs 26 = .ok (.iconst 1, 1) := by decide +kernel
theorem dX12_mothActs_27 : decode cX12_mothActs 27 = .ok (.goto 4, 3) := by decide +kernel
theorem dX12_mothActs_30 : decode cX12_mothActs 30 = .ok (.iconst 0, 1) := by decide +kernel
theorem dX12_mothActs_31 : decode cX12_mothActs 31 = .ok (.istore 4, 2) := by decide +kernel
theorem dX12_mothActs_33 : decode cX12_mothActs 33 = .ok (.aload_n 0, 1) := by decide +kernel
theorem dX12_mothActs_34 : decode cX12_mothActs 34 = .ok (.getfield 7, 3) := by decide +kernel
theorem dX12_mothActs_37 : decode cX12_mothActs 37 = .ok (.bipush 74, 2) := by decide +kernel
theorem dX12_mothActs_39 : decode cX12_mothActs 39 = .ok (.iload_n 1, 1) := by decide +kernel
theorem dX12_mothActs_40 : decode cX12_mothActs 40 = .ok (.iadd, 1) := by decide +kernel
theorem dX12_mothActs_41 : decode cX12_mothActs 41 = .ok (.iaload, 1) := by decide +kernel
theorem dX12_mothActs_42 : decode cX12_mothActs 42 = .ok (.ifCond .ne 36, 3) := by decide +kernel
theorem dX12_mothActs_45 : decode cX12_mothActs 45 = .ok (.iload 4, 2) := by decide +kernel
theorem dX12_mothActs_47 : decode cX12_mothActs 47 = .ok (.ifCond .eq 65, 3) := by decide +kernel
theorem dX12_mothActs_50 : decode cX12_mothActs 50 = .ok (.aload_n 0, 1) := by decide +kernel
theorem dX12_mothActs_51 : decode cX12_mothActs 51 = .ok (.getfield 7, 3) := by decide +kernel
theorem dX12_mothActs_54 : decode cX12_mothActs 54 = .ok (.bipush 38, 2) := by decide +kernel
theorem dX12_mothActs_56 : decode cX12_mothActs 56 = .ok (.iload_n 3, 1) := by decide +kernel
theorem dX12_mothActs_57 : decode cX12_mothActs 57 = .ok (.iadd, 1) := by decide +kernel
theorem dX12_mothActs_58 : decode cX12_mothActs 58 = .ok (.iaload, 1) := by decide +kernel
theorem dX12_mothActs_59 : decode cX12_mothActs 59 = .ok (.ifCond .le 53, 3) := by decide +kernel
theorem dX12_mothActs_62 : decode cX12_mothActs 62 = .ok (.aload_n 0, 1) := by decide +kernel
theorem dX12_mothActs_63 : decode cX12_mothActs 63 = .ok (.getfield 7, 3) := by decide +kernel
theorem dX12_mothActs_66 : decode cX12_mothActs 66 = .ok (.bipush 38, 2) := by decide +kernel
theorem dX12_mothActs_68 : decode cX12_mothActs 68 = .ok (.iload_n 3, 1) := by decide +kernel
theorem dX12_mothActs_69 : decode cX12_mothActs 69 = .ok (.iadd, 1) := by decide +kernel
theorem dX12_mothActs_70 : decode cX12_mothActs 70 = .ok (.dup2, 1) := by decide +kernel
theorem dX12_mothActs_71 : decode cX12_mothActs 71 = .ok (.iaload, 1) := by decide +kernel
theorem dX12_mothActs_72 : decode cX12_mothActs 72 = .ok (.iconst 1, 1) := by decide +kernel
theorem dX12_mothActs_73 : decode cX12_mothActs 73 = .ok (.isub, 1) := by decide +kernel
theorem dX12_mothActs_74 : decode cX12_mothActs 74 = .ok (.iastore, 1) := by decide +kernel
theorem dX12_mothActs_75 : decode cX12_mothActs 75 = .ok (.goto 37, 3) := by decide +kernel
theorem dX12_mothActs_78 : decode cX12_mothActs 78 = .ok (.iload 4, 2) := by decide +kernel
theorem dX12_mothActs_80 : decode cX12_mothActs 80 = .ok (.ifCond .eq 19, 3) := by decide +kernel
theorem dX12_mothActs_83 : decode cX12_mothActs 83 = .ok (.aload_n 0, 1) := by decide +kernel
theorem dX12_mothActs_84 : decode cX12_mothActs 84 = .ok (.getfield 7, 3) := by decide +kernel
theorem dX12_mothActs_87 : decode cX12_mothActs 87 = .ok (.bipush 68, 2) := by decide +kernel
theorem dX12_mothActs_89 : decode cX12_mothActs 89 = .ok (.iload_n 1, 1) := by decide +kernel
theorem dX12_mothActs_90 : decode cX12_mothActs 90 = .ok (.iadd, 1) := by decide +kernel
theorem dX12_mothActs_91 : decode cX12_mothActs 91 = .ok (.dup2, 1) := by decide +kernel
theorem dX12_mothActs_92 : decode cX12_mothActs 92 = .ok (.iaload, 1) := by decide +kernel
theorem dX12_mothActs_93 : decode cX12_mothActs 93 = .ok (.iconst 1, 1) := by decide +kernel
theorem dX12_mothActs_94 : decode cX12_mothActs 94 = .ok (.iadd, 1) := by decide +kernel
theorem dX12_mothActs_95 : decode cX12_mothActs 95 = .ok (.iastore, 1) := by decide +kernel
theorem dX12_mothActs_96 : decode cX12_mothActs 96 = .ok (.goto 16, 3) := by decide +kernel
theorem dX12_mothActs_99 : decode cX12_mothActs 99 = .ok (.aload_n 0, 1) := by decide +kernel
theorem dX12_mothActs_100 : decode cX12_mothActs 100 = .ok (.getfield 7, 3) := by decide +kernel
theorem dX12_mothActs_103 : decode cX12_mothActs 103 = .ok (.bipush 74, 2) := by decide +kernel
theorem dX12_mothActs_105 : decode cX12_mothActs 105 = .ok (.iload_n 1, 1) := by decide +kernel
theorem dX12_mothActs_106 : decode cX12_mothActs 106 = .ok (.iadd, 1) := by decide +kernel
theorem dX12_mothActs_107 : decode cX12_mothActs 107 = .ok (.dup2, 1) := by decide +kernel
theorem dX12_mothActs_108 : decode cX12_mothActs 108 = .ok (.iaload, 1) := by decide +kernel
theorem dX12_mothActs_109 : decode cX12_mothActs 109 = .ok (.iconst 1, 1) := by decide +kernel
theorem dX12_mothActs_110 : decode cX12_mothActs 110 = .ok (.isub, 1) := by decide +kernel
theorem dX12_mothActs_111 : decode cX12_mothActs 111 = .ok (.iastore, 1) := by decide +kernel
theorem dX12_mothActs_112 : decode cX12_mothActs 112 = .ok (.return_, 1) := by decide +kernel
set_option maxRecDepth 20000 in
theorem ggX12_mothsLeave_X12_closesGap : GoodIn wsX12_mothsLeave wsX12_closesGap := goodIn_ca (goodIn_r _ [6, 1, 7, 8, 9, 10, 11, 12, 13, 14, 15, 16, 17, 18, 19, 20, 21, 22] (by decide +kernel) (by decide +kernel)) (goodIn_sub (fun _ h => List.mem_cons_of_mem _ (List.mem_append_right _ h)) (by decide +kernel))
set_option maxRecDepth 20000 in
theorem gX12_mothsLeave_X12_closesGap : GoodIn wsX12_mothsLeave (wsV RX12 74 RX12 yX12_closesGap wsX12_closesGap) := goodIn_app (goodIn_of _ (by decide +kernel)) ggX12_mothsLeave_X12_closesGap
theorem dX12_mothsLeave_0 : decode cX12_mothsLeave 0 = .ok (.aload_n 0, 1) := by decide +kernel
theorem dX12_mothsLeave_1 : decode cX12_mothsLeave 1 = .ok (.getfield 7, 3) := by decide +kernel
theorem dX12_mothsLeave_4 : decode cX12_mothsLeave 4 = .ok (.iconst 1, 1) := by decide +kernel
theorem dX12_mothsLeave_5 : decode cX12_mothsLeave 5 = .ok (.iaload, 1) := by decide +kernel
theorem dX12_mothsLeave_6 : decode cX12_mothsLeave 6 = .ok (.iconst 1, 1) := by decide +kernel
theorem dX12_mothsLeave_7 : decode cX12_mothsLeave 7 = .ok (.isub, 1) := by decide +kernel
theorem dX12_mothsLeave_8 : decode cX12_mothsLeave 8 = .ok (.istore_n 1, 1) := by decide +kernel
theorem dX12_mothsLeave_9 : decode cX12_mothsLeave 9 = .ok (.iload_n 1, 1) := by decide +kernel
theorem dX12_mothsLeave_10 : decode cX12_mothsLeave 10 = .ok (.ifCond .lt 59, 3) := by decide +kernel
theorem dX12_mothsLeave_13 : decode cX12_mothsLeave 13 = .ok (.aload_n 0, 1) := by decide +kernel
theorem dX12_mothsLeave_14 : decode cX12_mothsLeave 14 = .ok (.getfield 7, 3) := by decide +kernel
theorem dX12_mothsLeave_17 : decode cX12_mothsLeave 17 = .ok (.bipush 68, 2) := by decide +kernel
theorem dX12_mothsLeave_19 : decode cX12_mothsLeave 19 = .ok (.iload_n 1, 1) := by decide +kernel
theorem dX12_mothsLeave_20 : decode cX12_mothsLeave 20 = .ok (.iadd, 1) := by decide +kernel
theorem dX12_mothsLeave_21 : decode cX12_mothsLeave 21 = .ok (.iaload, 1) := by decide +kernel
theorem dX12_mothsLeave_22 : decode cX12_mothsLeave 22 = .ok (.iconst 2, 1) := by decide +kernel
theorem dX12_mothsLeave_23 : decode cX12_mothsLeave 23 = .ok (.if_icmp .ne 40, 3) := by decide +kernel
theorem dX12_mothsLeave_26 : decode cX12_mothsLeave 26 = .ok (.aload_n 0, 1) := by decide +kernel
theorem dX12_mothsLeave_27 : decode cX12_mothsLeave 27 = .ok (.bipush 62, 2) := by decide +kernel
theorem dX12_mothsLeave_29 : decode cX12_mothsLeave 29 = .ok (.iload_n 1, 1) := by decide +kernel
theorem dX12_mothsLeave_30 : decode cX12_mothsLeave 30 = .ok (.bipush 6, 2) := by decide +kernel
theorem dX12_mothsLeave_32 : decode cX12_mothsLeave 32 = .ok (.invokevirtual 74, 3) := by decide +kernel
theorem dX12_mothsLeave_35 : decode cX12_mothsLeave 35 = .ok (.aload_n 0, 1) := by decide +kernel
theorem dX12_mothsLeave_36 : decode cX12_mothsLeave 36 = .ok (.bipush 68, 2) := by decide +kernel
theorem dX12_mothsLeave_38 : decode cX12_mothsLeave 38 = .ok (.iload_n 1, 1) := by decide +kernel
theorem dX12_mothsLeave_39 : decode cX12_mothsLeave 39 = .ok (.bipush 6, 2) := by decide +kernel
theorem dX12_mothsLeave_41 : decode cX12_mothsLeave 41 = .ok (.invokevirtual 74, 3) := by decide +kernel
theorem dX12_mothsLeave_44 : decode cX12_mothsLeave 44 = .ok (.aload_n 0, 1) := by decide +kernel
theorem dX12_mothsLeave_45 : decode cX12_mothsLeave 45 = .ok (.bipush 74, 2) := by decide +kernel
theorem dX12_mothsLeave_47 : decode cX12_mothsLeave 47 = .ok (.iload_n 1, 1) := by decide +kernel
theorem dX12_mothsLeave_48 : decode cX12_mothsLeave 48 = .ok (.bipush 6, 2) := by decide +kernel
theorem dX12_mothsLeave_50 : decode cX12_mothsLeave 50 = .ok (.invokevirtual 74, 3) := by decide +kernel
theorem dX12_mothsLeave_53 : decode cX12_mothsLeave 53 = .ok (.aload_n 0, 1) := by decide +kernel
theorem dX12_mothsLeave_54 : decode cX12_mothsLeave 54 = .ok (.getfield 7, 3) := by decide +kernel
theorem dX12_mothsLeave_57 : decode cX12_mothsLeave 57 = .ok (.iconst 1, 1) := by decide +kernel
theorem dX12_mothsLeave_58 : decode cX12_mothsLeave 58 = .ok (.dup2, 1) := by decide +kernel
theorem dX12_mothsLeave_59 : decode cX12_mothsLeave 59 = .ok (.iaload, 1) := by decide +kernel
theorem dX12_mothsLeave_60 : decode cX12_mothsLeave 60 = .ok (.iconst 1, 1) := by decide +kernel
theorem dX12_mothsLeave_61 : decode cX12_mothsLeave 61 = .ok (.isub, 1) := by decide +kernel
theorem dX12_mothsLeave_62 : decode cX12_mothsLeave 62 = .ok (.iastore, 1) := by decide +kernel
theorem dX12_mothsLeave_63 : decode cX12_mothsLeave 63 = .ok (.iinc 1 (-1), 3) := by decide +kernel
theorem dX12_mothsLeave_66 : decode cX12_mothsLeave 66 = .ok (.goto (-57), 3) := by decide +kernel
theorem dX12_mothsLeave_69 : decode cX12_mothsLeave 69 = .ok (.return_, 1) := by decide +kernel
set_option maxRecDepth 20000 in
theorem ggX12_passesNight_X12_burningLamps : GoodIn wsX12_passesNight wsX12_burningLamps := goodIn_ca (goodIn_r _ [6, 1, 7, 8, 9, 5, 10, 28, 29, 30, 31, 32, 33, 34, 35, 36, 37, 38, 39, 40, 41, 42, 43] (by decide +kernel) (by decide +kernel)) (goodIn_sub (fun _ h => List.mem_cons_of_mem _ (List.mem_append_right _ h)) (by decide +kernel))
set_option maxRecDepth 20000 in
theorem gX12_passesNight_X12_burningLamps : GoodIn wsX12_passesNight (wsV RX12 138 RX12 yX12_burningLamps wsX12_burningLamps) := goodIn_app (goodIn_of _ (by decide +kernel)) ggX12_passesNight_X12_burningLamps
set_option maxRecDepth 20000 in
theorem ggX12_passesNight_X12_mothActs : GoodIn wsX12_passesNight wsX12_mothActs := goodIn_ca (goodIn_r _ [14, 1, 28, 29, 30, 31, 32, 33, 34, 35, 36, 37, 38, 39, 40, 41, 42, 43] (by decide +kernel) (by decide +kernel)) (goodIn_sub (fun _ h => List.mem_cons_of_mem _ (List.mem_append_right _ h)) (by decide +kernel))
set_option maxRecDepth 20000 in
theorem gX12_passesNight_X12_mothActs : GoodIn wsX12_passesNight (wsV RX12 141 RX12 yX12_mothActs wsX12_mothActs) := goodIn_app (goodIn_of _ (by decide +kernel)) ggX12_passesNight_X12_mothActs
set_option maxRecDepth 20000 in
theorem ggX12_passesNight_X12_mothsLeave : GoodIn wsX12_passesNight wsX12_mothsLeave := goodIn_ca (goodIn_r _ [18, 1, 19, 20, 21, 5, 22, 28, 29, 30, 31, 32, 33, 34, 35, 36, 37, 38, 39, 40, 41, 42, 43] (by decide +kernel) (by decide +kernel)) (goodIn_sub (fun _ h => List.mem_cons_of_mem _ (List.mem_append_right _ h)) (by decide +kernel))
set_option maxRecDepth 20000 in
theorem gX12_passesNight_X12_mothsLeave : GoodIn wsX12_passesNight (wsV RX12 145 RX12 yX12_mothsLeave wsX12_mothsLeave) := goodIn_app (goodIn_of _ (by decide +kernel)) ggX12_passesNight_X12_mothsLeave
set_option maxRecDepth 20000 in
theorem ggX12_passesNight_X12_done : GoodIn wsX12_passesNight wsX12_done := goodIn_r _ [26, 27, 28, 29, 30, 31, 32, 33, 34, 35, 36, 37, 38, 39, 40, 41, 42, 43] (by decide +kernel) (by decide +kernel)
set_option maxRecDepth 20000 in
theorem gX12_passesNight_X12_done : GoodIn wsX12_passesNight (wsV RX12 57 RX12 yX12_done wsX12_done) := goodIn_app (goodIn_of _ (by decide +kernel)) ggX12_passesNight_X12_done
theorem dX12_passesNight_0 : decode cX12_passesNight 0 = .ok (.aload_n 0, 1) := by decide +kernel
theorem dX12_passesNight_1 : decode cX12_passesNight 1 = .ok (.invokevirtual 138, 3) := by decide +kernel
theorem dX12_passesNight_4 : decode cX12_passesNight 4 = .ok (.istore_n 1, 1) := by decide +kernel
theorem dX12_passesNight_5 : decode cX12_passesNight 5 = .ok (.iconst 0, 1) := by decide +kernel
theorem dX12_passesNight_6 : decode cX12_passesNight 6 = .ok (.istore_n 2, 1) := by decide +kernel
theorem dX12_passesNight_7 : decode cX12_passesNight 7 = .ok (.iconst 0, 1) := by decide +kernel
theorem dX12_passesNight_8 : decode cX12_passesNight 8 = .ok (.istore_n 3, 1) := by decide +kernel
theorem dX12_passesNight_9 : decode cX12_passesNight 9 = .ok (.iconst 0, 1) := by decide +kernel
theorem dX12_passesNight_10 : decode cX12_passesNight 10 = .ok (.istore 4, 2) := by decide +kernel
theorem dX12_passesNight_12 : decode cX12_passesNight 12 = .ok (.iload 4, 2) := by decide +kernel
theorem dX12_passesNight_14 : decode cX12_passesNight 14 = .ok (.aload_n 0, 1) := by decide +kernel
theorem dX12_passesNight_15 : decode cX12_passesNight 15 = .ok (.getfield 7, 3) := by decide +kernel
theorem dX12_passesNight_18 : decode cX12_passesNight 18 = .ok (.iconst 0, 1) := by decide +kernel
theorem dX12_passesNight_19 : decode cX12_passesNight 19 = .ok (.iaload, 1) := by decide +kernel
theorem dX12_passesNight_20 : decode cX12_passesNight 20 = .ok (.if_icmp .ge 74, 3) := by decide +kernel
theorem dX12_passesNight_23 : decode cX12_passesNight 23 = .ok (.iload_n 1, 1) := by decide +kernel
theorem dX12_passesNight_24 : decode cX12_passesNight 24 = .ok (.iload 4, 2) := by decide +kernel
theorem dX12_passesNight_26 : decode cX12_passesNight 26 = .ok (.ishr, 1) := by decide +kernel
theorem dX12_passesNight_27 : decode cX12_passesNight 27 = .ok (.iconst 1, 1) := by decide +kernel
theorem dX12_passesNight_28 : decode cX12_passesNight 28 = .ok (.iand, 1) := by decide +kernel
theorem dX12_passesNight_29 : decode cX12_passesNight 29 = .ok (.iconst 1, 1) := by decide +kernel
theorem dX12_passesNight_30 : decode cX12_passesNight 30 = .ok (.if_icmp .ne 58, 3) := by decide +kernel
theorem dX12_passesNight_33 : decode cX12_passesNight 33 = .ok (.aload_n 0, 1) := by decide +kernel
theorem dX12_passesNight_34 : decode cX12_passesNight 34 = .ok (.getfield 7, 3) := by decide +kernel
theorem dX12_passesNight_37 : decode cX12_passesNight 37 = .ok (.bipush 38, 2) := by decide +kernel
theorem dX12_passesNight_39 : decode cX12_passesNight 39 = .ok (.iload 4, 2) := by decide +kernel
theorem dX12_passesNight_41 : decode cX12_passesNight 41 = .ok (.iadd, 1) := by decide +kernel
theorem dX12_passesNight_42 : decode cX12_passesNight 42 = .ok (.dup2, 1) := by decide +kernel
theorem dX12_passesNight_43 : decode cX12_passesNight 43 = .ok (.iaload, 1) := by decide +kernel
theorem dX12_passesNight_44 : decode cX12_passesNight 44 = .ok (.aload_n 0, 1) := by decide +kernel
theorem dX12_passesNight_45 : decode cX12_passesNight 45 = .ok (.getfield 7, 3) := by decide +kernel
theorem dX12_passesNight_48 : decode cX12_passesNight 48 = .ok (.bipush 22, 2) := by decide +kernel
theorem dX12_passesNight_50 : decode cX12_passesNight 50 = .ok (.iload 4, 2) := by decide +kernel
theorem dX12_passesNight_52 : decode cX12_passesNight 52 = .ok (.iadd, 1) := by decide +kernel
theorem dX12_passesNight_53 : decode cX12_passesNight 53 = .ok (.iaload, 1) := by decide +kernel
theorem dX12_passesNight_54 : decode cX12_passesNight 54 = .ok (.isub, 1) := by decide +kernel
theorem dX12_passesNight_55 : decode cX12_passesNight 55 = .ok (.iastore, 1) := by decide +kernel
theorem dX12_passesNight_56 : decode cX12_passesNight 56 = .ok (.aload_n 0, 1) := by decide +kernel
theorem dX12_passesNight_57 : decode cX12_passesNight 57 = .ok (.getfield 7, 3) := by decide +kernel
theorem dX12_passesNight_60 : decode cX12_passesNight 60 = .ok (.bipush 46, 2) := by decide +kernel
theorem dX12_passesNight_62 : decode cX12_passesNight 62 = .ok (.iload 4, 2) := by decide +kernel
theorem dX12_passesNight_64 : decode cX12_passesNight 64 = .ok (.iadd, 1) := by decide +kernel
theorem dX12_passesNight_65 : decode cX12_passesNight 65 = .ok (.dup2, 1) := by decide +kernel
theorem dX12_passesNight_66 : decode cX12_passesNight 66 = .ok (.iaload, 1) := by decide +kernel
theorem dX12_passesNight_67 : decode cX12_passesNight 67 = .ok (.iconst 1, 1) := by decide +kernel
theorem dX12_passesNight_68 : decode cX12_passesNight 68 = .ok (.isub, 1) := by decide +kernel
theorem dX12_passesNight_69 : decode cX12_passesNight 69 = .ok (.iastore, 1) := by decide +kernel
theorem dX12_passesNight_70 : decode cX12_passesNight 70 = .ok (.iload_n 2, 1) := by decide +kernel
theorem dX12_passesNight_71 : decode cX12_passesNight 71 = .ok (.iconst 1, 1) := by decide +kernel
theorem dX12_passesNight_72 : decode cX12_passesNight 72 = .ok (.aload_n 0, 1) := by decide +kernel
theorem dX12_passesNight_73 : decode cX12_passesNight 73 = .ok (.getfield 7, 3) := by decide +kernel
theorem dX12_passesNight_76 : decode cX12_passesNight 76 = .ok (.bipush 6, 2) := by decide +kernel
theorem dX12_passesNight_78 : decode cX12_passesNight 78 = .ok (.iload 4, 2) := by decide +kernel
theorem dX12_passesNight_80 : decode cX12_passesNight 80 = .ok (.iadd, 1) := by decide +kernel
theorem dX12_passesNight_81 : decode cX12_passesNight 81 = .ok (.iaload, 1) := by decide +kernel
theorem dX12_passesNight_82 : decode cX12_passesNight 82 = .ok (.ishl, 1) := by decide +kernel
theorem dX12_passesNight_83 : decode cX12_passesNight 83 = .ok (.ior, 1) := by decide +kernel
theorem dX12_passesNight_84 : decode cX12_passesNight 84 = .ok (.istore_n 2, 1) := by decide +kernel
theorem dX12_passesNight_85 : decode cX12_passesNight 85 = .ok (.iinc 3 1, 3) := by decide +kernel
theorem dX12_passesNight_88 : decode cX12_passesNight 88 = .ok (.iinc 4 1, 3) := by decide +kernel
theorem dX12_passesNight_91 : decode cX12_passesNight 91 = .ok (.goto (-79), 3) := by decide +kernel
theorem dX12_passesNight_94 : decode cX12_passesNight 94 = .ok (.iconst 0, 1) := by decide +kernel
theorem dX12_passesNight_95 : decode cX12_passesNight 95 = .ok (.istore 4, 2) := by decide +kernel
theorem dX12_passesNight_97 : decode cX12_passesNight 97 = .ok (.iload 4, 2) := by decide +kernel
theorem dX12_passesNight_99 : decode cX12_passesNight 99 = .ok (.aload_n 0, 1) := by decide +kernel
theorem dX12_passesNight_100 : decode cX12_passesNight 100 = .ok (.getfield 7, 3) := by decide +kernel
theorem dX12_passesNight_103 : decode cX12_passesNight 103 = .ok (.iconst 1, 1) := by decide +kernel
theorem dX12_passesNight_104 : decode cX12_passesNight 104 = .ok (.iaload, 1) := by decide +kernel
theorem dX12_passesNight_105 : decode cX12_passesNight 105 = .ok (.if_icmp .ge 16, 3) := by decide +kernel
theorem dX12_passesNight_108 : decode cX12_passesNight 108 = .ok (.aload_n 0, 1) := by decide +kernel
theorem dX12_passesNight_109 : decode cX12_passesNight 109 = .ok (.iload 4, 2) := by decide +kernel
theorem dX12_passesNight_111 : decode cX12_passesNight 111 = .ok (.iload_n 1, 1) := by decide +kernel
theorem dX12_passesNight_112 : decode cX12_passesNight 112 = .ok (.invokevirtual 141, 3) := by decide +kernel
theorem dX12_passesNight_115 : decode cX12_passesNight 115 = .ok (.iinc 4 1, 3) := by decide +kernel
theorem dX12_passesNight_118 : decode cX12_passesNight 118 = .ok (.goto (-21), 3) := by decide +kernel
theorem dX12_passesNight_121 : decode cX12_passesNight 121 = .ok (.aload_n 0, 1) := by decide +kernel
theorem dX12_passesNight_122 : decode cX12_passesNight 122 = .ok (.invokevirtual 145, 3) := by decide +kernel
theorem dX12_passesNight_125 : decode cX12_passesNight 125 = .ok (.iconst 0, 1) := by decide +kernel
theorem dX12_passesNight_126 : decode cX12_passesNight 126 = .ok (.istore 4, 2) := by decide +kernel
theorem dX12_passesNight_128 : decode cX12_passesNight 128 = .ok (.iload 4, 2) := by decide +kernel
theorem dX12_passesNight_130 : decode cX12_passesNight 130 = .ok (.iconst 4, 1) := by decide +kernel
theorem dX12_passesNight_131 : decode cX12_passesNight 131 = .ok (.if_icmp .ge 33, 3) := by decide +kernel
theorem dX12_passesNight_134 : decode cX12_passesNight 134 = .ok (.aload_n 0, 1) := by decide +kernel
theorem dX12_passesNight_135 : decode cX12_passesNight 135 = .ok (.getfield 7, 3) := by decide +kernel
theorem dX12_passesNight_138 : decode cX12_passesNight 138 = .ok (.iconst 5, 1) := by decide +kernel
theorem dX12_passesNight_139 : decode cX12_passesNight 139 = .ok (.dup2, 1) := by decide +kernel
theorem dX12_passesNight_140 : decode cX12_passesNight 140 = .ok (.iaload, 1) := by decide +kernel
theorem dX12_passesNight_141 : decode cX12_passesNight 141 = .ok (.iload_n 2, 1) := by decide +kernel
theorem dX12_passesNight_142 : decode cX12_passesNight 142 = .ok (.iload 4, 2) := by decide +kernel
theorem dX12_passesNight_144 : decode cX12_passesNight 144 = .ok (.ishr, 1) := by decide +kernel
theorem dX12_passesNight_145 : decode cX12_passesNight 145 = .ok (.iconst 1, 1) := by decide +kernel
theorem dX12_passesNight_146 : decode cX12_passesNight 146 = .ok (.iand, 1) := by decide +kernel
theorem dX12_passesNight_147 : decode cX12_passesNight 147 = .ok (.iconst 1, 1) := by decide +kernel
theorem dX12_passesNight_148 : decode cX12_passesNight 148 = .ok (.if_icmp .ne 7, 3) := by decide +kernel
theorem dX12_passesNight_151 : decode cX12_passesNight 151 = .ok (.iconst 0, 1) := by decide +kernel
theorem dX12_passesNight_152 : decode cX12_passesNight 152 = .ok (.goto 4, 3) := by decide +kernel
theorem dX12_passesNight_155 : decode cX12_passesNight 155 = .ok (.iconst 3, 1) := by decide +kernel
theorem dX12_passesNight_156 : decode cX12_passesNight 156 = .ok (.iadd, 1) := by decide +kernel
theorem dX12_passesNight_157 : decode cX12_passesNight 157 = .ok (.iastore, 1) := by decide +kernel
theorem dX12_passesNight_158 : decode cX12_passesNight 158 = .ok (.iinc 4 1, 3) := by decide +kernel
theorem dX12_passesNight_161 : decode cX12_passesNight 161 = .ok (.goto (-33), 3) := by decide +kernel
theorem dX12_passesNight_164 : decode cX12_passesNight 164 = .ok (.aload_n 0, 1) := by decide +kernel
theorem dX12_passesNight_165 : decode cX12_passesNight 165 = .ok (.getfield 7, 3) := by decide +kernel
theorem dX12_passesNight_168 : decode cX12_passesNight 168 = .ok (.iconst 2, 1) := by decide +kernel
theorem dX12_passesNight_169 : decode cX12_passesNight 169 = .ok (.dup2, 1) := by decide +kernel
theorem dX12_passesNight_170 : decode cX12_passesNight 170 = .ok (.iaload, 1) := by decide +kernel
theorem dX12_passesNight_171 : decode cX12_passesNight 171 = .ok (.iconst 1, 1) := by decide +kernel
theorem dX12_passesNight_172 : decode cX12_passesNight 172 = .ok (.iadd, 1) := by decide +kernel
theorem dX12_passesNight_173 : decode cX12_passesNight 173 = .ok (.iastore, 1) := by decide +kernel
theorem dX12_passesNight_174 : decode cX12_passesNight 174 = .ok (.aload_n 0, 1) := by decide +kernel
theorem dX12_passesNight_175 : decode cX12_passesNight 175 = .ok (.iload_n 3, 1) := by decide +kernel
theorem dX12_passesNight_176 : decode cX12_passesNight 176 = .ok (.invokevirtual 57, 3) := by decide +kernel
theorem dX12_passesNight_179 : decode cX12_passesNight 179 = .ok (.ireturn, 1) := by decide +kernel
set_option maxRecDepth 20000 in
theorem ggX12_burnNight_X12_begin : GoodIn wsX12_burnNight wsX12_begin := goodIn_ca (goodIn_r _ [5, 6, 7, 8, 9, 4, 10, 46, 47, 48, 49, 50, 51, 52, 53, 54, 55, 56, 57, 58, 59, 60, 61] (by decide +kernel) (by decide +kernel)) (goodIn_sub (fun _ h => List.mem_cons_of_mem _ (List.mem_append_right _ h)) (by decide +kernel))
set_option maxRecDepth 20000 in
theorem gX12_burnNight_X12_begin : GoodIn wsX12_burnNight (wsV RX12 60 RX12 yX12_begin wsX12_begin) := goodIn_app (goodIn_of _ (by decide +kernel)) ggX12_burnNight_X12_begin
set_option maxRecDepth 20000 in
theorem ggX12_burnNight_X12_passesNight : GoodIn wsX12_burnNight wsX12_passesNight := goodIn_ca (goodIn_r _ [14, 6, 15, 16, 17, 4, 18, 19, 20, 21, 22, 23, 24, 25, 26, 27, 28, 29, 30, 31, 32, 33, 34, 35, 36, 37, 38, 39, 46, 47, 48, 49, 50, 51, 52, 53, 54, 55, 56, 57, 58, 59, 60, 61] (by decide +kernel) (by decide +kernel)) (goodIn_sub (fun _ h => List.mem_cons_of_mem _ (List.mem_append_right _ h)) (by decide +kernel))
set_option maxRecDepth 20000 in
theorem gX12_burnNight_X12_passesNight : GoodIn wsX12_burnNight (wsV RX12 148 RX12 yX12_passesNight wsX12_passesNight) := goodIn_app (goodIn_of _ (by decide +kernel)) ggX12_burnNight_X12_passesNight
set_option maxRecDepth 20000 in
theorem ggX12_burnNight_X12_kept : GoodIn wsX12_burnNight wsX12_kept := goodIn_ca (goodIn_r _ [43, 39, 7, 6, 44, 45, 8, 9, 4, 10, 46, 47, 48, 49, 50, 51, 52, 53, 54, 55, 56, 57, 58, 59, 60, 61] (by decide +kernel) (by decide +kernel)) (goodIn_sub (fun _ h => List.mem_cons_of_mem _ (List.mem_append_right _ h)) (by decide +kernel))
set_option maxRecDepth 20000 in
theorem gX12_burnNight_X12_kept : GoodIn wsX12_burnNight (wsV RX12 67 RX12 yX12_kept wsX12_kept) := goodIn_app (goodIn_of _ (by decide +kernel)) ggX12_burnNight_X12_kept
theorem dX12_burnNight_0 : decode cX12_burnNight 0 = .ok (.aload_n 0, 1) := by decide +kernel
theorem dX12_burnNight_1 : decode cX12_burnNight 1 = .ok (.invokevirtual 60, 3) := by decide +kernel
theorem dX12_burnNight_4 : decode cX12_burnNight 4 = .ok (.aload_n 0, 1) := by decide +kernel
theorem dX12_burnNight_5 : decode cX12_burnNight 5 = .ok (.aload_n 0, 1) := by decide +kernel
theorem dX12_burnNight_6 : decode cX12_burnNight 6 = .ok (.invokevirtual 148, 3) := by decide +kernel
theorem dX12_burnNight_9 : decode cX12_burnNight 9 = .ok (.invokevirtual 67, 3) := by decide +kernel
theorem dX12_burnNight_12 : decode cX12_burnNight 12 = .ok (.ireturn, 1) := by decide +kernel
set_option maxRecDepth 20000 in
theorem ggX12_nightCount_X12_done : GoodIn wsX12_nightCount wsX12_done := goodIn_r _ [6, 7, 8, 9, 10, 11, 12, 13, 14, 15, 16, 17, 18, 19, 20, 21, 22, 23] (by decide +kernel) (by decide +kernel)
set_option maxRecDepth 20000 in
theorem gX12_nightCount_X12_done : GoodIn wsX12_nightCount (wsV RX12 57 RX12 yX12_done wsX12_done) := goodIn_app (goodIn_of _ (by decide +kernel)) ggX12_nightCount_X12_done
theorem dX12_nightCount_0 : decode cX12_nightCount 0 = .ok (.aload_n 0, 1) := by decide +kernel
theorem dX12_nightCount_1 : decode cX12_nightCount 1 = .ok (.aload_n 0, 1) := by decide +kernel
theorem dX12_nightCount_2 : decode cX12_nightCount 2 = .ok (.getfield 7, 3) := by decide +kernel
theorem dX12_nightCount_5 : decode cX12_nightCount 5 = .ok (.iconst 2, 1) := by decide +kernel
theorem dX12_nightCount_6 : decode cX12_nightCount 6 = .ok (.iaload, 1) := by decide +kernel
theorem dX12_nightCount_7 : decode cX12_nightCount 7 = .ok (.invokevirtual 57, 3) := by decide +kernel
theorem dX12_nightCount_10 : decode cX12_nightCount 10 = .ok (.ireturn, 1) := by decide +kernel
set_option maxRecDepth 20000 in
theorem ggX12_canBurn_X12_isLamp : GoodIn wsX12_canBurn wsX12_isLamp := goodIn_ca (goodIn_r _ [6, 7, 8, 9, 5, 10, 15, 16, 17, 18, 19, 20, 21, 22, 23, 24, 25, 26, 27, 28, 29, 30] (by decide +kernel) (by decide +kernel)) (goodIn_sub (fun _ h => List.mem_cons_of_mem _ (List.mem_append_right _ h)) (by decide +kernel))
set_option maxRecDepth 20000 in
theorem gX12_canBurn_X12_isLamp : GoodIn wsX12_canBurn (wsV RX12 70 RX12 yX12_isLamp wsX12_isLamp) := goodIn_app (goodIn_of _ (by decide +kernel)) ggX12_canBurn_X12_isLamp
set_option maxRecDepth 20000 in
theorem ggX12_canBurn_X12_burns : GoodIn wsX12_canBurn wsX12_burns := goodIn_ca (goodIn_r _ [14, 7, 15, 16, 17, 18, 19, 20, 21, 22, 23, 24, 25, 26, 27, 28, 29, 30] (by decide +kernel) (by decide +kernel)) (goodIn_sub (fun _ h => List.mem_cons_of_mem _ (List.mem_append_right _ h)) (by decide +kernel))
set_option maxRecDepth 20000 in
theorem gX12_canBurn_X12_burns : GoodIn wsX12_canBurn (wsV RX12 135 RX12 yX12_burns wsX12_burns) := goodIn_app (goodIn_of _ (by decide +kernel)) ggX12_canBurn_X12_burns
theorem dX12_canBurn_0 : decode cX12_canBurn 0 = .ok (.aload_n 0, 1) := by decide +kernel
theorem dX12_canBurn_1 : decode cX12_canBurn 1 = .ok (.aload_n 0, 1) := by decide +kernel
theorem dX12_canBurn_2 : decode cX12_canBurn 2 = .ok (.iload_n 1, 1) := by decide +kernel
theorem dX12_canBurn_3 : decode cX12_canBurn 3 = .ok (.invokevirtual 70, 3) := by decide +kernel
theorem dX12_canBurn_6 : decode cX12_canBurn 6 = .ok (.ifCond .eq 7, 3) := by decide +kernel
theorem dX12_canBurn_9 : decode cX12_canBurn 9 = .ok (.iconst 0, 1) := by decide +kernel
theorem dX12_canBurn_10 : decode cX12_canBurn 10 = .ok (.goto 4, 3) := by decide +kernel
theorem dX12_canBurn_13 : decode cX12_canBurn 13 = .ok (.iconst 1, 1) := by decide +kernel
theorem dX12_canBurn_14 : decode cX12_canBurn 14 = .ok (.putfield 39, 3) := by decide +kernel
theorem dX12_canBurn_17 : decode cX12_canBurn 17 = .ok (.aload_n 0, 1) := by decide +kernel
theorem dX12_canBurn_18 : decode cX12_canBurn 18 = .ok (.getfield 39, 3) := by decide +kernel
theorem dX12_canBurn_21 : decode cX12_canBurn 21 = .ok (.ifCond .ne 15, 3) := by decide +kernel
theorem dX12_canBurn_24 : decode cX12_canBurn 24 = .ok (.aload_n 0, 1) := by decide +kernel
theorem dX12_canBurn_25 : decode cX12_canBurn 25 = .ok (.iload_n 1, 1) := by decide +kernel
theorem dX12_canBurn_26 : decode cX12_canBurn 26 = .ok (.invokevirtual 135, 3) := by decide +kernel
theorem dX12_canBurn_29 : decode cX12_canBurn 29 = .ok (.ifCond .eq 7, 3) := by decide +kernel
theorem dX12_canBurn_32 : decode cX12_canBurn 32 = .ok (.iconst 1, 1) := by decide +kernel
theorem dX12_canBurn_33 : decode cX12_canBurn 33 = .ok (.goto 4, 3) := by decide +kernel
theorem dX12_canBurn_36 : decode cX12_canBurn 36 = .ok (.iconst 0, 1) := by decide +kernel
theorem dX12_canBurn_37 : decode cX12_canBurn 37 = .ok (.ireturn, 1) := by decide +kernel
set_option maxRecDepth 20000 in
theorem ggX12_lasting_X12_least : GoodIn wsX12_lasting wsX12_least := goodIn_r _ [5] (by decide +kernel) (by decide +kernel)
set_option maxRecDepth 20000 in
theorem gX12_lasting_X12_least : GoodIn wsX12_lasting (va_wsS RX12 104 yX12_least wsX12_least) := goodIn_app (goodIn_of _ (by decide +kernel)) ggX12_lasting_X12_least
theorem dX12_lasting_0 : decode cX12_lasting 0 = .ok (.aload_n 0, 1) := by decide +kernel
theorem dX12_lasting_1 : decode cX12_lasting 1 = .ok (.getfield 7, 3) := by decide +kernel
theorem dX12_lasting_4 : decode cX12_lasting 4 = .ok (.bipush 38, 2) := by decide +kernel
theorem dX12_lasting_6 : decode cX12_lasting 6 = .ok (.iload_n 1, 1) := by decide +kernel
theorem dX12_lasting_7 : decode cX12_lasting 7 = .ok (.iadd, 1) := by decide +kernel
theorem dX12_lasting_8 : decode cX12_lasting 8 = .ok (.iaload, 1) := by decide +kernel
theorem dX12_lasting_9 : decode cX12_lasting 9 = .ok (.aload_n 0, 1) := by decide +kernel
theorem dX12_lasting_10 : decode cX12_lasting 10 = .ok (.getfield 7, 3) := by decide +kernel
theorem dX12_lasting_13 : decode cX12_lasting 13 = .ok (.bipush 22, 2) := by decide +kernel
theorem dX12_lasting_15 : decode cX12_lasting 15 = .ok (.iload_n 1, 1) := by decide +kernel
theorem dX12_lasting_16 : decode cX12_lasting 16 = .ok (.iadd, 1) := by decide +kernel
theorem dX12_lasting_17 : decode cX12_lasting 17 = .ok (.iaload, 1) := by decide +kernel
theorem dX12_lasting_18 : decode cX12_lasting 18 = .ok (.idiv, 1) := by decide +kernel
theorem dX12_lasting_19 : decode cX12_lasting 19 = .ok (.aload_n 0, 1) := by decide +kernel
theorem dX12_lasting_20 : decode cX12_lasting 20 = .ok (.getfield 7, 3) := by decide +kernel
theorem dX12_lasting_23 : decode cX12_lasting 23 = .ok (.bipush 46, 2) := by decide +kernel
theorem dX12_lasting_25 : decode cX12_lasting 25 = .ok (.iload_n 1, 1) := by decide +kernel
theorem dX12_lasting_26 : decode cX12_lasting 26 = .ok (.iadd, 1) := by decide +kernel
theorem dX12_lasting_27 : decode cX12_lasting 27 = .ok (.iaload, 1) := by decide +kernel
theorem dX12_lasting_28 : decode cX12_lasting 28 = .ok (.invokestatic 104, 3) := by decide +kernel
theorem dX12_lasting_31 : decode cX12_lasting 31 = .ok (.ireturn, 1) := by decide +kernel
set_option maxRecDepth 20000 in
theorem ggX12_nightsOf_X12_isLamp : GoodIn wsX12_nightsOf wsX12_isLamp := goodIn_ca (goodIn_r _ [5, 6, 7, 8, 4, 9, 26, 27, 28, 29, 30, 31, 32, 33, 34, 35, 36, 37, 38, 39, 40, 41] (by decide +kernel) (by decide +kernel)) (goodIn_sub (fun _ h => List.mem_cons_of_mem _ (List.mem_append_left _ (List.mem_append_right _ h))) (by decide +kernel))
set_option maxRecDepth 20000 in
theorem gX12_nightsOf_X12_isLamp : GoodIn wsX12_nightsOf (wsV RX12 70 RX12 yX12_isLamp wsX12_isLamp) := goodIn_app (goodIn_of _ (by decide +kernel)) ggX12_nightsOf_X12_isLamp
set_option maxRecDepth 20000 in
theorem ggX12_nightsOf_X12_lasting : GoodIn wsX12_nightsOf wsX12_lasting := goodIn_ca (goodIn_ca (goodIn_r _ [13, 6, 14, 15, 4, 16, 26, 27, 28, 29, 30, 31, 32, 33, 34, 35, 36, 37, 38, 39, 40, 41] (by decide +kernel) (by decide +kernel)) (goodIn_sub (fun _ h => List.mem_cons_of_mem _ (List.mem_append_left _ (List.mem_append_right _ h))) (by decide +kernel))) (goodIn_sub (fun _ h => List.mem_cons_of_mem _ (List.mem_append_right _ h)) (by decide +kernel))
set_option maxRecDepth 20000 in
theorem gX12_nightsOf_X12_lasting : GoodIn wsX12_nightsOf (wsV RX12 151 RX12 yX12_lasting wsX12_lasting) := goodIn_app (goodIn_of _ (by decide +kernel)) ggX12_nightsOf_X12_lasting
set_option maxRecDepth 20000 in
theorem ggX12_nightsOf_X12_done : GoodIn wsX12_nightsOf wsX12_done := goodIn_r _ [20, 21, 26, 27, 28, 29, 30, 31, 32, 33, 34, 35, 36, 37, 38, 39, 40, 41] (by decide +kernel) (by decide +kernel)
set_option maxRecDepth 20000 in
theorem gX12_nightsOf_X12_done : GoodIn wsX12_nightsOf (wsV RX12 57 RX12 yX12_done wsX12_done) := goodIn_app (goodIn_of _ (by decide +kernel)) ggX12_nightsOf_X12_done
set_option maxRecDepth 20000 in
theorem ggX12_nightsOf_X12_fails : GoodIn wsX12_nightsOf wsX12_fails := goodIn_r _ [25, 21, 26, 27, 28, 29, 30, 31, 32, 33, 34, 35, 36, 37, 38, 39, 40, 41] (by decide +kernel) (by decide +kernel)
set_option maxRecDepth 20000 in
theorem gX12_nightsOf_X12_fails : GoodIn wsX12_nightsOf (wsV RX12 53 RX12 yX12_fails wsX12_fails) := goodIn_app (goodIn_of _ (by decide +kernel)) ggX12_nightsOf_X12_fails
theorem dX12_nightsOf_0 : decode cX12_nightsOf 0 = .ok (.aload_n 0, 1) := by decide +kernel
theorem dX12_nightsOf_1 : decode cX12_nightsOf 1 = .ok (.iload_n 1, 1) := by decide +kernel
theorem dX12_nightsOf_2 : decode cX12_nightsOf 2 = .ok (.invokevirtual 70, 3) := by decide +kernel
theorem dX12_nightsOf_5 : decode cX12_nightsOf 5 = .ok (.ifCond .eq 15, 3) := by decide +kernel
theorem dX12_nightsOf_8 : decode cX12_nightsOf 8 = .ok (.aload_n 0, 1) := by decide +kernel
theorem dX12_nightsOf_9 : decode cX12_nightsOf 9 = .ok (.aload_n 0, 1) := by decide +kernel
theorem dX12_nightsOf_10 : decode cX12_nightsOf 10 = .ok (.iload_n 1, 1) := by decide +kernel
theorem dX12_nightsOf_11 : decode cX12_nightsOf 11 = .ok (.invokevirtual 151, 3) := by decide +kernel
theorem dX12_nightsOf_14 : decode cX12_nightsOf 14 = .ok (.invokevirtual 57, 3) := by decide +kernel
theorem dX12_nightsOf_17 : decode cX12_nightsOf 17 = .ok (.goto 8, 3) := by decide +kernel
theorem dX12_nightsOf_20 : decode cX12_nightsOf 20 = .ok (.aload_n 0, 1) := by decide +kernel
theorem dX12_nightsOf_21 : decode cX12_nightsOf 21 = .ok (.iconst 1, 1) := by decide +kernel
theorem dX12_nightsOf_22 : decode cX12_nightsOf 22 = .ok (.invokevirtual 53, 3) := by decide +kernel
theorem dX12_nightsOf_25 : decode cX12_nightsOf 25 = .ok (.ireturn, 1) := by decide +kernel
set_option maxRecDepth 20000 in
theorem ggX12_nightsBySimulation_X12_nightsOf : GoodIn wsX12_nightsBySimulation wsX12_nightsOf := goodIn_ca (goodIn_ca (goodIn_r _ [5, 6, 7, 8, 4, 9, 10, 11, 12, 13, 14, 15, 16, 17, 18, 19, 20, 21, 22, 23, 24, 25, 26, 27, 28, 29, 30, 31, 32, 33, 34, 35, 36, 37, 38, 39, 40, 41, 42, 43, 44, 45] (by decide +kernel) (by decide +kernel)) (goodIn_sub (fun _ h => List.mem_cons_of_mem _ (List.mem_append_left _ (List.mem_append_right _ h))) (by decide +kernel))) (goodIn_sub (fun _ h => List.mem_cons_of_mem _ (List.mem_append_right _ h)) (by decide +kernel))
set_option maxRecDepth 20000 in
theorem gX12_nightsBySimulation_X12_nightsOf : GoodIn wsX12_nightsBySimulation (wsV RX12 154 RX12 yX12_nightsOf wsX12_nightsOf) := goodIn_app (goodIn_of _ (by decide +kernel)) ggX12_nightsBySimulation_X12_nightsOf
theorem dX12_nightsBySimulation_0 : decode cX12_nightsBySimulation 0 = .ok (.aload_n 0, 1) := by decide +kernel
theorem dX12_nightsBySimulation_1 : decode cX12_nightsBySimulation 1 = .ok (.iload_n 1, 1) := by decide +kernel
theorem dX12_nightsBySimulation_2 : decode cX12_nightsBySimulation 2 = .ok (.invokevirtual 154, 3) := by decide +kernel
theorem dX12_nightsBySimulation_5 : decode cX12_nightsBySimulation 5 = .ok (.ireturn, 1) := by decide +kernel
set_option maxRecDepth 20000 in
theorem ggX12_glow_X12_burns : GoodIn wsX12_glow wsX12_burns := goodIn_ca (goodIn_r _ [6, 1, 7, 8, 9, 10, 11, 12, 13, 14, 15, 16, 17, 18, 19, 20, 21, 22] (by decide +kernel) (by decide +kernel)) (goodIn_sub (fun _ h => List.mem_cons_of_mem _ (List.mem_append_right _ h)) (by decide +kernel))
set_option maxRecDepth 20000 in
theorem gX12_glow_X12_burns : GoodIn wsX12_glow (wsV RX12 135 RX12 yX12_burns wsX12_burns) := goodIn_app (goodIn_of _ (by decide +kernel)) ggX12_glow_X12_burns
theorem dX12_glow_0 : decode cX12_glow 0 = .ok (.iconst 0, 1) := by decide +kernel
theorem dX12_glow_1 : decode cX12_glow 1 = .ok (.istore_n 2, 1) := by decide +kernel
theorem dX12_glow_2 : decode cX12_glow 2 = .ok (.iconst 0, 1) := by decide +kernel
theorem dX12_glow_3 : decode cX12_glow 3 = .ok (.istore_n 3, 1) := by decide +kernel
theorem dX12_glow_4 : decode cX12_glow 4 = .ok (.iload_n 3, 1) := by decide +kernel
theorem dX12_glow_5 : decode cX12_glow 5 = .ok (.aload_n 0, 1) := by decide +kernel
theorem dX12_glow_6 : decode cX12_glow 6 = .ok (.getfield 7, 3) := by decide +kernel
theorem dX12_glow_9 : decode cX12_glow 9 = .ok (.iconst 0, 1) := by decide +kernel
theorem dX12_glow_10 : decode cX12_glow 10 = .ok (.iaload, 1) := by decide +kernel
theorem dX12_glow_11 : decode cX12_glow 11 = .ok (.if_icmp .ge 46, 3) := by decide +kernel
theorem dX12_glow_14 : decode cX12_glow 14 = .ok (.iload_n 2, 1) := by decide +kernel
theorem dX12_glow_15 : decode cX12_glow 15 = .ok (.aload_n 0, 1) := by decide +kernel
theorem dX12_glow_16 : decode cX12_glow 16 = .ok (.getfield 7, 3) := by decide +kernel
theorem dX12_glow_19 : decode cX12_glow 19 = .ok (.bipush 6, 2) := by decide +kernel
theorem dX12_glow_21 : decode cX12_glow 21 = .ok (.iload_n 3, 1) := by decide +kernel
theorem dX12_glow_22 : decode cX12_glow 22 = .ok (.iadd, 1) := by decide +kernel
theorem dX12_glow_23 : decode cX12_glow 23 = .ok (.iaload, 1) := by decide +kernel
theorem dX12_glow_24 : decode cX12_glow 24 = .ok (.iload_n 1, 1) := by decide +kernel
theorem dX12_glow_25 : decode cX12_glow 25 = .ok (.if_icmp .ne 23, 3) := by decide +kernel
theorem dX12_glow_28 : decode cX12_glow 28 = .ok (.aload_n 0, 1) := by decide +kernel
theorem dX12_glow_29 : decode cX12_glow 29 = .ok (.iload_n 3, 1) := by decide +kernel
theorem dX12_glow_30 : decode cX12_glow 30 = .ok (.invokevirtual 135, 3) := by decide +kernel
theorem dX12_glow_33 : decode cX12_glow 33 = .ok (.ifCond .eq 15, 3) := by decide +kernel
theorem dX12_glow_36 : decode cX12_glow 36 = .ok (.aload_n 0, 1) := by decide +kernel
theorem dX12_glow_37 : decode cX12_glow 37 = .ok (.getfield 7, 3) := by decide +kernel
theorem dX12_glow_40 : decode cX12_glow 40 = .ok (.bipush 22, 2) := by decide +kernel
theorem dX12_glow_42 : decode cX12_glow 42 = .ok (.iload_n 3, 1) := by decide +kernel
theorem dX12_glow_43 : decode cX12_glow 43 = .ok (.iadd, 1) := by decide +kernel
theorem dX12_glow_44 : decode cX12_glow 44 = .ok (.iaload, 1) := by decide +kernel
theorem dX12_glow_45 : decode cX12_glow 45 = .ok (.goto 4, 3) := by decide +kernel
theorem dX12_glow_48 : decode cX12_glow 48 = .ok (.iconst 0, 1) := by decide +kernel
theorem dX12_glow_49 : decode cX12_glow 49 = .ok (.iadd, 1) := by decide +kernel
theorem dX12_glow_50 : decode cX12_glow 50 = .ok (.istore_n 2, 1) := by decide +kernel
theorem dX12_glow_51 : decode cX12_glow 51 = .ok (.iinc 3 1, 3) := by decide +kernel
theorem dX12_glow_54 : decode cX12_glow 54 = .ok (.goto (-50), 3) := by decide +kernel
theorem dX12_glow_57 : decode cX12_glow 57 = .ok (.iload_n 2, 1) := by decide +kernel
theorem dX12_glow_58 : decode cX12_glow 58 = .ok (.ireturn, 1) := by decide +kernel
set_option maxRecDepth 20000 in
theorem ggX12_glowOf_X12_in : GoodIn wsX12_glowOf wsX12_in := goodIn_r _ [4] (by decide +kernel) (by decide +kernel)
set_option maxRecDepth 20000 in
theorem gX12_glowOf_X12_in : GoodIn wsX12_glowOf (va_wsS RX12 49 yX12_in wsX12_in) := goodIn_app (goodIn_of _ (by decide +kernel)) ggX12_glowOf_X12_in
set_option maxRecDepth 20000 in
theorem ggX12_glowOf_X12_glow : GoodIn wsX12_glowOf wsX12_glow := goodIn_ca (goodIn_r _ [8, 9, 10, 11, 12, 3, 13, 23, 24, 25, 26, 27, 28, 29, 30, 31, 32, 33, 34, 35, 36, 37, 38] (by decide +kernel) (by decide +kernel)) (goodIn_sub (fun _ h => List.mem_cons_of_mem _ (List.mem_append_right _ h)) (by decide +kernel))
set_option maxRecDepth 20000 in
theorem gX12_glowOf_X12_glow : GoodIn wsX12_glowOf (wsV RX12 157 RX12 yX12_glow wsX12_glow) := goodIn_app (goodIn_of _ (by decide +kernel)) ggX12_glowOf_X12_glow
set_option maxRecDepth 20000 in
theorem ggX12_glowOf_X12_done : GoodIn wsX12_glowOf wsX12_done := goodIn_r _ [17, 18, 23, 24, 25, 26, 27, 28, 29, 30, 31, 32, 33, 34, 35, 36, 37, 38] (by decide +kernel) (by decide +kernel)
set_option maxRecDepth 20000 in
theorem gX12_glowOf_X12_done : GoodIn wsX12_glowOf (wsV RX12 57 RX12 yX12_done wsX12_done) := goodIn_app (goodIn_of _ (by decide +kernel)) ggX12_glowOf_X12_done
set_option maxRecDepth 20000 in
theorem ggX12_glowOf_X12_fails : GoodIn wsX12_glowOf wsX12_fails := goodIn_r _ [22, 18, 23, 24, 25, 26, 27, 28, 29, 30, 31, 32, 33, 34, 35, 36, 37, 38] (by decide +kernel) (by decide +kernel)
set_option maxRecDepth 20000 in
theorem gX12_glowOf_X12_fails : GoodIn wsX12_glowOf (wsV RX12 53 RX12 yX12_fails wsX12_fails) := goodIn_app (goodIn_of _ (by decide +kernel)) ggX12_glowOf_X12_fails
theorem dX12_glowOf_0 : decode cX12_glowOf 0 = .ok (.iload_n 1, 1) := by decide +kernel
theorem dX12_glowOf_1 : decode cX12_glowOf 1 = .ok (.iconst 0, 1) := by decide +kernel
theorem dX12_glowOf_2 : decode cX12_glowOf 2 = .ok (.iconst 3, 1) := by decide +kernel
theorem dX12_glowOf_3 : decode cX12_glowOf 3 = .ok (.invokestatic 49, 3) := by decide +kernel
theorem dX12_glowOf_6 : decode cX12_glowOf 6 = .ok (.ifCond .eq 15, 3) := by decide +kernel
theorem dX12_glowOf_9 : decode cX12_glowOf 9 = .ok (.aload_n 0, 1) := by decide +kernel
theorem dX12_glowOf_10 : decode cX12_glowOf 10 = .ok (.aload_n 0, 1) := by decide +kernel
theorem dX12_glowOf_11 : decode cX12_glowOf 11 = .ok (.iload_n 1, 1) := by decide +kernel
theorem dX12_glowOf_12 : decode cX12_glowOf 12 = .ok (.invokevirtual 157, 3) := by decide +kernel
theorem dX12_glowOf_15 : decode cX12_glowOf 15 = .ok (.invokevirtual 57, 3) := by decide +kernel
theorem dX12_glowOf_18 : decode cX12_glowOf 18 = .ok (.goto 8, 3) := by decide +kernel
theorem dX12_glowOf_21 : decode cX12_glowOf 21 = .ok (.aload_n 0, 1) := by decide +kernel
theorem dX12_glowOf_22 : decode cX12_glowOf 22 = .ok (.iconst 1, 1) := by decide +kernel
theorem dX12_glowOf_23 : decode cX12_glowOf 23 = .ok (.invokevirtual 53, 3) := by decide +kernel
theorem dX12_glowOf_26 : decode cX12_glowOf 26 = .ok (.ireturn, 1) := by decide +kernel
set_option maxRecDepth 20000 in
theorem ggX12_isDark_X12_in : GoodIn wsX12_isDark wsX12_in := goodIn_r _ [5] (by decide +kernel) (by decide +kernel)
set_option maxRecDepth 20000 in
theorem gX12_isDark_X12_in : GoodIn wsX12_isDark (va_wsS RX12 49 yX12_in wsX12_in) := goodIn_app (goodIn_of _ (by decide +kernel)) ggX12_isDark_X12_in
set_option maxRecDepth 20000 in
theorem ggX12_isDark_X12_glow : GoodIn wsX12_isDark wsX12_glow := goodIn_ca (goodIn_r _ [9, 10, 11, 12, 13, 4, 14, 15, 16, 17, 18, 19, 20, 21, 22, 23, 24, 25, 26, 27, 28, 29, 30] (by decide +kernel) (by decide +kernel)) (goodIn_sub (fun _ h => List.mem_cons_of_mem _ (List.mem_append_right _ h)) (by decide +kernel))
set_option maxRecDepth 20000 in
theorem gX12_isDark_X12_glow : GoodIn wsX12_isDark (wsV RX12 157 RX12 yX12_glow wsX12_glow) := goodIn_app (goodIn_of _ (by decide +kernel)) ggX12_isDark_X12_glow
theorem dX12_isDark_0 : decode cX12_isDark 0 = .ok (.aload_n 0, 1) := by decide +kernel
theorem dX12_isDark_1 : decode cX12_isDark 1 = .ok (.iload_n 1, 1) := by decide +kernel
theorem dX12_isDark_2 : decode cX12_isDark 2 = .ok (.iconst 0, 1) := by decide +kernel
theorem dX12_isDark_3 : decode cX12_isDark 3 = .ok (.iconst 3, 1) := by decide +kernel
theorem dX12_isDark_4 : decode cX12_isDark 4 = .ok (.invokestatic 49, 3) := by decide +kernel
theorem dX12_isDark_7 : decode cX12_isDark 7 = .ok (.ifCond .eq 7, 3) := by decide +kernel
theorem dX12_isDark_10 : decode cX12_isDark 10 = .ok (.iconst 0, 1) := by decide +kernel
theorem dX12_isDark_11 : decode cX12_isDark 11 = .ok (.goto 4, 3) := by decide +kernel
theorem dX12_isDark_14 : decode cX12_isDark 14 = .ok (.iconst 1, 1) := by decide +kernel
theorem dX12_isDark_15 : decode cX12_isDark 15 = .ok (.putfield 39, 3) := by decide +kernel
theorem dX12_isDark_18 : decode cX12_isDark 18 = .ok (.aload_n 0, 1) := by decide +kernel
theorem dX12_isDark_19 : decode cX12_isDark 19 = .ok (.getfield 39, 3) := by decide +kernel
theorem dX12_isDark_22 : decode cX12_isDark 22 = .ok (.ifCond .ne 15, 3) := by decide +kernel
theorem dX12_isDark_25 : decode cX12_isDark 25 = .ok (.aload_n 0, 1) := by decide +kernel
theorem dX12_isDark_26 : decode cX12_isDark 26 = .ok (.iload_n 1, 1) := by decide +kernel
theorem dX12_isDark_27 : decode cX12_isDark 27 = .ok (.invokevirtual 157, 3) := by decide +kernel
theorem dX12_isDark_30 : decode cX12_isDark 30 = .ok (.ifCond .ne 7, 3) := by decide +kernel
theorem dX12_isDark_33 : decode cX12_isDark 33 = .ok (.iconst 1, 1) := by decide +kernel
theorem dX12_isDark_34 : decode cX12_isDark 34 = .ok (.goto 4, 3) := by decide +kernel
theorem dX12_isDark_37 : decode cX12_isDark 37 = .ok (.iconst 0, 1) := by decide +kernel
theorem dX12_isDark_38 : decode cX12_isDark 38 = .ok (.ireturn, 1) := by decide +kernel
set_option maxRecDepth 20000 in
theorem ggX12_brightestStreet_X12_glow : GoodIn wsX12_brightestStreet wsX12_glow := goodIn_ca (goodIn_r _ [5, 6, 7, 8, 9, 4, 10, 16, 17, 18, 19, 20, 21, 22, 23, 24, 25, 26, 27, 28, 29, 30, 31] (by decide +kernel) (by decide +kernel)) (goodIn_sub (fun _ h => List.mem_cons_of_mem _ (List.mem_append_right _ h)) (by decide +kernel))
set_option maxRecDepth 20000 in
theorem gX12_brightestStreet_X12_glow : GoodIn wsX12_brightestStreet (wsV RX12 157 RX12 yX12_glow wsX12_glow) := goodIn_app (goodIn_of _ (by decide +kernel)) ggX12_brightestStreet_X12_glow
set_option maxRecDepth 20000 in
theorem ggX12_brightestStreet_X12_done : GoodIn wsX12_brightestStreet wsX12_done := goodIn_r _ [14, 15, 16, 17, 18, 19, 20, 21, 22, 23, 24, 25, 26, 27, 28, 29, 30, 31] (by decide +kernel) (by decide +kernel)
set_option maxRecDepth 20000 in
theorem gX12_brightestStreet_X12_done : GoodIn wsX12_brightestStreet (wsV RX12 57 RX12 yX12_done wsX12_done) := goodIn_app (goodIn_of _ (by decide +kernel)) ggX12_brightestStreet_X12_done
theorem dX12_brightestStreet_0 : decode cX12_brightestStreet 0 = .ok (.iconst 0, 1) := by decide +kernel
theorem dX12_brightestStreet_1 : decode cX12_brightestStreet 1 = .ok (.istore_n 1, 1) := by decide +kernel
theorem dX12_brightestStreet_2 : decode cX12_brightestStreet 2 = .ok (.iconst 1, 1) := by decide +kernel
theorem dX12_brightestStreet_3 : decode cX12_brightestStreet 3 = .ok (.istore_n 2, 1) := by decide +kernel
theorem dX12_brightestStreet_4 : decode cX12_brightestStreet 4 = .ok (.iload_n 2, 1) := by decide +kernel
theorem dX12_brightestStreet_5 : decode cX12_brightestStreet 5 = .ok (.iconst 4, 1) := by decide +kernel
theorem dX12_brightestStreet_6 : decode cX12_brightestStreet 6 = .ok (.if_icmp .ge 28, 3) := by decide +kernel
theorem dX12_brightestStreet_9 : decode cX12_brightestStreet 9 = .ok (.aload_n 0, 1) := by decide +kernel
theorem dX12_brightestStreet_10 : decode cX12_brightestStreet 10 = .ok (.iload_n 2, 1) := by decide +kernel
theorem dX12_brightestStreet_11 : decode cX12_brightestStreet 11 = .ok (.invokevirtual 157, 3) := by decide +kernel
theorem dX12_brightestStreet_14 : decode cX12_brightestStreet 14 = .ok (.aload_n 0, 1) := by decide +kernel
theorem dX12_brightestStreet_15 : decode cX12_brightestStreet 15 = .ok (.iload_n 1, 1) := by decide +kernel
theorem dX12_brightestStreet_16 : decode cX12_brightestStreet 16 = .ok (.invokevirtual 157, 3) := by decide +kernel
theorem dX12_brightestStreet_19 : decode cX12_brightestStreet 19 = .ok (.if_icmp .le 7, 3) := by decide +kernel
theorem dX12_brightestStreet_22 : decode cX12_brightestStreet 22 = .ok (.iload_n 2, 1) := by decide +kernel
theorem dX12_brightestStreet_23 : decode cX12_brightestStreet 23 = .ok (.goto 4, 3) := by decide +kernel
theorem dX12_brightestStreet_26 : decode cX12_brightestStreet 26 = .ok (.iload_n 1, 1) := by decide +kernel
theorem dX12_brightestStreet_27 : decode cX12_brightestStreet 27 = .ok (.istore_n 1, 1) := by decide +kernel
theorem dX12_brightestStreet_28 : decode cX12_brightestStreet 28 = .ok (.iinc 2 1, 3) := by decide +kernel
theorem dX12_brightestStreet_31 : decode cX12_brightestStreet 31 = .ok (.goto (-27), 3) := by decide +kernel
theorem dX12_brightestStreet_34 : decode cX12_brightestStreet 34 = .ok (.aload_n 0, 1) := by decide +kernel
theorem dX12_brightestStreet_35 : decode cX12_brightestStreet 35 = .ok (.iload_n 1, 1) := by decide +kernel
theorem dX12_brightestStreet_36 : decode cX12_brightestStreet 36 = .ok (.invokevirtual 57, 3) := by decide +kernel
theorem dX12_brightestStreet_39 : decode cX12_brightestStreet 39 = .ok (.ireturn, 1) := by decide +kernel
theorem dX12_votes_0 : decode cX12_votes 0 = .ok (.iconst 0, 1) := by decide +kernel
theorem dX12_votes_1 : decode cX12_votes 1 = .ok (.istore_n 2, 1) := by decide +kernel
theorem dX12_votes_2 : decode cX12_votes 2 = .ok (.iconst 0, 1) := by decide +kernel
theorem dX12_votes_3 : decode cX12_votes 3 = .ok (.istore_n 3, 1) := by decide +kernel
theorem dX12_votes_4 : decode cX12_votes 4 = .ok (.iload_n 3, 1) := by decide +kernel
theorem dX12_votes_5 : decode cX12_votes 5 = .ok (.aload_n 0, 1) := by decide +kernel
theorem dX12_votes_6 : decode cX12_votes 6 = .ok (.getfield 7, 3) := by decide +kernel
theorem dX12_votes_9 : decode cX12_votes 9 = .ok (.iconst 0, 1) := by decide +kernel
theorem dX12_votes_10 : decode cX12_votes 10 = .ok (.iaload, 1) := by decide +kernel
theorem dX12_votes_11 : decode cX12_votes 11 = .ok (.if_icmp .ge 38, 3) := by decide +kernel
theorem dX12_votes_14 : decode cX12_votes 14 = .ok (.iload_n 2, 1) := by decide +kernel
theorem dX12_votes_15 : decode cX12_votes 15 = .ok (.aload_n 0, 1) := by decide +kernel
theorem dX12_votes_16 : decode cX12_votes 16 = .ok (.getfield 7, 3) := by decide +kernel
theorem dX12_votes_19 : decode cX12_votes 19 = .ok (.bipush 22, 2) := by decide +kernel
theorem dX12_votes_21 : decode cX12_votes 21 = .ok (.iload_n 3, 1) := by decide +kernel
theorem dX12_votes_22 : decode cX12_votes 22 = .ok (.iadd, 1) := by decide +kernel
theorem dX12_votes_23 : decode cX12_votes 23 = .ok (.iaload, 1) := by decide +kernel
theorem dX12_votes_24 : decode cX12_votes 24 = .ok (.iload_n 1, 1) := by decide +kernel
theorem dX12_votes_25 : decode cX12_votes 25 = .ok (.if_icmp .gt 15, 3) := by decide +kernel
theorem dX12_votes_28 : decode cX12_votes 28 = .ok (.aload_n 0, 1) := by decide +kernel
theorem dX12_votes_29 : decode cX12_votes 29 = .ok (.getfield 7, 3) := by decide +kernel
theorem dX12_votes_32 : decode cX12_votes 32 = .ok (.bipush 14, 2) := by decide +kernel
theorem dX12_votes_34 : decode cX12_votes 34 = .ok (.iload_n 3, 1) := by decide +kernel
theorem dX12_votes_35 : decode cX12_votes 35 = .ok (.iadd, 1) := by decide +kernel
theorem dX12_votes_36 : decode cX12_votes 36 = .ok (.iaload, 1) := by decide +kernel
theorem dX12_votes_37 : decode cX12_votes 37 = .ok (.goto 4, 3) := by decide +kernel
theorem dX12_votes_40 : decode cX12_votes 40 = .ok (.iconst 0, 1) := by decide +kernel
theorem dX12_votes_41 : decode cX12_votes 41 = .ok (.iadd, 1) := by decide +kernel
theorem dX12_votes_42 : decode cX12_votes 42 = .ok (.istore_n 2, 1) := by decide +kernel
theorem dX12_votes_43 : decode cX12_votes 43 = .ok (.iinc 3 1, 3) := by decide +kernel
theorem dX12_votes_46 : decode cX12_votes 46 = .ok (.goto (-42), 3) := by decide +kernel
theorem dX12_votes_49 : decode cX12_votes 49 = .ok (.iload_n 2, 1) := by decide +kernel
theorem dX12_votes_50 : decode cX12_votes 50 = .ok (.ireturn, 1) := by decide +kernel
set_option maxRecDepth 20000 in
theorem ggX12_isCarried_X12_votes : GoodIn wsX12_isCarried wsX12_votes := goodIn_ca (goodIn_r _ [5, 6, 11, 12, 13, 14, 15, 16, 17, 18, 19, 20, 21, 22, 23, 24, 25, 26] (by decide +kernel) (by decide +kernel)) (goodIn_sub (fun _ h => List.mem_cons_of_mem _ (List.mem_append_right _ h)) (by decide +kernel))
set_option maxRecDepth 20000 in
theorem gX12_isCarried_X12_votes : GoodIn wsX12_isCarried (wsV RX12 160 RX12 yX12_votes wsX12_votes) := goodIn_app (goodIn_of _ (by decide +kernel)) ggX12_isCarried_X12_votes
set_option maxRecDepth 20000 in
theorem ggX12_isCarried_X12_allShares : GoodIn wsX12_isCarried wsX12_allShares := goodIn_ca (goodIn_r _ [10, 6, 11, 12, 13, 14, 15, 16, 17, 18, 19, 20, 21, 22, 23, 24, 25, 26] (by decide +kernel) (by decide +kernel)) (goodIn_sub (fun _ h => List.mem_cons_of_mem _ (List.mem_append_right _ h)) (by decide +kernel))
set_option maxRecDepth 20000 in
theorem gX12_isCarried_X12_allShares : GoodIn wsX12_isCarried (wsV RX12 91 RX12 yX12_allShares wsX12_allShares) := goodIn_app (goodIn_of _ (by decide +kernel)) ggX12_isCarried_X12_allShares
theorem dX12_isCarried_0 : decode cX12_isCarried 0 = .ok (.iconst 2, 1) := by decide +kernel
theorem dX12_isCarried_1 : decode cX12_isCarried 1 = .ok (.aload_n 0, 1) := by decide +kernel
theorem dX12_isCarried_2 : decode cX12_isCarried 2 = .ok (.iload_n 1, 1) := by decide +kernel
theorem dX12_isCarried_3 : decode cX12_isCarried 3 = .ok (.invokevirtual 160, 3) := by decide +kernel
theorem dX12_isCarried_6 : decode cX12_isCarried 6 = .ok (.imul, 1) := by decide +kernel
theorem dX12_isCarried_7 : decode cX12_isCarried 7 = .ok (.aload_n 0, 1) := by decide +kernel
theorem dX12_isCarried_8 : decode cX12_isCarried 8 = .ok (.invokevirtual 91, 3) := by decide +kernel
theorem dX12_isCarried_11 : decode cX12_isCarried 11 = .ok (.if_icmp .le 7, 3) := by decide +kernel
theorem dX12_isCarried_14 : decode cX12_isCarried 14 = .ok (.iconst 1, 1) := by decide +kernel
theorem dX12_isCarried_15 : decode cX12_isCarried 15 = .ok (.goto 4, 3) := by decide +kernel
theorem dX12_isCarried_18 : decode cX12_isCarried 18 = .ok (.iconst 0, 1) := by decide +kernel
theorem dX12_isCarried_19 : decode cX12_isCarried 19 = .ok (.ireturn, 1) := by decide +kernel
set_option maxRecDepth 20000 in
theorem ggX12_proposes_X12_in : GoodIn wsX12_proposes wsX12_in := goodIn_r _ [5] (by decide +kernel) (by decide +kernel)
set_option maxRecDepth 20000 in
theorem gX12_proposes_X12_in : GoodIn wsX12_proposes (va_wsS RX12 49 yX12_in wsX12_in) := goodIn_app (goodIn_of _ (by decide +kernel)) ggX12_proposes_X12_in
set_option maxRecDepth 20000 in
theorem ggX12_proposes_X12_fails : GoodIn wsX12_proposes wsX12_fails := goodIn_r _ [9, 10, 30, 31, 32, 33, 34, 35, 36, 37, 38, 39, 40, 41, 42, 43, 44, 45] (by decide +kernel) (by decide +kernel)
set_option maxRecDepth 20000 in
theorem gX12_proposes_X12_fails : GoodIn wsX12_proposes (wsV RX12 53 RX12 yX12_fails wsX12_fails) := goodIn_app (goodIn_of _ (by decide +kernel)) ggX12_proposes_X12_fails
set_option maxRecDepth 20000 in
theorem ggX12_proposes_X12_isCarried : GoodIn wsX12_proposes wsX12_isCarried := goodIn_ca (goodIn_r _ [14, 15, 16, 17, 4, 18, 1, 19, 20, 21, 22, 30, 31, 32, 33, 34, 35, 36, 37, 38, 39, 40, 41, 42, 43, 44, 45] (by decide +kernel) (by decide +kernel)) (goodIn_sub (fun _ h => List.mem_cons_of_mem _ (List.mem_append_right _ h)) (by decide +kernel))
set_option maxRecDepth 20000 in
theorem gX12_proposes_X12_isCarried : GoodIn wsX12_proposes (wsV RX12 163 RX12 yX12_isCarried wsX12_isCarried) := goodIn_app (goodIn_of _ (by decide +kernel)) ggX12_proposes_X12_isCarried
set_option maxRecDepth 20000 in
theorem ggX12_proposes_X12_done : GoodIn wsX12_proposes wsX12_done := goodIn_r _ [26, 10, 30, 31, 32, 33, 34, 35, 36, 37, 38, 39, 40, 41, 42, 43, 44, 45] (by decide +kernel) (by decide +kernel)
set_option maxRecDepth 20000 in
theorem gX12_proposes_X12_done : GoodIn wsX12_proposes (wsV RX12 57 RX12 yX12_done wsX12_done) := goodIn_app (goodIn_of _ (by decide +kernel)) ggX12_proposes_X12_done
set_option maxRecDepth 20000 in
theorem ggX12_proposes_X12_least : GoodIn wsX12_proposes wsX12_least := goodIn_r _ [29] (by decide +kernel) (by decide +kernel)
set_option maxRecDepth 20000 in
theorem gX12_proposes_X12_least : GoodIn wsX12_proposes (va_wsS RX12 104 yX12_least wsX12_least) := goodIn_app (goodIn_of _ (by decide +kernel)) ggX12_proposes_X12_least
theorem dX12_proposes_0 : decode cX12_proposes 0 = .ok (.iload_n 1, 1) := by decide +kernel
theorem dX12_proposes_1 : decode cX12_proposes 1 = .ok (.iconst 1, 1) := by decide +kernel
theorem dX12_proposes_2 : decode cX12_proposes 2 = .ok (.iconst 5, 1) := by decide +kernel
theorem dX12_proposes_3 : decode cX12_proposes 3 = .ok (.invokestatic 49, 3) := by decide +kernel
theorem dX12_proposes_6 : decode cX12_proposes 6 = .ok (.ifCond .ne 9, 3) := by decide +kernel
theorem dX12_proposes_9 : decode cX12_proposes 9 = .ok (.aload_n 0, 1) := by decide +kernel
theorem dX12_proposes_10 : decode cX12_proposes 10 = .ok (.iconst 1, 1) := by decide +kernel
theorem dX12_proposes_11 : decode cX12_proposes 11 = .ok (.invokevirtual 53, 3) := by decide +kernel
theorem dX12_proposes_14 : decode cX12_proposes 14 = .ok (.ireturn, 1) := by decide +kernel
theorem dX12_proposes_15 : decode cX12_proposes 15 = .ok (.aload_n 0, 1) := by decide +kernel
theorem dX12_proposes_16 : decode cX12_proposes 16 = .ok (.getfield 7, 3) := by decide +kernel
theorem dX12_proposes_19 : decode cX12_proposes 19 = .ok (.iconst 0, 1) := by decide +kernel
theorem dX12_proposes_20 : decode cX12_proposes 20 = .ok (.iaload, 1) := by decide +kernel
theorem dX12_proposes_21 : decode cX12_proposes 21 = .ok (.ifCond .ne 9, 3) := by decide +kernel
theorem dX12_proposes_24 : decode cX12_proposes 24 = .ok (.aload_n 0, 1) := by decide +kernel
theorem dX12_proposes_25 : decode cX12_proposes 25 = .ok (.iconst 2, 1) := by decide +kernel
theorem dX12_proposes_26 : decode cX12_proposes 26 = .ok (.invokevirtual 53, 3) := by decide +kernel
theorem dX12_proposes_29 : decode cX12_proposes 29 = .ok (.ireturn, 1) := by decide +kernel
theorem dX12_proposes_30 : decode cX12_proposes 30 = .ok (.aload_n 0, 1) := by decide +kernel
theorem dX12_proposes_31 : decode cX12_proposes 31 = .ok (.iload_n 1, 1) := by decide +kernel
theorem dX12_proposes_32 : decode cX12_proposes 32 = .ok (.invokevirtual 163, 3) := by decide +kernel
theorem dX12_proposes_35 : decode cX12_proposes 35 = .ok (.ifCond .ne 9, 3) := by decide +kernel
theorem dX12_proposes_38 : decode cX12_proposes 38 = .ok (.aload_n 0, 1) := by decide +kernel
theorem dX12_proposes_39 : decode cX12_proposes 39 = .ok (.iconst 0, 1) := by decide +kernel
theorem dX12_proposes_40 : decode cX12_proposes 40 = .ok (.invokevirtual 57, 3) := by decide +kernel
theorem dX12_proposes_43 : decode cX12_proposes 43 = .ok (.ireturn, 1) := by decide +kernel
theorem dX12_proposes_44 : decode cX12_proposes 44 = .ok (.iconst 0, 1) := by decide +kernel
theorem dX12_proposes_45 : decode cX12_proposes 45 = .ok (.istore_n 2, 1) := by decide +kernel
theorem dX12_proposes_46 : decode cX12_proposes 46 = .ok (.iload_n 2, 1) := by decide +kernel
theorem dX12_proposes_47 : decode cX12_proposes 47 = .ok (.aload_n 0, 1) := by decide +kernel
theorem dX12_proposes_48 : decode cX12_proposes 48 = .ok (.getfield 7, 3) := by decide +kernel
theorem dX12_proposes_51 : decode cX12_proposes 51 = .ok (.iconst 0, 1) := by decide +kernel
theorem dX12_proposes_52 : decode cX12_proposes 52 = .ok (.iaload, 1) := by decide +kernel
theorem dX12_proposes_53 : decode cX12_proposes 53 = .ok (.if_icmp .ge 31, 3) := by decide +kernel
theorem dX12_proposes_56 : decode cX12_proposes 56 = .ok (.aload_n 0, 1) := by decide +kernel
theorem dX12_proposes_57 : decode cX12_proposes 57 = .ok (.getfield 7, 3) := by decide +kernel
theorem dX12_proposes_60 : decode cX12_proposes 60 = .ok (.bipush 22, 2) := by decide +kernel
theorem dX12_proposes_62 : decode cX12_proposes 62 = .ok (.iload_n 2, 1) := by decide +kernel
theorem dX12_proposes_63 : decode cX12_proposes 63 = .ok (.iadd, 1) := by decide +kernel
theorem dX12_proposes_64 : decode cX12_proposes 64 = .ok (.aload_n 0, 1) := by decide +kernel
theorem dX12_proposes_65 : decode cX12_proposes 65 = .ok (.getfield 7, 3) := by decide +kernel
theorem dX12_proposes_68 : decode cX12_proposes 68 = .ok (.bipush 22, 2) := by decide +kernel
theorem dX12_proposes_70 : decode cX12_proposes 70 = .ok (.iload_n 2, 1) := by decide +kernel
theorem dX12_proposes_71 : decode cX12_proposes 71 = .ok (.iadd, 1) := by decide +kernel
theorem dX12_proposes_72 : decode cX12_proposes 72 = .ok (.iaload, 1) := by decide +kernel
theorem dX12_proposes_73 : decode cX12_proposes 73 = .ok (.iload_n 1, 1) := by decide +kernel
theorem dX12_proposes_74 : decode cX12_proposes 74 = .ok (.invokestatic 104, 3) := by decide +kernel
theorem dX12_proposes_77 : decode cX12_proposes 77 = .ok (.iastore, 1) := by decide +kernel
theorem dX12_proposes_78 : decode cX12_proposes 78 = .ok (.iinc 2 1, 3) := by decide +kernel
theorem dX12_proposes_81 : decode cX12_proposes 81 = .ok (.goto (-35), 3) := by decide +kernel
theorem dX12_proposes_84 : decode cX12_proposes 84 = .ok (.aload_n 0, 1) := by decide +kernel
theorem dX12_proposes_85 : decode cX12_proposes 85 = .ok (.iconst 1, 1) := by decide +kernel
theorem dX12_proposes_86 : decode cX12_proposes 86 = .ok (.invokevirtual 57, 3) := by decide +kernel
theorem dX12_proposes_89 : decode cX12_proposes 89 = .ok (.ireturn, 1) := by decide +kernel
set_option maxRecDepth 20000 in
theorem ggX12_proposeCap_X12_begin : GoodIn wsX12_proposeCap wsX12_begin := goodIn_ca (goodIn_r _ [5, 6, 7, 8, 9, 4, 10, 48, 49, 50, 51, 52, 53, 54, 55, 56, 57, 58, 59, 60, 61, 62, 63] (by decide +kernel) (by decide +kernel)) (goodIn_sub (fun _ h => List.mem_cons_of_mem _ (List.mem_append_right _ h)) (by decide +kernel))
set_option maxRecDepth 20000 in
theorem gX12_proposeCap_X12_begin : GoodIn wsX12_proposeCap (wsV RX12 60 RX12 yX12_begin wsX12_begin) := goodIn_app (goodIn_of _ (by decide +kernel)) ggX12_proposeCap_X12_begin
set_option maxRecDepth 20000 in
theorem ggX12_proposeCap_X12_proposes : GoodIn wsX12_proposeCap wsX12_proposes := goodIn_ca (goodIn_r _ [14, 6, 15, 16, 4, 17, 18, 19, 20, 21, 22, 23, 24, 25, 26, 27, 28, 29, 30, 31, 32, 33, 34, 35, 36, 37, 38, 39, 40, 41, 48, 49, 50, 51, 52, 53, 54, 55, 56, 57, 58, 59, 60, 61, 62, 63] (by decide +kernel) (by decide +kernel)) (goodIn_sub (fun _ h => List.mem_cons_of_mem _ (List.mem_append_right _ h)) (by decide +kernel))
set_option maxRecDepth 20000 in
theorem gX12_proposeCap_X12_proposes : GoodIn wsX12_proposeCap (wsV RX12 166 RX12 yX12_proposes wsX12_proposes) := goodIn_app (goodIn_of _ (by decide +kernel)) ggX12_proposeCap_X12_proposes
set_option maxRecDepth 20000 in
theorem ggX12_proposeCap_X12_kept : GoodIn wsX12_proposeCap wsX12_kept := goodIn_ca (goodIn_r _ [45, 22, 7, 6, 46, 47, 8, 9, 4, 10, 48, 49, 50, 51, 52, 53, 54, 55, 56, 57, 58, 59, 60, 61, 62, 63] (by decide +kernel) (by decide +kernel)) (goodIn_sub (fun _ h => List.mem_cons_of_mem _ (List.mem_append_right _ h)) (by decide +kernel))
set_option maxRecDepth 20000 in
theorem gX12_proposeCap_X12_kept : GoodIn wsX12_proposeCap (wsV RX12 67 RX12 yX12_kept wsX12_kept) := goodIn_app (goodIn_of _ (by decide +kernel)) ggX12_proposeCap_X12_kept
theorem dX12_proposeCap_0 : decode cX12_proposeCap 0 = .ok (.aload_n 0, 1) := by decide +kernel
theorem dX12_proposeCap_1 : decode cX12_proposeCap 1 = .ok (.invokevirtual 60, 3) := by decide +kernel
theorem dX12_proposeCap_4 : decode cX12_proposeCap 4 = .ok (.aload_n 0, 1) := by decide +kernel
theorem dX12_proposeCap_5 : decode cX12_proposeCap 5 = .ok (.aload_n 0, 1) := by decide +kernel
theorem dX12_proposeCap_6 : decode cX12_proposeCap 6 = .ok (.iload_n 1, 1) := by decide +kernel
theorem dX12_proposeCap_7 : decode cX12_proposeCap 7 = .ok (.invokevirtual 166, 3) := by decide +kernel
theorem dX12_proposeCap_10 : decode cX12_proposeCap 10 = .ok (.invokevirtual 67, 3) := by decide +kernel
theorem dX12_proposeCap_13 : decode cX12_proposeCap 13 = .ok (.iconst 1, 1) := by decide +kernel
theorem dX12_proposeCap_14 : decode cX12_proposeCap 14 = .ok (.if_icmp .ne 7, 3) := by decide +kernel
theorem dX12_proposeCap_17 : decode cX12_proposeCap 17 = .ok (.iconst 1, 1) := by decide +kernel
theorem dX12_proposeCap_18 : decode cX12_proposeCap 18 = .ok (.goto 4, 3) := by decide +kernel
theorem dX12_proposeCap_21 : decode cX12_proposeCap 21 = .ok (.iconst 0, 1) := by decide +kernel
theorem dX12_proposeCap_22 : decode cX12_proposeCap 22 = .ok (.ireturn, 1) := by decide +kernel
set_option maxRecDepth 20000 in
theorem ggX12_votesFor_X12_in : GoodIn wsX12_votesFor wsX12_in := goodIn_r _ [4] (by decide +kernel) (by decide +kernel)
set_option maxRecDepth 20000 in
theorem gX12_votesFor_X12_in : GoodIn wsX12_votesFor (va_wsS RX12 49 yX12_in wsX12_in) := goodIn_app (goodIn_of _ (by decide +kernel)) ggX12_votesFor_X12_in
set_option maxRecDepth 20000 in
theorem ggX12_votesFor_X12_votes : GoodIn wsX12_votesFor wsX12_votes := goodIn_ca (goodIn_r _ [8, 9, 19, 20, 21, 22, 23, 24, 25, 26, 27, 28, 29, 30, 31, 32, 33, 34] (by decide +kernel) (by decide +kernel)) (goodIn_sub (fun _ h => List.mem_cons_of_mem _ (List.mem_append_right _ h)) (by decide +kernel))
set_option maxRecDepth 20000 in
theorem gX12_votesFor_X12_votes : GoodIn wsX12_votesFor (wsV RX12 160 RX12 yX12_votes wsX12_votes) := goodIn_app (goodIn_of _ (by decide +kernel)) ggX12_votesFor_X12_votes
set_option maxRecDepth 20000 in
theorem ggX12_votesFor_X12_done : GoodIn wsX12_votesFor wsX12_done := goodIn_r _ [13, 14, 19, 20, 21, 22, 23, 24, 25, 26, 27, 28, 29, 30, 31, 32, 33, 34] (by decide +kernel) (by decide +kernel)
set_option maxRecDepth 20000 in
theorem gX12_votesFor_X12_done : GoodIn wsX12_votesFor (wsV RX12 57 RX12 yX12_done wsX12_done) := goodIn_app (goodIn_of _ (by decide +kernel)) ggX12_votesFor_X12_done
set_option maxRecDepth 20000 in
theorem ggX12_votesFor_X12_fails : GoodIn wsX12_votesFor wsX12_fails := goodIn_r _ [18, 14, 19, 20, 21, 22, 23, 24, 25, 26, 27, 28, 29, 30, 31, 32, 33, 34] (by decide +kernel) (by decide +kernel)
set_option maxRecDepth 20000 in
theorem gX12_votesFor_X12_fails : GoodIn wsX12_votesFor (wsV RX12 53 RX12 yX12_fails wsX12_fails) := goodIn_app (goodIn_of _ (by decide +kernel)) ggX12_votesFor_X12_fails
theorem dX12_votesFor_0 : decode cX12_votesFor 0 = .ok (.iload_n 1, 1) := by decide +kernel
theorem dX12_votesFor_1 : decode cX12_votesFor 1 = .ok (.iconst 1, 1) := by decide +kernel
theorem dX12_votesFor_2 : decode cX12_votesFor 2 = .ok (.iconst 5, 1) := by decide +kernel
theorem dX12_votesFor_3 : decode cX12_votesFor 3 = .ok (.invokestatic 49, 3) := by decide +kernel
theorem dX12_votesFor_6 : decode cX12_votesFor 6 = .ok (.ifCond .eq 15, 3) := by decide +kernel
theorem dX12_votesFor_9 : decode cX12_votesFor 9 = .ok (.aload_n 0, 1) := by decide +kernel
theorem dX12_votesFor_10 : decode cX12_votesFor 10 = .ok (.aload_n 0, 1) := by decide +kernel
theorem dX12_votesFor_11 : decode cX12_votesFor 11 = .ok (.iload_n 1, 1) := by decide +kernel
theorem dX12_votesFor_12 : decode cX12_votesFor 12 = .ok (.invokevirtual 160, 3) := by decide +kernel
theorem dX12_votesFor_15 : decode cX12_votesFor 15 = .ok (.invokevirtual 57, 3) := by decide +kernel
theorem dX12_votesFor_18 : decode cX12_votesFor 18 = .ok (.goto 8, 3) := by decide +kernel
theorem dX12_votesFor_21 : decode cX12_votesFor 21 = .ok (.aload_n 0, 1) := by decide +kernel
theorem dX12_votesFor_22 : decode cX12_votesFor 22 = .ok (.iconst 1, 1) := by decide +kernel
theorem dX12_votesFor_23 : decode cX12_votesFor 23 = .ok (.invokevirtual 53, 3) := by decide +kernel
theorem dX12_votesFor_26 : decode cX12_votesFor 26 = .ok (.ireturn, 1) := by decide +kernel
set_option maxRecDepth 20000 in
theorem ggX12_lowestCap_X12_fails : GoodIn wsX12_lowestCap wsX12_fails := goodIn_r _ [6, 7, 24, 25, 26, 27, 28, 29, 30, 31, 32, 33, 34, 35, 36, 37, 38, 39] (by decide +kernel) (by decide +kernel)
set_option maxRecDepth 20000 in
theorem gX12_lowestCap_X12_fails : GoodIn wsX12_lowestCap (wsV RX12 53 RX12 yX12_fails wsX12_fails) := goodIn_app (goodIn_of _ (by decide +kernel)) ggX12_lowestCap_X12_fails
set_option maxRecDepth 20000 in
theorem ggX12_lowestCap_X12_isCarried : GoodIn wsX12_lowestCap wsX12_isCarried := goodIn_ca (goodIn_r _ [11, 12, 13, 14, 5, 15, 1, 16, 17, 18, 19, 24, 25, 26, 27, 28, 29, 30, 31, 32, 33, 34, 35, 36, 37, 38, 39] (by decide +kernel) (by decide +kernel)) (goodIn_sub (fun _ h => List.mem_cons_of_mem _ (List.mem_append_right _ h)) (by decide +kernel))
set_option maxRecDepth 20000 in
theorem gX12_lowestCap_X12_isCarried : GoodIn wsX12_lowestCap (wsV RX12 163 RX12 yX12_isCarried wsX12_isCarried) := goodIn_app (goodIn_of _ (by decide +kernel)) ggX12_lowestCap_X12_isCarried
set_option maxRecDepth 20000 in
theorem ggX12_lowestCap_X12_done : GoodIn wsX12_lowestCap wsX12_done := goodIn_r _ [23, 7, 24, 25, 26, 27, 28, 29, 30, 31, 32, 33, 34, 35, 36, 37, 38, 39] (by decide +kernel) (by decide +kernel)
set_option maxRecDepth 20000 in
theorem gX12_lowestCap_X12_done : GoodIn wsX12_lowestCap (wsV RX12 57 RX12 yX12_done wsX12_done) := goodIn_app (goodIn_of _ (by decide +kernel)) ggX12_lowestCap_X12_done
theorem dX12_lowestCap_0 : decode cX12_lowestCap 0 = .ok (.aload_n 0, 1) := by decide +kernel
theorem dX12_lowestCap_1 : decode cX12_lowestCap 1 = .ok (.getfield 7, 3) := by decide +kernel
theorem dX12_lowestCap_4 : decode cX12_lowestCap 4 = .ok (.iconst 0, 1) := by decide +kernel
theorem dX12_lowestCap_5 : decode cX12_lowestCap 5 = .ok (.iaload, 1) := by decide +kernel
theorem dX12_lowestCap_6 : decode cX12_lowestCap 6 = .ok (.ifCond .ne 9, 3) := by decide +kernel
theorem dX12_lowestCap_9 : decode cX12_lowestCap 9 = .ok (.aload_n 0, 1) := by decide +kernel
theorem dX12_lowestCap_10 : decode cX12_lowestCap 10 = .ok (.iconst 1, 1) := by decide +kernel
theorem dX12_lowestCap_11 : decode cX12_lowestCap 11 = .ok (.invokevirtual 53, 3) := by decide +kernel
theorem dX12_lowestCap_14 : decode cX12_lowestCap 14 = .ok (.ireturn, 1) := by decide +kernel
theorem dX12_lowestCap_15 : decode cX12_lowestCap 15 = .ok (.iconst 1, 1) := by decide +kernel
theorem dX12_lowestCap_16 : decode cX12_lowestCap 16 = .ok (.istore_n 1, 1) := by decide +kernel
theorem dX12_lowestCap_17 : decode cX12_lowestCap 17 = .ok (.aload_n 0, 1) := by decide +kernel
theorem dX12_lowestCap_18 : decode cX12_lowestCap 18 = .ok (.iload_n 1, 1) := by decide +kernel
theorem dX12_lowestCap_19 : decode cX12_lowestCap 19 = .ok (.invokevirtual 163, 3) := by decide +kernel
theorem dX12_lowestCap_22 : decode cX12_lowestCap 22 = .ok (.ifCond .ne 9, 3) := by decide +kernel
theorem dX12_lowestCap_25 : decode cX12_lowestCap 25 = .ok (.iinc 1 1, 3) := by decide +kernel
theorem dX12_lowestCap_28 : decode cX12_lowestCap 28 = .ok (.goto (-11), 3) := by decide +kernel
theorem dX12_lowestCap_31 : decode cX12_lowestCap 31 = .ok (.aload_n 0, 1) := by decide +kernel
theorem dX12_lowestCap_32 : decode cX12_lowestCap 32 = .ok (.iload_n 1, 1) := by decide +kernel
theorem dX12_lowestCap_33 : decode cX12_lowestCap 33 = .ok (.invokevirtual 57, 3) := by decide +kernel
theorem dX12_lowestCap_36 : decode cX12_lowestCap 36 = .ok (.ireturn, 1) := by decide +kernel
set_option maxRecDepth 20000 in
theorem ggX12_totalShares_X12_allShares : GoodIn wsX12_totalShares wsX12_allShares := goodIn_ca (goodIn_r _ [5, 6, 12, 13, 14, 15, 16, 17, 18, 19, 20, 21, 22, 23, 24, 25, 26, 27] (by decide +kernel) (by decide +kernel)) (goodIn_sub (fun _ h => List.mem_cons_of_mem _ (List.mem_append_right _ h)) (by decide +kernel))
set_option maxRecDepth 20000 in
theorem gX12_totalShares_X12_allShares : GoodIn wsX12_totalShares (wsV RX12 91 RX12 yX12_allShares wsX12_allShares) := goodIn_app (goodIn_of _ (by decide +kernel)) ggX12_totalShares_X12_allShares
set_option maxRecDepth 20000 in
theorem ggX12_totalShares_X12_done : GoodIn wsX12_totalShares wsX12_done := goodIn_r _ [10, 11, 12, 13, 14, 15, 16, 17, 18, 19, 20, 21, 22, 23, 24, 25, 26, 27] (by decide +kernel) (by decide +kernel)
set_option maxRecDepth 20000 in
theorem gX12_totalShares_X12_done : GoodIn wsX12_totalShares (wsV RX12 57 RX12 yX12_done wsX12_done) := goodIn_app (goodIn_of _ (by decide +kernel)) ggX12_totalShares_X12_done
theorem dX12_totalShares_0 : decode cX12_totalShares 0 = .ok (.aload_n 0, 1) := by decide +kernel
theorem dX12_totalShares_1 : decode cX12_totalShares 1 = .ok (.aload_n 0, 1) := by decide +kernel
theorem dX12_totalShares_2 : decode cX12_totalShares 2 = .ok (.invokevirtual 91, 3) := by decide +kernel
theorem dX12_totalShares_5 : decode cX12_totalShares 5 = .ok (.invokevirtual 57, 3) := by decide +kernel
theorem dX12_totalShares_8 : decode cX12_totalShares 8 = .ok (.ireturn, 1) := by decide +kernel
set_option maxRecDepth 20000 in
theorem ggX12_measure_X12_lasting : GoodIn wsX12_measure wsX12_lasting := goodIn_ca (goodIn_ca (goodIn_r _ [6, 1, 7, 8, 5, 9, 10, 11, 12, 13, 14, 15, 16, 17, 18, 19, 20, 21, 22, 23, 24, 25] (by decide +kernel) (by decide +kernel)) (goodIn_sub (fun _ h => List.mem_cons_of_mem _ (List.mem_append_left _ (List.mem_append_right _ h))) (by decide +kernel))) (goodIn_sub (fun _ h => List.mem_cons_of_mem _ (List.mem_append_right _ h)) (by decide +kernel))
set_option maxRecDepth 20000 in
theorem gX12_measure_X12_lasting : GoodIn wsX12_measure (wsV RX12 151 RX12 yX12_lasting wsX12_lasting) := goodIn_app (goodIn_of _ (by decide +kernel)) ggX12_measure_X12_lasting
theorem dX12_measure_0 : decode cX12_measure 0 = .ok (.iload_n 2, 1) := by decide +kernel
theorem dX12_measure_1 : decode cX12_measure 1 = .ok (.ifCond .eq 15, 3) := by decide +kernel
theorem dX12_measure_4 : decode cX12_measure 4 = .ok (.aload_n 0, 1) := by decide +kernel
theorem dX12_measure_5 : decode cX12_measure 5 = .ok (.getfield 7, 3) := by decide +kernel
theorem dX12_measure_8 : decode cX12_measure 8 = .ok (.bipush 54, 2) := by decide +kernel
theorem dX12_measure_10 : decode cX12_measure 10 = .ok (.iload_n 1, 1) := by decide +kernel
theorem dX12_measure_11 : decode cX12_measure 11 = .ok (.iadd, 1) := by decide +kernel
theorem dX12_measure_12 : decode cX12_measure 12 = .ok (.iaload, 1) := by decide +kernel
theorem dX12_measure_13 : decode cX12_measure 13 = .ok (.goto 8, 3) := by decide +kernel
theorem dX12_measure_16 : decode cX12_measure 16 = .ok (.aload_n 0, 1) := by decide +kernel
theorem dX12_measure_17 : decode cX12_measure 17 = .ok (.iload_n 1, 1) := by decide +kernel
theorem dX12_measure_18 : decode cX12_measure 18 = .ok (.invokevirtual 151, 3) := by decide +kernel
theorem dX12_measure_21 : decode cX12_measure 21 = .ok (.ireturn, 1) := by decide +kernel
set_option maxRecDepth 20000 in
theorem ggX12_ranked_X12_measure : GoodIn wsX12_ranked wsX12_measure := goodIn_ca (goodIn_ca (goodIn_r _ [6, 1, 7, 8, 9, 5, 10, 11, 12, 13, 23, 24, 25, 26, 27, 28, 29, 30, 31, 32, 33, 34, 35, 36, 37, 38] (by decide +kernel) (by decide +kernel)) (goodIn_sub (fun _ h => List.mem_cons_of_mem _ (List.mem_append_left _ (List.mem_append_right _ h))) (by decide +kernel))) (goodIn_sub (fun _ h => List.mem_cons_of_mem _ (List.mem_append_right _ h)) (by decide +kernel))
set_option maxRecDepth 20000 in
theorem gX12_ranked_X12_measure : GoodIn wsX12_ranked (wsV RX12 169 RX12 yX12_measure wsX12_measure) := goodIn_app (goodIn_of _ (by decide +kernel)) ggX12_ranked_X12_measure
set_option maxRecDepth 20000 in
theorem ggX12_ranked_X12_done : GoodIn wsX12_ranked wsX12_done := goodIn_r _ [17, 18, 23, 24, 25, 26, 27, 28, 29, 30, 31, 32, 33, 34, 35, 36, 37, 38] (by decide +kernel) (by decide +kernel)
set_option maxRecDepth 20000 in
theorem gX12_ranked_X12_done : GoodIn wsX12_ranked (wsV RX12 57 RX12 yX12_done wsX12_done) := goodIn_app (goodIn_of _ (by decide +kernel)) ggX12_ranked_X12_done
set_option maxRecDepth 20000 in
theorem ggX12_ranked_X12_fails : GoodIn wsX12_ranked wsX12_fails := goodIn_r _ [22, 18, 23, 24, 25, 26, 27, 28, 29, 30, 31, 32, 33, 34, 35, 36, 37, 38] (by decide +kernel) (by decide +kernel)
set_option maxRecDepth 20000 in
theorem gX12_ranked_X12_fails : GoodIn wsX12_ranked (wsV RX12 53 RX12 yX12_fails wsX12_fails) := goodIn_app (goodIn_of _ (by decide +kernel)) ggX12_ranked_X12_fails
theorem dX12_ranked_0 : decode cX12_ranked 0 = .ok (.iconst 0, 1) := by decide +kernel
theorem dX12_ranked_1 : decode cX12_ranked 1 = .ok (.istore_n 3, 1) := by decide +kernel
theorem dX12_ranked_2 : decode cX12_ranked 2 = .ok (.iload_n 3, 1) := by decide +kernel
theorem dX12_ranked_3 : decode cX12_ranked 3 = .ok (.aload_n 0, 1) := by decide +kernel
theorem dX12_ranked_4 : decode cX12_ranked 4 = .ok (.getfield 7, 3) := by decide +kernel
theorem dX12_ranked_7 : decode cX12_ranked 7 = .ok (.iconst 0, 1) := by decide +kernel
theorem dX12_ranked_8 : decode cX12_ranked 8 = .ok (.iaload, 1) := by decide +kernel
theorem dX12_ranked_9 : decode cX12_ranked 9 = .ok (.if_icmp .ge 86, 3) := by decide +kernel
theorem dX12_ranked_12 : decode cX12_ranked 12 = .ok (.iconst 0, 1) := by decide +kernel
theorem dX12_ranked_13 : decode cX12_ranked 13 = .ok (.istore 4, 2) := by decide +kernel
theorem dX12_ranked_15 : decode cX12_ranked 15 = .ok (.iconst 0, 1) := by decide +kernel
theorem dX12_ranked_16 : decode cX12_ranked 16 = .ok (.istore 5, 2) := by decide +kernel
theorem dX12_ranked_18 : decode cX12_ranked 18 = .ok (.iload 5, 2) := by decide +kernel
theorem dX12_ranked_20 : decode cX12_ranked 20 = .ok (.aload_n 0, 1) := by decide +kernel
theorem dX12_ranked_21 : decode cX12_ranked 21 = .ok (.getfield 7, 3) := by decide +kernel
theorem dX12_ranked_24 : decode cX12_ranked 24 = .ok (.iconst 0, 1) := by decide +kernel
theorem dX12_ranked_25 : decode cX12_ranked 25 = .ok (.iaload, 1) := by decide +kernel
theorem dX12_ranked_26 : decode cX12_ranked 26 = .ok (.if_icmp .ge 51, 3) := by decide +kernel
theorem dX12_ranked_29 : decode cX12_ranked 29 = .ok (.aload_n 0, 1) := by decide +kernel
theorem dX12_ranked_30 : decode cX12_ranked 30 = .ok (.iload 5, 2) := by decide +kernel
theorem dX12_ranked_32 : decode cX12_ranked 32 = .ok (.iload_n 2, 1) := by decide +kernel
theorem dX12_ranked_33 : decode cX12_ranked 33 = .ok (.invokevirtual 169, 3) := by decide +kernel
theorem dX12_ranked_36 : decode cX12_ranked 36 = .ok (.aload_n 0, 1) := by decide +kernel
theorem dX12_ranked_37 : decode cX12_ranked 37 = .ok (.iload_n 3, 1) := by decide +kernel
theorem dX12_ranked_38 : decode cX12_ranked 38 = .ok (.iload_n 2, 1) := by decide +kernel
theorem dX12_ranked_39 : decode cX12_ranked 39 = .ok (.invokevirtual 169, 3) := by decide +kernel
theorem dX12_ranked_42 : decode cX12_ranked 42 = .ok (.isub, 1) := by decide +kernel
theorem dX12_ranked_43 : decode cX12_ranked 43 = .ok (.istore 6, 2) := by decide +kernel
theorem dX12_ranked_45 : decode cX12_ranked 45 = .ok (.iload 4, 2) := by decide +kernel
theorem dX12_ranked_47 : decode cX12_ranked 47 = .ok (.iload 6, 2) := by decide +kernel
theorem dX12_ranked_49 : decode cX12_ranked 49 = .ok (.ifCond .gt 14, 3) := by decide +kernel
theorem dX12_ranked_52 : decode cX12_ranked 52 = .ok (.iload 6, 2) := by decide +kernel
theorem dX12_ranked_54 : decode cX12_ranked 54 = .ok (.ifCond .ne 13, 3) := by decide +kernel
theorem dX12_ranked_57 : decode cX12_ranked 57 = .ok (.iload 5, 2) := by decide +kernel
theorem dX12_ranked_59 : decode cX12_ranked 59 = .ok (.iload_n 3, 1) := by decide +kernel
theorem dX12_ranked_60 : decode cX12_ranked 60 = .ok (.if_icmp .ge 7, 3) := by decide +kernel
theorem dX12_ranked_63 : decode cX12_ranked 63 = .ok (.iconst 1, 1) := by decide +kernel
theorem dX12_ranked_64 : decode cX12_ranked 64 = .ok (.goto 4, 3) := by decide +kernel
theorem dX12_ranked_67 : decode cX12_ranked 67 = .ok (.iconst 0, 1) := by decide +kernel
theorem dX12_ranked_68 : decode cX12_ranked 68 = .ok (.iadd, 1) := by decide +kernel
theorem dX12_ranked_69 : decode cX12_ranked 69 = .ok (.istore 4, 2) := by decide +kernel
theorem dX12_ranked_71 : decode cX12_ranked 71 = .ok (.iinc 5 1, 3) := by decide +kernel
theorem dX12_ranked_74 : decode cX12_ranked 74 = .ok (.goto (-56), 3) := by decide +kernel
theorem dX12_ranked_77 : decode cX12_ranked 77 = .ok (.iload 4, 2) := by decide +kernel
theorem dX12_ranked_79 : decode cX12_ranked 79 = .ok (.iload_n 1, 1) := by decide +kernel
theorem dX12_ranked_80 : decode cX12_ranked 80 = .ok (.if_icmp .ne 9, 3) := by decide +kernel
theorem dX12_ranked_83 : decode cX12_ranked 83 = .ok (.aload_n 0, 1) := by decide +kernel
theorem dX12_ranked_84 : decode cX12_ranked 84 = .ok (.iload_n 3, 1) := by decide +kernel
theorem dX12_ranked_85 : decode cX12_ranked 85 = .ok (.invokevirtual 57, 3) := by decide +kernel
theorem dX12_ranked_88 : decode cX12_ranked 88 = .ok (.ireturn, 1) := by decide +kernel
theorem dX12_ranked_89 : decode cX12_ranked 89 = .ok (.iinc 3 1, 3) := by decide +kernel
theorem dX12_ranked_92 : decode cX12_ranked 92 = .ok (.goto (-90), 3) := by decide +kernel
theorem dX12_ranked_95 : decode cX12_ranked 95 = .ok (.aload_n 0, 1) := by decide +kernel
theorem dX12_ranked_96 : decode cX12_ranked 96 = .ok (.iconst 1, 1) := by decide +kernel
theorem dX12_ranked_97 : decode cX12_ranked 97 = .ok (.invokevirtual 53, 3) := by decide +kernel
theorem dX12_ranked_100 : decode cX12_ranked 100 = .ok (.ireturn, 1) := by decide +kernel
set_option maxRecDepth 20000 in
theorem ggX12_richestLamp_X12_ranked : GoodIn wsX12_richestLamp wsX12_ranked := goodIn_ca (goodIn_ca (goodIn_r _ [5, 6, 7, 8, 9, 4, 10, 11, 12, 13, 14, 15, 16, 17, 18, 19, 20, 21, 22, 23, 24, 25, 26, 27, 28, 29, 30, 31, 32, 33, 34, 35, 36, 37, 38, 39, 40, 41, 42] (by decide +kernel) (by decide +kernel)) (goodIn_sub (fun _ h => List.mem_cons_of_mem _ (List.mem_append_left _ (List.mem_append_right _ h))) (by decide +kernel))) (goodIn_sub (fun _ h => List.mem_cons_of_mem _ (List.mem_append_right _ h)) (by decide +kernel))
set_option maxRecDepth 20000 in
theorem gX12_richestLamp_X12_ranked : GoodIn wsX12_richestLamp (wsV RX12 173 RX12 yX12_ranked wsX12_ranked) := goodIn_app (goodIn_of _ (by decide +kernel)) ggX12_richestLamp_X12_ranked
theorem dX12_richestLamp_0 : decode cX12_richestLamp 0 = .ok (.aload_n 0, 1) := by decide +kernel
theorem dX12_richestLamp_1 : decode cX12_richestLamp 1 = .ok (.iload_n 1, 1) := by decide +kernel
theorem dX12_richestLamp_2 : decode cX12_richestLamp 2 = .ok (.iconst 1, 1) := by decide +kernel
theorem dX12_richestLamp_3 : decode cX12_richestLamp 3 = .ok (.invokevirtual 173, 3) := by decide +kernel
theorem dX12_richestLamp_6 : decode cX12_richestLamp 6 = .ok (.ireturn, 1) := by decide +kernel
set_option maxRecDepth 20000 in
theorem ggX12_longestLamp_X12_ranked : GoodIn wsX12_longestLamp wsX12_ranked := goodIn_ca (goodIn_ca (goodIn_r _ [5, 6, 7, 8, 9, 4, 10, 11, 12, 13, 14, 15, 16, 17, 18, 19, 20, 21, 22, 23, 24, 25, 26, 27, 28, 29, 30, 31, 32, 33, 34, 35, 36, 37, 38, 39, 40, 41, 42] (by decide +kernel) (by decide +kernel)) (goodIn_sub (fun _ h => List.mem_cons_of_mem _ (List.mem_append_left _ (List.mem_append_right _ h))) (by decide +kernel))) (goodIn_sub (fun _ h => List.mem_cons_of_mem _ (List.mem_append_right _ h)) (by decide +kernel))
set_option maxRecDepth 20000 in
theorem gX12_longestLamp_X12_ranked : GoodIn wsX12_longestLamp (wsV RX12 173 RX12 yX12_ranked wsX12_ranked) := goodIn_app (goodIn_of _ (by decide +kernel)) ggX12_longestLamp_X12_ranked
theorem dX12_longestLamp_0 : decode cX12_longestLamp 0 = .ok (.aload_n 0, 1) := by decide +kernel
theorem dX12_longestLamp_1 : decode cX12_longestLamp 1 = .ok (.iload_n 1, 1) := by decide +kernel
theorem dX12_longestLamp_2 : decode cX12_longestLamp 2 = .ok (.iconst 0, 1) := by decide +kernel
theorem dX12_longestLamp_3 : decode cX12_longestLamp 3 = .ok (.invokevirtual 173, 3) := by decide +kernel
theorem dX12_longestLamp_6 : decode cX12_longestLamp 6 = .ok (.ireturn, 1) := by decide +kernel
theorem dX12_writes_0 : decode cX12_writes 0 = .ok (.aload_n 0, 1) := by decide +kernel
theorem dX12_writes_1 : decode cX12_writes 1 = .ok (.getfield 33, 3) := by decide +kernel
theorem dX12_writes_4 : decode cX12_writes 4 = .ok (.aload_n 0, 1) := by decide +kernel
theorem dX12_writes_5 : decode cX12_writes 5 = .ok (.getfield 176, 3) := by decide +kernel
theorem dX12_writes_8 : decode cX12_writes 8 = .ok (.iload_n 1, 1) := by decide +kernel
theorem dX12_writes_9 : decode cX12_writes 9 = .ok (.i2c, 1) := by decide +kernel
theorem dX12_writes_10 : decode cX12_writes 10 = .ok (.castore, 1) := by decide +kernel
theorem dX12_writes_11 : decode cX12_writes 11 = .ok (.aload_n 0, 1) := by decide +kernel
theorem dX12_writes_12 : decode cX12_writes 12 = .ok (.dup, 1) := by decide +kernel
theorem dX12_writes_13 : decode cX12_writes 13 = .ok (.getfield 176, 3) := by decide +kernel
theorem dX12_writes_16 : decode cX12_writes 16 = .ok (.iconst 1, 1) := by decide +kernel
theorem dX12_writes_17 : decode cX12_writes 17 = .ok (.iadd, 1) := by decide +kernel
theorem dX12_writes_18 : decode cX12_writes 18 = .ok (.putfield 176, 3) := by decide +kernel
theorem dX12_writes_21 : decode cX12_writes 21 = .ok (.return_, 1) := by decide +kernel
set_option maxRecDepth 20000 in
theorem ggX12_writesAfter_X12_writes : GoodIn wsX12_writesAfter wsX12_writes := goodIn_ca (goodIn_r _ [5, 6, 7, 8, 9, 10, 11, 12, 13, 14, 15, 16, 17, 18, 19, 20, 21, 22, 23] (by decide +kernel) (by decide +kernel)) (goodIn_sub (fun _ h => List.mem_cons_of_mem _ (List.mem_append_right _ h)) (by decide +kernel))
set_option maxRecDepth 20000 in
theorem gX12_writesAfter_X12_writes : GoodIn wsX12_writesAfter (wsV RX12 179 RX12 yX12_writes wsX12_writes) := goodIn_app (goodIn_of _ (by decide +kernel)) ggX12_writesAfter_X12_writes
theorem dX12_writesAfter_0 : decode cX12_writesAfter 0 = .ok (.aload_n 0, 1) := by decide +kernel
theorem dX12_writesAfter_1 : decode cX12_writesAfter 1 = .ok (.iload_n 1, 1) := by decide +kernel
theorem dX12_writesAfter_2 : decode cX12_writesAfter 2 = .ok (.invokevirtual 179, 3) := by decide +kernel
theorem dX12_writesAfter_5 : decode cX12_writesAfter 5 = .ok (.iload_n 2, 1) := by decide +kernel
theorem dX12_writesAfter_6 : decode cX12_writesAfter 6 = .ok (.bipush 9, 2) := by decide +kernel
theorem dX12_writesAfter_8 : decode cX12_writesAfter 8 = .ok (.if_icmp .le 14, 3) := by decide +kernel
theorem dX12_writesAfter_11 : decode cX12_writesAfter 11 = .ok (.aload_n 0, 1) := by decide +kernel
theorem dX12_writesAfter_12 : decode cX12_writesAfter 12 = .ok (.bipush 48, 2) := by decide +kernel
theorem dX12_writesAfter_14 : decode cX12_writesAfter 14 = .ok (.iload_n 2, 1) := by decide +kernel
theorem dX12_writesAfter_15 : decode cX12_writesAfter 15 = .ok (.bipush 10, 2) := by decide +kernel
theorem dX12_writesAfter_17 : decode cX12_writesAfter 17 = .ok (.idiv, 1) := by decide +kernel
theorem dX12_writesAfter_18 : decode cX12_writesAfter 18 = .ok (.iadd, 1) := by decide +kernel
theorem dX12_writesAfter_19 : decode cX12_writesAfter 19 = .ok (.invokevirtual 179, 3) := by decide +kernel
theorem dX12_writesAfter_22 : decode cX12_writesAfter 22 = .ok (.aload_n 0, 1) := by decide +kernel
theorem dX12_writesAfter_23 : decode cX12_writesAfter 23 = .ok (.bipush 48, 2) := by decide +kernel
theorem dX12_writesAfter_25 : decode cX12_writesAfter 25 = .ok (.iload_n 2, 1) := by decide +kernel
theorem dX12_writesAfter_26 : decode cX12_writesAfter 26 = .ok (.bipush 10, 2) := by decide +kernel
theorem dX12_writesAfter_28 : decode cX12_writesAfter 28 = .ok (.irem, 1) := by decide +kernel
theorem dX12_writesAfter_29 : decode cX12_writesAfter 29 = .ok (.iadd, 1) := by decide +kernel
theorem dX12_writesAfter_30 : decode cX12_writesAfter 30 = .ok (.invokevirtual 179, 3) := by decide +kernel
theorem dX12_writesAfter_33 : decode cX12_writesAfter 33 = .ok (.return_, 1) := by decide +kernel
set_option maxRecDepth 20000 in
theorem ggX12_writeLamp_X12_isLamp : GoodIn wsX12_writeLamp wsX12_isLamp := goodIn_ca (goodIn_r _ [7, 2, 8, 9, 6, 10, 29, 30, 31, 32, 33, 34, 35, 36, 37, 38, 39, 40, 41, 42, 43, 44] (by decide +kernel) (by decide +kernel)) (goodIn_sub (fun _ h => List.mem_cons_of_mem _ (List.mem_append_right _ h)) (by decide +kernel))
set_option maxRecDepth 20000 in
theorem gX12_writeLamp_X12_isLamp : GoodIn wsX12_writeLamp (wsV RX12 70 RX12 yX12_isLamp wsX12_isLamp) := goodIn_app (goodIn_of _ (by decide +kernel)) ggX12_writeLamp_X12_isLamp
set_option maxRecDepth 20000 in
theorem ggX12_writeLamp_X12_fails : GoodIn wsX12_writeLamp wsX12_fails := goodIn_r _ [14, 15, 29, 30, 31, 32, 33, 34, 35, 36, 37, 38, 39, 40, 41, 42, 43, 44] (by decide +kernel) (by decide +kernel)
set_option maxRecDepth 20000 in
theorem gX12_writeLamp_X12_fails : GoodIn wsX12_writeLamp (wsV RX12 53 RX12 yX12_fails wsX12_fails) := goodIn_app (goodIn_of _ (by decide +kernel)) ggX12_writeLamp_X12_fails
set_option maxRecDepth 20000 in
theorem ggX12_writeLamp_X12_writes : GoodIn wsX12_writeLamp wsX12_writes := goodIn_ca (goodIn_r _ [19, 20, 1, 29, 30, 31, 32, 33, 34, 35, 36, 37, 38, 39, 40, 41, 42, 43, 44] (by decide +kernel) (by decide +kernel)) (goodIn_sub (fun _ h => List.mem_cons_of_mem _ (List.mem_append_right _ h)) (by decide +kernel))
set_option maxRecDepth 20000 in
theorem gX12_writeLamp_X12_writes : GoodIn wsX12_writeLamp (wsV RX12 179 RX12 yX12_writes wsX12_writes) := goodIn_app (goodIn_of _ (by decide +kernel)) ggX12_writeLamp_X12_writes
set_option maxRecDepth 20000 in
theorem ggX12_writeLamp_X12_writesAfter : GoodIn wsX12_writeLamp wsX12_writesAfter := goodIn_ca (goodIn_r _ [24, 16, 17, 18, 6, 19, 20, 1, 29, 30, 31, 32, 33, 34, 35, 36, 37, 38, 39, 40, 41, 42, 43, 44] (by decide +kernel) (by decide +kernel)) (goodIn_sub (fun _ h => List.mem_cons_of_mem _ (List.mem_append_right _ h)) (by decide +kernel))
set_option maxRecDepth 20000 in
theorem gX12_writeLamp_X12_writesAfter : GoodIn wsX12_writeLamp (wsV RX12 183 RX12 yX12_writesAfter wsX12_writesAfter) := goodIn_app (goodIn_of _ (by decide +kernel)) ggX12_writeLamp_X12_writesAfter
set_option maxRecDepth 20000 in
theorem ggX12_writeLamp_X12_done : GoodIn wsX12_writeLamp wsX12_done := goodIn_r _ [28, 15, 29, 30, 31, 32, 33, 34, 35, 36, 37, 38, 39, 40, 41, 42, 43, 44] (by decide +kernel) (by decide +kernel)
set_option maxRecDepth 20000 in
theorem gX12_writeLamp_X12_done : GoodIn wsX12_writeLamp (wsV RX12 57 RX12 yX12_done wsX12_done) := goodIn_app (goodIn_of _ (by decide +kernel)) ggX12_writeLamp_X12_done
theorem dX12_writeLamp_0 : decode cX12_writeLamp 0 = .ok (.aload_n 0, 1) := by decide +kernel
theorem dX12_writeLamp_1 : decode cX12_writeLamp 1 = .ok (.iload_n 1, 1) := by decide +kernel
theorem dX12_writeLamp_2 : decode cX12_writeLamp 2 = .ok (.invokevirtual 70, 3) := by decide +kernel
theorem dX12_writeLamp_5 : decode cX12_writeLamp 5 = .ok (.ifCond .ne 9, 3) := by decide +kernel
theorem dX12_writeLamp_8 : decode cX12_writeLamp 8 = .ok (.aload_n 0, 1) := by decide +kernel
theorem dX12_writeLamp_9 : decode cX12_writeLamp 9 = .ok (.iconst 1, 1) := by decide +kernel
theorem dX12_writeLamp_10 : decode cX12_writeLamp 10 = .ok (.invokevirtual 53, 3) := by decide +kernel
theorem dX12_writeLamp_13 : decode cX12_writeLamp 13 = .ok (.ireturn, 1) := by decide +kernel
theorem dX12_writeLamp_14 : decode cX12_writeLamp 14 = .ok (.aload_n 0, 1) := by decide +kernel
theorem dX12_writeLamp_15 : decode cX12_writeLamp 15 = .ok (.iconst 0, 1) := by decide +kernel
theorem dX12_writeLamp_16 : decode cX12_writeLamp 16 = .ok (.putfield 176, 3) := by decide +kernel
theorem dX12_writeLamp_19 : decode cX12_writeLamp 19 = .ok (.aload_n 0, 1) := by decide +kernel
theorem dX12_writeLamp_20 : decode cX12_writeLamp 20 = .ok (.bipush 48, 2) := by decide +kernel
theorem dX12_writeLamp_22 : decode cX12_writeLamp 22 = .ok (.iload_n 1, 1) := by decide +kernel
theorem dX12_writeLamp_23 : decode cX12_writeLamp 23 = .ok (.iadd, 1) := by decide +kernel
theorem dX12_writeLamp_24 : decode cX12_writeLamp 24 = .ok (.invokevirtual 179, 3) := by decide +kernel
theorem dX12_writeLamp_27 : decode cX12_writeLamp 27 = .ok (.aload_n 0, 1) := by decide +kernel
theorem dX12_writeLamp_28 : decode cX12_writeLamp 28 = .ok (.bipush 58, 2) := by decide +kernel
theorem dX12_writeLamp_30 : decode cX12_writeLamp 30 = .ok (.aload_n 0, 1) := by decide +kernel
theorem dX12_writeLamp_31 : decode cX12_writeLamp 31 = .ok (.getfield 7, 3) := by decide +kernel
theorem dX12_writeLamp_34 : decode cX12_writeLamp 34 = .ok (.bipush 6, 2) := by decide +kernel
theorem dX12_writeLamp_36 : decode cX12_writeLamp 36 = .ok (.iload_n 1, 1) := by decide +kernel
theorem dX12_writeLamp_37 : decode cX12_writeLamp 37 = .ok (.iadd, 1) := by decide +kernel
theorem dX12_writeLamp_38 : decode cX12_writeLamp 38 = .ok (.iaload, 1) := by decide +kernel
theorem dX12_writeLamp_39 : decode cX12_writeLamp 39 = .ok (.invokevirtual 183, 3) := by decide +kernel
theorem dX12_writeLamp_42 : decode cX12_writeLamp 42 = .ok (.aload_n 0, 1) := by decide +kernel
theorem dX12_writeLamp_43 : decode cX12_writeLamp 43 = .ok (.bipush 42, 2) := by decide +kernel
theorem dX12_writeLamp_45 : decode cX12_writeLamp 45 = .ok (.aload_n 0, 1) := by decide +kernel
theorem dX12_writeLamp_46 : decode cX12_writeLamp 46 = .ok (.getfield 7, 3) := by decide +kernel
theorem dX12_writeLamp_49 : decode cX12_writeLamp 49 = .ok (.bipush 22, 2) := by decide +kernel
theorem dX12_writeLamp_51 : decode cX12_writeLamp 51 = .ok (.iload_n 1, 1) := by decide +kernel
theorem dX12_writeLamp_52 : decode cX12_writeLamp 52 = .ok (.iadd, 1) := by decide +kernel
theorem dX12_writeLamp_53 : decode cX12_writeLamp 53 = .ok (.iaload, 1) := by decide +kernel
theorem dX12_writeLamp_54 : decode cX12_writeLamp 54 = .ok (.invokevirtual 183, 3) := by decide +kernel
theorem dX12_writeLamp_57 : decode cX12_writeLamp 57 = .ok (.aload_n 0, 1) := by decide +kernel
theorem dX12_writeLamp_58 : decode cX12_writeLamp 58 = .ok (.bipush 111, 2) := by decide +kernel
theorem dX12_writeLamp_60 : decode cX12_writeLamp 60 = .ok (.aload_n 0, 1) := by decide +kernel
theorem dX12_writeLamp_61 : decode cX12_writeLamp 61 = .ok (.getfield 7, 3) := by decide +kernel
theorem dX12_writeLamp_64 : decode cX12_writeLamp 64 = .ok (.bipush 38, 2) := by decide +kernel
theorem dX12_writeLamp_66 : decode cX12_writeLamp 66 = .ok (.iload_n 1, 1) := by decide +kernel
theorem dX12_writeLamp_67 : decode cX12_writeLamp 67 = .ok (.iadd, 1) := by decide +kernel
theorem dX12_writeLamp_68 : decode cX12_writeLamp 68 = .ok (.iaload, 1) := by decide +kernel
theorem dX12_writeLamp_69 : decode cX12_writeLamp 69 = .ok (.invokevirtual 183, 3) := by decide +kernel
theorem dX12_writeLamp_72 : decode cX12_writeLamp 72 = .ok (.aload_n 0, 1) := by decide +kernel
theorem dX12_writeLamp_73 : decode cX12_writeLamp 73 = .ok (.bipush 119, 2) := by decide +kernel
theorem dX12_writeLamp_75 : decode cX12_writeLamp 75 = .ok (.aload_n 0, 1) := by decide +kernel
theorem dX12_writeLamp_76 : decode cX12_writeLamp 76 = .ok (.getfield 7, 3) := by decide +kernel
theorem dX12_writeLamp_79 : decode cX12_writeLamp 79 = .ok (.bipush 46, 2) := by decide +kernel
theorem dX12_writeLamp_81 : decode cX12_writeLamp 81 = .ok (.iload_n 1, 1) := by decide +kernel
theorem dX12_writeLamp_82 : decode cX12_writeLamp 82 = .ok (.iadd, 1) := by decide +kernel
theorem dX12_writeLamp_83 : decode cX12_writeLamp 83 = .ok (.iaload, 1) := by decide +kernel
theorem dX12_writeLamp_84 : decode cX12_writeLamp 84 = .ok (.invokevirtual 183, 3) := by decide +kernel
theorem dX12_writeLamp_87 : decode cX12_writeLamp 87 = .ok (.aload_n 0, 1) := by decide +kernel
theorem dX12_writeLamp_88 : decode cX12_writeLamp 88 = .ok (.getfield 7, 3) := by decide +kernel
theorem dX12_writeLamp_91 : decode cX12_writeLamp 91 = .ok (.bipush 30, 2) := by decide +kernel
theorem dX12_writeLamp_93 : decode cX12_writeLamp 93 = .ok (.iload_n 1, 1) := by decide +kernel
theorem dX12_writeLamp_94 : decode cX12_writeLamp 94 = .ok (.iadd, 1) := by decide +kernel
theorem dX12_writeLamp_95 : decode cX12_writeLamp 95 = .ok (.iaload, 1) := by decide +kernel
theorem dX12_writeLamp_96 : decode cX12_writeLamp 96 = .ok (.iconst 1, 1) := by decide +kernel
theorem dX12_writeLamp_97 : decode cX12_writeLamp 97 = .ok (.if_icmp .ne 9, 3) := by decide +kernel
theorem dX12_writeLamp_100 : decode cX12_writeLamp 100 = .ok (.aload_n 0, 1) := by decide +kernel
theorem dX12_writeLamp_101 : decode cX12_writeLamp 101 = .ok (.bipush 33, 2) := by decide +kernel
theorem dX12_writeLamp_103 : decode cX12_writeLamp 103 = .ok (.invokevirtual 179, 3) := by decide +kernel
theorem dX12_writeLamp_106 : decode cX12_writeLamp 106 = .ok (.aload_n 0, 1) := by decide +kernel
theorem dX12_writeLamp_107 : decode cX12_writeLamp 107 = .ok (.aload_n 0, 1) := by decide +kernel
theorem dX12_writeLamp_108 : decode cX12_writeLamp 108 = .ok (.getfield 176, 3) := by decide +kernel
theorem dX12_writeLamp_111 : decode cX12_writeLamp 111 = .ok (.invokevirtual 57, 3) := by decide +kernel
theorem dX12_writeLamp_114 : decode cX12_writeLamp 114 = .ok (.ireturn, 1) := by decide +kernel
set_option maxRecDepth 20000 in
theorem ggX12_lineAt_X12_in : GoodIn wsX12_lineAt wsX12_in := goodIn_r _ [7] (by decide +kernel) (by decide +kernel)
set_option maxRecDepth 20000 in
theorem gX12_lineAt_X12_in : GoodIn wsX12_lineAt (va_wsS RX12 49 yX12_in wsX12_in) := goodIn_app (goodIn_of _ (by decide +kernel)) ggX12_lineAt_X12_in
theorem dX12_lineAt_0 : decode cX12_lineAt 0 = .ok (.aload_n 0, 1) := by decide +kernel
theorem dX12_lineAt_1 : decode cX12_lineAt 1 = .ok (.iload_n 1, 1) := by decide +kernel
theorem dX12_lineAt_2 : decode cX12_lineAt 2 = .ok (.iconst 0, 1) := by decide +kernel
theorem dX12_lineAt_3 : decode cX12_lineAt 3 = .ok (.aload_n 0, 1) := by decide +kernel
theorem dX12_lineAt_4 : decode cX12_lineAt 4 = .ok (.getfield 176, 3) := by decide +kernel
theorem dX12_lineAt_7 : decode cX12_lineAt 7 = .ok (.iconst 1, 1) := by decide +kernel
theorem dX12_lineAt_8 : decode cX12_lineAt 8 = .ok (.isub, 1) := by decide +kernel
theorem dX12_lineAt_9 : decode cX12_lineAt 9 = .ok (.invokestatic 49, 3) := by decide +kernel
theorem dX12_lineAt_12 : decode cX12_lineAt 12 = .ok (.ifCond .eq 7, 3) := by decide +kernel
theorem dX12_lineAt_15 : decode cX12_lineAt 15 = .ok (.iconst 0, 1) := by decide +kernel
theorem dX12_lineAt_16 : decode cX12_lineAt 16 = .ok (.goto 4, 3) := by decide +kernel
theorem dX12_lineAt_19 : decode cX12_lineAt 19 = .ok (.iconst 1, 1) := by decide +kernel
theorem dX12_lineAt_20 : decode cX12_lineAt 20 = .ok (.putfield 39, 3) := by decide +kernel
theorem dX12_lineAt_23 : decode cX12_lineAt 23 = .ok (.aload_n 0, 1) := by decide +kernel
theorem dX12_lineAt_24 : decode cX12_lineAt 24 = .ok (.getfield 39, 3) := by decide +kernel
theorem dX12_lineAt_27 : decode cX12_lineAt 27 = .ok (.ifCond .ne 12, 3) := by decide +kernel
theorem dX12_lineAt_30 : decode cX12_lineAt 30 = .ok (.aload_n 0, 1) := by decide +kernel
theorem dX12_lineAt_31 : decode cX12_lineAt 31 = .ok (.getfield 33, 3) := by decide +kernel
theorem dX12_lineAt_34 : decode cX12_lineAt 34 = .ok (.iload_n 1, 1) := by decide +kernel
theorem dX12_lineAt_35 : decode cX12_lineAt 35 = .ok (.caload, 1) := by decide +kernel
theorem dX12_lineAt_36 : decode cX12_lineAt 36 = .ok (.goto 4, 3) := by decide +kernel
theorem dX12_lineAt_39 : decode cX12_lineAt 39 = .ok (.iconst 0, 1) := by decide +kernel
theorem dX12_lineAt_40 : decode cX12_lineAt 40 = .ok (.ireturn, 1) := by decide +kernel
theorem dX12_meanOil_0 : decode cX12_meanOil 0 = .ok (.iconst 0, 1) := by decide +kernel
theorem dX12_meanOil_1 : decode cX12_meanOil 1 = .ok (.istore_n 1, 1) := by decide +kernel
theorem dX12_meanOil_2 : decode cX12_meanOil 2 = .ok (.iconst 0, 1) := by decide +kernel
theorem dX12_meanOil_3 : decode cX12_meanOil 3 = .ok (.istore_n 2, 1) := by decide +kernel
theorem dX12_meanOil_4 : decode cX12_meanOil 4 = .ok (.iload_n 2, 1) := by decide +kernel
theorem dX12_meanOil_5 : decode cX12_meanOil 5 = .ok (.aload_n 0, 1) := by decide +kernel
theorem dX12_meanOil_6 : decode cX12_meanOil 6 = .ok (.getfield 7, 3) := by decide +kernel
theorem dX12_meanOil_9 : decode cX12_meanOil 9 = .ok (.iconst 0, 1) := by decide +kernel
theorem dX12_meanOil_10 : decode cX12_meanOil 10 = .ok (.iaload, 1) := by decide +kernel
theorem dX12_meanOil_11 : decode cX12_meanOil 11 = .ok (.if_icmp .ge 21, 3) := by decide +kernel
theorem dX12_meanOil_14 : decode cX12_meanOil 14 = .ok (.iload_n 1, 1) := by decide +kernel
theorem dX12_meanOil_15 : decode cX12_meanOil 15 = .ok (.aload_n 0, 1) := by decide +kernel
theorem dX12_meanOil_16 : decode cX12_meanOil 16 = .ok (.getfield 7, 3) := by decide +kernel
theorem dX12_meanOil_19 : decode cX12_meanOil 19 = .ok (.bipush 38, 2) := by decide +kernel
theorem dX12_meanOil_21 : decode cX12_meanOil 21 = .ok (.iload_n 2, 1) := by decide +kernel
theorem dX12_meanOil_22 : decode cX12_meanOil 22 = .ok (.iadd, 1) := by decide +kernel
theorem dX12_meanOil_23 : decode cX12_meanOil 23 = .ok (.iaload, 1) := by decide +kernel
theorem dX12_meanOil_24 : decode cX12_meanOil 24 = .ok (.iadd, 1) := by decide +kernel
theorem dX12_meanOil_25 : decode cX12_meanOil 25 = .ok (.istore_n 1, 1) := by decide +kernel
theorem dX12_meanOil_26 : decode cX12_meanOil 26 = .ok (.iinc 2 1, 3) := by decide +kernel
theorem dX12_meanOil_29 : decode cX12_meanOil 29 = .ok (.goto (-25), 3) := by decide +kernel
theorem dX12_meanOil_32 : decode cX12_meanOil 32 = .ok (.aload_n 0, 1) := by decide +kernel
theorem dX12_meanOil_33 : decode cX12_meanOil 33 = .ok (.aload_n 0, 1) := by decide +kernel
theorem dX12_meanOil_34 : decode cX12_meanOil 34 = .ok (.getfield 7, 3) := by decide +kernel
theorem dX12_meanOil_37 : decode cX12_meanOil 37 = .ok (.iconst 0, 1) := by decide +kernel
theorem dX12_meanOil_38 : decode cX12_meanOil 38 = .ok (.iaload, 1) := by decide +kernel
theorem dX12_meanOil_39 : decode cX12_meanOil 39 = .ok (.ifCond .ne 7, 3) := by decide +kernel
theorem dX12_meanOil_42 : decode cX12_meanOil 42 = .ok (.iconst 1, 1) := by decide +kernel
theorem dX12_meanOil_43 : decode cX12_meanOil 43 = .ok (.goto 4, 3) := by decide +kernel
theorem dX12_meanOil_46 : decode cX12_meanOil 46 = .ok (.iconst 0, 1) := by decide +kernel
theorem dX12_meanOil_47 : decode cX12_meanOil 47 = .ok (.putfield 39, 3) := by decide +kernel
theorem dX12_meanOil_50 : decode cX12_meanOil 50 = .ok (.aload_n 0, 1) := by decide +kernel
theorem dX12_meanOil_51 : decode cX12_meanOil 51 = .ok (.getfield 39, 3) := by decide +kernel
theorem dX12_meanOil_54 : decode cX12_meanOil 54 = .ok (.ifCond .ne 16, 3) := by decide +kernel
theorem dX12_meanOil_57 : decode cX12_meanOil 57 = .ok (.iload_n 1, 1) := by decide +kernel
theorem dX12_meanOil_58 : decode cX12_meanOil 58 = .ok (.i2d, 1) := by decide +kernel
theorem dX12_meanOil_59 : decode cX12_meanOil 59 = .ok (.aload_n 0, 1) := by decide +kernel
theorem dX12_meanOil_60 : decode cX12_meanOil 60 = .ok (.getfield 7, 3) := by decide +kernel
theorem dX12_meanOil_63 : decode cX12_meanOil 63 = .ok (.iconst 0, 1) := by decide +kernel
theorem dX12_meanOil_64 : decode cX12_meanOil 64 = .ok (.iaload, 1) := by decide +kernel
theorem dX12_meanOil_65 : decode cX12_meanOil 65 = .ok (.i2d, 1) := by decide +kernel
theorem dX12_meanOil_66 : decode cX12_meanOil 66 = .ok (.ddiv, 1) := by decide +kernel
theorem dX12_meanOil_67 : decode cX12_meanOil 67 = .ok (.goto 4, 3) := by decide +kernel
theorem dX12_meanOil_70 : decode cX12_meanOil 70 = .ok (.dconst 0, 1) := by decide +kernel
theorem dX12_meanOil_71 : decode cX12_meanOil 71 = .ok (.dreturn, 1) := by decide +kernel
theorem dX12_isBalanced_0 : decode cX12_isBalanced 0 = .ok (.aload_n 0, 1) := by decide +kernel
theorem dX12_isBalanced_1 : decode cX12_isBalanced 1 = .ok (.iconst 0, 1) := by decide +kernel
theorem dX12_isBalanced_2 : decode cX12_isBalanced 2 = .ok (.putfield 39, 3) := by decide +kernel
theorem dX12_isBalanced_5 : decode cX12_isBalanced 5 = .ok (.iconst 1, 1) := by decide +kernel
theorem dX12_isBalanced_6 : decode cX12_isBalanced 6 = .ok (.ireturn, 1) := by decide +kernel
set_option maxRecDepth 20000 in
theorem ggX12_type_X12_in : GoodIn wsX12_type wsX12_in := goodIn_r _ [6] (by decide +kernel) (by decide +kernel)
set_option maxRecDepth 20000 in
theorem gX12_type_X12_in : GoodIn wsX12_type (va_wsS RX12 49 yX12_in wsX12_in) := goodIn_app (goodIn_of _ (by decide +kernel)) ggX12_type_X12_in
set_option maxRecDepth 20000 in
theorem ggX12_type_X12_fails : GoodIn wsX12_type wsX12_fails := goodIn_r _ [10, 11, 16, 17, 18, 19, 20, 21, 22, 23, 24, 25, 26, 27, 28, 29, 30, 31] (by decide +kernel) (by decide +kernel)
set_option maxRecDepth 20000 in
theorem gX12_type_X12_fails : GoodIn wsX12_type (wsV RX12 53 RX12 yX12_fails wsX12_fails) := goodIn_app (goodIn_of _ (by decide +kernel)) ggX12_type_X12_fails
set_option maxRecDepth 20000 in
theorem ggX12_type_X12_done : GoodIn wsX12_type wsX12_done := goodIn_r _ [15, 11, 16, 17, 18, 19, 20, 21, 22, 23, 24, 25, 26, 27, 28, 29, 30, 31] (by decide +kernel) (by decide +kernel)
set_option maxRecDepth 20000 in
theorem gX12_type_X12_done : GoodIn wsX12_type (wsV RX12 57 RX12 yX12_done wsX12_done) := goodIn_app (goodIn_of _ (by decide +kernel)) ggX12_type_X12_done
theorem dX12_type_0 : decode cX12_type 0 = .ok (.iload_n 1, 1) := by decide +kernel
theorem dX12_type_1 : decode cX12_type 1 = .ok (.bipush 32, 2) := by decide +kernel
theorem dX12_type_3 : decode cX12_type 3 = .ok (.bipush 126, 2) := by decide +kernel
theorem dX12_type_5 : decode cX12_type 5 = .ok (.invokestatic 49, 3) := by decide +kernel
theorem dX12_type_8 : decode cX12_type 8 = .ok (.ifCond .ne 9, 3) := by decide +kernel
theorem dX12_type_11 : decode cX12_type 11 = .ok (.aload_n 0, 1) := by decide +kernel
theorem dX12_type_12 : decode cX12_type 12 = .ok (.iconst 1, 1) := by decide +kernel
theorem dX12_type_13 : decode cX12_type 13 = .ok (.invokevirtual 53, 3) := by decide +kernel
theorem dX12_type_16 : decode cX12_type 16 = .ok (.ireturn, 1) := by decide +kernel
theorem dX12_type_17 : decode cX12_type 17 = .ok (.aload_n 0, 1) := by decide +kernel
theorem dX12_type_18 : decode cX12_type 18 = .ok (.getfield 186, 3) := by decide +kernel
theorem dX12_type_21 : decode cX12_type 21 = .ok (.bipush 60, 2) := by decide +kernel
theorem dX12_type_23 : decode cX12_type 23 = .ok (.if_icmp .ne 9, 3) := by decide +kernel
theorem dX12_type_26 : decode cX12_type 26 = .ok (.aload_n 0, 1) := by decide +kernel
theorem dX12_type_27 : decode cX12_type 27 = .ok (.iconst 2, 1) := by decide +kernel
theorem dX12_type_28 : decode cX12_type 28 = .ok (.invokevirtual 53, 3) := by decide +kernel
theorem dX12_type_31 : decode cX12_type 31 = .ok (.ireturn, 1) := by decide +kernel
theorem dX12_type_32 : decode cX12_type 32 = .ok (.aload_n 0, 1) := by decide +kernel
theorem dX12_type_33 : decode cX12_type 33 = .ok (.getfield 22, 3) := by decide +kernel
theorem dX12_type_36 : decode cX12_type 36 = .ok (.aload_n 0, 1) := by decide +kernel
theorem dX12_type_37 : decode cX12_type 37 = .ok (.getfield 186, 3) := by decide +kernel
theorem dX12_type_40 : decode cX12_type 40 = .ok (.iload_n 1, 1) := by decide +kernel
theorem dX12_type_41 : decode cX12_type 41 = .ok (.castore, 1) := by decide +kernel
theorem dX12_type_42 : decode cX12_type 42 = .ok (.aload_n 0, 1) := by decide +kernel
theorem dX12_type_43 : decode cX12_type 43 = .ok (.dup, 1) := by decide +kernel
theorem dX12_type_44 : decode cX12_type 44 = .ok (.getfield 186, 3) := by decide +kernel
theorem dX12_type_47 : decode cX12_type 47 = .ok (.iconst 1, 1) := by decide +kernel
theorem dX12_type_48 : decode cX12_type 48 = .ok (.iadd, 1) := by decide +kernel
theorem dX12_type_49 : decode cX12_type 49 = .ok (.putfield 186, 3) := by decide +kernel
theorem dX12_type_52 : decode cX12_type 52 = .ok (.aload_n 0, 1) := by decide +kernel
theorem dX12_type_53 : decode cX12_type 53 = .ok (.aload_n 0, 1) := by decide +kernel
theorem dX12_type_54 : decode cX12_type 54 = .ok (.getfield 186, 3) := by decide +kernel
theorem dX12_type_57 : decode cX12_type 57 = .ok (.invokevirtual 57, 3) := by decide +kernel
theorem dX12_type_60 : decode cX12_type 60 = .ok (.ireturn, 1) := by decide +kernel
theorem dX12_here_0 : decode cX12_here 0 = .ok (.aload_n 0, 1) := by decide +kernel
theorem dX12_here_1 : decode cX12_here 1 = .ok (.getfield 189, 3) := by decide +kernel
theorem dX12_here_4 : decode cX12_here 4 = .ok (.aload_n 0, 1) := by decide +kernel
theorem dX12_here_5 : decode cX12_here 5 = .ok (.getfield 186, 3) := by decide +kernel
theorem dX12_here_8 : decode cX12_here 8 = .ok (.if_icmp .ge 15, 3) := by decide +kernel
theorem dX12_here_11 : decode cX12_here 11 = .ok (.aload_n 0, 1) := by decide +kernel
theorem dX12_here_12 : decode cX12_here 12 = .ok (.getfield 22, 3) := by decide +kernel
theorem dX12_here_15 : decode cX12_here 15 = .ok (.aload_n 0, 1) := by decide +kernel
theorem dX12_here_16 : decode cX12_here 16 = .ok (.getfield 189, 3) := by decide +kernel
theorem dX12_here_19 : decode cX12_here 19 = .ok (.caload, 1) := by decide +kernel
theorem dX12_here_20 : decode cX12_here 20 = .ok (.goto 4, 3) := by decide +kernel
theorem dX12_here_23 : decode cX12_here 23 = .ok (.iconst (-1), 1) := by decide +kernel
theorem dX12_here_24 : decode cX12_here 24 = .ok (.ireturn, 1) := by decide +kernel
set_option maxRecDepth 20000 in
theorem ggX12_needs_X12_here : GoodIn wsX12_needs wsX12_here := goodIn_ca (goodIn_r _ [7, 2, 8, 9, 10, 11, 12, 13, 14, 15, 16, 17, 18, 19, 20, 21, 22, 23, 24, 25] (by decide +kernel) (by decide +kernel)) (goodIn_sub (fun _ h => List.mem_cons_of_mem _ (List.mem_append_right _ h)) (by decide +kernel))
set_option maxRecDepth 20000 in
theorem gX12_needs_X12_here : GoodIn wsX12_needs (wsV RX12 196 RX12 yX12_here wsX12_here) := goodIn_app (goodIn_of _ (by decide +kernel)) ggX12_needs_X12_here
theorem dX12_needs_0 : decode cX12_needs 0 = .ok (.aload_n 0, 1) := by decide +kernel
theorem dX12_needs_1 : decode cX12_needs 1 = .ok (.aload_n 0, 1) := by decide +kernel
theorem dX12_needs_2 : decode cX12_needs 2 = .ok (.getfield 192, 3) := by decide +kernel
theorem dX12_needs_5 : decode cX12_needs 5 = .ok (.ifCond .ne 11, 3) := by decide +kernel
theorem dX12_needs_8 : decode cX12_needs 8 = .ok (.aload_n 0, 1) := by decide +kernel
theorem dX12_needs_9 : decode cX12_needs 9 = .ok (.invokevirtual 196, 3) := by decide +kernel
theorem dX12_needs_12 : decode cX12_needs 12 = .ok (.iload_n 1, 1) := by decide +kernel
theorem dX12_needs_13 : decode cX12_needs 13 = .ok (.if_icmp .eq 7, 3) := by decide +kernel
theorem dX12_needs_16 : decode cX12_needs 16 = .ok (.iconst 1, 1) := by decide +kernel
theorem dX12_needs_17 : decode cX12_needs 17 = .ok (.goto 4, 3) := by decide +kernel
theorem dX12_needs_20 : decode cX12_needs 20 = .ok (.iconst 0, 1) := by decide +kernel
theorem dX12_needs_21 : decode cX12_needs 21 = .ok (.putfield 192, 3) := by decide +kernel
theorem dX12_needs_24 : decode cX12_needs 24 = .ok (.aload_n 0, 1) := by decide +kernel
theorem dX12_needs_25 : decode cX12_needs 25 = .ok (.dup, 1) := by decide +kernel
theorem dX12_needs_26 : decode cX12_needs 26 = .ok (.getfield 189, 3) := by decide +kernel
theorem dX12_needs_29 : decode cX12_needs 29 = .ok (.aload_n 0, 1) := by decide +kernel
theorem dX12_needs_30 : decode cX12_needs 30 = .ok (.getfield 192, 3) := by decide +kernel
theorem dX12_needs_33 : decode cX12_needs 33 = .ok (.ifCond .eq 7, 3) := by decide +kernel
theorem dX12_needs_36 : decode cX12_needs 36 = .ok (.iconst 0, 1) := by decide +kernel
theorem dX12_needs_37 : decode cX12_needs 37 = .ok (.goto 4, 3) := by decide +kernel
theorem dX12_needs_40 : decode cX12_needs 40 = .ok (.iconst 1, 1) := by decide +kernel
theorem dX12_needs_41 : decode cX12_needs 41 = .ok (.iadd, 1) := by decide +kernel
theorem dX12_needs_42 : decode cX12_needs 42 = .ok (.putfield 189, 3) := by decide +kernel
theorem dX12_needs_45 : decode cX12_needs 45 = .ok (.return_, 1) := by decide +kernel
set_option maxRecDepth 20000 in
theorem ggX12_needsThree_X12_needs : GoodIn wsX12_needsThree wsX12_needs := goodIn_ca (goodIn_r _ [5, 6, 7, 8, 9, 10, 4, 11, 12, 13, 14, 15, 16, 17, 18, 19, 20, 21, 22, 23, 24, 25, 26, 27, 28, 29] (by decide +kernel) (by decide +kernel)) (goodIn_sub (fun _ h => List.mem_cons_of_mem _ (List.mem_append_right _ h)) (by decide +kernel))
set_option maxRecDepth 20000 in
theorem gX12_needsThree_X12_needs : GoodIn wsX12_needsThree (wsV RX12 199 RX12 yX12_needs wsX12_needs) := goodIn_app (goodIn_of _ (by decide +kernel)) ggX12_needsThree_X12_needs
theorem dX12_needsThree_0 : decode cX12_needsThree 0 = .ok (.aload_n 0, 1) := by decide +kernel
theorem dX12_needsThree_1 : decode cX12_needsThree 1 = .ok (.iload_n 1, 1) := by decide +kernel
theorem dX12_needsThree_2 : decode cX12_needsThree 2 = .ok (.invokevirtual 199, 3) := by decide +kernel
theorem dX12_needsThree_5 : decode cX12_needsThree 5 = .ok (.aload_n 0, 1) := by decide +kernel
theorem dX12_needsThree_6 : decode cX12_needsThree 6 = .ok (.iload_n 2, 1) := by decide +kernel
theorem dX12_needsThree_7 : decode cX12_needsThree 7 = .ok (.invokevirtual 199, 3) := by decide +kernel
theorem dX12_needsThree_10 : decode cX12_needsThree 10 = .ok (.aload_n 0, 1) := by decide +kernel
theorem dX12_needsThree_11 : decode cX12_needsThree 11 = .ok (.iload_n 3, 1) := by decide +kernel
theorem dX12_needsThree_12 : decode cX12_needsThree 12 = .ok (.invokevirtual 199, 3) := by decide +kernel
theorem dX12_needsThree_15 : decode cX12_needsThree 15 = .ok (.return_, 1) := by decide +kernel
set_option maxRecDepth 20000 in
theorem ggX12_figures_X12_needs : GoodIn wsX12_figures wsX12_needs := goodIn_ca (goodIn_r _ [7, 1, 2, 8, 9, 10, 6, 11, 12, 13, 17, 18, 19, 20, 21, 22, 23, 24, 25, 26, 27, 28, 29, 30, 31, 32] (by decide +kernel) (by decide +kernel)) (goodIn_sub (fun _ h => List.mem_cons_of_mem _ (List.mem_append_right _ h)) (by decide +kernel))
set_option maxRecDepth 20000 in
theorem gX12_figures_X12_needs : GoodIn wsX12_figures (wsV RX12 199 RX12 yX12_needs wsX12_needs) := goodIn_app (goodIn_of _ (by decide +kernel)) ggX12_figures_X12_needs
set_option maxRecDepth 20000 in
theorem ggX12_figures_X12_here : GoodIn wsX12_figures wsX12_here := goodIn_ca (goodIn_r _ [11, 2, 12, 13, 17, 18, 19, 20, 21, 22, 23, 24, 25, 26, 27, 28, 29, 30, 31, 32] (by decide +kernel) (by decide +kernel)) (goodIn_sub (fun _ h => List.mem_cons_of_mem _ (List.mem_append_right _ h)) (by decide +kernel))
set_option maxRecDepth 20000 in
theorem gX12_figures_X12_here : GoodIn wsX12_figures (wsV RX12 196 RX12 yX12_here wsX12_here) := goodIn_app (goodIn_of _ (by decide +kernel)) ggX12_figures_X12_here
set_option maxRecDepth 20000 in
theorem ggX12_figures_X12_in : GoodIn wsX12_figures wsX12_in := goodIn_r _ [16] (by decide +kernel) (by decide +kernel)
set_option maxRecDepth 20000 in
theorem gX12_figures_X12_in : GoodIn wsX12_figures (va_wsS RX12 49 yX12_in wsX12_in) := goodIn_app (goodIn_of _ (by decide +kernel)) ggX12_figures_X12_in
theorem dX12_figures_0 : decode cX12_figures 0 = .ok (.aload_n 0, 1) := by decide +kernel
theorem dX12_figures_1 : decode cX12_figures 1 = .ok (.bipush 32, 2) := by decide +kernel
theorem dX12_figures_3 : decode cX12_figures 3 = .ok (.invokevirtual 199, 3) := by decide +kernel
theorem dX12_figures_6 : decode cX12_figures 6 = .ok (.aload_n 0, 1) := by decide +kernel
theorem dX12_figures_7 : decode cX12_figures 7 = .ok (.aload_n 0, 1) := by decide +kernel
theorem dX12_figures_8 : decode cX12_figures 8 = .ok (.getfield 192, 3) := by decide +kernel
theorem dX12_figures_11 : decode cX12_figures 11 = .ok (.ifCond .ne 17, 3) := by decide +kernel
theorem dX12_figures_14 : decode cX12_figures 14 = .ok (.aload_n 0, 1) := by decide +kernel
theorem dX12_figures_15 : decode cX12_figures 15 = .ok (.invokevirtual 196, 3) := by decide +kernel
theorem dX12_figures_18 : decode cX12_figures 18 = .ok (.bipush 48, 2) := by decide +kernel
theorem dX12_figures_20 : decode cX12_figures 20 = .ok (.bipush 57, 2) := by decide +kernel
theorem dX12_figures_22 : decode cX12_figures 22 = .ok (.invokestatic 49, 3) := by decide +kernel
theorem dX12_figures_25 : decode cX12_figures 25 = .ok (.ifCond .ne 7, 3) := by decide +kernel
theorem dX12_figures_28 : decode cX12_figures 28 = .ok (.iconst 1, 1) := by decide +kernel
theorem dX12_figures_29 : decode cX12_figures 29 = .ok (.goto 4, 3) := by decide +kernel
theorem dX12_figures_32 : decode cX12_figures 32 = .ok (.iconst 0, 1) := by decide +kernel
theorem dX12_figures_33 : decode cX12_figures 33 = .ok (.putfield 192, 3) := by decide +kernel
theorem dX12_figures_36 : decode cX12_figures 36 = .ok (.iconst 0, 1) := by decide +kernel
theorem dX12_figures_37 : decode cX12_figures 37 = .ok (.istore_n 2, 1) := by decide +kernel
theorem dX12_figures_38 : decode cX12_figures 38 = .ok (.iconst 0, 1) := by decide +kernel
theorem dX12_figures_39 : decode cX12_figures 39 = .ok (.istore_n 3, 1) := by decide +kernel
theorem dX12_figures_40 : decode cX12_figures 40 = .ok (.aload_n 0, 1) := by decide +kernel
theorem dX12_figures_41 : decode cX12_figures 41 = .ok (.getfield 192, 3) := by decide +kernel
theorem dX12_figures_44 : decode cX12_figures 44 = .ok (.ifCond .ne 51, 3) := by decide +kernel
theorem dX12_figures_47 : decode cX12_figures 47 = .ok (.iload_n 3, 1) := by decide +kernel
theorem dX12_figures_48 : decode cX12_figures 48 = .ok (.iload_n 1, 1) := by decide +kernel
theorem dX12_figures_49 : decode cX12_figures 49 = .ok (.if_icmp .ge 46, 3) := by decide +kernel
theorem dX12_figures_52 : decode cX12_figures 52 = .ok (.aload_n 0, 1) := by decide +kernel
theorem dX12_figures_53 : decode cX12_figures 53 = .ok (.invokevirtual 196, 3) := by decide +kernel
theorem dX12_figures_56 : decode cX12_figures 56 = .ok (.bipush 48, 2) := by decide +kernel
theorem dX12_figures_58 : decode cX12_figures 58 = .ok (.bipush 57, 2) := by decide +kernel
theorem dX12_figures_60 : decode cX12_figures 60 = .ok (.invokestatic 49, 3) := by decide +kernel
theorem dX12_figures_63 : decode cX12_figures 63 = .ok (.ifCond .eq 32, 3) := by decide +kernel
theorem dX12_figures_66 : decode cX12_figures 66 = .ok (.bipush 10, 2) := by decide +kernel
theorem dX12_figures_68 : decode cX12_figures 68 = .ok (.iload_n 2, 1) := by decide +kernel
theorem dX12_figures_69 : decode cX12_figures 69 = .ok (.imul, 1) := by decide +kernel
theorem dX12_figures_70 : decode cX12_figures 70 = .ok (.aload_n 0, 1) := by decide +kernel
theorem dX12_figures_71 : decode cX12_figures 71 = .ok (.invokevirtual 196, 3) := by decide +kernel
theorem dX12_figures_74 : decode cX12_figures 74 = .ok (.iadd, 1) := by decide +kernel
theorem dX12_figures_75 : decode cX12_figures 75 = .ok (.bipush 48, 2) := by decide +kernel
theorem dX12_figures_77 : decode cX12_figures 77 = .ok (.isub, 1) := by decide +kernel
theorem dX12_figures_78 : decode cX12_figures 78 = .ok (.istore_n 2, 1) := by decide +kernel
theorem dX12_figures_79 : decode cX12_figures 79 = .ok (.aload_n 0, 1) := by decide +kernel
theorem dX12_figures_80 : decode cX12_figures 80 = .ok (.dup, 1) := by decide +kernel
theorem dX12_figures_81 : decode cX12_figures 81 = .ok (.getfield 189, 3) := by decide +kernel
theorem dX12_figures_84 : decode cX12_figures 84 = .ok (.iconst 1, 1) := by decide +kernel
theorem dX12_figures_85 : decode cX12_figures 85 = .ok (.iadd, 1) := by decide +kernel
theorem dX12_figures_86 : decode cX12_figures 86 = .ok (.putfield 189, 3) := by decide +kernel
theorem dX12_figures_89 : decode cX12_figures 89 = .ok (.iinc 3 1, 3) := by decide +kernel
theorem dX12_figures_92 : decode cX12_figures 92 = .ok (.goto (-52), 3) := by decide +kernel
theorem dX12_figures_95 : decode cX12_figures 95 = .ok (.iload_n 2, 1) := by decide +kernel
theorem dX12_figures_96 : decode cX12_figures 96 = .ok (.ireturn, 1) := by decide +kernel
set_option maxRecDepth 20000 in
theorem ggX12_parsesO_X12_here : GoodIn wsX12_parsesO wsX12_here := goodIn_ca (goodIn_r _ [6, 7, 8, 9, 22, 23, 24, 25, 26, 27, 28, 29, 30, 31, 32, 33, 34, 35, 36, 37] (by decide +kernel) (by decide +kernel)) (goodIn_sub (fun _ h => List.mem_cons_of_mem _ (List.mem_append_right _ h)) (by decide +kernel))
set_option maxRecDepth 20000 in
theorem gX12_parsesO_X12_here : GoodIn wsX12_parsesO (wsV RX12 196 RX12 yX12_here wsX12_here) := goodIn_app (goodIn_of _ (by decide +kernel)) ggX12_parsesO_X12_here
set_option maxRecDepth 20000 in
theorem ggX12_parsesO_X12_needs : GoodIn wsX12_parsesO wsX12_needs := goodIn_ca (goodIn_r _ [13, 14, 7, 2, 3, 4, 5, 6, 8, 9, 22, 23, 24, 25, 26, 27, 28, 29, 30, 31, 32, 33, 34, 35, 36, 37] (by decide +kernel) (by decide +kernel)) (goodIn_sub (fun _ h => List.mem_cons_of_mem _ (List.mem_append_right _ h)) (by decide +kernel))
set_option maxRecDepth 20000 in
theorem gX12_parsesO_X12_needs : GoodIn wsX12_parsesO (wsV RX12 199 RX12 yX12_needs wsX12_needs) := goodIn_app (goodIn_of _ (by decide +kernel)) ggX12_parsesO_X12_needs
set_option maxRecDepth 20000 in
theorem ggX12_parsesO_X12_figures : GoodIn wsX12_parsesO wsX12_figures := goodIn_ca (goodIn_r _ [18, 14, 7, 10, 11, 12, 5, 13, 2, 3, 4, 6, 8, 9, 19, 20, 21, 22, 23, 24, 25, 26, 27, 28, 29, 30, 31, 32, 33, 34, 35, 36, 37] (by decide +kernel) (by decide +kernel)) (goodIn_sub (fun _ h => List.mem_cons_of_mem _ (List.mem_append_right _ h)) (by decide +kernel))
set_option maxRecDepth 20000 in
theorem gX12_parsesO_X12_figures : GoodIn wsX12_parsesO (wsV RX12 202 RX12 yX12_figures wsX12_figures) := goodIn_app (goodIn_of _ (by decide +kernel)) ggX12_parsesO_X12_figures
theorem dX12_parsesO_0 : decode cX12_parsesO 0 = .ok (.aload_n 0, 1) := by decide +kernel
theorem dX12_parsesO_1 : decode cX12_parsesO 1 = .ok (.invokevirtual 196, 3) := by decide +kernel
theorem dX12_parsesO_4 : decode cX12_parsesO 4 = .ok (.istore_n 2, 1) := by decide +kernel
theorem dX12_parsesO_5 : decode cX12_parsesO 5 = .ok (.iload_n 2, 1) := by decide +kernel
theorem dX12_parsesO_6 : decode cX12_parsesO 6 = .ok (.bipush 105, 2) := by decide +kernel
theorem dX12_parsesO_8 : decode cX12_parsesO 8 = .ok (.if_icmp .ne 39, 3) := by decide +kernel
theorem dX12_parsesO_11 : decode cX12_parsesO 11 = .ok (.aload_n 0, 1) := by decide +kernel
theorem dX12_parsesO_12 : decode cX12_parsesO 12 = .ok (.getfield 36, 3) := by decide +kernel
theorem dX12_parsesO_15 : decode cX12_parsesO 15 = .ok (.iload_n 1, 1) := by decide +kernel
theorem dX12_parsesO_16 : decode cX12_parsesO 16 = .ok (.bipush 105, 2) := by decide +kernel
theorem dX12_parsesO_18 : decode cX12_parsesO 18 = .ok (.iastore, 1) := by decide +kernel
theorem dX12_parsesO_19 : decode cX12_parsesO 19 = .ok (.aload_n 0, 1) := by decide +kernel
theorem dX12_parsesO_20 : decode cX12_parsesO 20 = .ok (.bipush 105, 2) := by decide +kernel
theorem dX12_parsesO_22 : decode cX12_parsesO 22 = .ok (.invokevirtual 199, 3) := by decide +kernel
theorem dX12_parsesO_25 : decode cX12_parsesO 25 = .ok (.aload_n 0, 1) := by decide +kernel
theorem dX12_parsesO_26 : decode cX12_parsesO 26 = .ok (.bipush 108, 2) := by decide +kernel
theorem dX12_parsesO_28 : decode cX12_parsesO 28 = .ok (.invokevirtual 199, 3) := by decide +kernel
theorem dX12_parsesO_31 : decode cX12_parsesO 31 = .ok (.aload_n 0, 1) := by decide +kernel
theorem dX12_parsesO_32 : decode cX12_parsesO 32 = .ok (.getfield 36, 3) := by decide +kernel
theorem dX12_parsesO_35 : decode cX12_parsesO 35 = .ok (.iload_n 1, 1) := by decide +kernel
theorem dX12_parsesO_36 : decode cX12_parsesO 36 = .ok (.iconst 1, 1) := by decide +kernel
theorem dX12_parsesO_37 : decode cX12_parsesO 37 = .ok (.iadd, 1) := by decide +kernel
theorem dX12_parsesO_38 : decode cX12_parsesO 38 = .ok (.aload_n 0, 1) := by decide +kernel
theorem dX12_parsesO_39 : decode cX12_parsesO 39 = .ok (.iconst 3, 1) := by decide +kernel
theorem dX12_parsesO_40 : decode cX12_parsesO 40 = .ok (.invokevirtual 202, 3) := by decide +kernel
theorem dX12_parsesO_43 : decode cX12_parsesO 43 = .ok (.iastore, 1) := by decide +kernel
theorem dX12_parsesO_44 : decode cX12_parsesO 44 = .ok (.goto 72, 3) := by decide +kernel
theorem dX12_parsesO_47 : decode cX12_parsesO 47 = .ok (.iload_n 2, 1) := by decide +kernel
theorem dX12_parsesO_48 : decode cX12_parsesO 48 = .ok (.bipush 102, 2) := by decide +kernel
theorem dX12_parsesO_50 : decode cX12_parsesO 50 = .ok (.if_icmp .ne 39, 3) := by decide +kernel
theorem dX12_parsesO_53 : decode cX12_parsesO 53 = .ok (.aload_n 0, 1) := by decide +kernel
theorem dX12_parsesO_54 : decode cX12_parsesO 54 = .ok (.getfield 36, 3) := by decide +kernel
theorem dX12_parsesO_57 : decode cX12_parsesO 57 = .ok (.iload_n 1, 1) := by decide +kernel
theorem dX12_parsesO_58 : decode cX12_parsesO 58 = .ok (.bipush 102, 2) := by decide +kernel
theorem dX12_parsesO_60 : decode cX12_parsesO 60 = .ok (.iastore, 1) := by decide +kernel
theorem dX12_parsesO_61 : decode cX12_parsesO 61 = .ok (.aload_n 0, 1) := by decide +kernel
theorem dX12_parsesO_62 : decode cX12_parsesO 62 = .ok (.bipush 102, 2) := by decide +kernel
theorem dX12_parsesO_64 : decode cX12_parsesO 64 = .ok (.invokevirtual 199, 3) := by decide +kernel
theorem dX12_parsesO_67 : decode cX12_parsesO 67 = .ok (.aload_n 0, 1) := by decide +kernel
theorem dX12_parsesO_68 : decode cX12_parsesO 68 = .ok (.bipush 102, 2) := by decide +kernel
theorem dX12_parsesO_70 : decode cX12_parsesO 70 = .ok (.invokevirtual 199, 3) := by decide +kernel
theorem dX12_parsesO_73 : decode cX12_parsesO 73 = .ok (.aload_n 0, 1) := by decide +kernel
theorem dX12_parsesO_74 : decode cX12_parsesO 74 = .ok (.getfield 36, 3) := by decide +kernel
theorem dX12_parsesO_77 : decode cX12_parsesO 77 = .ok (.iload_n 1, 1) := by decide +kernel
theorem dX12_parsesO_78 : decode cX12_parsesO 78 = .ok (.iconst 1, 1) := by decide +kernel
theorem dX12_parsesO_79 : decode cX12_parsesO 79 = .ok (.iadd, 1) := by decide +kernel
theorem dX12_parsesO_80 : decode cX12_parsesO 80 = .ok (.aload_n 0, 1) := by decide +kernel
theorem dX12_parsesO_81 : decode cX12_parsesO 81 = .ok (.iconst 1, 1) := by decide +kernel
theorem dX12_parsesO_82 : decode cX12_parsesO 82 = .ok (.invokevirtual 202, 3) := by decide +kernel
theorem dX12_parsesO_85 : decode cX12_parsesO 85 = .ok (.iastore, 1) := by decide +kernel
theorem dX12_parsesO_86 : decode cX12_parsesO 86 = .ok (.goto 30, 3) := by decide +kernel
theorem dX12_parsesO_89 : decode cX12_parsesO 89 = .ok (.aload_n 0, 1) := by decide +kernel
theorem dX12_parsesO_90 : decode cX12_parsesO 90 = .ok (.getfield 36, 3) := by decide +kernel
theorem dX12_parsesO_93 : decode cX12_parsesO 93 = .ok (.iload_n 1, 1) := by decide +kernel
theorem dX12_parsesO_94 : decode cX12_parsesO 94 = .ok (.bipush 111, 2) := by decide +kernel
theorem dX12_parsesO_96 : decode cX12_parsesO 96 = .ok (.iastore, 1) := by decide +kernel
theorem dX12_parsesO_97 : decode cX12_parsesO 97 = .ok (.aload_n 0, 1) := by decide +kernel
theorem dX12_parsesO_98 : decode cX12_parsesO 98 = .ok (.bipush 110, 2) := by decide +kernel
theorem dX12_parsesO_100 : decode cX12_parsesO 100 = .ok (.invokevirtual 199, 3) := by decide +kernel
theorem dX12_parsesO_103 : decode cX12_parsesO 103 = .ok (.aload_n 0, 1) := by decide +kernel
theorem dX12_parsesO_104 : decode cX12_parsesO 104 = .ok (.getfield 36, 3) := by decide +kernel
theorem dX12_parsesO_107 : decode cX12_parsesO 107 = .ok (.iload_n 1, 1) := by decide +kernel
theorem dX12_parsesO_108 : decode cX12_parsesO 108 = .ok (.iconst 1, 1) := by decide +kernel
theorem dX12_parsesO_109 : decode cX12_parsesO 109 = .ok (.iadd, 1) := by decide +kernel
theorem dX12_parsesO_110 : decode cX12_parsesO 110 = .ok (.aload_n 0, 1) := by decide +kernel
theorem dX12_parsesO_111 : decode cX12_parsesO 111 = .ok (.iconst 1, 1) := by decide +kernel
theorem dX12_parsesO_112 : decode cX12_parsesO 112 = .ok (.invokevirtual 202, 3) := by decide +kernel
theorem dX12_parsesO_115 : decode cX12_parsesO 115 = .ok (.iastore, 1) := by decide +kernel
theorem dX12_parsesO_116 : decode cX12_parsesO 116 = .ok (.return_, 1) := by decide +kernel
set_option maxRecDepth 20000 in
theorem ggX12_parsesB_X12_here : GoodIn wsX12_parsesB wsX12_here := goodIn_ca (goodIn_r _ [6, 7, 8, 9, 26, 27, 28, 29, 30, 31, 32, 33, 34, 35, 36, 37, 38, 39, 40, 41] (by decide +kernel) (by decide +kernel)) (goodIn_sub (fun _ h => List.mem_cons_of_mem _ (List.mem_append_right _ h)) (by decide +kernel))
set_option maxRecDepth 20000 in
theorem gX12_parsesB_X12_here : GoodIn wsX12_parsesB (wsV RX12 196 RX12 yX12_here wsX12_here) := goodIn_app (goodIn_of _ (by decide +kernel)) ggX12_parsesB_X12_here
set_option maxRecDepth 20000 in
theorem ggX12_parsesB_X12_needs : GoodIn wsX12_parsesB wsX12_needs := goodIn_ca (goodIn_r _ [13, 14, 7, 2, 3, 4, 5, 6, 8, 9, 26, 27, 28, 29, 30, 31, 32, 33, 34, 35, 36, 37, 38, 39, 40, 41] (by decide +kernel) (by decide +kernel)) (goodIn_sub (fun _ h => List.mem_cons_of_mem _ (List.mem_append_right _ h)) (by decide +kernel))
set_option maxRecDepth 20000 in
theorem gX12_parsesB_X12_needs : GoodIn wsX12_parsesB (wsV RX12 199 RX12 yX12_needs wsX12_needs) := goodIn_app (goodIn_of _ (by decide +kernel)) ggX12_parsesB_X12_needs
set_option maxRecDepth 20000 in
theorem ggX12_parsesB_X12_figures : GoodIn wsX12_parsesB wsX12_figures := goodIn_ca (goodIn_r _ [18, 14, 7, 10, 11, 12, 5, 13, 2, 3, 4, 6, 8, 9, 19, 20, 21, 26, 27, 28, 29, 30, 31, 32, 33, 34, 35, 36, 37, 38, 39, 40, 41] (by decide +kernel) (by decide +kernel)) (goodIn_sub (fun _ h => List.mem_cons_of_mem _ (List.mem_append_right _ h)) (by decide +kernel))
set_option maxRecDepth 20000 in
theorem gX12_parsesB_X12_figures : GoodIn wsX12_parsesB (wsV RX12 202 RX12 yX12_figures wsX12_figures) := goodIn_app (goodIn_of _ (by decide +kernel)) ggX12_parsesB_X12_figures
set_option maxRecDepth 20000 in
theorem ggX12_parsesB_X12_needsThree : GoodIn wsX12_parsesB wsX12_needsThree := goodIn_ca (goodIn_r _ [25, 10, 11, 12, 5, 13, 14, 7, 2, 3, 4, 6, 8, 9, 26, 27, 28, 29, 30, 31, 32, 33, 34, 35, 36, 37, 38, 39, 40, 41] (by decide +kernel) (by decide +kernel)) (goodIn_sub (fun _ h => List.mem_cons_of_mem _ (List.mem_append_right _ h)) (by decide +kernel))
set_option maxRecDepth 20000 in
theorem gX12_parsesB_X12_needsThree : GoodIn wsX12_parsesB (wsV RX12 205 RX12 yX12_needsThree wsX12_needsThree) := goodIn_app (goodIn_of _ (by decide +kernel)) ggX12_parsesB_X12_needsThree
theorem dX12_parsesB_0 : decode cX12_parsesB 0 = .ok (.aload_n 0, 1) := by decide +kernel
theorem dX12_parsesB_1 : decode cX12_parsesB 1 = .ok (.invokevirtual 196, 3) := by decide +kernel
theorem dX12_parsesB_4 : decode cX12_parsesB 4 = .ok (.bipush 117, 2) := by decide +kernel
theorem dX12_parsesB_6 : decode cX12_parsesB 6 = .ok (.if_icmp .ne 52, 3) := by decide +kernel
theorem dX12_parsesB_9 : decode cX12_parsesB 9 = .ok (.aload_n 0, 1) := by decide +kernel
theorem dX12_parsesB_10 : decode cX12_parsesB 10 = .ok (.getfield 36, 3) := by decide +kernel
theorem dX12_parsesB_13 : decode cX12_parsesB 13 = .ok (.iload_n 1, 1) := by decide +kernel
theorem dX12_parsesB_14 : decode cX12_parsesB 14 = .ok (.bipush 117, 2) := by decide +kernel
theorem dX12_parsesB_16 : decode cX12_parsesB 16 = .ok (.iastore, 1) := by decide +kernel
theorem dX12_parsesB_17 : decode cX12_parsesB 17 = .ok (.aload_n 0, 1) := by decide +kernel
theorem dX12_parsesB_18 : decode cX12_parsesB 18 = .ok (.bipush 117, 2) := by decide +kernel
theorem dX12_parsesB_20 : decode cX12_parsesB 20 = .ok (.invokevirtual 199, 3) := by decide +kernel
theorem dX12_parsesB_23 : decode cX12_parsesB 23 = .ok (.aload_n 0, 1) := by decide +kernel
theorem dX12_parsesB_24 : decode cX12_parsesB 24 = .ok (.bipush 121, 2) := by decide +kernel
theorem dX12_parsesB_26 : decode cX12_parsesB 26 = .ok (.invokevirtual 199, 3) := by decide +kernel
theorem dX12_parsesB_29 : decode cX12_parsesB 29 = .ok (.aload_n 0, 1) := by decide +kernel
theorem dX12_parsesB_30 : decode cX12_parsesB 30 = .ok (.getfield 36, 3) := by decide +kernel
theorem dX12_parsesB_33 : decode cX12_parsesB 33 = .ok (.iload_n 1, 1) := by decide +kernel
theorem dX12_parsesB_34 : decode cX12_parsesB 34 = .ok (.iconst 1, 1) := by decide +kernel
theorem dX12_parsesB_35 : decode cX12_parsesB 35 = .ok (.iadd, 1) := by decide +kernel
theorem dX12_parsesB_36 : decode cX12_parsesB 36 = .ok (.aload_n 0, 1) := by decide +kernel
theorem dX12_parsesB_37 : decode cX12_parsesB 37 = .ok (.iconst 1, 1) := by decide +kernel
theorem dX12_parsesB_38 : decode cX12_parsesB 38 = .ok (.invokevirtual 202, 3) := by decide +kernel
theorem dX12_parsesB_41 : decode cX12_parsesB 41 = .ok (.iastore, 1) := by decide +kernel
theorem dX12_parsesB_42 : decode cX12_parsesB 42 = .ok (.aload_n 0, 1) := by decide +kernel
theorem dX12_parsesB_43 : decode cX12_parsesB 43 = .ok (.getfield 36, 3) := by decide +kernel
theorem dX12_parsesB_46 : decode cX12_parsesB 46 = .ok (.iload_n 1, 1) := by decide +kernel
theorem dX12_parsesB_47 : decode cX12_parsesB 47 = .ok (.iconst 2, 1) := by decide +kernel
theorem dX12_parsesB_48 : decode cX12_parsesB 48 = .ok (.iadd, 1) := by decide +kernel
theorem dX12_parsesB_49 : decode cX12_parsesB 49 = .ok (.aload_n 0, 1) := by decide +kernel
theorem dX12_parsesB_50 : decode cX12_parsesB 50 = .ok (.iconst 3, 1) := by decide +kernel
theorem dX12_parsesB_51 : decode cX12_parsesB 51 = .ok (.invokevirtual 202, 3) := by decide +kernel
theorem dX12_parsesB_54 : decode cX12_parsesB 54 = .ok (.iastore, 1) := by decide +kernel
theorem dX12_parsesB_55 : decode cX12_parsesB 55 = .ok (.goto 59, 3) := by decide +kernel
theorem dX12_parsesB_58 : decode cX12_parsesB 58 = .ok (.aload_n 0, 1) := by decide +kernel
theorem dX12_parsesB_59 : decode cX12_parsesB 59 = .ok (.getfield 36, 3) := by decide +kernel
theorem dX12_parsesB_62 : decode cX12_parsesB 62 = .ok (.iload_n 1, 1) := by decide +kernel
theorem dX12_parsesB_63 : decode cX12_parsesB 63 = .ok (.bipush 98, 2) := by decide +kernel
theorem dX12_parsesB_65 : decode cX12_parsesB 65 = .ok (.iastore, 1) := by decide +kernel
theorem dX12_parsesB_66 : decode cX12_parsesB 66 = .ok (.aload_n 0, 1) := by decide +kernel
theorem dX12_parsesB_67 : decode cX12_parsesB 67 = .ok (.bipush 114, 2) := by decide +kernel
theorem dX12_parsesB_69 : decode cX12_parsesB 69 = .ok (.bipush 105, 2) := by decide +kernel
theorem dX12_parsesB_71 : decode cX12_parsesB 71 = .ok (.bipush 103, 2) := by decide +kernel
theorem dX12_parsesB_73 : decode cX12_parsesB 73 = .ok (.invokevirtual 205, 3) := by decide +kernel
theorem dX12_parsesB_76 : decode cX12_parsesB 76 = .ok (.aload_n 0, 1) := by decide +kernel
theorem dX12_parsesB_77 : decode cX12_parsesB 77 = .ok (.bipush 104, 2) := by decide +kernel
theorem dX12_parsesB_79 : decode cX12_parsesB 79 = .ok (.invokevirtual 199, 3) := by decide +kernel
theorem dX12_parsesB_82 : decode cX12_parsesB 82 = .ok (.aload_n 0, 1) := by decide +kernel
theorem dX12_parsesB_83 : decode cX12_parsesB 83 = .ok (.bipush 116, 2) := by decide +kernel
theorem dX12_parsesB_85 : decode cX12_parsesB 85 = .ok (.invokevirtual 199, 3) := by decide +kernel
theorem dX12_parsesB_88 : decode cX12_parsesB 88 = .ok (.aload_n 0, 1) := by decide +kernel
theorem dX12_parsesB_89 : decode cX12_parsesB 89 = .ok (.getfield 36, 3) := by decide +kernel
theorem dX12_parsesB_92 : decode cX12_parsesB 92 = .ok (.iload_n 1, 1) := by decide +kernel
theorem dX12_parsesB_93 : decode cX12_parsesB 93 = .ok (.iconst 1, 1) := by decide +kernel
theorem dX12_parsesB_94 : decode cX12_parsesB 94 = .ok (.iadd, 1) := by decide +kernel
theorem dX12_parsesB_95 : decode cX12_parsesB 95 = .ok (.aload_n 0, 1) := by decide +kernel
theorem dX12_parsesB_96 : decode cX12_parsesB 96 = .ok (.iconst 1, 1) := by decide +kernel
theorem dX12_parsesB_97 : decode cX12_parsesB 97 = .ok (.invokevirtual 202, 3) := by decide +kernel
theorem dX12_parsesB_100 : decode cX12_parsesB 100 = .ok (.iastore, 1) := by decide +kernel
theorem dX12_parsesB_101 : decode cX12_parsesB 101 = .ok (.aload_n 0, 1) := by decide +kernel
theorem dX12_parsesB_102 : decode cX12_parsesB 102 = .ok (.getfield 36, 3) := by decide +kernel
theorem dX12_parsesB_105 : decode cX12_parsesB 105 = .ok (.iload_n 1, 1) := by decide +kernel
theorem dX12_parsesB_106 : decode cX12_parsesB 106 = .ok (.iconst 2, 1) := by decide +kernel
theorem dX12_parsesB_107 : decode cX12_parsesB 107 = .ok (.iadd, 1) := by decide +kernel
theorem dX12_parsesB_108 : decode cX12_parsesB 108 = .ok (.aload_n 0, 1) := by decide +kernel
theorem dX12_parsesB_109 : decode cX12_parsesB 109 = .ok (.iconst 1, 1) := by decide +kernel
theorem dX12_parsesB_110 : decode cX12_parsesB 110 = .ok (.invokevirtual 202, 3) := by decide +kernel
theorem dX12_parsesB_113 : decode cX12_parsesB 113 = .ok (.iastore, 1) := by decide +kernel
theorem dX12_parsesB_114 : decode cX12_parsesB 114 = .ok (.return_, 1) := by decide +kernel
set_option maxRecDepth 20000 in
theorem ggX12_parsesCommand_X12_here : GoodIn wsX12_parsesCommand wsX12_here := goodIn_ca (goodIn_r _ [8, 1, 9, 10, 34, 35, 36, 37, 38, 39, 40, 41, 42, 43, 44, 45, 46, 47, 48, 49] (by decide +kernel) (by decide +kernel)) (goodIn_sub (fun _ h => List.mem_cons_of_mem _ (List.mem_append_right _ h)) (by decide +kernel))
set_option maxRecDepth 20000 in
theorem gX12_parsesCommand_X12_here : GoodIn wsX12_parsesCommand (wsV RX12 196 RX12 yX12_here wsX12_here) := goodIn_app (goodIn_of _ (by decide +kernel)) ggX12_parsesCommand_X12_here
set_option maxRecDepth 20000 in
theorem ggX12_parsesCommand_X12_needsThree : GoodIn wsX12_parsesCommand wsX12_needsThree := goodIn_ca (goodIn_r _ [14, 15, 16, 17, 7, 18, 3, 1, 4, 5, 6, 8, 9, 10, 34, 35, 36, 37, 38, 39, 40, 41, 42, 43, 44, 45, 46, 47, 48, 49] (by decide +kernel) (by decide +kernel)) (goodIn_sub (fun _ h => List.mem_cons_of_mem _ (List.mem_append_right _ h)) (by decide +kernel))
set_option maxRecDepth 20000 in
theorem gX12_parsesCommand_X12_needsThree : GoodIn wsX12_parsesCommand (wsV RX12 205 RX12 yX12_needsThree wsX12_needsThree) := goodIn_app (goodIn_of _ (by decide +kernel)) ggX12_parsesCommand_X12_needsThree
set_option maxRecDepth 20000 in
theorem ggX12_parsesCommand_X12_figures : GoodIn wsX12_parsesCommand wsX12_figures := goodIn_ca (goodIn_r _ [22, 3, 1, 15, 16, 17, 7, 18, 4, 5, 6, 8, 9, 10, 23, 24, 25, 34, 35, 36, 37, 38, 39, 40, 41, 42, 43, 44, 45, 46, 47, 48, 49] (by decide +kernel) (by decide +kernel)) (goodIn_sub (fun _ h => List.mem_cons_of_mem _ (List.mem_append_right _ h)) (by decide +kernel))
set_option maxRecDepth 20000 in
theorem gX12_parsesCommand_X12_figures : GoodIn wsX12_parsesCommand (wsV RX12 202 RX12 yX12_figures wsX12_figures) := goodIn_app (goodIn_of _ (by decide +kernel)) ggX12_parsesCommand_X12_figures
set_option maxRecDepth 20000 in
theorem ggX12_parsesCommand_X12_needs : GoodIn wsX12_parsesCommand wsX12_needs := goodIn_ca (goodIn_r _ [18, 3, 1, 4, 5, 6, 7, 8, 9, 10, 34, 35, 36, 37, 38, 39, 40, 41, 42, 43, 44, 45, 46, 47, 48, 49] (by decide +kernel) (by decide +kernel)) (goodIn_sub (fun _ h => List.mem_cons_of_mem _ (List.mem_append_right _ h)) (by decide +kernel))
set_option maxRecDepth 20000 in
theorem gX12_parsesCommand_X12_needs : GoodIn wsX12_parsesCommand (wsV RX12 199 RX12 yX12_needs wsX12_needs) := goodIn_app (goodIn_of _ (by decide +kernel)) ggX12_parsesCommand_X12_needs
set_option maxRecDepth 20000 in
theorem ggX12_parsesCommand_X12_parsesO : GoodIn wsX12_parsesCommand wsX12_parsesO := goodIn_ca (goodIn_r _ [29, 2, 4, 5, 6, 7, 8, 1, 9, 10, 15, 16, 17, 18, 3, 19, 20, 21, 22, 23, 24, 25, 34, 35, 36, 37, 38, 39, 40, 41, 42, 43, 44, 45, 46, 47, 48, 49] (by decide +kernel) (by decide +kernel)) (goodIn_sub (fun _ h => List.mem_cons_of_mem _ (List.mem_append_right _ h)) (by decide +kernel))
set_option maxRecDepth 20000 in
theorem gX12_parsesCommand_X12_parsesO : GoodIn wsX12_parsesCommand (wsV RX12 208 RX12 yX12_parsesO wsX12_parsesO) := goodIn_app (goodIn_of _ (by decide +kernel)) ggX12_parsesCommand_X12_parsesO
set_option maxRecDepth 20000 in
theorem ggX12_parsesCommand_X12_parsesB : GoodIn wsX12_parsesCommand wsX12_parsesB := goodIn_ca (goodIn_r _ [33, 2, 4, 5, 6, 7, 8, 1, 9, 10, 15, 16, 17, 18, 3, 19, 20, 21, 22, 23, 24, 25, 11, 12, 13, 14, 34, 35, 36, 37, 38, 39, 40, 41, 42, 43, 44, 45, 46, 47, 48, 49] (by decide +kernel) (by decide +kernel)) (goodIn_sub (fun _ h => List.mem_cons_of_mem _ (List.mem_append_right _ h)) (by decide +kernel))
set_option maxRecDepth 20000 in
theorem gX12_parsesCommand_X12_parsesB : GoodIn wsX12_parsesCommand (wsV RX12 211 RX12 yX12_parsesB wsX12_parsesB) := goodIn_app (goodIn_of _ (by decide +kernel)) ggX12_parsesCommand_X12_parsesB
theorem dX12_parsesCommand_0 : decode cX12_parsesCommand 0 = .ok (.aload_n 0, 1) := by decide +kernel
theorem dX12_parsesCommand_1 : decode cX12_parsesCommand 1 = .ok (.invokevirtual 196, 3) := by decide +kernel
theorem dX12_parsesCommand_4 : decode cX12_parsesCommand 4 = .ok (.istore_n 2, 1) := by decide +kernel
theorem dX12_parsesCommand_5 : decode cX12_parsesCommand 5 = .ok (.aload_n 0, 1) := by decide +kernel
theorem dX12_parsesCommand_6 : decode cX12_parsesCommand 6 = .ok (.dup, 1) := by decide +kernel
theorem dX12_parsesCommand_7 : decode cX12_parsesCommand 7 = .ok (.getfield 189, 3) := by decide +kernel
theorem dX12_parsesCommand_10 : decode cX12_parsesCommand 10 = .ok (.iconst 1, 1) := by decide +kernel
theorem dX12_parsesCommand_11 : decode cX12_parsesCommand 11 = .ok (.iadd, 1) := by decide +kernel
theorem dX12_parsesCommand_12 : decode cX12_parsesCommand 12 = .ok (.putfield 189, 3) := by decide +kernel
theorem dX12_parsesCommand_15 : decode cX12_parsesCommand 15 = .ok (.aload_n 0, 1) := by decide +kernel
theorem dX12_parsesCommand_16 : decode cX12_parsesCommand 16 = .ok (.getfield 36, 3) := by decide +kernel
theorem dX12_parsesCommand_19 : decode cX12_parsesCommand 19 = .ok (.iload_n 1, 1) := by decide +kernel
theorem dX12_parsesCommand_20 : decode cX12_parsesCommand 20 = .ok (.iload_n 2, 1) := by decide +kernel
theorem dX12_parsesCommand_21 : decode cX12_parsesCommand 21 = .ok (.iastore, 1) := by decide +kernel
theorem dX12_parsesCommand_22 : decode cX12_parsesCommand 22 = .ok (.iload_n 2, 1) := by decide +kernel
theorem dX12_parsesCommand_23 : decode cX12_parsesCommand 23 = .ok (.tableswitch 347 98 119 #[251, 285, 347, 347, 347, 212, 347, 347, 347, 347, 101, 259, 313, 178, 332, 347, 140, 347, 347, 347, 347, 186], 101) := by decide +kernel
theorem dX12_parsesCommand_124 : decode cX12_parsesCommand 124 = .ok (.aload_n 0, 1) := by decide +kernel
theorem dX12_parsesCommand_125 : decode cX12_parsesCommand 125 = .ok (.bipush 97, 2) := by decide +kernel
theorem dX12_parsesCommand_127 : decode cX12_parsesCommand 127 = .ok (.bipush 109, 2) := by decide +kernel
theorem dX12_parsesCommand_129 : decode cX12_parsesCommand 129 = .ok (.bipush 112, 2) := by decide +kernel
theorem dX12_parsesCommand_131 : decode cX12_parsesCommand 131 = .ok (.invokevirtual 205, 3) := by decide +kernel
theorem dX12_parsesCommand_134 : decode cX12_parsesCommand 134 = .ok (.aload_n 0, 1) := by decide +kernel
theorem dX12_parsesCommand_135 : decode cX12_parsesCommand 135 = .ok (.getfield 36, 3) := by decide +kernel
theorem dX12_parsesCommand_138 : decode cX12_parsesCommand 138 = .ok (.iload_n 1, 1) := by decide +kernel
theorem dX12_parsesCommand_139 : decode cX12_parsesCommand 139 = .ok (.iconst 1, 1) := by decide +kernel
theorem dX12_parsesCommand_140 : decode cX12_parsesCommand 140 = .ok (.iadd, 1) := by decide +kernel
theorem dX12_parsesCommand_141 : decode cX12_parsesCommand 141 = .ok (.aload_n 0, 1) := by decide +kernel
theorem dX12_parsesCommand_142 : decode cX12_parsesCommand 142 = .ok (.iconst 1, 1) := by decide +kernel
theorem dX12_parsesCommand_143 : decode cX12_parsesCommand 143 = .ok (.invokevirtual 202, 3) := by decide +kernel
theorem dX12_parsesCommand_146 : decode cX12_parsesCommand 146 = .ok (.iastore, 1) := by decide +kernel
theorem dX12_parsesCommand_147 : decode cX12_parsesCommand 147 = .ok (.aload_n 0, 1) := by decide +kernel
theorem dX12_parsesCommand_148 : decode cX12_parsesCommand 148 = .ok (.getfield 36, 3) := by decide +kernel
theorem dX12_parsesCommand_151 : decode cX12_parsesCommand 151 = .ok (.iload_n 1, 1) := by decide +kernel
theorem dX12_parsesCommand_152 : decode cX12_parsesCommand 152 = .ok (.iconst 2, 1) := by decide +kernel
theorem dX12_parsesCommand_153 : decode cX12_parsesCommand 153 = .ok (.iadd, 1) := by decide +kernel
theorem dX12_parsesCommand_154 : decode cX12_parsesCommand 154 = .ok (.aload_n 0, 1) := by decide +kernel
theorem dX12_parsesCommand_155 : decode cX12_parsesCommand 155 = .ok (.iconst 1, 1) := by decide +kernel
theorem dX12_parsesCommand_156 : decode cX12_parsesCommand 156 = .ok (.invokevirtual 202, 3) := by decide +kernel
theorem dX12_parsesCommand_159 : decode cX12_parsesCommand 159 = .ok (.iastore, 1) := by decide +kernel
theorem dX12_parsesCommand_160 : decode cX12_parsesCommand 160 = .ok (.goto 225, 3) := by decide +kernel
theorem dX12_parsesCommand_163 : decode cX12_parsesCommand 163 = .ok (.aload_n 0, 1) := by decide +kernel
theorem dX12_parsesCommand_164 : decode cX12_parsesCommand 164 = .ok (.bipush 101, 2) := by decide +kernel
theorem dX12_parsesCommand_166 : decode cX12_parsesCommand 166 = .ok (.bipush 109, 2) := by decide +kernel
theorem dX12_parsesCommand_168 : decode cX12_parsesCommand 168 = .ok (.bipush 111, 2) := by decide +kernel
theorem dX12_parsesCommand_170 : decode cX12_parsesCommand 170 = .ok (.invokevirtual 205, 3) := by decide +kernel
theorem dX12_parsesCommand_173 : decode cX12_parsesCommand 173 = .ok (.aload_n 0, 1) := by decide +kernel
theorem dX12_parsesCommand_174 : decode cX12_parsesCommand 174 = .ok (.bipush 118, 2) := by decide +kernel
theorem dX12_parsesCommand_176 : decode cX12_parsesCommand 176 = .ok (.invokevirtual 199, 3) := by decide +kernel
theorem dX12_parsesCommand_179 : decode cX12_parsesCommand 179 = .ok (.aload_n 0, 1) := by decide +kernel
theorem dX12_parsesCommand_180 : decode cX12_parsesCommand 180 = .ok (.bipush 101, 2) := by decide +kernel
theorem dX12_parsesCommand_182 : decode cX12_parsesCommand 182 = .ok (.invokevirtual 199, 3) := by decide +kernel
theorem dX12_parsesCommand_185 : decode cX12_parsesCommand 185 = .ok (.aload_n 0, 1) := by decide +kernel
theorem dX12_parsesCommand_186 : decode cX12_parsesCommand 186 = .ok (.getfield 36, 3) := by decide +kernel
theorem dX12_parsesCommand_189 : decode cX12_parsesCommand 189 = .ok (.iload_n 1, 1) := by decide +kernel
theorem dX12_parsesCommand_190 : decode cX12_parsesCommand 190 = .ok (.iconst 1, 1) := by decide +kernel
theorem dX12_parsesCommand_191 : decode cX12_parsesCommand 191 = .ok (.iadd, 1) := by decide +kernel
theorem dX12_parsesCommand_192 : decode cX12_parsesCommand 192 = .ok (.aload_n 0, 1) := by decide +kernel
theorem dX12_parsesCommand_193 : decode cX12_parsesCommand 193 = .ok (.iconst 1, 1) := by decide +kernel
theorem dX12_parsesCommand_194 : decode cX12_parsesCommand 194 = .ok (.invokevirtual 202, 3) := by decide +kernel
theorem dX12_parsesCommand_197 : decode cX12_parsesCommand 197 = .ok (.iastore, 1) := by decide +kernel
theorem dX12_parsesCommand_198 : decode cX12_parsesCommand 198 = .ok (.goto 187, 3) := by decide +kernel
theorem dX12_parsesCommand_201 : decode cX12_parsesCommand 201 = .ok (.aload_n 0, 1) := by decide +kernel
theorem dX12_parsesCommand_202 : decode cX12_parsesCommand 202 = .ok (.iload_n 1, 1) := by decide +kernel
theorem dX12_parsesCommand_203 : decode cX12_parsesCommand 203 = .ok (.invokevirtual 208, 3) := by decide +kernel
theorem dX12_parsesCommand_206 : decode cX12_parsesCommand 206 = .ok (.goto 179, 3) := by decide +kernel
theorem dX12_parsesCommand_209 : decode cX12_parsesCommand 209 = .ok (.aload_n 0, 1) := by decide +kernel
theorem dX12_parsesCommand_210 : decode cX12_parsesCommand 210 = .ok (.bipush 105, 2) := by decide +kernel
theorem dX12_parsesCommand_212 : decode cX12_parsesCommand 212 = .ok (.bipush 99, 2) := by decide +kernel
theorem dX12_parsesCommand_214 : decode cX12_parsesCommand 214 = .ok (.bipush 107, 2) := by decide +kernel
theorem dX12_parsesCommand_216 : decode cX12_parsesCommand 216 = .ok (.invokevirtual 205, 3) := by decide +kernel
theorem dX12_parsesCommand_219 : decode cX12_parsesCommand 219 = .ok (.aload_n 0, 1) := by decide +kernel
theorem dX12_parsesCommand_220 : decode cX12_parsesCommand 220 = .ok (.getfield 36, 3) := by decide +kernel
theorem dX12_parsesCommand_223 : decode cX12_parsesCommand 223 = .ok (.iload_n 1, 1) := by decide +kernel
theorem dX12_parsesCommand_224 : decode cX12_parsesCommand 224 = .ok (.iconst 1, 1) := by decide +kernel
theorem dX12_parsesCommand_225 : decode cX12_parsesCommand 225 = .ok (.iadd, 1) := by decide +kernel
theorem dX12_parsesCommand_226 : decode cX12_parsesCommand 226 = .ok (.aload_n 0, 1) := by decide +kernel
theorem dX12_parsesCommand_227 : decode cX12_parsesCommand 227 = .ok (.iconst 3, 1) := by decide +kernel
theorem dX12_parsesCommand_228 : decode cX12_parsesCommand 228 = .ok (.invokevirtual 202, 3) := by decide +kernel
theorem dX12_parsesCommand_231 : decode cX12_parsesCommand 231 = .ok (.iastore, 1) := by decide +kernel
theorem dX12_parsesCommand_232 : decode cX12_parsesCommand 232 = .ok (.goto 153, 3) := by decide +kernel
theorem dX12_parsesCommand_235 : decode cX12_parsesCommand 235 = .ok (.aload_n 0, 1) := by decide +kernel
theorem dX12_parsesCommand_236 : decode cX12_parsesCommand 236 = .ok (.bipush 105, 2) := by decide +kernel
theorem dX12_parsesCommand_238 : decode cX12_parsesCommand 238 = .ok (.bipush 118, 2) := by decide +kernel
theorem dX12_parsesCommand_240 : decode cX12_parsesCommand 240 = .ok (.bipush 101, 2) := by decide +kernel
theorem dX12_parsesCommand_242 : decode cX12_parsesCommand 242 = .ok (.invokevirtual 205, 3) := by decide +kernel
theorem dX12_parsesCommand_245 : decode cX12_parsesCommand 245 = .ok (.aload_n 0, 1) := by decide +kernel
theorem dX12_parsesCommand_246 : decode cX12_parsesCommand 246 = .ok (.getfield 36, 3) := by decide +kernel
theorem dX12_parsesCommand_249 : decode cX12_parsesCommand 249 = .ok (.iload_n 1, 1) := by decide +kernel
theorem dX12_parsesCommand_250 : decode cX12_parsesCommand 250 = .ok (.iconst 1, 1) := by decide +kernel
theorem dX12_parsesCommand_251 : decode cX12_parsesCommand 251 = .ok (.iadd, 1) := by decide +kernel
theorem dX12_parsesCommand_252 : decode cX12_parsesCommand 252 = .ok (.aload_n 0, 1) := by decide +kernel
theorem dX12_parsesCommand_253 : decode cX12_parsesCommand 253 = .ok (.iconst 1, 1) := by decide +kernel
theorem dX12_parsesCommand_254 : decode cX12_parsesCommand 254 = .ok (.invokevirtual 202, 3) := by decide +kernel
theorem dX12_parsesCommand_257 : decode cX12_parsesCommand 257 = .ok (.iastore, 1) := by decide +kernel
theorem dX12_parsesCommand_258 : decode cX12_parsesCommand 258 = .ok (.aload_n 0, 1) := by decide +kernel
theorem dX12_parsesCommand_259 : decode cX12_parsesCommand 259 = .ok (.getfield 36, 3) := by decide +kernel
theorem dX12_parsesCommand_262 : decode cX12_parsesCommand 262 = .ok (.iload_n 1, 1) := by decide +kernel
theorem dX12_parsesCommand_263 : decode cX12_parsesCommand 263 = .ok (.iconst 2, 1) := by decide +kernel
theorem dX12_parsesCommand_264 : decode cX12_parsesCommand 264 = .ok (.iadd, 1) := by decide +kernel
theorem dX12_parsesCommand_265 : decode cX12_parsesCommand 265 = .ok (.aload_n 0, 1) := by decide +kernel
theorem dX12_parsesCommand_266 : decode cX12_parsesCommand 266 = .ok (.iconst 1, 1) := by decide +kernel
theorem dX12_parsesCommand_267 : decode cX12_parsesCommand 267 = .ok (.invokevirtual 202, 3) := by decide +kernel
theorem dX12_parsesCommand_270 : decode cX12_parsesCommand 270 = .ok (.iastore, 1) := by decide +kernel
theorem dX12_parsesCommand_271 : decode cX12_parsesCommand 271 = .ok (.goto 114, 3) := by decide +kernel
theorem dX12_parsesCommand_274 : decode cX12_parsesCommand 274 = .ok (.aload_n 0, 1) := by decide +kernel
theorem dX12_parsesCommand_275 : decode cX12_parsesCommand 275 = .ok (.iload_n 1, 1) := by decide +kernel
theorem dX12_parsesCommand_276 : decode cX12_parsesCommand 276 = .ok (.invokevirtual 211, 3) := by decide +kernel
theorem dX12_parsesCommand_279 : decode cX12_parsesCommand 279 = .ok (.goto 106, 3) := by decide +kernel
theorem dX12_parsesCommand_282 : decode cX12_parsesCommand 282 = .ok (.aload_n 0, 1) := by decide +kernel
theorem dX12_parsesCommand_283 : decode cX12_parsesCommand 283 = .ok (.bipush 111, 2) := by decide +kernel
theorem dX12_parsesCommand_285 : decode cX12_parsesCommand 285 = .ok (.bipush 116, 2) := by decide +kernel
theorem dX12_parsesCommand_287 : decode cX12_parsesCommand 287 = .ok (.bipush 104, 2) := by decide +kernel
theorem dX12_parsesCommand_289 : decode cX12_parsesCommand 289 = .ok (.invokevirtual 205, 3) := by decide +kernel
theorem dX12_parsesCommand_292 : decode cX12_parsesCommand 292 = .ok (.aload_n 0, 1) := by decide +kernel
theorem dX12_parsesCommand_293 : decode cX12_parsesCommand 293 = .ok (.getfield 36, 3) := by decide +kernel
theorem dX12_parsesCommand_296 : decode cX12_parsesCommand 296 = .ok (.iload_n 1, 1) := by decide +kernel
theorem dX12_parsesCommand_297 : decode cX12_parsesCommand 297 = .ok (.iconst 1, 1) := by decide +kernel
theorem dX12_parsesCommand_298 : decode cX12_parsesCommand 298 = .ok (.iadd, 1) := by decide +kernel
theorem dX12_parsesCommand_299 : decode cX12_parsesCommand 299 = .ok (.aload_n 0, 1) := by decide +kernel
theorem dX12_parsesCommand_300 : decode cX12_parsesCommand 300 = .ok (.iconst 1, 1) := by decide +kernel
theorem dX12_parsesCommand_301 : decode cX12_parsesCommand 301 = .ok (.invokevirtual 202, 3) := by decide +kernel
theorem dX12_parsesCommand_304 : decode cX12_parsesCommand 304 = .ok (.iastore, 1) := by decide +kernel
theorem dX12_parsesCommand_305 : decode cX12_parsesCommand 305 = .ok (.goto 80, 3) := by decide +kernel
theorem dX12_parsesCommand_308 : decode cX12_parsesCommand 308 = .ok (.aload_n 0, 1) := by decide +kernel
theorem dX12_parsesCommand_309 : decode cX12_parsesCommand 309 = .ok (.bipush 97, 2) := by decide +kernel
theorem dX12_parsesCommand_311 : decode cX12_parsesCommand 311 = .ok (.invokevirtual 199, 3) := by decide +kernel
theorem dX12_parsesCommand_314 : decode cX12_parsesCommand 314 = .ok (.aload_n 0, 1) := by decide +kernel
theorem dX12_parsesCommand_315 : decode cX12_parsesCommand 315 = .ok (.bipush 112, 2) := by decide +kernel
theorem dX12_parsesCommand_317 : decode cX12_parsesCommand 317 = .ok (.invokevirtual 199, 3) := by decide +kernel
theorem dX12_parsesCommand_320 : decode cX12_parsesCommand 320 = .ok (.aload_n 0, 1) := by decide +kernel
theorem dX12_parsesCommand_321 : decode cX12_parsesCommand 321 = .ok (.getfield 36, 3) := by decide +kernel
theorem dX12_parsesCommand_324 : decode cX12_parsesCommand 324 = .ok (.iload_n 1, 1) := by decide +kernel
theorem dX12_parsesCommand_325 : decode cX12_parsesCommand 325 = .ok (.iconst 1, 1) := by decide +kernel
theorem dX12_parsesCommand_326 : decode cX12_parsesCommand 326 = .ok (.iadd, 1) := by decide +kernel
theorem dX12_parsesCommand_327 : decode cX12_parsesCommand 327 = .ok (.aload_n 0, 1) := by decide +kernel
theorem dX12_parsesCommand_328 : decode cX12_parsesCommand 328 = .ok (.iconst 1, 1) := by decide +kernel
theorem dX12_parsesCommand_329 : decode cX12_parsesCommand 329 = .ok (.invokevirtual 202, 3) := by decide +kernel
theorem dX12_parsesCommand_332 : decode cX12_parsesCommand 332 = .ok (.iastore, 1) := by decide +kernel
theorem dX12_parsesCommand_333 : decode cX12_parsesCommand 333 = .ok (.goto 52, 3) := by decide +kernel
theorem dX12_parsesCommand_336 : decode cX12_parsesCommand 336 = .ok (.aload_n 0, 1) := by decide +kernel
theorem dX12_parsesCommand_337 : decode cX12_parsesCommand 337 = .ok (.bipush 105, 2) := by decide +kernel
theorem dX12_parsesCommand_339 : decode cX12_parsesCommand 339 = .ok (.bipush 103, 2) := by decide +kernel
theorem dX12_parsesCommand_341 : decode cX12_parsesCommand 341 = .ok (.bipush 104, 2) := by decide +kernel
theorem dX12_parsesCommand_343 : decode cX12_parsesCommand 343 = .ok (.invokevirtual 205, 3) := by decide +kernel
theorem dX12_parsesCommand_346 : decode cX12_parsesCommand 346 = .ok (.aload_n 0, 1) := by decide +kernel
theorem dX12_parsesCommand_347 : decode cX12_parsesCommand 347 = .ok (.bipush 116, 2) := by decide +kernel
theorem dX12_parsesCommand_349 : decode cX12_parsesCommand 349 = .ok (.invokevirtual 199, 3) := by decide +kernel
theorem dX12_parsesCommand_352 : decode cX12_parsesCommand 352 = .ok (.goto 33, 3) := by decide +kernel
theorem dX12_parsesCommand_355 : decode cX12_parsesCommand 355 = .ok (.aload_n 0, 1) := by decide +kernel
theorem dX12_parsesCommand_356 : decode cX12_parsesCommand 356 = .ok (.bipush 97, 2) := by decide +kernel
theorem dX12_parsesCommand_358 : decode cX12_parsesCommand 358 = .ok (.invokevirtual 199, 3) := by decide +kernel
theorem dX12_parsesCommand_361 : decode cX12_parsesCommand 361 = .ok (.aload_n 0, 1) := by decide +kernel
theorem dX12_parsesCommand_362 : decode cX12_parsesCommand 362 = .ok (.bipush 121, 2) := by decide +kernel
theorem dX12_parsesCommand_364 : decode cX12_parsesCommand 364 = .ok (.invokevirtual 199, 3) := by decide +kernel
theorem dX12_parsesCommand_367 : decode cX12_parsesCommand 367 = .ok (.goto 18, 3) := by decide +kernel
theorem dX12_parsesCommand_370 : decode cX12_parsesCommand 370 = .ok (.aload_n 0, 1) := by decide +kernel
theorem dX12_parsesCommand_371 : decode cX12_parsesCommand 371 = .ok (.iconst 1, 1) := by decide +kernel
theorem dX12_parsesCommand_372 : decode cX12_parsesCommand 372 = .ok (.putfield 192, 3) := by decide +kernel
theorem dX12_parsesCommand_375 : decode cX12_parsesCommand 375 = .ok (.aload_n 0, 1) := by decide +kernel
theorem dX12_parsesCommand_376 : decode cX12_parsesCommand 376 = .ok (.dup, 1) := by decide +kernel
theorem dX12_parsesCommand_377 : decode cX12_parsesCommand 377 = .ok (.getfield 189, 3) := by decide +kernel
theorem dX12_parsesCommand_380 : decode cX12_parsesCommand 380 = .ok (.iconst 1, 1) := by decide +kernel
theorem dX12_parsesCommand_381 : decode cX12_parsesCommand 381 = .ok (.isub, 1) := by decide +kernel
theorem dX12_parsesCommand_382 : decode cX12_parsesCommand 382 = .ok (.putfield 189, 3) := by decide +kernel
theorem dX12_parsesCommand_385 : decode cX12_parsesCommand 385 = .ok (.return_, 1) := by decide +kernel
set_option maxRecDepth 20000 in
theorem ggX12_carriesOut_X12_adds : GoodIn wsX12_carriesOut wsX12_adds := goodIn_ca (goodIn_r _ [6, 7, 8, 9, 5, 10, 11, 12, 13, 14, 15, 16, 17, 18, 19, 115, 116, 117, 118, 119, 120, 121, 122, 123, 124, 125, 126, 127, 128, 129, 130] (by decide +kernel) (by decide +kernel)) (goodIn_sub (fun _ h => List.mem_cons_of_mem _ (List.mem_append_left _ (List.mem_append_right _ h))) (by decide +kernel))
set_option maxRecDepth 20000 in
theorem gX12_carriesOut_X12_adds : GoodIn wsX12_carriesOut (wsV RX12 63 RX12 yX12_adds wsX12_adds) := goodIn_app (goodIn_of _ (by decide +kernel)) ggX12_carriesOut_X12_adds
set_option maxRecDepth 20000 in
theorem ggX12_carriesOut_X12_removes : GoodIn wsX12_carriesOut wsX12_removes := goodIn_ca (goodIn_r _ [23, 7, 24, 25, 26, 5, 27, 8, 9, 10, 11, 12, 13, 14, 15, 28, 29, 30, 31, 16, 17, 18, 19, 115, 116, 117, 118, 119, 120, 121, 122, 123, 124, 125, 126, 127, 128, 129, 130] (by decide +kernel) (by decide +kernel)) (goodIn_sub (fun _ h => List.mem_cons_of_mem _ (List.mem_append_left _ (List.mem_append_right _ h))) (by decide +kernel))
set_option maxRecDepth 20000 in
theorem gX12_carriesOut_X12_removes : GoodIn wsX12_carriesOut (wsV RX12 78 RX12 yX12_removes wsX12_removes) := goodIn_app (goodIn_of _ (by decide +kernel)) ggX12_carriesOut_X12_removes
set_option maxRecDepth 20000 in
theorem ggX12_carriesOut_X12_delivers : GoodIn wsX12_carriesOut wsX12_delivers := goodIn_ca (goodIn_ca (goodIn_r _ [35, 7, 8, 9, 5, 10, 11, 12, 13, 14, 15, 36, 37, 38, 39, 40, 41, 42, 43, 44, 45, 46, 47, 48, 49, 50, 51, 52, 53, 54, 16, 17, 18, 19, 115, 116, 117, 118, 119, 120, 121, 122, 123, 124, 125, 126, 127, 128, 129, 130] (by decide +kernel) (by decide +kernel)) (goodIn_sub (fun _ h => List.mem_cons_of_mem _ (List.mem_append_left _ (List.mem_append_right _ h))) (by decide +kernel))) (goodIn_sub (fun _ h => List.mem_cons_of_mem _ (List.mem_append_right _ h)) (by decide +kernel))
set_option maxRecDepth 20000 in
theorem gX12_carriesOut_X12_delivers : GoodIn wsX12_carriesOut (wsV RX12 107 RX12 yX12_delivers wsX12_delivers) := goodIn_app (goodIn_of _ (by decide +kernel)) ggX12_carriesOut_X12_delivers
set_option maxRecDepth 20000 in
theorem ggX12_carriesOut_X12_donates : GoodIn wsX12_carriesOut wsX12_donates := goodIn_ca (goodIn_r _ [58, 7, 8, 9, 5, 10, 11, 12, 13, 14, 15, 16, 17, 18, 19, 115, 116, 117, 118, 119, 120, 121, 122, 123, 124, 125, 126, 127, 128, 129, 130] (by decide +kernel) (by decide +kernel)) (goodIn_sub (fun _ h => List.mem_cons_of_mem _ (List.mem_append_left _ (List.mem_append_right _ h))) (by decide +kernel))
set_option maxRecDepth 20000 in
theorem gX12_carriesOut_X12_donates : GoodIn wsX12_carriesOut (wsV RX12 113 RX12 yX12_donates wsX12_donates) := goodIn_app (goodIn_of _ (by decide +kernel)) ggX12_carriesOut_X12_donates
set_option maxRecDepth 20000 in
theorem ggX12_carriesOut_X12_movesWick : GoodIn wsX12_carriesOut wsX12_movesWick := goodIn_ca (goodIn_r _ [62, 7, 24, 25, 26, 5, 27, 8, 9, 10, 11, 12, 13, 14, 15, 16, 17, 18, 19, 115, 116, 117, 118, 119, 120, 121, 122, 123, 124, 125, 126, 127, 128, 129, 130] (by decide +kernel) (by decide +kernel)) (goodIn_sub (fun _ h => List.mem_cons_of_mem _ (List.mem_append_left _ (List.mem_append_right _ h))) (by decide +kernel))
set_option maxRecDepth 20000 in
theorem gX12_carriesOut_X12_movesWick : GoodIn wsX12_carriesOut (wsV RX12 116 RX12 yX12_movesWick wsX12_movesWick) := goodIn_app (goodIn_of _ (by decide +kernel)) ggX12_carriesOut_X12_movesWick
set_option maxRecDepth 20000 in
theorem ggX12_carriesOut_X12_sets : GoodIn wsX12_carriesOut wsX12_sets := goodIn_ca (goodIn_r _ [66, 7, 24, 25, 26, 5, 27, 8, 9, 10, 11, 12, 13, 14, 15, 16, 17, 18, 19, 115, 116, 117, 118, 119, 120, 121, 122, 123, 124, 125, 126, 127, 128, 129, 130] (by decide +kernel) (by decide +kernel)) (goodIn_sub (fun _ h => List.mem_cons_of_mem _ (List.mem_append_left _ (List.mem_append_right _ h))) (by decide +kernel))
set_option maxRecDepth 20000 in
theorem gX12_carriesOut_X12_sets : GoodIn wsX12_carriesOut (wsV RX12 81 RX12 yX12_sets wsX12_sets) := goodIn_app (goodIn_of _ (by decide +kernel)) ggX12_carriesOut_X12_sets
set_option maxRecDepth 20000 in
theorem ggX12_carriesOut_X12_switches : GoodIn wsX12_carriesOut wsX12_switches := goodIn_ca (goodIn_r _ [70, 7, 24, 25, 26, 5, 27, 8, 9, 10, 11, 12, 13, 14, 15, 16, 17, 18, 19, 115, 116, 117, 118, 119, 120, 121, 122, 123, 124, 125, 126, 127, 128, 129, 130] (by decide +kernel) (by decide +kernel)) (goodIn_sub (fun _ h => List.mem_cons_of_mem _ (List.mem_append_left _ (List.mem_append_right _ h))) (by decide +kernel))
set_option maxRecDepth 20000 in
theorem gX12_carriesOut_X12_switches : GoodIn wsX12_carriesOut (wsV RX12 85 RX12 yX12_switches wsX12_switches) := goodIn_app (goodIn_of _ (by decide +kernel)) ggX12_carriesOut_X12_switches
set_option maxRecDepth 20000 in
theorem ggX12_carriesOut_X12_addsMoth : GoodIn wsX12_carriesOut wsX12_addsMoth := goodIn_ca (goodIn_r _ [74, 7, 24, 25, 26, 5, 27, 8, 9, 10, 11, 12, 13, 14, 15, 16, 17, 18, 19, 115, 116, 117, 118, 119, 120, 121, 122, 123, 124, 125, 126, 127, 128, 129, 130] (by decide +kernel) (by decide +kernel)) (goodIn_sub (fun _ h => List.mem_cons_of_mem _ (List.mem_append_left _ (List.mem_append_right _ h))) (by decide +kernel))
set_option maxRecDepth 20000 in
theorem gX12_carriesOut_X12_addsMoth : GoodIn wsX12_carriesOut (wsV RX12 126 RX12 yX12_addsMoth wsX12_addsMoth) := goodIn_app (goodIn_of _ (by decide +kernel)) ggX12_carriesOut_X12_addsMoth
set_option maxRecDepth 20000 in
theorem ggX12_carriesOut_X12_proposes : GoodIn wsX12_carriesOut wsX12_proposes := goodIn_ca (goodIn_r _ [78, 7, 8, 9, 5, 10, 11, 12, 13, 14, 15, 79, 80, 81, 82, 83, 84, 85, 86, 44, 45, 46, 47, 16, 17, 18, 19, 52, 53, 54, 115, 116, 117, 118, 119, 120, 121, 122, 123, 124, 125, 126, 127, 128, 129, 130] (by decide +kernel) (by decide +kernel)) (goodIn_sub (fun _ h => List.mem_cons_of_mem _ (List.mem_append_left _ (List.mem_append_right _ h))) (by decide +kernel))
set_option maxRecDepth 20000 in
theorem gX12_carriesOut_X12_proposes : GoodIn wsX12_carriesOut (wsV RX12 166 RX12 yX12_proposes wsX12_proposes) := goodIn_app (goodIn_of _ (by decide +kernel)) ggX12_carriesOut_X12_proposes
set_option maxRecDepth 20000 in
theorem ggX12_carriesOut_X12_passesNight : GoodIn wsX12_carriesOut wsX12_passesNight := goodIn_ca (goodIn_r _ [90, 7, 91, 92, 93, 5, 94, 95, 96, 97, 98, 99, 100, 101, 102, 103, 104, 105, 106, 28, 29, 30, 31, 16, 17, 18, 19, 15, 115, 116, 117, 118, 119, 120, 121, 122, 123, 124, 125, 126, 127, 128, 129, 130] (by decide +kernel) (by decide +kernel)) (goodIn_sub (fun _ h => List.mem_cons_of_mem _ (List.mem_append_left _ (List.mem_append_right _ h))) (by decide +kernel))
set_option maxRecDepth 20000 in
theorem gX12_carriesOut_X12_passesNight : GoodIn wsX12_carriesOut (wsV RX12 148 RX12 yX12_passesNight wsX12_passesNight) := goodIn_app (goodIn_of _ (by decide +kernel)) ggX12_carriesOut_X12_passesNight
set_option maxRecDepth 20000 in
theorem ggX12_carriesOut_X12_pays : GoodIn wsX12_carriesOut wsX12_pays := goodIn_ca (goodIn_ca (goodIn_r _ [110, 7, 11, 12, 13, 5, 14, 15, 36, 37, 38, 39, 40, 41, 42, 43, 44, 45, 46, 47, 48, 49, 50, 51, 16, 17, 18, 19, 115, 116, 117, 118, 119, 120, 121, 122, 123, 124, 125, 126, 127, 128, 129, 130] (by decide +kernel) (by decide +kernel)) (goodIn_sub (fun _ h => List.mem_cons_of_mem _ (List.mem_append_left _ (List.mem_append_right _ h))) (by decide +kernel))) (goodIn_sub (fun _ h => List.mem_cons_of_mem _ (List.mem_append_right _ h)) (by decide +kernel))
set_option maxRecDepth 20000 in
theorem gX12_carriesOut_X12_pays : GoodIn wsX12_carriesOut (wsV RX12 120 RX12 yX12_pays wsX12_pays) := goodIn_app (goodIn_of _ (by decide +kernel)) ggX12_carriesOut_X12_pays
set_option maxRecDepth 20000 in
theorem ggX12_carriesOut_X12_buys : GoodIn wsX12_carriesOut wsX12_buys := goodIn_ca (goodIn_r _ [114, 7, 24, 25, 26, 5, 27, 8, 9, 10, 11, 12, 13, 14, 15, 16, 17, 18, 19, 115, 116, 117, 118, 119, 120, 121, 122, 123, 124, 125, 126, 127, 128, 129, 130] (by decide +kernel) (by decide +kernel)) (goodIn_sub (fun _ h => List.mem_cons_of_mem _ (List.mem_append_left _ (List.mem_append_right _ h))) (by decide +kernel))
set_option maxRecDepth 20000 in
theorem gX12_carriesOut_X12_buys : GoodIn wsX12_carriesOut (wsV RX12 110 RX12 yX12_buys wsX12_buys) := goodIn_app (goodIn_of _ (by decide +kernel)) ggX12_carriesOut_X12_buys
theorem dX12_carriesOut_0 : decode cX12_carriesOut 0 = .ok (.aload_n 0, 1) := by decide +kernel
theorem dX12_carriesOut_1 : decode cX12_carriesOut 1 = .ok (.getfield 36, 3) := by decide +kernel
theorem dX12_carriesOut_4 : decode cX12_carriesOut 4 = .ok (.iload_n 1, 1) := by decide +kernel
theorem dX12_carriesOut_5 : decode cX12_carriesOut 5 = .ok (.iconst 1, 1) := by decide +kernel
theorem dX12_carriesOut_6 : decode cX12_carriesOut 6 = .ok (.iadd, 1) := by decide +kernel
theorem dX12_carriesOut_7 : decode cX12_carriesOut 7 = .ok (.iaload, 1) := by decide +kernel
theorem dX12_carriesOut_8 : decode cX12_carriesOut 8 = .ok (.istore_n 2, 1) := by decide +kernel
theorem dX12_carriesOut_9 : decode cX12_carriesOut 9 = .ok (.aload_n 0, 1) := by decide +kernel
theorem dX12_carriesOut_10 : decode cX12_carriesOut 10 = .ok (.getfield 36, 3) := by decide +kernel
theorem dX12_carriesOut_13 : decode cX12_carriesOut 13 = .ok (.iload_n 1, 1) := by decide +kernel
theorem dX12_carriesOut_14 : decode cX12_carriesOut 14 = .ok (.iconst 2, 1) := by decide +kernel
theorem dX12_carriesOut_15 : decode cX12_carriesOut 15 = .ok (.iadd, 1) := by decide +kernel
theorem dX12_carriesOut_16 : decode cX12_carriesOut 16 = .ok (.iaload, 1) := by decide +kernel
theorem dX12_carriesOut_17 : decode cX12_carriesOut 17 = .ok (.istore_n 3, 1) := by decide +kernel
theorem dX12_carriesOut_18 : decode cX12_carriesOut 18 = .ok (.aload_n 0, 1) := by decide +kernel
theorem dX12_carriesOut_19 : decode cX12_carriesOut 19 = .ok (.getfield 36, 3) := by decide +kernel
theorem dX12_carriesOut_22 : decode cX12_carriesOut 22 = .ok (.iload_n 1, 1) := by decide +kernel
theorem dX12_carriesOut_23 : decode cX12_carriesOut 23 = .ok (.iaload, 1) := by decide +kernel
theorem dX12_carriesOut_24 : decode cX12_carriesOut 24 = .ok (.tableswitch 183 98 119 #[137, 167, 183, 183, 154, 129, 183, 117, 183, 183, 104, 161, 173, 147, 178, 183, 111, 183, 183, 183, 183, 123], 104) := by decide +kernel
theorem dX12_carriesOut_128 : decode cX12_carriesOut 128 = .ok (.aload_n 0, 1) := by decide +kernel
theorem dX12_carriesOut_129 : decode cX12_carriesOut 129 = .ok (.iload_n 2, 1) := by decide +kernel
theorem dX12_carriesOut_130 : decode cX12_carriesOut 130 = .ok (.iload_n 3, 1) := by decide +kernel
theorem dX12_carriesOut_131 : decode cX12_carriesOut 131 = .ok (.invokevirtual 63, 3) := by decide +kernel
theorem dX12_carriesOut_134 : decode cX12_carriesOut 134 = .ok (.ireturn, 1) := by decide +kernel
theorem dX12_carriesOut_135 : decode cX12_carriesOut 135 = .ok (.aload_n 0, 1) := by decide +kernel
theorem dX12_carriesOut_136 : decode cX12_carriesOut 136 = .ok (.iload_n 2, 1) := by decide +kernel
theorem dX12_carriesOut_137 : decode cX12_carriesOut 137 = .ok (.invokevirtual 78, 3) := by decide +kernel
theorem dX12_carriesOut_140 : decode cX12_carriesOut 140 = .ok (.ireturn, 1) := by decide +kernel
theorem dX12_carriesOut_141 : decode cX12_carriesOut 141 = .ok (.aload_n 0, 1) := by decide +kernel
theorem dX12_carriesOut_142 : decode cX12_carriesOut 142 = .ok (.iload_n 2, 1) := by decide +kernel
theorem dX12_carriesOut_143 : decode cX12_carriesOut 143 = .ok (.invokevirtual 107, 3) := by decide +kernel
theorem dX12_carriesOut_146 : decode cX12_carriesOut 146 = .ok (.ireturn, 1) := by decide +kernel
theorem dX12_carriesOut_147 : decode cX12_carriesOut 147 = .ok (.aload_n 0, 1) := by decide +kernel
theorem dX12_carriesOut_148 : decode cX12_carriesOut 148 = .ok (.iload_n 2, 1) := by decide +kernel
theorem dX12_carriesOut_149 : decode cX12_carriesOut 149 = .ok (.invokevirtual 113, 3) := by decide +kernel
theorem dX12_carriesOut_152 : decode cX12_carriesOut 152 = .ok (.ireturn, 1) := by decide +kernel
theorem dX12_carriesOut_153 : decode cX12_carriesOut 153 = .ok (.aload_n 0, 1) := by decide +kernel
theorem dX12_carriesOut_154 : decode cX12_carriesOut 154 = .ok (.iload_n 2, 1) := by decide +kernel
theorem dX12_carriesOut_155 : decode cX12_carriesOut 155 = .ok (.iload_n 3, 1) := by decide +kernel
theorem dX12_carriesOut_156 : decode cX12_carriesOut 156 = .ok (.iconst 1, 1) := by decide +kernel
theorem dX12_carriesOut_157 : decode cX12_carriesOut 157 = .ok (.invokevirtual 116, 3) := by decide +kernel
theorem dX12_carriesOut_160 : decode cX12_carriesOut 160 = .ok (.ireturn, 1) := by decide +kernel
theorem dX12_carriesOut_161 : decode cX12_carriesOut 161 = .ok (.aload_n 0, 1) := by decide +kernel
theorem dX12_carriesOut_162 : decode cX12_carriesOut 162 = .ok (.bipush 22, 2) := by decide +kernel
theorem dX12_carriesOut_164 : decode cX12_carriesOut 164 = .ok (.iload_n 2, 1) := by decide +kernel
theorem dX12_carriesOut_165 : decode cX12_carriesOut 165 = .ok (.iload_n 3, 1) := by decide +kernel
theorem dX12_carriesOut_166 : decode cX12_carriesOut 166 = .ok (.iconst 5, 1) := by decide +kernel
theorem dX12_carriesOut_167 : decode cX12_carriesOut 167 = .ok (.invokevirtual 81, 3) := by decide +kernel
theorem dX12_carriesOut_170 : decode cX12_carriesOut 170 = .ok (.ireturn, 1) := by decide +kernel
theorem dX12_carriesOut_171 : decode cX12_carriesOut 171 = .ok (.aload_n 0, 1) := by decide +kernel
theorem dX12_carriesOut_172 : decode cX12_carriesOut 172 = .ok (.iload_n 2, 1) := by decide +kernel
theorem dX12_carriesOut_173 : decode cX12_carriesOut 173 = .ok (.iconst 0, 1) := by decide +kernel
theorem dX12_carriesOut_174 : decode cX12_carriesOut 174 = .ok (.invokevirtual 85, 3) := by decide +kernel
theorem dX12_carriesOut_177 : decode cX12_carriesOut 177 = .ok (.ireturn, 1) := by decide +kernel
theorem dX12_carriesOut_178 : decode cX12_carriesOut 178 = .ok (.aload_n 0, 1) := by decide +kernel
theorem dX12_carriesOut_179 : decode cX12_carriesOut 179 = .ok (.iload_n 2, 1) := by decide +kernel
theorem dX12_carriesOut_180 : decode cX12_carriesOut 180 = .ok (.iconst 1, 1) := by decide +kernel
theorem dX12_carriesOut_181 : decode cX12_carriesOut 181 = .ok (.invokevirtual 85, 3) := by decide +kernel
theorem dX12_carriesOut_184 : decode cX12_carriesOut 184 = .ok (.ireturn, 1) := by decide +kernel
theorem dX12_carriesOut_185 : decode cX12_carriesOut 185 = .ok (.aload_n 0, 1) := by decide +kernel
theorem dX12_carriesOut_186 : decode cX12_carriesOut 186 = .ok (.iload_n 2, 1) := by decide +kernel
theorem dX12_carriesOut_187 : decode cX12_carriesOut 187 = .ok (.invokevirtual 126, 3) := by decide +kernel
theorem dX12_carriesOut_190 : decode cX12_carriesOut 190 = .ok (.ireturn, 1) := by decide +kernel
theorem dX12_carriesOut_191 : decode cX12_carriesOut 191 = .ok (.aload_n 0, 1) := by decide +kernel
theorem dX12_carriesOut_192 : decode cX12_carriesOut 192 = .ok (.iload_n 2, 1) := by decide +kernel
theorem dX12_carriesOut_193 : decode cX12_carriesOut 193 = .ok (.invokevirtual 166, 3) := by decide +kernel
theorem dX12_carriesOut_196 : decode cX12_carriesOut 196 = .ok (.ireturn, 1) := by decide +kernel
theorem dX12_carriesOut_197 : decode cX12_carriesOut 197 = .ok (.aload_n 0, 1) := by decide +kernel
theorem dX12_carriesOut_198 : decode cX12_carriesOut 198 = .ok (.invokevirtual 148, 3) := by decide +kernel
theorem dX12_carriesOut_201 : decode cX12_carriesOut 201 = .ok (.ireturn, 1) := by decide +kernel
theorem dX12_carriesOut_202 : decode cX12_carriesOut 202 = .ok (.aload_n 0, 1) := by decide +kernel
theorem dX12_carriesOut_203 : decode cX12_carriesOut 203 = .ok (.invokevirtual 120, 3) := by decide +kernel
theorem dX12_carriesOut_206 : decode cX12_carriesOut 206 = .ok (.ireturn, 1) := by decide +kernel
theorem dX12_carriesOut_207 : decode cX12_carriesOut 207 = .ok (.aload_n 0, 1) := by decide +kernel
theorem dX12_carriesOut_208 : decode cX12_carriesOut 208 = .ok (.iload_n 2, 1) := by decide +kernel
theorem dX12_carriesOut_209 : decode cX12_carriesOut 209 = .ok (.iload_n 3, 1) := by decide +kernel
theorem dX12_carriesOut_210 : decode cX12_carriesOut 210 = .ok (.invokevirtual 110, 3) := by decide +kernel
theorem dX12_carriesOut_213 : decode cX12_carriesOut 213 = .ok (.ireturn, 1) := by decide +kernel
set_option maxRecDepth 20000 in
theorem ggX12_execute_X12_parsesCommand : GoodIn wsX12_execute wsX12_parsesCommand := goodIn_ca (goodIn_r _ [11, 1, 12, 2, 13, 14, 15, 10, 16, 3, 17, 18, 19, 20, 21, 22, 23, 24, 25, 26, 27, 28, 29, 30, 31, 32, 33, 34, 35, 36, 37, 38, 39, 40, 167, 168, 169, 170, 171, 172, 173, 174, 175, 176, 177, 178, 179, 180, 181, 182] (by decide +kernel) (by decide +kernel)) (goodIn_sub (fun _ h => List.mem_cons_of_mem _ (List.mem_append_left _ (List.mem_append_right _ h))) (by decide +kernel))
set_option maxRecDepth 20000 in
theorem gX12_execute_X12_parsesCommand : GoodIn wsX12_execute (wsV RX12 214 RX12 yX12_parsesCommand wsX12_parsesCommand) := goodIn_app (goodIn_of _ (by decide +kernel)) ggX12_execute_X12_parsesCommand
set_option maxRecDepth 20000 in
theorem ggX12_execute_X12_here : GoodIn wsX12_execute wsX12_here := goodIn_ca (goodIn_r _ [16, 1, 3, 17, 167, 168, 169, 170, 171, 172, 173, 174, 175, 176, 177, 178, 179, 180, 181, 182] (by decide +kernel) (by decide +kernel)) (goodIn_sub (fun _ h => List.mem_cons_of_mem _ (List.mem_append_left _ (List.mem_append_right _ h))) (by decide +kernel))
set_option maxRecDepth 20000 in
theorem gX12_execute_X12_here : GoodIn wsX12_execute (wsV RX12 196 RX12 yX12_here wsX12_here) := goodIn_app (goodIn_of _ (by decide +kernel)) ggX12_execute_X12_here
set_option maxRecDepth 20000 in
theorem ggX12_execute_X12_fails : GoodIn wsX12_execute wsX12_fails := goodIn_r _ [44, 5, 167, 168, 169, 170, 171, 172, 173, 174, 175, 176, 177, 178, 179, 180, 181, 182] (by decide +kernel) (by decide +kernel)
set_option maxRecDepth 20000 in
theorem gX12_execute_X12_fails : GoodIn wsX12_execute (wsV RX12 53 RX12 yX12_fails wsX12_fails) := goodIn_app (goodIn_of _ (by decide +kernel)) ggX12_execute_X12_fails
set_option maxRecDepth 20000 in
theorem ggX12_execute_X12_begin : GoodIn wsX12_execute wsX12_begin := goodIn_ca (goodIn_r _ [48, 49, 50, 51, 52, 10, 53, 167, 168, 169, 170, 171, 172, 173, 174, 175, 176, 177, 178, 179, 180, 181, 182] (by decide +kernel) (by decide +kernel)) (goodIn_sub (fun _ h => List.mem_cons_of_mem _ (List.mem_append_left _ (List.mem_append_right _ h))) (by decide +kernel))
set_option maxRecDepth 20000 in
theorem gX12_execute_X12_begin : GoodIn wsX12_execute (wsV RX12 60 RX12 yX12_begin wsX12_begin) := goodIn_app (goodIn_of _ (by decide +kernel)) ggX12_execute_X12_begin
set_option maxRecDepth 20000 in
theorem ggX12_execute_X12_carriesOut : GoodIn wsX12_execute wsX12_carriesOut := goodIn_ca (goodIn_ca (goodIn_r _ [57, 12, 58, 59, 60, 10, 61, 49, 30, 31, 32, 41, 42, 43, 44, 5, 62, 63, 64, 65, 66, 67, 68, 69, 70, 71, 72, 73, 74, 75, 76, 77, 78, 79, 80, 81, 82, 83, 84, 85, 86, 87, 88, 89, 90, 91, 92, 93, 94, 95, 96, 97, 98, 99, 100, 101, 102, 103, 104, 105, 106, 107, 108, 109, 110, 111, 112, 113, 114, 115, 116, 117, 118, 119, 120, 121, 122, 123, 124, 125, 126, 127, 128, 129, 130, 131, 132, 133, 134, 135, 136, 137, 138, 139, 140, 141, 142, 143, 144, 145, 146, 147, 148, 149, 150, 151, 152, 153, 154, 155, 156, 157, 158, 159, 160, 167, 168, 169, 170, 171, 172, 173, 174, 175, 176, 177, 178, 179, 180, 181, 182] (by decide +kernel) (by decide +kernel)) (goodIn_sub (fun _ h => List.mem_cons_of_mem _ (List.mem_append_left _ (List.mem_append_right _ h))) (by decide +kernel))) (goodIn_sub (fun _ h => List.mem_cons_of_mem _ (List.mem_append_right _ h)) (by decide +kernel))
set_option maxRecDepth 20000 in
theorem gX12_execute_X12_carriesOut : GoodIn wsX12_execute (wsV RX12 217 RX12 yX12_carriesOut wsX12_carriesOut) := goodIn_app (goodIn_of _ (by decide +kernel)) ggX12_execute_X12_carriesOut
set_option maxRecDepth 20000 in
theorem ggX12_execute_X12_kept : GoodIn wsX12_execute wsX12_kept := goodIn_ca (goodIn_r _ [164, 5, 50, 49, 165, 166, 51, 52, 10, 53, 167, 168, 169, 170, 171, 172, 173, 174, 175, 176, 177, 178, 179, 180, 181, 182] (by decide +kernel) (by decide +kernel)) (goodIn_sub (fun _ h => List.mem_cons_of_mem _ (List.mem_append_left _ (List.mem_append_right _ h))) (by decide +kernel))
set_option maxRecDepth 20000 in
theorem gX12_execute_X12_kept : GoodIn wsX12_execute (wsV RX12 67 RX12 yX12_kept wsX12_kept) := goodIn_app (goodIn_of _ (by decide +kernel)) ggX12_execute_X12_kept
set_option maxRecDepth 20000 in
theorem ggX12_execute_X12_done : GoodIn wsX12_execute wsX12_done := goodIn_r _ [65, 5, 167, 168, 169, 170, 171, 172, 173, 174, 175, 176, 177, 178, 179, 180, 181, 182] (by decide +kernel) (by decide +kernel)
set_option maxRecDepth 20000 in
theorem gX12_execute_X12_done : GoodIn wsX12_execute (wsV RX12 57 RX12 yX12_done wsX12_done) := goodIn_app (goodIn_of _ (by decide +kernel)) ggX12_execute_X12_done
theorem dX12_execute_0 : decode cX12_execute 0 = .ok (.aload_n 0, 1) := by decide +kernel
theorem dX12_execute_1 : decode cX12_execute 1 = .ok (.iconst 0, 1) := by decide +kernel
theorem dX12_execute_2 : decode cX12_execute 2 = .ok (.putfield 189, 3) := by decide +kernel
theorem dX12_execute_5 : decode cX12_execute 5 = .ok (.aload_n 0, 1) := by decide +kernel
theorem dX12_execute_6 : decode cX12_execute 6 = .ok (.iconst 0, 1) := by decide +kernel
theorem dX12_execute_7 : decode cX12_execute 7 = .ok (.putfield 192, 3) := by decide +kernel
theorem dX12_execute_10 : decode cX12_execute 10 = .ok (.iconst 0, 1) := by decide +kernel
theorem dX12_execute_11 : decode cX12_execute 11 = .ok (.istore_n 1, 1) := by decide +kernel
theorem dX12_execute_12 : decode cX12_execute 12 = .ok (.iconst 1, 1) := by decide +kernel
theorem dX12_execute_13 : decode cX12_execute 13 = .ok (.istore_n 2, 1) := by decide +kernel
theorem dX12_execute_14 : decode cX12_execute 14 = .ok (.iload_n 2, 1) := by decide +kernel
theorem dX12_execute_15 : decode cX12_execute 15 = .ok (.ifCond .eq 56, 3) := by decide +kernel
theorem dX12_execute_18 : decode cX12_execute 18 = .ok (.aload_n 0, 1) := by decide +kernel
theorem dX12_execute_19 : decode cX12_execute 19 = .ok (.iconst 3, 1) := by decide +kernel
theorem dX12_execute_20 : decode cX12_execute 20 = .ok (.iload_n 1, 1) := by decide +kernel
theorem dX12_execute_21 : decode cX12_execute 21 = .ok (.imul, 1) := by decide +kernel
theorem dX12_execute_22 : decode cX12_execute 22 = .ok (.invokevirtual 214, 3) := by decide +kernel
theorem dX12_execute_25 : decode cX12_execute 25 = .ok (.iinc 1 1, 3) := by decide +kernel
theorem dX12_execute_28 : decode cX12_execute 28 = .ok (.aload_n 0, 1) := by decide +kernel
theorem dX12_execute_29 : decode cX12_execute 29 = .ok (.getfield 192, 3) := by decide +kernel
theorem dX12_execute_32 : decode cX12_execute 32 = .ok (.ifCond .ne 16, 3) := by decide +kernel
theorem dX12_execute_35 : decode cX12_execute 35 = .ok (.aload_n 0, 1) := by decide +kernel
theorem dX12_execute_36 : decode cX12_execute 36 = .ok (.invokevirtual 196, 3) := by decide +kernel
theorem dX12_execute_39 : decode cX12_execute 39 = .ok (.bipush 59, 2) := by decide +kernel
theorem dX12_execute_41 : decode cX12_execute 41 = .ok (.if_icmp .ne 7, 3) := by decide +kernel
theorem dX12_execute_44 : decode cX12_execute 44 = .ok (.iconst 1, 1) := by decide +kernel
theorem dX12_execute_45 : decode cX12_execute 45 = .ok (.goto 4, 3) := by decide +kernel
theorem dX12_execute_48 : decode cX12_execute 48 = .ok (.iconst 0, 1) := by decide +kernel
theorem dX12_execute_49 : decode cX12_execute 49 = .ok (.istore_n 2, 1) := by decide +kernel
theorem dX12_execute_50 : decode cX12_execute 50 = .ok (.aload_n 0, 1) := by decide +kernel
theorem dX12_execute_51 : decode cX12_execute 51 = .ok (.dup, 1) := by decide +kernel
theorem dX12_execute_52 : decode cX12_execute 52 = .ok (.getfield 189, 3) := by decide +kernel
theorem dX12_execute_55 : decode cX12_execute 55 = .ok (.iload_n 2, 1) := by decide +kernel
theorem dX12_execute_56 : decode cX12_execute 56 = .ok (.ifCond .eq 7, 3) := by decide +kernel
theorem dX12_execute_59 : decode cX12_execute 59 = .ok (.iconst 1, 1) := by decide +kernel
theorem dX12_execute_60 : decode cX12_execute 60 = .ok (.goto 4, 3) := by decide +kernel
theorem dX12_execute_63 : decode cX12_execute 63 = .ok (.iconst 0, 1) := by decide +kernel
theorem dX12_execute_64 : decode cX12_execute 64 = .ok (.iadd, 1) := by decide +kernel
theorem dX12_execute_65 : decode cX12_execute 65 = .ok (.putfield 189, 3) := by decide +kernel
theorem dX12_execute_68 : decode cX12_execute 68 = .ok (.goto (-54), 3) := by decide +kernel
theorem dX12_execute_71 : decode cX12_execute 71 = .ok (.aload_n 0, 1) := by decide +kernel
theorem dX12_execute_72 : decode cX12_execute 72 = .ok (.aload_n 0, 1) := by decide +kernel
theorem dX12_execute_73 : decode cX12_execute 73 = .ok (.getfield 192, 3) := by decide +kernel
theorem dX12_execute_76 : decode cX12_execute 76 = .ok (.ifCond .ne 14, 3) := by decide +kernel
theorem dX12_execute_79 : decode cX12_execute 79 = .ok (.aload_n 0, 1) := by decide +kernel
theorem dX12_execute_80 : decode cX12_execute 80 = .ok (.getfield 189, 3) := by decide +kernel
theorem dX12_execute_83 : decode cX12_execute 83 = .ok (.aload_n 0, 1) := by decide +kernel
theorem dX12_execute_84 : decode cX12_execute 84 = .ok (.getfield 186, 3) := by decide +kernel
theorem dX12_execute_87 : decode cX12_execute 87 = .ok (.if_icmp .ge 7, 3) := by decide +kernel
theorem dX12_execute_90 : decode cX12_execute 90 = .ok (.iconst 1, 1) := by decide +kernel
theorem dX12_execute_91 : decode cX12_execute 91 = .ok (.goto 4, 3) := by decide +kernel
theorem dX12_execute_94 : decode cX12_execute 94 = .ok (.iconst 0, 1) := by decide +kernel
theorem dX12_execute_95 : decode cX12_execute 95 = .ok (.putfield 192, 3) := by decide +kernel
theorem dX12_execute_98 : decode cX12_execute 98 = .ok (.aload_n 0, 1) := by decide +kernel
theorem dX12_execute_99 : decode cX12_execute 99 = .ok (.iconst 0, 1) := by decide +kernel
theorem dX12_execute_100 : decode cX12_execute 100 = .ok (.putfield 186, 3) := by decide +kernel
theorem dX12_execute_103 : decode cX12_execute 103 = .ok (.aload_n 0, 1) := by decide +kernel
theorem dX12_execute_104 : decode cX12_execute 104 = .ok (.getfield 192, 3) := by decide +kernel
theorem dX12_execute_107 : decode cX12_execute 107 = .ok (.ifCond .eq 17, 3) := by decide +kernel
theorem dX12_execute_110 : decode cX12_execute 110 = .ok (.aload_n 0, 1) := by decide +kernel
theorem dX12_execute_111 : decode cX12_execute 111 = .ok (.aload_n 0, 1) := by decide +kernel
theorem dX12_execute_112 : decode cX12_execute 112 = .ok (.getfield 189, 3) := by decide +kernel
theorem dX12_execute_115 : decode cX12_execute 115 = .ok (.putfield 26, 3) := by decide +kernel
theorem dX12_execute_118 : decode cX12_execute 118 = .ok (.aload_n 0, 1) := by decide +kernel
theorem dX12_execute_119 : decode cX12_execute 119 = .ok (.iconst 1, 1) := by decide +kernel
theorem dX12_execute_120 : decode cX12_execute 120 = .ok (.invokevirtual 53, 3) := by decide +kernel
theorem dX12_execute_123 : decode cX12_execute 123 = .ok (.ireturn, 1) := by decide +kernel
theorem dX12_execute_124 : decode cX12_execute 124 = .ok (.aload_n 0, 1) := by decide +kernel
theorem dX12_execute_125 : decode cX12_execute 125 = .ok (.invokevirtual 60, 3) := by decide +kernel
theorem dX12_execute_128 : decode cX12_execute 128 = .ok (.iconst 0, 1) := by decide +kernel
theorem dX12_execute_129 : decode cX12_execute 129 = .ok (.istore_n 3, 1) := by decide +kernel
theorem dX12_execute_130 : decode cX12_execute 130 = .ok (.iload_n 3, 1) := by decide +kernel
theorem dX12_execute_131 : decode cX12_execute 131 = .ok (.iload_n 1, 1) := by decide +kernel
theorem dX12_execute_132 : decode cX12_execute 132 = .ok (.if_icmp .ge 42, 3) := by decide +kernel
theorem dX12_execute_135 : decode cX12_execute 135 = .ok (.aload_n 0, 1) := by decide +kernel
theorem dX12_execute_136 : decode cX12_execute 136 = .ok (.iconst 3, 1) := by decide +kernel
theorem dX12_execute_137 : decode cX12_execute 137 = .ok (.iload_n 3, 1) := by decide +kernel
theorem dX12_execute_138 : decode cX12_execute 138 = .ok (.imul, 1) := by decide +kernel
theorem dX12_execute_139 : decode cX12_execute 139 = .ok (.invokevirtual 217, 3) := by decide +kernel
theorem dX12_execute_142 : decode cX12_execute 142 = .ok (.istore 4, 2) := by decide +kernel
theorem dX12_execute_144 : decode cX12_execute 144 = .ok (.aload_n 0, 1) := by decide +kernel
theorem dX12_execute_145 : decode cX12_execute 145 = .ok (.getfield 39, 3) := by decide +kernel
theorem dX12_execute_148 : decode cX12_execute 148 = .ok (.ifCond .eq 20, 3) := by decide +kernel
theorem dX12_execute_151 : decode cX12_execute 151 = .ok (.aload_n 0, 1) := by decide +kernel
theorem dX12_execute_152 : decode cX12_execute 152 = .ok (.iload_n 3, 1) := by decide +kernel
theorem dX12_execute_153 : decode cX12_execute 153 = .ok (.putfield 30, 3) := by decide +kernel
theorem dX12_execute_156 : decode cX12_execute 156 = .ok (.aload_n 0, 1) := by decide +kernel
theorem dX12_execute_157 : decode cX12_execute 157 = .ok (.iconst 2, 1) := by decide +kernel
theorem dX12_execute_158 : decode cX12_execute 158 = .ok (.putfield 39, 3) := by decide +kernel
theorem dX12_execute_161 : decode cX12_execute 161 = .ok (.aload_n 0, 1) := by decide +kernel
theorem dX12_execute_162 : decode cX12_execute 162 = .ok (.iload 4, 2) := by decide +kernel
theorem dX12_execute_164 : decode cX12_execute 164 = .ok (.invokevirtual 67, 3) := by decide +kernel
theorem dX12_execute_167 : decode cX12_execute 167 = .ok (.ireturn, 1) := by decide +kernel
theorem dX12_execute_168 : decode cX12_execute 168 = .ok (.iinc 3 1, 3) := by decide +kernel
theorem dX12_execute_171 : decode cX12_execute 171 = .ok (.goto (-41), 3) := by decide +kernel
theorem dX12_execute_174 : decode cX12_execute 174 = .ok (.aload_n 0, 1) := by decide +kernel
theorem dX12_execute_175 : decode cX12_execute 175 = .ok (.aload_n 0, 1) := by decide +kernel
theorem dX12_execute_176 : decode cX12_execute 176 = .ok (.iload_n 1, 1) := by decide +kernel
theorem dX12_execute_177 : decode cX12_execute 177 = .ok (.invokevirtual 57, 3) := by decide +kernel
theorem dX12_execute_180 : decode cX12_execute 180 = .ok (.invokevirtual 67, 3) := by decide +kernel
theorem dX12_execute_183 : decode cX12_execute 183 = .ok (.ireturn, 1) := by decide +kernel
set_option maxRecDepth 20000 in
theorem ggX12_errorPosition_X12_fails : GoodIn wsX12_errorPosition wsX12_fails := goodIn_r _ [6, 7, 12, 13, 14, 15, 16, 17, 18, 19, 20, 21, 22, 23, 24, 25, 26, 27] (by decide +kernel) (by decide +kernel)
set_option maxRecDepth 20000 in
theorem gX12_errorPosition_X12_fails : GoodIn wsX12_errorPosition (wsV RX12 53 RX12 yX12_fails wsX12_fails) := goodIn_app (goodIn_of _ (by decide +kernel)) ggX12_errorPosition_X12_fails
set_option maxRecDepth 20000 in
theorem ggX12_errorPosition_X12_done : GoodIn wsX12_errorPosition wsX12_done := goodIn_r _ [11, 7, 12, 13, 14, 15, 16, 17, 18, 19, 20, 21, 22, 23, 24, 25, 26, 27] (by decide +kernel) (by decide +kernel)
set_option maxRecDepth 20000 in
theorem gX12_errorPosition_X12_done : GoodIn wsX12_errorPosition (wsV RX12 57 RX12 yX12_done wsX12_done) := goodIn_app (goodIn_of _ (by decide +kernel)) ggX12_errorPosition_X12_done
theorem dX12_errorPosition_0 : decode cX12_errorPosition 0 = .ok (.aload_n 0, 1) := by decide +kernel
theorem dX12_errorPosition_1 : decode cX12_errorPosition 1 = .ok (.getfield 26, 3) := by decide +kernel
theorem dX12_errorPosition_4 : decode cX12_errorPosition 4 = .ok (.iconst (-1), 1) := by decide +kernel
theorem dX12_errorPosition_5 : decode cX12_errorPosition 5 = .ok (.if_icmp .ne 11, 3) := by decide +kernel
theorem dX12_errorPosition_8 : decode cX12_errorPosition 8 = .ok (.aload_n 0, 1) := by decide +kernel
theorem dX12_errorPosition_9 : decode cX12_errorPosition 9 = .ok (.iconst 1, 1) := by decide +kernel
theorem dX12_errorPosition_10 : decode cX12_errorPosition 10 = .ok (.invokevirtual 53, 3) := by decide +kernel
theorem dX12_errorPosition_13 : decode cX12_errorPosition 13 = .ok (.goto 11, 3) := by decide +kernel
theorem dX12_errorPosition_16 : decode cX12_errorPosition 16 = .ok (.aload_n 0, 1) := by decide +kernel
theorem dX12_errorPosition_17 : decode cX12_errorPosition 17 = .ok (.aload_n 0, 1) := by decide +kernel
theorem dX12_errorPosition_18 : decode cX12_errorPosition 18 = .ok (.getfield 26, 3) := by decide +kernel
theorem dX12_errorPosition_21 : decode cX12_errorPosition 21 = .ok (.invokevirtual 57, 3) := by decide +kernel
theorem dX12_errorPosition_24 : decode cX12_errorPosition 24 = .ok (.ireturn, 1) := by decide +kernel
set_option maxRecDepth 20000 in
theorem ggX12_failedCommand_X12_fails : GoodIn wsX12_failedCommand wsX12_fails := goodIn_r _ [6, 7, 12, 13, 14, 15, 16, 17, 18, 19, 20, 21, 22, 23, 24, 25, 26, 27] (by decide +kernel) (by decide +kernel)
set_option maxRecDepth 20000 in
theorem gX12_failedCommand_X12_fails : GoodIn wsX12_failedCommand (wsV RX12 53 RX12 yX12_fails wsX12_fails) := goodIn_app (goodIn_of _ (by decide +kernel)) ggX12_failedCommand_X12_fails
set_option maxRecDepth 20000 in
theorem ggX12_failedCommand_X12_done : GoodIn wsX12_failedCommand wsX12_done := goodIn_r _ [11, 7, 12, 13, 14, 15, 16, 17, 18, 19, 20, 21, 22, 23, 24, 25, 26, 27] (by decide +kernel) (by decide +kernel)
set_option maxRecDepth 20000 in
theorem gX12_failedCommand_X12_done : GoodIn wsX12_failedCommand (wsV RX12 57 RX12 yX12_done wsX12_done) := goodIn_app (goodIn_of _ (by decide +kernel)) ggX12_failedCommand_X12_done
theorem dX12_failedCommand_0 : decode cX12_failedCommand 0 = .ok (.aload_n 0, 1) := by decide +kernel
theorem dX12_failedCommand_1 : decode cX12_failedCommand 1 = .ok (.getfield 30, 3) := by decide +kernel
theorem dX12_failedCommand_4 : decode cX12_failedCommand 4 = .ok (.iconst (-1), 1) := by decide +kernel
theorem dX12_failedCommand_5 : decode cX12_failedCommand 5 = .ok (.if_icmp .ne 11, 3) := by decide +kernel
theorem dX12_failedCommand_8 : decode cX12_failedCommand 8 = .ok (.aload_n 0, 1) := by decide +kernel
theorem dX12_failedCommand_9 : decode cX12_failedCommand 9 = .ok (.iconst 1, 1) := by decide +kernel
theorem dX12_failedCommand_10 : decode cX12_failedCommand 10 = .ok (.invokevirtual 53, 3) := by decide +kernel
theorem dX12_failedCommand_13 : decode cX12_failedCommand 13 = .ok (.goto 11, 3) := by decide +kernel
theorem dX12_failedCommand_16 : decode cX12_failedCommand 16 = .ok (.aload_n 0, 1) := by decide +kernel
theorem dX12_failedCommand_17 : decode cX12_failedCommand 17 = .ok (.aload_n 0, 1) := by decide +kernel
theorem dX12_failedCommand_18 : decode cX12_failedCommand 18 = .ok (.getfield 30, 3) := by decide +kernel
theorem dX12_failedCommand_21 : decode cX12_failedCommand 21 = .ok (.invokevirtual 57, 3) := by decide +kernel
theorem dX12_failedCommand_24 : decode cX12_failedCommand 24 = .ok (.ireturn, 1) := by decide +kernel
set_option maxRecDepth 20000 in
theorem ggX12_undo_X12_fails : GoodIn wsX12_undo wsX12_fails := goodIn_r _ [8, 9, 17, 18, 19, 20, 21, 22, 23, 24, 25, 26, 27, 28, 29, 30, 31, 32] (by decide +kernel) (by decide +kernel)
set_option maxRecDepth 20000 in
theorem gX12_undo_X12_fails : GoodIn wsX12_undo (wsV RX12 53 RX12 yX12_fails wsX12_fails) := goodIn_app (goodIn_of _ (by decide +kernel)) ggX12_undo_X12_fails
set_option maxRecDepth 20000 in
theorem ggX12_undo_X12_copy : GoodIn wsX12_undo wsX12_copy := goodIn_ca (goodIn_r _ [12] (by decide +kernel) (by decide +kernel)) (goodIn_sub (fun _ h => List.mem_cons_of_mem _ (List.mem_append_right _ h)) (by decide +kernel))
set_option maxRecDepth 20000 in
theorem gX12_undo_X12_copy : GoodIn wsX12_undo (va_wsS RX12 42 yX12_copy wsX12_copy) := goodIn_app (goodIn_of _ (by decide +kernel)) ggX12_undo_X12_copy
set_option maxRecDepth 20000 in
theorem ggX12_undo_X12_done : GoodIn wsX12_undo wsX12_done := goodIn_r _ [16, 9, 17, 18, 19, 20, 21, 22, 23, 24, 25, 26, 27, 28, 29, 30, 31, 32] (by decide +kernel) (by decide +kernel)
set_option maxRecDepth 20000 in
theorem gX12_undo_X12_done : GoodIn wsX12_undo (wsV RX12 57 RX12 yX12_done wsX12_done) := goodIn_app (goodIn_of _ (by decide +kernel)) ggX12_undo_X12_done
theorem dX12_undo_0 : decode cX12_undo 0 = .ok (.aload_n 0, 1) := by decide +kernel
theorem dX12_undo_1 : decode cX12_undo 1 = .ok (.getfield 46, 3) := by decide +kernel
theorem dX12_undo_4 : decode cX12_undo 4 = .ok (.ifCond .ne 9, 3) := by decide +kernel
theorem dX12_undo_7 : decode cX12_undo 7 = .ok (.aload_n 0, 1) := by decide +kernel
theorem dX12_undo_8 : decode cX12_undo 8 = .ok (.iconst 1, 1) := by decide +kernel
theorem dX12_undo_9 : decode cX12_undo 9 = .ok (.invokevirtual 53, 3) := by decide +kernel
theorem dX12_undo_12 : decode cX12_undo 12 = .ok (.ireturn, 1) := by decide +kernel
theorem dX12_undo_13 : decode cX12_undo 13 = .ok (.aload_n 0, 1) := by decide +kernel
theorem dX12_undo_14 : decode cX12_undo 14 = .ok (.dup, 1) := by decide +kernel
theorem dX12_undo_15 : decode cX12_undo 15 = .ok (.getfield 46, 3) := by decide +kernel
theorem dX12_undo_18 : decode cX12_undo 18 = .ok (.iconst 1, 1) := by decide +kernel
theorem dX12_undo_19 : decode cX12_undo 19 = .ok (.isub, 1) := by decide +kernel
theorem dX12_undo_20 : decode cX12_undo 20 = .ok (.putfield 46, 3) := by decide +kernel
theorem dX12_undo_23 : decode cX12_undo 23 = .ok (.aload_n 0, 1) := by decide +kernel
theorem dX12_undo_24 : decode cX12_undo 24 = .ok (.getfield 16, 3) := by decide +kernel
theorem dX12_undo_27 : decode cX12_undo 27 = .ok (.aload_n 0, 1) := by decide +kernel
theorem dX12_undo_28 : decode cX12_undo 28 = .ok (.getfield 46, 3) := by decide +kernel
theorem dX12_undo_31 : decode cX12_undo 31 = .ok (.bipush 80, 2) := by decide +kernel
theorem dX12_undo_33 : decode cX12_undo 33 = .ok (.imul, 1) := by decide +kernel
theorem dX12_undo_34 : decode cX12_undo 34 = .ok (.aload_n 0, 1) := by decide +kernel
theorem dX12_undo_35 : decode cX12_undo 35 = .ok (.getfield 7, 3) := by decide +kernel
theorem dX12_undo_38 : decode cX12_undo 38 = .ok (.iconst 0, 1) := by decide +kernel
theorem dX12_undo_39 : decode cX12_undo 39 = .ok (.invokestatic 42, 3) := by decide +kernel
theorem dX12_undo_42 : decode cX12_undo 42 = .ok (.aload_n 0, 1) := by decide +kernel
theorem dX12_undo_43 : decode cX12_undo 43 = .ok (.aload_n 0, 1) := by decide +kernel
theorem dX12_undo_44 : decode cX12_undo 44 = .ok (.getfield 46, 3) := by decide +kernel
theorem dX12_undo_47 : decode cX12_undo 47 = .ok (.invokevirtual 57, 3) := by decide +kernel
theorem dX12_undo_50 : decode cX12_undo 50 = .ok (.ireturn, 1) := by decide +kernel
set_option maxRecDepth 20000 in
theorem ggX12_save_X12_copy : GoodIn wsX12_save wsX12_copy := goodIn_ca (goodIn_r _ [7] (by decide +kernel) (by decide +kernel)) (goodIn_sub (fun _ h => List.mem_cons_of_mem _ (List.mem_append_right _ h)) (by decide +kernel))
set_option maxRecDepth 20000 in
theorem gX12_save_X12_copy : GoodIn wsX12_save (va_wsS RX12 42 yX12_copy wsX12_copy) := goodIn_app (goodIn_of _ (by decide +kernel)) ggX12_save_X12_copy
set_option maxRecDepth 20000 in
theorem ggX12_save_X12_done : GoodIn wsX12_save wsX12_done := goodIn_r _ [11, 12, 13, 14, 15, 16, 17, 18, 19, 20, 21, 22, 23, 24, 25, 26, 27, 28] (by decide +kernel) (by decide +kernel)
set_option maxRecDepth 20000 in
theorem gX12_save_X12_done : GoodIn wsX12_save (wsV RX12 57 RX12 yX12_done wsX12_done) := goodIn_app (goodIn_of _ (by decide +kernel)) ggX12_save_X12_done
theorem dX12_save_0 : decode cX12_save 0 = .ok (.aload_n 0, 1) := by decide +kernel
theorem dX12_save_1 : decode cX12_save 1 = .ok (.getfield 7, 3) := by decide +kernel
theorem dX12_save_4 : decode cX12_save 4 = .ok (.iconst 0, 1) := by decide +kernel
theorem dX12_save_5 : decode cX12_save 5 = .ok (.aload_n 0, 1) := by decide +kernel
theorem dX12_save_6 : decode cX12_save 6 = .ok (.getfield 19, 3) := by decide +kernel
theorem dX12_save_9 : decode cX12_save 9 = .ok (.iconst 0, 1) := by decide +kernel
theorem dX12_save_10 : decode cX12_save 10 = .ok (.invokestatic 42, 3) := by decide +kernel
theorem dX12_save_13 : decode cX12_save 13 = .ok (.aload_n 0, 1) := by decide +kernel
theorem dX12_save_14 : decode cX12_save 14 = .ok (.iconst 1, 1) := by decide +kernel
theorem dX12_save_15 : decode cX12_save 15 = .ok (.putfield 220, 3) := by decide +kernel
theorem dX12_save_18 : decode cX12_save 18 = .ok (.aload_n 0, 1) := by decide +kernel
theorem dX12_save_19 : decode cX12_save 19 = .ok (.aload_n 0, 1) := by decide +kernel
theorem dX12_save_20 : decode cX12_save 20 = .ok (.getfield 7, 3) := by decide +kernel
theorem dX12_save_23 : decode cX12_save 23 = .ok (.iconst 0, 1) := by decide +kernel
theorem dX12_save_24 : decode cX12_save 24 = .ok (.iaload, 1) := by decide +kernel
theorem dX12_save_25 : decode cX12_save 25 = .ok (.invokevirtual 57, 3) := by decide +kernel
theorem dX12_save_28 : decode cX12_save 28 = .ok (.ireturn, 1) := by decide +kernel
set_option maxRecDepth 20000 in
theorem ggX12_restore_X12_fails : GoodIn wsX12_restore wsX12_fails := goodIn_r _ [9, 10, 18, 19, 20, 21, 22, 23, 24, 25, 26, 27, 28, 29, 30, 31, 32, 33] (by decide +kernel) (by decide +kernel)
set_option maxRecDepth 20000 in
theorem gX12_restore_X12_fails : GoodIn wsX12_restore (wsV RX12 53 RX12 yX12_fails wsX12_fails) := goodIn_app (goodIn_of _ (by decide +kernel)) ggX12_restore_X12_fails
set_option maxRecDepth 20000 in
theorem ggX12_restore_X12_copy : GoodIn wsX12_restore wsX12_copy := goodIn_ca (goodIn_r _ [13] (by decide +kernel) (by decide +kernel)) (goodIn_sub (fun _ h => List.mem_cons_of_mem _ (List.mem_append_right _ h)) (by decide +kernel))
set_option maxRecDepth 20000 in
theorem gX12_restore_X12_copy : GoodIn wsX12_restore (va_wsS RX12 42 yX12_copy wsX12_copy) := goodIn_app (goodIn_of _ (by decide +kernel)) ggX12_restore_X12_copy
set_option maxRecDepth 20000 in
theorem ggX12_restore_X12_done : GoodIn wsX12_restore wsX12_done := goodIn_r _ [17, 10, 18, 19, 20, 21, 22, 23, 24, 25, 26, 27, 28, 29, 30, 31, 32, 33] (by decide +kernel) (by decide +kernel)
set_option maxRecDepth 20000 in
theorem gX12_restore_X12_done : GoodIn wsX12_restore (wsV RX12 57 RX12 yX12_done wsX12_done) := goodIn_app (goodIn_of _ (by decide +kernel)) ggX12_restore_X12_done
theorem dX12_restore_0 : decode cX12_restore 0 = .ok (.aload_n 0, 1) := by decide +kernel
theorem dX12_restore_1 : decode cX12_restore 1 = .ok (.getfield 220, 3) := by decide +kernel
theorem dX12_restore_4 : decode cX12_restore 4 = .ok (.ifCond .ne 9, 3) := by decide +kernel
theorem dX12_restore_7 : decode cX12_restore 7 = .ok (.aload_n 0, 1) := by decide +kernel
theorem dX12_restore_8 : decode cX12_restore 8 = .ok (.iconst 1, 1) := by decide +kernel
theorem dX12_restore_9 : decode cX12_restore 9 = .ok (.invokevirtual 53, 3) := by decide +kernel
theorem dX12_restore_12 : decode cX12_restore 12 = .ok (.ireturn, 1) := by decide +kernel
theorem dX12_restore_13 : decode cX12_restore 13 = .ok (.aload_n 0, 1) := by decide +kernel
theorem dX12_restore_14 : decode cX12_restore 14 = .ok (.getfield 19, 3) := by decide +kernel
theorem dX12_restore_17 : decode cX12_restore 17 = .ok (.iconst 0, 1) := by decide +kernel
theorem dX12_restore_18 : decode cX12_restore 18 = .ok (.aload_n 0, 1) := by decide +kernel
theorem dX12_restore_19 : decode cX12_restore 19 = .ok (.getfield 7, 3) := by decide +kernel
theorem dX12_restore_22 : decode cX12_restore 22 = .ok (.iconst 0, 1) := by decide +kernel
theorem dX12_restore_23 : decode cX12_restore 23 = .ok (.invokestatic 42, 3) := by decide +kernel
theorem dX12_restore_26 : decode cX12_restore 26 = .ok (.aload_n 0, 1) := by decide +kernel
theorem dX12_restore_27 : decode cX12_restore 27 = .ok (.iconst 0, 1) := by decide +kernel
theorem dX12_restore_28 : decode cX12_restore 28 = .ok (.putfield 46, 3) := by decide +kernel
theorem dX12_restore_31 : decode cX12_restore 31 = .ok (.aload_n 0, 1) := by decide +kernel
theorem dX12_restore_32 : decode cX12_restore 32 = .ok (.aload_n 0, 1) := by decide +kernel
theorem dX12_restore_33 : decode cX12_restore 33 = .ok (.getfield 7, 3) := by decide +kernel
theorem dX12_restore_36 : decode cX12_restore 36 = .ok (.iconst 0, 1) := by decide +kernel
theorem dX12_restore_37 : decode cX12_restore 37 = .ok (.iaload, 1) := by decide +kernel
theorem dX12_restore_38 : decode cX12_restore 38 = .ok (.invokevirtual 57, 3) := by decide +kernel
theorem dX12_restore_41 : decode cX12_restore 41 = .ok (.ireturn, 1) := by decide +kernel
