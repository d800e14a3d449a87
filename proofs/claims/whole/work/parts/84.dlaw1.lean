theorem dL_giveWick_9 : decode cL_giveWick 9 = .ok (.lastore, 1) := by decide +kernel
theorem dL_giveWick_10 : decode cL_giveWick 10 = .ok (.goto 15, 3) := by decide +kernel
theorem dL_giveWick_13 : decode cL_giveWick 13 = .ok (.astore 4, 2) := by decide +kernel
theorem dL_giveWick_15 : decode cL_giveWick 15 = .ok (.iconst 1, 1) := by decide +kernel
theorem dL_giveWick_16 : decode cL_giveWick 16 = .ok (.ireturn, 1) := by decide +kernel
theorem dL_giveWick_17 : decode cL_giveWick 17 = .ok (.astore 4, 2) := by decide +kernel
theorem dL_giveWick_19 : decode cL_giveWick 19 = .ok (.iconst 2, 1) := by decide +kernel
theorem dL_giveWick_20 : decode cL_giveWick 20 = .ok (.ireturn, 1) := by decide +kernel
theorem dL_giveWick_21 : decode cL_giveWick 21 = .ok (.astore 4, 2) := by decide +kernel
theorem dL_giveWick_23 : decode cL_giveWick 23 = .ok (.iconst 3, 1) := by decide +kernel
theorem dL_giveWick_24 : decode cL_giveWick 24 = .ok (.ireturn, 1) := by decide +kernel
theorem dL_giveWick_25 : decode cL_giveWick 25 = .ok (.iconst 0, 1) := by decide +kernel
theorem dL_giveWick_26 : decode cL_giveWick 26 = .ok (.ireturn, 1) := by decide +kernel
set_option maxRecDepth 20000 in
theorem ggL_returnWick_X11_returnWick : GoodIn wsL_returnWick wsX11_returnWick := goodIn_ca (goodIn_ca (goodIn_ca (goodIn_ca (goodIn_r _ [6, 7, 8, 9, 10, 11, 12, 13, 14, 15, 16, 17, 18, 19, 20, 21, 22, 23, 24, 25, 26, 27, 28, 29, 30, 31, 32, 5, 33, 34, 35, 36, 37, 38, 39, 40, 41, 42, 43, 44, 45, 46, 47, 48, 49, 50, 51, 52, 53, 54, 55, 56, 57, 58, 59, 60, 61, 62, 63, 64, 65, 66, 67, 68, 69, 70, 71, 72, 73, 74, 75, 76, 77, 78, 79, 80, 81, 82, 83, 84, 85, 86, 87, 88, 89, 90, 91, 92, 93, 94, 95, 96, 97, 98, 99, 100, 101, 102, 103, 104, 105, 106, 107, 108, 109, 110, 111, 112, 113, 114, 115, 116, 117, 118, 119, 120, 121, 122, 123, 124, 125, 126, 127, 128, 129, 130, 131, 132, 133, 134, 135, 136, 137, 138, 139, 140, 141, 142, 143, 144, 145, 146, 147] (by decide +kernel) (by decide +kernel)) (goodIn_sub (fun _ h => List.mem_cons_of_mem _ (List.mem_append_left _ (List.mem_append_left _ (List.mem_append_left _ (List.mem_append_right _ h))))) (by decide +kernel))) (goodIn_sub (fun _ h => List.mem_cons_of_mem _ (List.mem_append_left _ (List.mem_append_left _ (List.mem_append_right _ h)))) (by decide +kernel))) (goodIn_sub (fun _ h => List.mem_cons_of_mem _ (List.mem_append_left _ (List.mem_append_right _ h))) (by decide +kernel))) (goodIn_sub (fun _ h => List.mem_cons_of_mem _ (List.mem_append_right _ h)) (by decide +kernel))
set_option maxRecDepth 20000 in
theorem gL_returnWick_X11_returnWick : GoodIn wsL_returnWick (wsV RL 69 RX11 yX11_returnWick wsX11_returnWick) := goodIn_app (goodIn_of _ (by decide +kernel)) ggL_returnWick_X11_returnWick
theorem dL_returnWick_0 : decode cL_returnWick 0 = .ok (.aload_n 3, 1) := by decide +kernel
theorem dL_returnWick_1 : decode cL_returnWick 1 = .ok (.iconst 0, 1) := by decide +kernel
theorem dL_returnWick_2 : decode cL_returnWick 2 = .ok (.aload_n 0, 1) := by decide +kernel
theorem dL_returnWick_3 : decode cL_returnWick 3 = .ok (.iload_n 1, 1) := by decide +kernel
theorem dL_returnWick_4 : decode cL_returnWick 4 = .ok (.iload_n 2, 1) := by decide +kernel
theorem dL_returnWick_5 : decode cL_returnWick 5 = .ok (.invokevirtual 69, 3) := by decide +kernel
theorem dL_returnWick_8 : decode cL_returnWick 8 = .ok (.i2l, 1) := by decide +kernel
theorem dL_returnWick_9 : decode cL_returnWick 9 = .ok (.lastore, 1) := by decide +kernel
theorem dL_returnWick_10 : decode cL_returnWick 10 = .ok (.goto 15, 3) := by decide +kernel
theorem dL_returnWick_13 : decode cL_returnWick 13 = .ok (.astore 4, 2) := by decide +kernel
theorem dL_returnWick_15 : decode cL_returnWick 15 = .ok (.iconst 1, 1) := by decide +kernel
theorem dL_returnWick_16 : decode cL_returnWick 16 = .ok (.ireturn, 1) := by decide +kernel
theorem dL_returnWick_17 : decode cL_returnWick 17 = .ok (.astore 4, 2) := by decide +kernel
theorem dL_returnWick_19 : decode cL_returnWick 19 = .ok (.iconst 2, 1) := by decide +kernel
theorem dL_returnWick_20 : decode cL_returnWick 20 = .ok (.ireturn, 1) := by decide +kernel
theorem dL_returnWick_21 : decode cL_returnWick 21 = .ok (.astore 4, 2) := by decide +kernel
theorem dL_returnWick_23 : decode cL_returnWick 23 = .ok (.iconst 3, 1) := by decide +kernel
theorem dL_returnWick_24 : decode cL_returnWick 24 = .ok (.ireturn, 1) := by decide +kernel
theorem dL_returnWick_25 : decode cL_returnWick 25 = .ok (.iconst 0, 1) := by decide +kernel
theorem dL_returnWick_26 : decode cL_returnWick 26 = .ok (.ireturn, 1) := by decide +kernel
set_option maxRecDepth 20000 in
theorem ggL_payDividend_X11_payDividend : GoodIn wsL_payDividend wsX11_payDividend := goodIn_ca (goodIn_ca (goodIn_ca (goodIn_ca (goodIn_ca (goodIn_r _ [6, 7, 8, 9, 10, 11, 12, 13, 14, 15, 16, 17, 18, 19, 20, 21, 22, 5, 23, 24, 25, 26, 27, 28, 29, 30, 31, 32, 33, 34, 35, 36, 37, 38, 39, 40, 41, 42, 43, 44, 45, 46, 47, 48, 49, 50, 51, 52, 53, 54, 55, 56, 57, 58, 59, 60, 61, 62, 63, 64, 65, 66, 67, 68, 69, 70, 71, 72, 73, 74, 75, 76, 77, 78, 79, 80, 81, 82, 83, 84, 85, 86, 87, 88, 89, 90, 91, 92, 93, 94, 95, 96, 97, 98, 99, 100, 101, 102, 103, 104, 105, 106, 107, 108, 109, 110, 111, 112, 113, 114, 115, 116, 117, 118, 119, 120, 121, 122, 123, 124, 125, 126, 127, 128, 129, 130, 131, 132, 133, 134, 135, 136, 137, 138, 139, 140, 141, 142, 143, 144, 145, 146, 147, 148, 149, 150, 151, 152, 153, 154, 155, 156, 157, 158, 159, 160, 161, 162, 163] (by decide +kernel) (by decide +kernel)) (goodIn_sub (fun _ h => List.mem_cons_of_mem _ (List.mem_append_left _ (List.mem_append_left _ (List.mem_append_left _ (List.mem_append_right _ h))))) (by decide +kernel))) (goodIn_sub (fun _ h => List.mem_cons_of_mem _ (List.mem_append_left _ (List.mem_append_left _ (List.mem_append_right _ h)))) (by decide +kernel))) (goodIn_sub (fun _ h => List.mem_cons_of_mem _ (List.mem_append_left _ (List.mem_append_right _ h))) (by decide +kernel))) (goodIn_sub (fun _ h => List.mem_cons_of_mem _ (List.mem_append_left _ (List.mem_append_left _ (List.mem_append_left _ (List.mem_append_left _ (List.mem_append_right _ h)))))) (by decide +kernel))) (goodIn_sub (fun _ h => List.mem_cons_of_mem _ (List.mem_append_right _ h)) (by decide +kernel))
set_option maxRecDepth 20000 in
theorem gL_payDividend_X11_payDividend : GoodIn wsL_payDividend (wsV RL 72 RX11 yX11_payDividend wsX11_payDividend) := goodIn_app (goodIn_of _ (by decide +kernel)) ggL_payDividend_X11_payDividend
theorem dL_payDividend_0 : decode cL_payDividend 0 = .ok (.aload_n 1, 1) := by decide +kernel
theorem dL_payDividend_1 : decode cL_payDividend 1 = .ok (.iconst 0, 1) := by decide +kernel
theorem dL_payDividend_2 : decode cL_payDividend 2 = .ok (.aload_n 0, 1) := by decide +kernel
theorem dL_payDividend_3 : decode cL_payDividend 3 = .ok (.invokevirtual 72, 3) := by decide +kernel
theorem dL_payDividend_6 : decode cL_payDividend 6 = .ok (.i2l, 1) := by decide +kernel
theorem dL_payDividend_7 : decode cL_payDividend 7 = .ok (.lastore, 1) := by decide +kernel
theorem dL_payDividend_8 : decode cL_payDividend 8 = .ok (.goto 6, 3) := by decide +kernel
theorem dL_payDividend_11 : decode cL_payDividend 11 = .ok (.astore_n 2, 1) := by decide +kernel
theorem dL_payDividend_12 : decode cL_payDividend 12 = .ok (.iconst 1, 1) := by decide +kernel
theorem dL_payDividend_13 : decode cL_payDividend 13 = .ok (.ireturn, 1) := by decide +kernel
theorem dL_payDividend_14 : decode cL_payDividend 14 = .ok (.iconst 0, 1) := by decide +kernel
theorem dL_payDividend_15 : decode cL_payDividend 15 = .ok (.ireturn, 1) := by decide +kernel
set_option maxRecDepth 20000 in
theorem ggL_portionOf_X11_portionOf : GoodIn wsL_portionOf wsX11_portionOf := goodIn_ca (goodIn_ca (goodIn_ca (goodIn_ca (goodIn_ca (goodIn_r _ [6, 7, 8, 9, 10, 11, 12, 13, 14, 15, 16, 17, 18, 19, 20, 21, 22, 23, 24, 25, 26, 5, 27, 28, 29, 30, 31, 32, 33, 34, 35, 36, 37, 38, 39, 40, 41, 42, 43, 44, 45, 46, 47, 48, 49, 50, 51, 52, 53, 54, 55, 56, 57, 58, 59, 60, 61, 62, 63, 64, 65, 66, 67, 68, 69, 70, 71, 72, 73, 74, 75, 76, 77, 78, 79, 80, 81, 82, 83, 84, 85, 86, 87, 88] (by decide +kernel) (by decide +kernel)) (goodIn_sub (fun _ h => List.mem_cons_of_mem _ (List.mem_append_left _ (List.mem_append_left _ (List.mem_append_left _ (List.mem_append_left _ (List.mem_append_right _ h)))))) (by decide +kernel))) (goodIn_sub (fun _ h => List.mem_cons_of_mem _ (List.mem_append_left _ (List.mem_append_left _ (List.mem_append_left _ (List.mem_append_right _ h))))) (by decide +kernel))) (goodIn_sub (fun _ h => List.mem_cons_of_mem _ (List.mem_append_left _ (List.mem_append_left _ (List.mem_append_right _ h)))) (by decide +kernel))) (goodIn_sub (fun _ h => List.mem_cons_of_mem _ (List.mem_append_left _ (List.mem_append_right _ h))) (by decide +kernel))) (goodIn_sub (fun _ h => List.mem_cons_of_mem _ (List.mem_append_right _ h)) (by decide +kernel))
set_option maxRecDepth 20000 in
theorem gL_portionOf_X11_portionOf : GoodIn wsL_portionOf (wsV RL 76 RX11 yX11_portionOf wsX11_portionOf) := goodIn_app (goodIn_of _ (by decide +kernel)) ggL_portionOf_X11_portionOf
theorem dL_portionOf_0 : decode cL_portionOf 0 = .ok (.aload_n 3, 1) := by decide +kernel
theorem dL_portionOf_1 : decode cL_portionOf 1 = .ok (.iconst 0, 1) := by decide +kernel
theorem dL_portionOf_2 : decode cL_portionOf 2 = .ok (.aload_n 0, 1) := by decide +kernel
theorem dL_portionOf_3 : decode cL_portionOf 3 = .ok (.iload_n 1, 1) := by decide +kernel
theorem dL_portionOf_4 : decode cL_portionOf 4 = .ok (.iload_n 2, 1) := by decide +kernel
theorem dL_portionOf_5 : decode cL_portionOf 5 = .ok (.invokevirtual 76, 3) := by decide +kernel
theorem dL_portionOf_8 : decode cL_portionOf 8 = .ok (.i2l, 1) := by decide +kernel
theorem dL_portionOf_9 : decode cL_portionOf 9 = .ok (.lastore, 1) := by decide +kernel
theorem dL_portionOf_10 : decode cL_portionOf 10 = .ok (.goto 11, 3) := by decide +kernel
theorem dL_portionOf_13 : decode cL_portionOf 13 = .ok (.astore 4, 2) := by decide +kernel
theorem dL_portionOf_15 : decode cL_portionOf 15 = .ok (.iconst 1, 1) := by decide +kernel
theorem dL_portionOf_16 : decode cL_portionOf 16 = .ok (.ireturn, 1) := by decide +kernel
theorem dL_portionOf_17 : decode cL_portionOf 17 = .ok (.astore 4, 2) := by decide +kernel
theorem dL_portionOf_19 : decode cL_portionOf 19 = .ok (.iconst 2, 1) := by decide +kernel
theorem dL_portionOf_20 : decode cL_portionOf 20 = .ok (.ireturn, 1) := by decide +kernel
theorem dL_portionOf_21 : decode cL_portionOf 21 = .ok (.iconst 0, 1) := by decide +kernel
theorem dL_portionOf_22 : decode cL_portionOf 22 = .ok (.ireturn, 1) := by decide +kernel
set_option maxRecDepth 20000 in
theorem ggL_portionByRounds_X11_portionByRounds : GoodIn wsL_portionByRounds wsX11_portionByRounds := goodIn_ca (goodIn_ca (goodIn_ca (goodIn_ca (goodIn_ca (goodIn_r _ [6, 7, 8, 9, 10, 11, 12, 13, 14, 15, 16, 17, 18, 19, 20, 21, 22, 23, 24, 25, 26, 5, 27, 28, 29, 30, 31, 32, 33, 34, 35, 36, 37, 38, 39, 40, 41, 42, 43, 44, 45, 46, 47, 48, 49, 50, 51, 52, 53, 54, 55, 56, 57, 58, 59, 60, 61, 62, 63, 64, 65, 66, 67, 68, 69, 70, 71, 72, 73, 74, 75, 76, 77, 78, 79, 80, 81, 82, 83, 84, 85, 86, 87] (by decide +kernel) (by decide +kernel)) (goodIn_sub (fun _ h => List.mem_cons_of_mem _ (List.mem_append_left _ (List.mem_append_left _ (List.mem_append_left _ (List.mem_append_left _ (List.mem_append_right _ h)))))) (by decide +kernel))) (goodIn_sub (fun _ h => List.mem_cons_of_mem _ (List.mem_append_left _ (List.mem_append_left _ (List.mem_append_left _ (List.mem_append_right _ h))))) (by decide +kernel))) (goodIn_sub (fun _ h => List.mem_cons_of_mem _ (List.mem_append_left _ (List.mem_append_left _ (List.mem_append_right _ h)))) (by decide +kernel))) (goodIn_sub (fun _ h => List.mem_cons_of_mem _ (List.mem_append_left _ (List.mem_append_right _ h))) (by decide +kernel))) (goodIn_sub (fun _ h => List.mem_cons_of_mem _ (List.mem_append_right _ h)) (by decide +kernel))
set_option maxRecDepth 20000 in
theorem gL_portionByRounds_X11_portionByRounds : GoodIn wsL_portionByRounds (wsV RL 79 RX11 yX11_portionByRounds wsX11_portionByRounds) := goodIn_app (goodIn_of _ (by decide +kernel)) ggL_portionByRounds_X11_portionByRounds
theorem dL_portionByRounds_0 : decode cL_portionByRounds 0 = .ok (.aload_n 3, 1) := by decide +kernel
theorem dL_portionByRounds_1 : decode cL_portionByRounds 1 = .ok (.iconst 0, 1) := by decide +kernel
theorem dL_portionByRounds_2 : decode cL_portionByRounds 2 = .ok (.aload_n 0, 1) := by decide +kernel
theorem dL_portionByRounds_3 : decode cL_portionByRounds 3 = .ok (.iload_n 1, 1) := by decide +kernel
theorem dL_portionByRounds_4 : decode cL_portionByRounds 4 = .ok (.iload_n 2, 1) := by decide +kernel
theorem dL_portionByRounds_5 : decode cL_portionByRounds 5 = .ok (.invokevirtual 79, 3) := by decide +kernel
theorem dL_portionByRounds_8 : decode cL_portionByRounds 8 = .ok (.i2l, 1) := by decide +kernel
theorem dL_portionByRounds_9 : decode cL_portionByRounds 9 = .ok (.lastore, 1) := by decide +kernel
theorem dL_portionByRounds_10 : decode cL_portionByRounds 10 = .ok (.goto 11, 3) := by decide +kernel
theorem dL_portionByRounds_13 : decode cL_portionByRounds 13 = .ok (.astore 4, 2) := by decide +kernel
theorem dL_portionByRounds_15 : decode cL_portionByRounds 15 = .ok (.iconst 1, 1) := by decide +kernel
theorem dL_portionByRounds_16 : decode cL_portionByRounds 16 = .ok (.ireturn, 1) := by decide +kernel
theorem dL_portionByRounds_17 : decode cL_portionByRounds 17 = .ok (.astore 4, 2) := by decide +kernel
theorem dL_portionByRounds_19 : decode cL_portionByRounds 19 = .ok (.iconst 2, 1) := by decide +kernel
theorem dL_portionByRounds_20 : decode cL_portionByRounds 20 = .ok (.ireturn, 1) := by decide +kernel
theorem dL_portionByRounds_21 : decode cL_portionByRounds 21 = .ok (.iconst 0, 1) := by decide +kernel
theorem dL_portionByRounds_22 : decode cL_portionByRounds 22 = .ok (.ireturn, 1) := by decide +kernel
set_option maxRecDepth 20000 in
theorem ggL_addMoth_X11_addMoth : GoodIn wsL_addMoth wsX11_addMoth := goodIn_ca (goodIn_ca (goodIn_ca (goodIn_ca (goodIn_r _ [6, 7, 8, 9, 10, 11, 12, 13, 14, 15, 16, 17, 18, 19, 20, 21, 22, 23, 24, 25, 26, 27, 28, 5, 29, 30, 31, 32, 33, 34, 35, 36, 37, 38, 39, 40, 41, 42, 43, 44, 45, 46, 47, 48, 49, 50, 51, 52, 53, 54, 55, 56, 57, 58, 59, 60, 61, 62, 63, 64, 65, 66, 67, 68, 69, 70, 71, 72, 73, 74, 75, 76, 77, 78, 79, 80, 81, 82, 83, 84, 85, 86, 87, 88, 89, 90, 91, 92, 93, 94, 95, 96, 97, 98, 99, 100, 101, 102, 103, 104, 105, 106, 107, 108, 109, 110, 111, 112, 113, 114, 115, 116, 117, 118, 119, 120, 121, 122, 123, 124, 125, 126, 127, 128, 129, 130, 131, 132, 133, 134, 135, 136, 137, 138, 139, 140] (by decide +kernel) (by decide +kernel)) (goodIn_sub (fun _ h => List.mem_cons_of_mem _ (List.mem_append_left _ (List.mem_append_left _ (List.mem_append_right _ h)))) (by decide +kernel))) (goodIn_sub (fun _ h => List.mem_cons_of_mem _ (List.mem_append_left _ (List.mem_append_right _ h))) (by decide +kernel))) (goodIn_sub (fun _ h => List.mem_cons_of_mem _ (List.mem_append_right _ h)) (by decide +kernel))) (goodIn_sub (fun _ h => List.mem_cons_of_mem _ (List.mem_append_left _ (List.mem_append_left _ (List.mem_append_left _ (List.mem_append_right _ h))))) (by decide +kernel))
set_option maxRecDepth 20000 in
theorem gL_addMoth_X11_addMoth : GoodIn wsL_addMoth (wsV RL 82 RX11 yX11_addMoth wsX11_addMoth) := goodIn_app (goodIn_of _ (by decide +kernel)) ggL_addMoth_X11_addMoth
theorem dL_addMoth_0 : decode cL_addMoth 0 = .ok (.aload_n 2, 1) := by decide +kernel
theorem dL_addMoth_1 : decode cL_addMoth 1 = .ok (.iconst 0, 1) := by decide +kernel
theorem dL_addMoth_2 : decode cL_addMoth 2 = .ok (.aload_n 0, 1) := by decide +kernel
theorem dL_addMoth_3 : decode cL_addMoth 3 = .ok (.iload_n 1, 1) := by decide +kernel
theorem dL_addMoth_4 : decode cL_addMoth 4 = .ok (.invokevirtual 82, 3) := by decide +kernel
theorem dL_addMoth_7 : decode cL_addMoth 7 = .ok (.i2l, 1) := by decide +kernel
theorem dL_addMoth_8 : decode cL_addMoth 8 = .ok (.lastore, 1) := by decide +kernel
theorem dL_addMoth_9 : decode cL_addMoth 9 = .ok (.goto 9, 3) := by decide +kernel
theorem dL_addMoth_12 : decode cL_addMoth 12 = .ok (.astore_n 3, 1) := by decide +kernel
theorem dL_addMoth_13 : decode cL_addMoth 13 = .ok (.iconst 1, 1) := by decide +kernel
theorem dL_addMoth_14 : decode cL_addMoth 14 = .ok (.ireturn, 1) := by decide +kernel
theorem dL_addMoth_15 : decode cL_addMoth 15 = .ok (.astore_n 3, 1) := by decide +kernel
theorem dL_addMoth_16 : decode cL_addMoth 16 = .ok (.iconst 2, 1) := by decide +kernel
theorem dL_addMoth_17 : decode cL_addMoth 17 = .ok (.ireturn, 1) := by decide +kernel
theorem dL_addMoth_18 : decode cL_addMoth 18 = .ok (.iconst 0, 1) := by decide +kernel
theorem dL_addMoth_19 : decode cL_addMoth 19 = .ok (.ireturn, 1) := by decide +kernel
set_option maxRecDepth 20000 in
theorem ggL_moveMoth_X11_moveMoth : GoodIn wsL_moveMoth wsX11_moveMoth := goodIn_ca (goodIn_ca (goodIn_r _ [6, 7, 8, 9, 10, 11, 12, 13, 5, 14, 15, 16, 17, 18, 19, 20, 21, 22, 23, 24, 25, 26, 27, 28, 29, 30, 31, 32, 33, 34, 35, 36, 37, 38, 39, 40, 41, 42, 43, 44, 45, 46, 47, 48, 49, 50, 51, 52, 53, 54, 55, 56, 57, 58, 59, 60, 61, 62, 63, 64, 65, 66, 67, 68, 69, 70, 71, 72, 73, 74, 75, 76, 77, 78, 79, 80, 81, 82, 83, 84, 85, 86, 87, 88, 89, 90, 91, 92, 93, 94, 95, 96, 97, 98, 99, 100, 101, 102, 103, 104, 105, 106, 107, 108, 109, 110, 111, 112, 113, 114, 115, 116, 117, 118, 119, 120, 121, 122, 123, 124, 125, 126, 127, 128, 129, 130, 131, 132] (by decide +kernel) (by decide +kernel)) (goodIn_sub (fun _ h => List.mem_cons_of_mem _ (List.mem_append_left _ (List.mem_append_right _ h))) (by decide +kernel))) (goodIn_sub (fun _ h => List.mem_cons_of_mem _ (List.mem_append_right _ h)) (by decide +kernel))
set_option maxRecDepth 20000 in
theorem gL_moveMoth_X11_moveMoth : GoodIn wsL_moveMoth (wsV RL 85 RX11 yX11_moveMoth wsX11_moveMoth) := goodIn_app (goodIn_of _ (by decide +kernel)) ggL_moveMoth_X11_moveMoth
theorem dL_moveMoth_0 : decode cL_moveMoth 0 = .ok (.aload_n 3, 1) := by decide +kernel
theorem dL_moveMoth_1 : decode cL_moveMoth 1 = .ok (.iconst 0, 1) := by decide +kernel
theorem dL_moveMoth_2 : decode cL_moveMoth 2 = .ok (.aload_n 0, 1) := by decide +kernel
theorem dL_moveMoth_3 : decode cL_moveMoth 3 = .ok (.iload_n 1, 1) := by decide +kernel
theorem dL_moveMoth_4 : decode cL_moveMoth 4 = .ok (.iload_n 2, 1) := by decide +kernel
theorem dL_moveMoth_5 : decode cL_moveMoth 5 = .ok (.invokevirtual 85, 3) := by decide +kernel
theorem dL_moveMoth_8 : decode cL_moveMoth 8 = .ok (.i2l, 1) := by decide +kernel
theorem dL_moveMoth_9 : decode cL_moveMoth 9 = .ok (.lastore, 1) := by decide +kernel
theorem dL_moveMoth_10 : decode cL_moveMoth 10 = .ok (.goto 7, 3) := by decide +kernel
theorem dL_moveMoth_13 : decode cL_moveMoth 13 = .ok (.astore 4, 2) := by decide +kernel
theorem dL_moveMoth_15 : decode cL_moveMoth 15 = .ok (.iconst 1, 1) := by decide +kernel
theorem dL_moveMoth_16 : decode cL_moveMoth 16 = .ok (.ireturn, 1) := by decide +kernel
theorem dL_moveMoth_17 : decode cL_moveMoth 17 = .ok (.iconst 0, 1) := by decide +kernel
theorem dL_moveMoth_18 : decode cL_moveMoth 18 = .ok (.ireturn, 1) := by decide +kernel
set_option maxRecDepth 20000 in
theorem ggL_lampOfMoth_X11_lampOfMoth : GoodIn wsL_lampOfMoth wsX11_lampOfMoth := goodIn_ca (goodIn_ca (goodIn_r _ [6, 7, 8, 9, 10, 11, 12, 5, 13, 14, 15, 16, 17, 18, 19, 20, 21, 22, 23, 24, 25, 26, 27, 28, 29, 30, 31, 32, 33, 34, 35, 36, 37, 38, 39, 40, 41] (by decide +kernel) (by decide +kernel)) (goodIn_sub (fun _ h => List.mem_cons_of_mem _ (List.mem_append_left _ (List.mem_append_right _ h))) (by decide +kernel))) (goodIn_sub (fun _ h => List.mem_cons_of_mem _ (List.mem_append_right _ h)) (by decide +kernel))
set_option maxRecDepth 20000 in
theorem gL_lampOfMoth_X11_lampOfMoth : GoodIn wsL_lampOfMoth (wsV RL 88 RX11 yX11_lampOfMoth wsX11_lampOfMoth) := goodIn_app (goodIn_of _ (by decide +kernel)) ggL_lampOfMoth_X11_lampOfMoth
theorem dL_lampOfMoth_0 : decode cL_lampOfMoth 0 = .ok (.aload_n 2, 1) := by decide +kernel
theorem dL_lampOfMoth_1 : decode cL_lampOfMoth 1 = .ok (.iconst 0, 1) := by decide +kernel
theorem dL_lampOfMoth_2 : decode cL_lampOfMoth 2 = .ok (.aload_n 0, 1) := by decide +kernel
theorem dL_lampOfMoth_3 : decode cL_lampOfMoth 3 = .ok (.iload_n 1, 1) := by decide +kernel
theorem dL_lampOfMoth_4 : decode cL_lampOfMoth 4 = .ok (.invokevirtual 88, 3) := by decide +kernel
theorem dL_lampOfMoth_7 : decode cL_lampOfMoth 7 = .ok (.i2l, 1) := by decide +kernel
theorem dL_lampOfMoth_8 : decode cL_lampOfMoth 8 = .ok (.lastore, 1) := by decide +kernel
theorem dL_lampOfMoth_9 : decode cL_lampOfMoth 9 = .ok (.goto 6, 3) := by decide +kernel
theorem dL_lampOfMoth_12 : decode cL_lampOfMoth 12 = .ok (.astore_n 3, 1) := by decide +kernel
theorem dL_lampOfMoth_13 : decode cL_lampOfMoth 13 = .ok (.iconst 1, 1) := by decide +kernel
theorem dL_lampOfMoth_14 : decode cL_lampOfMoth 14 = .ok (.ireturn, 1) := by decide +kernel
theorem dL_lampOfMoth_15 : decode cL_lampOfMoth 15 = .ok (.iconst 0, 1) := by decide +kernel
theorem dL_lampOfMoth_16 : decode cL_lampOfMoth 16 = .ok (.ireturn, 1) := by decide +kernel
set_option maxRecDepth 20000 in
theorem ggL_strikesOf_X11_strikesOf : GoodIn wsL_strikesOf wsX11_strikesOf := goodIn_ca (goodIn_ca (goodIn_r _ [6, 7, 8, 9, 10, 11, 12, 5, 13, 14, 15, 16, 17, 18, 19, 20, 21, 22, 23, 24, 25, 26, 27, 28, 29, 30, 31, 32, 33, 34, 35, 36, 37, 38, 39, 40, 41] (by decide +kernel) (by decide +kernel)) (goodIn_sub (fun _ h => List.mem_cons_of_mem _ (List.mem_append_left _ (List.mem_append_right _ h))) (by decide +kernel))) (goodIn_sub (fun _ h => List.mem_cons_of_mem _ (List.mem_append_right _ h)) (by decide +kernel))
set_option maxRecDepth 20000 in
theorem gL_strikesOf_X11_strikesOf : GoodIn wsL_strikesOf (wsV RL 91 RX11 yX11_strikesOf wsX11_strikesOf) := goodIn_app (goodIn_of _ (by decide +kernel)) ggL_strikesOf_X11_strikesOf
theorem dL_strikesOf_0 : decode cL_strikesOf 0 = .ok (.aload_n 2, 1) := by decide +kernel
theorem dL_strikesOf_1 : decode cL_strikesOf 1 = .ok (.iconst 0, 1) := by decide +kernel
theorem dL_strikesOf_2 : decode cL_strikesOf 2 = .ok (.aload_n 0, 1) := by decide +kernel
theorem dL_strikesOf_3 : decode cL_strikesOf 3 = .ok (.iload_n 1, 1) := by decide +kernel
theorem dL_strikesOf_4 : decode cL_strikesOf 4 = .ok (.invokevirtual 91, 3) := by decide +kernel
theorem dL_strikesOf_7 : decode cL_strikesOf 7 = .ok (.i2l, 1) := by decide +kernel
theorem dL_strikesOf_8 : decode cL_strikesOf 8 = .ok (.lastore, 1) := by decide +kernel
theorem dL_strikesOf_9 : decode cL_strikesOf 9 = .ok (.goto 6, 3) := by decide +kernel
theorem dL_strikesOf_12 : decode cL_strikesOf 12 = .ok (.astore_n 3, 1) := by decide +kernel
theorem dL_strikesOf_13 : decode cL_strikesOf 13 = .ok (.iconst 1, 1) := by decide +kernel
theorem dL_strikesOf_14 : decode cL_strikesOf 14 = .ok (.ireturn, 1) := by decide +kernel
theorem dL_strikesOf_15 : decode cL_strikesOf 15 = .ok (.iconst 0, 1) := by decide +kernel
theorem dL_strikesOf_16 : decode cL_strikesOf 16 = .ok (.ireturn, 1) := by decide +kernel
set_option maxRecDepth 20000 in
theorem ggL_probationOf_X11_probationOf : GoodIn wsL_probationOf wsX11_probationOf := goodIn_ca (goodIn_ca (goodIn_r _ [6, 7, 8, 9, 10, 11, 12, 5, 13, 14, 15, 16, 17, 18, 19, 20, 21, 22, 23, 24, 25, 26, 27, 28, 29, 30, 31, 32, 33, 34, 35, 36, 37, 38, 39, 40, 41] (by decide +kernel) (by decide +kernel)) (goodIn_sub (fun _ h => List.mem_cons_of_mem _ (List.mem_append_left _ (List.mem_append_right _ h))) (by decide +kernel))) (goodIn_sub (fun _ h => List.mem_cons_of_mem _ (List.mem_append_right _ h)) (by decide +kernel))
set_option maxRecDepth 20000 in
theorem gL_probationOf_X11_probationOf : GoodIn wsL_probationOf (wsV RL 94 RX11 yX11_probationOf wsX11_probationOf) := goodIn_app (goodIn_of _ (by decide +kernel)) ggL_probationOf_X11_probationOf
theorem dL_probationOf_0 : decode cL_probationOf 0 = .ok (.aload_n 2, 1) := by decide +kernel
theorem dL_probationOf_1 : decode cL_probationOf 1 = .ok (.iconst 0, 1) := by decide +kernel
theorem dL_probationOf_2 : decode cL_probationOf 2 = .ok (.aload_n 0, 1) := by decide +kernel
theorem dL_probationOf_3 : decode cL_probationOf 3 = .ok (.iload_n 1, 1) := by decide +kernel
theorem dL_probationOf_4 : decode cL_probationOf 4 = .ok (.invokevirtual 94, 3) := by decide +kernel
theorem dL_probationOf_7 : decode cL_probationOf 7 = .ok (.i2l, 1) := by decide +kernel
theorem dL_probationOf_8 : decode cL_probationOf 8 = .ok (.lastore, 1) := by decide +kernel
theorem dL_probationOf_9 : decode cL_probationOf 9 = .ok (.goto 6, 3) := by decide +kernel
theorem dL_probationOf_12 : decode cL_probationOf 12 = .ok (.astore_n 3, 1) := by decide +kernel
theorem dL_probationOf_13 : decode cL_probationOf 13 = .ok (.iconst 1, 1) := by decide +kernel
theorem dL_probationOf_14 : decode cL_probationOf 14 = .ok (.ireturn, 1) := by decide +kernel
theorem dL_probationOf_15 : decode cL_probationOf 15 = .ok (.iconst 0, 1) := by decide +kernel
theorem dL_probationOf_16 : decode cL_probationOf 16 = .ok (.ireturn, 1) := by decide +kernel
set_option maxRecDepth 20000 in
theorem ggL_isMember_X11_isMember : GoodIn wsL_isMember wsX11_isMember := goodIn_ca (goodIn_ca (goodIn_r _ [6, 7, 8, 9, 10, 11, 5, 12, 13, 14, 15, 16, 17, 18, 19, 20, 21, 22, 23, 24, 25, 26, 27, 28, 29, 30, 31, 32, 33, 34, 35, 36, 37, 38, 39, 40, 41, 42, 43, 44, 45] (by decide +kernel) (by decide +kernel)) (goodIn_sub (fun _ h => List.mem_cons_of_mem _ (List.mem_append_right _ h)) (by decide +kernel))) (goodIn_sub (fun _ h => List.mem_cons_of_mem _ (List.mem_append_left _ (List.mem_append_right _ h))) (by decide +kernel))
set_option maxRecDepth 20000 in
theorem gL_isMember_X11_isMember : GoodIn wsL_isMember (wsV RL 97 RX11 yX11_isMember wsX11_isMember) := goodIn_app (goodIn_of _ (by decide +kernel)) ggL_isMember_X11_isMember
theorem dL_isMember_0 : decode cL_isMember 0 = .ok (.aload_n 2, 1) := by decide +kernel
theorem dL_isMember_1 : decode cL_isMember 1 = .ok (.iconst 0, 1) := by decide +kernel
theorem dL_isMember_2 : decode cL_isMember 2 = .ok (.aload_n 0, 1) := by decide +kernel
theorem dL_isMember_3 : decode cL_isMember 3 = .ok (.iload_n 1, 1) := by decide +kernel
theorem dL_isMember_4 : decode cL_isMember 4 = .ok (.invokevirtual 97, 3) := by decide +kernel
theorem dL_isMember_7 : decode cL_isMember 7 = .ok (.ifCond .eq 7, 3) := by decide +kernel
theorem dL_isMember_10 : decode cL_isMember 10 = .ok (.lconst 1, 1) := by decide +kernel
theorem dL_isMember_11 : decode cL_isMember 11 = .ok (.goto 4, 3) := by decide +kernel
theorem dL_isMember_14 : decode cL_isMember 14 = .ok (.lconst 0, 1) := by decide +kernel
theorem dL_isMember_15 : decode cL_isMember 15 = .ok (.lastore, 1) := by decide +kernel
theorem dL_isMember_16 : decode cL_isMember 16 = .ok (.goto 6, 3) := by decide +kernel
theorem dL_isMember_19 : decode cL_isMember 19 = .ok (.astore_n 3, 1) := by decide +kernel
theorem dL_isMember_20 : decode cL_isMember 20 = .ok (.iconst 1, 1) := by decide +kernel
theorem dL_isMember_21 : decode cL_isMember 21 = .ok (.ireturn, 1) := by decide +kernel
theorem dL_isMember_22 : decode cL_isMember 22 = .ok (.iconst 0, 1) := by decide +kernel
theorem dL_isMember_23 : decode cL_isMember 23 = .ok (.ireturn, 1) := by decide +kernel
set_option maxRecDepth 20000 in
theorem ggL_canBurn_X11_canBurn : GoodIn wsL_canBurn wsX11_canBurn := goodIn_ca (goodIn_ca (goodIn_r _ [6, 7, 8, 9, 10, 11, 5, 12, 13, 14, 15, 16, 17, 18, 19, 20, 21, 22, 23, 24, 25, 26, 27, 28, 29, 30, 31, 32, 33, 34, 35, 36, 37, 38, 39, 40, 41, 42, 43, 44, 45, 46, 47, 48, 49, 50, 51, 52] (by decide +kernel) (by decide +kernel)) (goodIn_sub (fun _ h => List.mem_cons_of_mem _ (List.mem_append_right _ h)) (by decide +kernel))) (goodIn_sub (fun _ h => List.mem_cons_of_mem _ (List.mem_append_left _ (List.mem_append_right _ h))) (by decide +kernel))
set_option maxRecDepth 20000 in
theorem gL_canBurn_X11_canBurn : GoodIn wsL_canBurn (wsV RL 100 RX11 yX11_canBurn wsX11_canBurn) := goodIn_app (goodIn_of _ (by decide +kernel)) ggL_canBurn_X11_canBurn
theorem dL_canBurn_0 : decode cL_canBurn 0 = .ok (.aload_n 2, 1) := by decide +kernel
theorem dL_canBurn_1 : decode cL_canBurn 1 = .ok (.iconst 0, 1) := by decide +kernel
theorem dL_canBurn_2 : decode cL_canBurn 2 = .ok (.aload_n 0, 1) := by decide +kernel
theorem dL_canBurn_3 : decode cL_canBurn 3 = .ok (.iload_n 1, 1) := by decide +kernel
theorem dL_canBurn_4 : decode cL_canBurn 4 = .ok (.invokevirtual 100, 3) := by decide +kernel
theorem dL_canBurn_7 : decode cL_canBurn 7 = .ok (.ifCond .eq 7, 3) := by decide +kernel
theorem dL_canBurn_10 : decode cL_canBurn 10 = .ok (.lconst 1, 1) := by decide +kernel
theorem dL_canBurn_11 : decode cL_canBurn 11 = .ok (.goto 4, 3) := by decide +kernel
theorem dL_canBurn_14 : decode cL_canBurn 14 = .ok (.lconst 0, 1) := by decide +kernel
theorem dL_canBurn_15 : decode cL_canBurn 15 = .ok (.lastore, 1) := by decide +kernel
theorem dL_canBurn_16 : decode cL_canBurn 16 = .ok (.goto 6, 3) := by decide +kernel
theorem dL_canBurn_19 : decode cL_canBurn 19 = .ok (.astore_n 3, 1) := by decide +kernel
theorem dL_canBurn_20 : decode cL_canBurn 20 = .ok (.iconst 1, 1) := by decide +kernel
theorem dL_canBurn_21 : decode cL_canBurn 21 = .ok (.ireturn, 1) := by decide +kernel
theorem dL_canBurn_22 : decode cL_canBurn 22 = .ok (.iconst 0, 1) := by decide +kernel
theorem dL_canBurn_23 : decode cL_canBurn 23 = .ok (.ireturn, 1) := by decide +kernel
set_option maxRecDepth 20000 in
theorem ggL_nightsOf_X11_nightsOf : GoodIn wsL_nightsOf wsX11_nightsOf := goodIn_ca (goodIn_ca (goodIn_ca (goodIn_r _ [6, 7, 8, 9, 10, 11, 5, 12, 13, 14, 15, 16, 17, 18, 19, 20, 21, 22, 23, 24, 25, 26, 27, 28, 29, 30, 31, 32, 33, 34, 35, 36, 37, 38, 39, 40, 41, 42, 43, 44, 45, 46, 47, 48, 49, 50, 51, 52, 53, 54, 55] (by decide +kernel) (by decide +kernel)) (goodIn_sub (fun _ h => List.mem_cons_of_mem _ (List.mem_append_left _ (List.mem_append_right _ h))) (by decide +kernel))) (goodIn_sub (fun _ h => List.mem_cons_of_mem _ (List.mem_append_left _ (List.mem_append_left _ (List.mem_append_right _ h)))) (by decide +kernel))) (goodIn_sub (fun _ h => List.mem_cons_of_mem _ (List.mem_append_right _ h)) (by decide +kernel))
set_option maxRecDepth 20000 in
theorem gL_nightsOf_X11_nightsOf : GoodIn wsL_nightsOf (wsV RL 103 RX11 yX11_nightsOf wsX11_nightsOf) := goodIn_app (goodIn_of _ (by decide +kernel)) ggL_nightsOf_X11_nightsOf
theorem dL_nightsOf_0 : decode cL_nightsOf 0 = .ok (.aload_n 2, 1) := by decide +kernel
theorem dL_nightsOf_1 : decode cL_nightsOf 1 = .ok (.iconst 0, 1) := by decide +kernel
theorem dL_nightsOf_2 : decode cL_nightsOf 2 = .ok (.aload_n 0, 1) := by decide +kernel
theorem dL_nightsOf_3 : decode cL_nightsOf 3 = .ok (.iload_n 1, 1) := by decide +kernel
theorem dL_nightsOf_4 : decode cL_nightsOf 4 = .ok (.invokevirtual 103, 3) := by decide +kernel
theorem dL_nightsOf_7 : decode cL_nightsOf 7 = .ok (.i2l, 1) := by decide +kernel
theorem dL_nightsOf_8 : decode cL_nightsOf 8 = .ok (.lastore, 1) := by decide +kernel
theorem dL_nightsOf_9 : decode cL_nightsOf 9 = .ok (.goto 6, 3) := by decide +kernel
theorem dL_nightsOf_12 : decode cL_nightsOf 12 = .ok (.astore_n 3, 1) := by decide +kernel
theorem dL_nightsOf_13 : decode cL_nightsOf 13 = .ok (.iconst 1, 1) := by decide +kernel
theorem dL_nightsOf_14 : decode cL_nightsOf 14 = .ok (.ireturn, 1) := by decide +kernel
theorem dL_nightsOf_15 : decode cL_nightsOf 15 = .ok (.iconst 0, 1) := by decide +kernel
theorem dL_nightsOf_16 : decode cL_nightsOf 16 = .ok (.ireturn, 1) := by decide +kernel
set_option maxRecDepth 20000 in
theorem ggL_nightsBySimulation_X11_nightsBySimulation : GoodIn wsL_nightsBySimulation wsX11_nightsBySimulation := goodIn_ca (goodIn_ca (goodIn_r _ [6, 7, 8, 9, 10, 11, 5, 12, 13, 14, 15, 16, 17, 18, 19, 20, 21, 22, 23, 24, 25, 26, 27, 28, 29, 30, 31, 32, 33, 34, 35, 36, 37, 38, 39, 40, 41, 42, 43, 44, 45, 46, 47, 48, 49, 50, 51] (by decide +kernel) (by decide +kernel)) (goodIn_sub (fun _ h => List.mem_cons_of_mem _ (List.mem_append_right _ h)) (by decide +kernel))) (goodIn_sub (fun _ h => List.mem_cons_of_mem _ (List.mem_append_left _ (List.mem_append_right _ h))) (by decide +kernel))
set_option maxRecDepth 20000 in
theorem gL_nightsBySimulation_X11_nightsBySimulation : GoodIn wsL_nightsBySimulation (wsV RL 106 RX11 yX11_nightsBySimulation wsX11_nightsBySimulation) := goodIn_app (goodIn_of _ (by decide +kernel)) ggL_nightsBySimulation_X11_nightsBySimulation
theorem dL_nightsBySimulation_0 : decode cL_nightsBySimulation 0 = .ok (.aload_n 2, 1) := by decide +kernel
theorem dL_nightsBySimulation_1 : decode cL_nightsBySimulation 1 = .ok (.iconst 0, 1) := by decide +kernel
theorem dL_nightsBySimulation_2 : decode cL_nightsBySimulation 2 = .ok (.aload_n 0, 1) := by decide +kernel
theorem dL_nightsBySimulation_3 : decode cL_nightsBySimulation 3 = .ok (.iload_n 1, 1) := by decide +kernel
theorem dL_nightsBySimulation_4 : decode cL_nightsBySimulation 4 = .ok (.invokevirtual 106, 3) := by decide +kernel
theorem dL_nightsBySimulation_7 : decode cL_nightsBySimulation 7 = .ok (.i2l, 1) := by decide +kernel
theorem dL_nightsBySimulation_8 : decode cL_nightsBySimulation 8 = .ok (.lastore, 1) := by decide +kernel
theorem dL_nightsBySimulation_9 : decode cL_nightsBySimulation 9 = .ok (.goto 6, 3) := by decide +kernel
theorem dL_nightsBySimulation_12 : decode cL_nightsBySimulation 12 = .ok (.astore_n 3, 1) := by decide +kernel
theorem dL_nightsBySimulation_13 : decode cL_nightsBySimulation 13 = .ok (.iconst 1, 1) := by decide +kernel
theorem dL_nightsBySimulation_14 : decode cL_nightsBySimulation 14 = .ok (.ireturn, 1) := by decide +kernel
theorem dL_nightsBySimulation_15 : decode cL_nightsBySimulation 15 = .ok (.iconst 0, 1) := by decide +kernel
theorem dL_nightsBySimulation_16 : decode cL_nightsBySimulation 16 = .ok (.ireturn, 1) := by decide +kernel
set_option maxRecDepth 20000 in
theorem ggL_glowOf_X11_glowOf : GoodIn wsL_glowOf wsX11_glowOf := goodIn_ca (goodIn_ca (goodIn_r _ [6, 7, 8, 9, 10, 5, 11, 12, 13, 14, 15, 16, 17, 18, 19, 20, 21, 22, 23, 24, 25, 26, 27, 28, 29, 30, 31, 32, 33, 34, 35, 36, 37, 38, 39, 40, 41, 42, 43, 44, 45, 46, 47, 48, 49, 50, 51, 52, 53, 54, 55] (by decide +kernel) (by decide +kernel)) (goodIn_sub (fun _ h => List.mem_cons_of_mem _ (List.mem_append_right _ h)) (by decide +kernel))) (goodIn_sub (fun _ h => List.mem_cons_of_mem _ (List.mem_append_left _ (List.mem_append_right _ h))) (by decide +kernel))
set_option maxRecDepth 20000 in
theorem gL_glowOf_X11_glowOf : GoodIn wsL_glowOf (wsV RL 109 RX11 yX11_glowOf wsX11_glowOf) := goodIn_app (goodIn_of _ (by decide +kernel)) ggL_glowOf_X11_glowOf
theorem dL_glowOf_0 : decode cL_glowOf 0 = .ok (.aload_n 2, 1) := by decide +kernel
theorem dL_glowOf_1 : decode cL_glowOf 1 = .ok (.iconst 0, 1) := by decide +kernel
theorem dL_glowOf_2 : decode cL_glowOf 2 = .ok (.aload_n 0, 1) := by decide +kernel
theorem dL_glowOf_3 : decode cL_glowOf 3 = .ok (.iload_n 1, 1) := by decide +kernel
theorem dL_glowOf_4 : decode cL_glowOf 4 = .ok (.invokevirtual 109, 3) := by decide +kernel
theorem dL_glowOf_7 : decode cL_glowOf 7 = .ok (.i2l, 1) := by decide +kernel
theorem dL_glowOf_8 : decode cL_glowOf 8 = .ok (.lastore, 1) := by decide +kernel
theorem dL_glowOf_9 : decode cL_glowOf 9 = .ok (.goto 6, 3) := by decide +kernel
theorem dL_glowOf_12 : decode cL_glowOf 12 = .ok (.astore_n 3, 1) := by decide +kernel
theorem dL_glowOf_13 : decode cL_glowOf 13 = .ok (.iconst 1, 1) := by decide +kernel
theorem dL_glowOf_14 : decode cL_glowOf 14 = .ok (.ireturn, 1) := by decide +kernel
theorem dL_glowOf_15 : decode cL_glowOf 15 = .ok (.iconst 0, 1) := by decide +kernel
theorem dL_glowOf_16 : decode cL_glowOf 16 = .ok (.ireturn, 1) := by decide +kernel
set_option maxRecDepth 20000 in
theorem ggL_isDark_X11_isDark : GoodIn wsL_isDark wsX11_isDark := goodIn_ca (goodIn_ca (goodIn_r _ [6, 7, 8, 9, 10, 5, 11, 12, 13, 14, 15, 16, 17, 18, 19, 20, 21, 22, 23, 24, 25, 26, 27, 28, 29, 30, 31, 32, 33, 34, 35, 36, 37, 38, 39, 40, 41, 42, 43, 44, 45, 46, 47, 48, 49, 50, 51, 52, 53, 54, 55] (by decide +kernel) (by decide +kernel)) (goodIn_sub (fun _ h => List.mem_cons_of_mem _ (List.mem_append_right _ h)) (by decide +kernel))) (goodIn_sub (fun _ h => List.mem_cons_of_mem _ (List.mem_append_left _ (List.mem_append_right _ h))) (by decide +kernel))
set_option maxRecDepth 20000 in
theorem gL_isDark_X11_isDark : GoodIn wsL_isDark (wsV RL 112 RX11 yX11_isDark wsX11_isDark) := goodIn_app (goodIn_of _ (by decide +kernel)) ggL_isDark_X11_isDark
theorem dL_isDark_0 : decode cL_isDark 0 = .ok (.aload_n 2, 1) := by decide +kernel
theorem dL_isDark_1 : decode cL_isDark 1 = .ok (.iconst 0, 1) := by decide +kernel
theorem dL_isDark_2 : decode cL_isDark 2 = .ok (.aload_n 0, 1) := by decide +kernel
theorem dL_isDark_3 : decode cL_isDark 3 = .ok (.iload_n 1, 1) := by decide +kernel
theorem dL_isDark_4 : decode cL_isDark 4 = .ok (.invokevirtual 112, 3) := by decide +kernel
theorem dL_isDark_7 : decode cL_isDark 7 = .ok (.ifCond .eq 7, 3) := by decide +kernel
theorem dL_isDark_10 : decode cL_isDark 10 = .ok (.lconst 1, 1) := by decide +kernel
theorem dL_isDark_11 : decode cL_isDark 11 = .ok (.goto 4, 3) := by decide +kernel
theorem dL_isDark_14 : decode cL_isDark 14 = .ok (.lconst 0, 1) := by decide +kernel
theorem dL_isDark_15 : decode cL_isDark 15 = .ok (.lastore, 1) := by decide +kernel
theorem dL_isDark_16 : decode cL_isDark 16 = .ok (.goto 6, 3) := by decide +kernel
theorem dL_isDark_19 : decode cL_isDark 19 = .ok (.astore_n 3, 1) := by decide +kernel
theorem dL_isDark_20 : decode cL_isDark 20 = .ok (.iconst 1, 1) := by decide +kernel
theorem dL_isDark_21 : decode cL_isDark 21 = .ok (.ireturn, 1) := by decide +kernel
theorem dL_isDark_22 : decode cL_isDark 22 = .ok (.iconst 0, 1) := by decide +kernel
theorem dL_isDark_23 : decode cL_isDark 23 = .ok (.ireturn, 1) := by decide +kernel
set_option maxRecDepth 20000 in
theorem ggL_proposeCap_X11_proposeCap : GoodIn wsL_proposeCap wsX11_proposeCap := goodIn_ca (goodIn_ca (goodIn_ca (goodIn_ca (goodIn_r _ [6, 7, 8, 9, 10, 11, 12, 13, 14, 15, 16, 17, 18, 19, 20, 5, 21, 22, 23, 24, 25, 26, 27, 28, 29, 30, 31, 32, 33, 34, 35, 36, 37, 38, 39, 40, 41, 42, 43, 44, 45, 46, 47, 48, 49, 50, 51, 52, 53, 54, 55, 56, 57, 58, 59, 60, 61, 62, 63, 64, 65, 66, 67, 68, 69, 70, 71, 72, 73, 74, 75, 76, 77, 78, 79, 80, 81, 82, 83, 84, 85, 86, 87, 88, 89, 90, 91, 92, 93, 94, 95, 96, 97, 98, 99, 100, 101, 102, 103, 104, 105, 106, 107, 108, 109, 110, 111, 112, 113, 114, 115, 116, 117, 118, 119, 120, 121, 122, 123, 124, 125, 126, 127, 128, 129, 130, 131, 132, 133, 134, 135, 136, 137, 138, 139, 140, 141, 142, 143, 144, 145, 146, 147, 148, 149, 150, 151, 152, 153, 154, 155] (by decide +kernel) (by decide +kernel)) (goodIn_sub (fun _ h => List.mem_cons_of_mem _ (List.mem_append_left _ (List.mem_append_left _ (List.mem_append_right _ h)))) (by decide +kernel))) (goodIn_sub (fun _ h => List.mem_cons_of_mem _ (List.mem_append_left _ (List.mem_append_right _ h))) (by decide +kernel))) (goodIn_sub (fun _ h => List.mem_cons_of_mem _ (List.mem_append_right _ h)) (by decide +kernel))) (goodIn_sub (fun _ h => List.mem_cons_of_mem _ (List.mem_append_left _ (List.mem_append_left _ (List.mem_append_left _ (List.mem_append_right _ h))))) (by decide +kernel))
set_option maxRecDepth 20000 in
theorem gL_proposeCap_X11_proposeCap : GoodIn wsL_proposeCap (wsV RL 115 RX11 yX11_proposeCap wsX11_proposeCap) := goodIn_app (goodIn_of _ (by decide +kernel)) ggL_proposeCap_X11_proposeCap
theorem dL_proposeCap_0 : decode cL_proposeCap 0 = .ok (.aload_n 2, 1) := by decide +kernel
theorem dL_proposeCap_1 : decode cL_proposeCap 1 = .ok (.iconst 0, 1) := by decide +kernel
theorem dL_proposeCap_2 : decode cL_proposeCap 2 = .ok (.aload_n 0, 1) := by decide +kernel
theorem dL_proposeCap_3 : decode cL_proposeCap 3 = .ok (.iload_n 1, 1) := by decide +kernel
theorem dL_proposeCap_4 : decode cL_proposeCap 4 = .ok (.invokevirtual 115, 3) := by decide +kernel
theorem dL_proposeCap_7 : decode cL_proposeCap 7 = .ok (.ifCond .eq 7, 3) := by decide +kernel
theorem dL_proposeCap_10 : decode cL_proposeCap 10 = .ok (.lconst 1, 1) := by decide +kernel
theorem dL_proposeCap_11 : decode cL_proposeCap 11 = .ok (.goto 4, 3) := by decide +kernel
theorem dL_proposeCap_14 : decode cL_proposeCap 14 = .ok (.lconst 0, 1) := by decide +kernel
theorem dL_proposeCap_15 : decode cL_proposeCap 15 = .ok (.lastore, 1) := by decide +kernel
theorem dL_proposeCap_16 : decode cL_proposeCap 16 = .ok (.goto 9, 3) := by decide +kernel
theorem dL_proposeCap_19 : decode cL_proposeCap 19 = .ok (.astore_n 3, 1) := by decide +kernel
theorem dL_proposeCap_20 : decode cL_proposeCap 20 = .ok (.iconst 1, 1) := by decide +kernel
theorem dL_proposeCap_21 : decode cL_proposeCap 21 = .ok (.ireturn, 1) := by decide +kernel
theorem dL_proposeCap_22 : decode cL_proposeCap 22 = .ok (.astore_n 3, 1) := by decide +kernel
theorem dL_proposeCap_23 : decode cL_proposeCap 23 = .ok (.iconst 2, 1) := by decide +kernel
theorem dL_proposeCap_24 : decode cL_proposeCap 24 = .ok (.ireturn, 1) := by decide +kernel
theorem dL_proposeCap_25 : decode cL_proposeCap 25 = .ok (.iconst 0, 1) := by decide +kernel
theorem dL_proposeCap_26 : decode cL_proposeCap 26 = .ok (.ireturn, 1) := by decide +kernel
set_option maxRecDepth 20000 in
theorem ggL_votesFor_X11_votesFor : GoodIn wsL_votesFor wsX11_votesFor := goodIn_ca (goodIn_ca (goodIn_r _ [6, 7, 8, 9, 10, 11, 12, 5, 13, 14, 15, 16, 17, 18, 19, 20, 21, 22, 23, 24, 25, 26, 27, 28, 29, 30, 31, 32, 33, 34, 35, 36, 37, 38, 39, 40, 41, 42, 43, 44, 45] (by decide +kernel) (by decide +kernel)) (goodIn_sub (fun _ h => List.mem_cons_of_mem _ (List.mem_append_right _ h)) (by decide +kernel))) (goodIn_sub (fun _ h => List.mem_cons_of_mem _ (List.mem_append_left _ (List.mem_append_right _ h))) (by decide +kernel))
