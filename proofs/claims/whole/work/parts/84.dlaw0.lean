set_option maxRecDepth 20000 in
theorem ggL_addLamp_X11_addLamp : GoodIn wsL_addLamp wsX11_addLamp := goodIn_ca (goodIn_ca (goodIn_ca (goodIn_ca (goodIn_r _ [6, 7, 8, 9, 10, 11, 12, 13, 14, 15, 16, 17, 18, 19, 20, 5, 21, 22, 23, 24, 25, 26, 27, 28, 29, 30, 31, 32, 33, 34, 35, 36, 37, 38, 39, 40, 41, 42, 43, 44, 45, 46, 47, 48, 49, 50, 51, 52, 53, 54, 55, 56, 57, 58, 59, 60, 61, 62, 63, 64, 65, 66, 67, 68, 69, 70, 71, 72, 73, 74, 75, 76, 77, 78, 79, 80, 81, 82, 83, 84, 85, 86, 87, 88, 89, 90, 91, 92, 93, 94, 95, 96, 97, 98, 99, 100, 101, 102, 103, 104, 105, 106, 107, 108, 109, 110, 111, 112, 113, 114, 115, 116, 117, 118, 119, 120, 121, 122, 123, 124, 125, 126, 127, 128, 129, 130, 131, 132, 133, 134, 135, 136, 137, 138] (by decide +kernel) (by decide +kernel)) (goodIn_sub (fun _ h => List.mem_cons_of_mem _ (List.mem_append_left _ (List.mem_append_left _ (List.mem_append_right _ h)))) (by decide +kernel))) (goodIn_sub (fun _ h => List.mem_cons_of_mem _ (List.mem_append_left _ (List.mem_append_right _ h))) (by decide +kernel))) (goodIn_sub (fun _ h => List.mem_cons_of_mem _ (List.mem_append_right _ h)) (by decide +kernel))) (goodIn_sub (fun _ h => List.mem_cons_of_mem _ (List.mem_append_left _ (List.mem_append_left _ (List.mem_append_left _ (List.mem_append_right _ h))))) (by decide +kernel))
set_option maxRecDepth 20000 in
theorem gL_addLamp_X11_addLamp : GoodIn wsL_addLamp (wsV RL 7 RX11 yX11_addLamp wsX11_addLamp) := goodIn_app (goodIn_of _ (by decide +kernel)) ggL_addLamp_X11_addLamp
theorem dL_addLamp_0 : decode cL_addLamp 0 = .ok (.aload_n 3, 1) := by decide +kernel
theorem dL_addLamp_1 : decode cL_addLamp 1 = .ok (.iconst 0, 1) := by decide +kernel
theorem dL_addLamp_2 : decode cL_addLamp 2 = .ok (.aload_n 0, 1) := by decide +kernel
theorem dL_addLamp_3 : decode cL_addLamp 3 = .ok (.iload_n 1, 1) := by decide +kernel
theorem dL_addLamp_4 : decode cL_addLamp 4 = .ok (.iload_n 2, 1) := by decide +kernel
theorem dL_addLamp_5 : decode cL_addLamp 5 = .ok (.invokevirtual 7, 3) := by decide +kernel
theorem dL_addLamp_8 : decode cL_addLamp 8 = .ok (.i2l, 1) := by decide +kernel
theorem dL_addLamp_9 : decode cL_addLamp 9 = .ok (.lastore, 1) := by decide +kernel
theorem dL_addLamp_10 : decode cL_addLamp 10 = .ok (.goto 11, 3) := by decide +kernel
theorem dL_addLamp_13 : decode cL_addLamp 13 = .ok (.astore 4, 2) := by decide +kernel
theorem dL_addLamp_15 : decode cL_addLamp 15 = .ok (.iconst 1, 1) := by decide +kernel
theorem dL_addLamp_16 : decode cL_addLamp 16 = .ok (.ireturn, 1) := by decide +kernel
theorem dL_addLamp_17 : decode cL_addLamp 17 = .ok (.astore 4, 2) := by decide +kernel
theorem dL_addLamp_19 : decode cL_addLamp 19 = .ok (.iconst 2, 1) := by decide +kernel
theorem dL_addLamp_20 : decode cL_addLamp 20 = .ok (.ireturn, 1) := by decide +kernel
theorem dL_addLamp_21 : decode cL_addLamp 21 = .ok (.iconst 0, 1) := by decide +kernel
theorem dL_addLamp_22 : decode cL_addLamp 22 = .ok (.ireturn, 1) := by decide +kernel
set_option maxRecDepth 20000 in
theorem ggL_removeLamp_X11_removeLamp : GoodIn wsL_removeLamp wsX11_removeLamp := goodIn_ca (goodIn_ca (goodIn_ca (goodIn_ca (goodIn_r _ [6, 7, 8, 9, 10, 11, 12, 13, 14, 15, 16, 17, 18, 19, 20, 21, 22, 23, 24, 25, 26, 27, 28, 5, 29, 30, 31, 32, 33, 34, 35, 36, 37, 38, 39, 40, 41, 42, 43, 44, 45, 46, 47, 48, 49, 50, 51, 52, 53, 54, 55, 56, 57, 58, 59, 60, 61, 62, 63, 64, 65, 66, 67, 68, 69, 70, 71, 72, 73, 74, 75, 76, 77, 78, 79, 80, 81, 82, 83, 84, 85, 86, 87, 88, 89, 90, 91, 92, 93, 94, 95, 96, 97, 98, 99, 100, 101, 102, 103, 104, 105, 106, 107, 108, 109, 110, 111, 112, 113, 114, 115, 116, 117, 118, 119, 120, 121, 122, 123, 124, 125, 126, 127, 128, 129, 130, 131, 132, 133, 134, 135, 136, 137, 138, 139, 140, 141, 142, 143, 144, 145, 146, 147, 148, 149, 150, 151, 152, 153] (by decide +kernel) (by decide +kernel)) (goodIn_sub (fun _ h => List.mem_cons_of_mem _ (List.mem_append_left _ (List.mem_append_left _ (List.mem_append_left _ (List.mem_append_right _ h))))) (by decide +kernel))) (goodIn_sub (fun _ h => List.mem_cons_of_mem _ (List.mem_append_left _ (List.mem_append_left _ (List.mem_append_right _ h)))) (by decide +kernel))) (goodIn_sub (fun _ h => List.mem_cons_of_mem _ (List.mem_append_left _ (List.mem_append_right _ h))) (by decide +kernel))) (goodIn_sub (fun _ h => List.mem_cons_of_mem _ (List.mem_append_right _ h)) (by decide +kernel))
set_option maxRecDepth 20000 in
theorem gL_removeLamp_X11_removeLamp : GoodIn wsL_removeLamp (wsV RL 17 RX11 yX11_removeLamp wsX11_removeLamp) := goodIn_app (goodIn_of _ (by decide +kernel)) ggL_removeLamp_X11_removeLamp
theorem dL_removeLamp_0 : decode cL_removeLamp 0 = .ok (.aload_n 2, 1) := by decide +kernel
theorem dL_removeLamp_1 : decode cL_removeLamp 1 = .ok (.iconst 0, 1) := by decide +kernel
theorem dL_removeLamp_2 : decode cL_removeLamp 2 = .ok (.aload_n 0, 1) := by decide +kernel
theorem dL_removeLamp_3 : decode cL_removeLamp 3 = .ok (.iload_n 1, 1) := by decide +kernel
theorem dL_removeLamp_4 : decode cL_removeLamp 4 = .ok (.invokevirtual 17, 3) := by decide +kernel
theorem dL_removeLamp_7 : decode cL_removeLamp 7 = .ok (.i2l, 1) := by decide +kernel
theorem dL_removeLamp_8 : decode cL_removeLamp 8 = .ok (.lastore, 1) := by decide +kernel
theorem dL_removeLamp_9 : decode cL_removeLamp 9 = .ok (.goto 9, 3) := by decide +kernel
theorem dL_removeLamp_12 : decode cL_removeLamp 12 = .ok (.astore_n 3, 1) := by decide +kernel
theorem dL_removeLamp_13 : decode cL_removeLamp 13 = .ok (.iconst 1, 1) := by decide +kernel
theorem dL_removeLamp_14 : decode cL_removeLamp 14 = .ok (.ireturn, 1) := by decide +kernel
theorem dL_removeLamp_15 : decode cL_removeLamp 15 = .ok (.astore_n 3, 1) := by decide +kernel
theorem dL_removeLamp_16 : decode cL_removeLamp 16 = .ok (.iconst 2, 1) := by decide +kernel
theorem dL_removeLamp_17 : decode cL_removeLamp 17 = .ok (.ireturn, 1) := by decide +kernel
theorem dL_removeLamp_18 : decode cL_removeLamp 18 = .ok (.iconst 0, 1) := by decide +kernel
theorem dL_removeLamp_19 : decode cL_removeLamp 19 = .ok (.ireturn, 1) := by decide +kernel
set_option maxRecDepth 20000 in
theorem ggL_setShares_X11_setShares : GoodIn wsL_setShares wsX11_setShares := goodIn_ca (goodIn_ca (goodIn_ca (goodIn_ca (goodIn_r _ [6, 7, 8, 9, 10, 11, 12, 13, 14, 15, 16, 17, 18, 19, 20, 21, 22, 23, 24, 25, 26, 5, 27, 28, 29, 30, 31, 32, 33, 34, 35, 36, 37, 38, 39, 40, 41, 42, 43, 44, 45, 46, 47, 48, 49, 50, 51, 52, 53, 54, 55, 56, 57, 58, 59, 60, 61, 62, 63, 64, 65, 66, 67, 68, 69, 70, 71, 72, 73, 74, 75, 76, 77, 78, 79, 80, 81, 82, 83, 84, 85, 86, 87, 88, 89, 90, 91, 92, 93, 94, 95, 96, 97, 98, 99, 100, 101, 102, 103, 104, 105, 106, 107, 108, 109, 110, 111, 112, 113, 114, 115, 116, 117, 118, 119, 120, 121, 122, 123, 124, 125, 126, 127, 128, 129, 130, 131, 132, 133, 134, 135, 136, 137, 138] (by decide +kernel) (by decide +kernel)) (goodIn_sub (fun _ h => List.mem_cons_of_mem _ (List.mem_append_left _ (List.mem_append_left _ (List.mem_append_left _ (List.mem_append_right _ h))))) (by decide +kernel))) (goodIn_sub (fun _ h => List.mem_cons_of_mem _ (List.mem_append_left _ (List.mem_append_left _ (List.mem_append_right _ h)))) (by decide +kernel))) (goodIn_sub (fun _ h => List.mem_cons_of_mem _ (List.mem_append_left _ (List.mem_append_right _ h))) (by decide +kernel))) (goodIn_sub (fun _ h => List.mem_cons_of_mem _ (List.mem_append_right _ h)) (by decide +kernel))
set_option maxRecDepth 20000 in
theorem gL_setShares_X11_setShares : GoodIn wsL_setShares (wsV RL 23 RX11 yX11_setShares wsX11_setShares) := goodIn_app (goodIn_of _ (by decide +kernel)) ggL_setShares_X11_setShares
theorem dL_setShares_0 : decode cL_setShares 0 = .ok (.aload_n 3, 1) := by decide +kernel
theorem dL_setShares_1 : decode cL_setShares 1 = .ok (.iconst 0, 1) := by decide +kernel
theorem dL_setShares_2 : decode cL_setShares 2 = .ok (.aload_n 0, 1) := by decide +kernel
theorem dL_setShares_3 : decode cL_setShares 3 = .ok (.iload_n 1, 1) := by decide +kernel
theorem dL_setShares_4 : decode cL_setShares 4 = .ok (.iload_n 2, 1) := by decide +kernel
theorem dL_setShares_5 : decode cL_setShares 5 = .ok (.invokevirtual 23, 3) := by decide +kernel
theorem dL_setShares_8 : decode cL_setShares 8 = .ok (.i2l, 1) := by decide +kernel
theorem dL_setShares_9 : decode cL_setShares 9 = .ok (.lastore, 1) := by decide +kernel
theorem dL_setShares_10 : decode cL_setShares 10 = .ok (.goto 11, 3) := by decide +kernel
theorem dL_setShares_13 : decode cL_setShares 13 = .ok (.astore 4, 2) := by decide +kernel
theorem dL_setShares_15 : decode cL_setShares 15 = .ok (.iconst 1, 1) := by decide +kernel
theorem dL_setShares_16 : decode cL_setShares 16 = .ok (.ireturn, 1) := by decide +kernel
theorem dL_setShares_17 : decode cL_setShares 17 = .ok (.astore 4, 2) := by decide +kernel
theorem dL_setShares_19 : decode cL_setShares 19 = .ok (.iconst 2, 1) := by decide +kernel
theorem dL_setShares_20 : decode cL_setShares 20 = .ok (.ireturn, 1) := by decide +kernel
theorem dL_setShares_21 : decode cL_setShares 21 = .ok (.iconst 0, 1) := by decide +kernel
theorem dL_setShares_22 : decode cL_setShares 22 = .ok (.ireturn, 1) := by decide +kernel
set_option maxRecDepth 20000 in
theorem ggL_setBrightness_X11_setBrightness : GoodIn wsL_setBrightness wsX11_setBrightness := goodIn_ca (goodIn_ca (goodIn_ca (goodIn_ca (goodIn_r _ [6, 7, 8, 9, 10, 11, 12, 13, 14, 15, 16, 17, 18, 19, 20, 21, 22, 23, 24, 25, 26, 5, 27, 28, 29, 30, 31, 32, 33, 34, 35, 36, 37, 38, 39, 40, 41, 42, 43, 44, 45, 46, 47, 48, 49, 50, 51, 52, 53, 54, 55, 56, 57, 58, 59, 60, 61, 62, 63, 64, 65, 66, 67, 68, 69, 70, 71, 72, 73, 74, 75, 76, 77, 78, 79, 80, 81, 82, 83, 84, 85, 86, 87, 88, 89, 90, 91, 92, 93, 94, 95, 96, 97, 98, 99, 100, 101, 102, 103, 104, 105, 106, 107, 108, 109, 110, 111, 112, 113, 114, 115, 116, 117, 118, 119, 120, 121, 122, 123, 124, 125, 126, 127, 128, 129, 130, 131, 132, 133, 134, 135, 136, 137, 138] (by decide +kernel) (by decide +kernel)) (goodIn_sub (fun _ h => List.mem_cons_of_mem _ (List.mem_append_left _ (List.mem_append_left _ (List.mem_append_left _ (List.mem_append_right _ h))))) (by decide +kernel))) (goodIn_sub (fun _ h => List.mem_cons_of_mem _ (List.mem_append_left _ (List.mem_append_left _ (List.mem_append_right _ h)))) (by decide +kernel))) (goodIn_sub (fun _ h => List.mem_cons_of_mem _ (List.mem_append_left _ (List.mem_append_right _ h))) (by decide +kernel))) (goodIn_sub (fun _ h => List.mem_cons_of_mem _ (List.mem_append_right _ h)) (by decide +kernel))
set_option maxRecDepth 20000 in
theorem gL_setBrightness_X11_setBrightness : GoodIn wsL_setBrightness (wsV RL 26 RX11 yX11_setBrightness wsX11_setBrightness) := goodIn_app (goodIn_of _ (by decide +kernel)) ggL_setBrightness_X11_setBrightness
theorem dL_setBrightness_0 : decode cL_setBrightness 0 = .ok (.aload_n 3, 1) := by decide +kernel
theorem dL_setBrightness_1 : decode cL_setBrightness 1 = .ok (.iconst 0, 1) := by decide +kernel
theorem dL_setBrightness_2 : decode cL_setBrightness 2 = .ok (.aload_n 0, 1) := by decide +kernel
theorem dL_setBrightness_3 : decode cL_setBrightness 3 = .ok (.iload_n 1, 1) := by decide +kernel
theorem dL_setBrightness_4 : decode cL_setBrightness 4 = .ok (.iload_n 2, 1) := by decide +kernel
theorem dL_setBrightness_5 : decode cL_setBrightness 5 = .ok (.invokevirtual 26, 3) := by decide +kernel
theorem dL_setBrightness_8 : decode cL_setBrightness 8 = .ok (.i2l, 1) := by decide +kernel
theorem dL_setBrightness_9 : decode cL_setBrightness 9 = .ok (.lastore, 1) := by decide +kernel
theorem dL_setBrightness_10 : decode cL_setBrightness 10 = .ok (.goto 11, 3) := by decide +kernel
theorem dL_setBrightness_13 : decode cL_setBrightness 13 = .ok (.astore 4, 2) := by decide +kernel
theorem dL_setBrightness_15 : decode cL_setBrightness 15 = .ok (.iconst 1, 1) := by decide +kernel
theorem dL_setBrightness_16 : decode cL_setBrightness 16 = .ok (.ireturn, 1) := by decide +kernel
theorem dL_setBrightness_17 : decode cL_setBrightness 17 = .ok (.astore 4, 2) := by decide +kernel
theorem dL_setBrightness_19 : decode cL_setBrightness 19 = .ok (.iconst 2, 1) := by decide +kernel
theorem dL_setBrightness_20 : decode cL_setBrightness 20 = .ok (.ireturn, 1) := by decide +kernel
theorem dL_setBrightness_21 : decode cL_setBrightness 21 = .ok (.iconst 0, 1) := by decide +kernel
theorem dL_setBrightness_22 : decode cL_setBrightness 22 = .ok (.ireturn, 1) := by decide +kernel
set_option maxRecDepth 20000 in
theorem ggL_switchOn_X11_switchOn : GoodIn wsL_switchOn wsX11_switchOn := goodIn_ca (goodIn_ca (goodIn_r _ [6, 7, 8, 9, 10, 11, 12, 13, 5, 14, 15, 16, 17, 18, 19, 20, 21, 22, 23, 24, 25, 26, 27, 28, 29, 30, 31, 32, 33, 34, 35, 36, 37, 38, 39, 40, 41, 42, 43, 44, 45, 46, 47, 48, 49, 50, 51, 52, 53, 54, 55, 56, 57, 58, 59, 60, 61, 62, 63, 64, 65, 66, 67, 68, 69, 70, 71, 72, 73, 74, 75, 76, 77, 78, 79, 80, 81, 82, 83, 84, 85, 86, 87, 88, 89, 90, 91, 92, 93, 94, 95, 96, 97, 98, 99, 100, 101, 102, 103, 104, 105, 106, 107, 108, 109, 110, 111, 112, 113, 114, 115, 116, 117, 118, 119, 120, 121, 122, 123] (by decide +kernel) (by decide +kernel)) (goodIn_sub (fun _ h => List.mem_cons_of_mem _ (List.mem_append_left _ (List.mem_append_right _ h))) (by decide +kernel))) (goodIn_sub (fun _ h => List.mem_cons_of_mem _ (List.mem_append_right _ h)) (by decide +kernel))
set_option maxRecDepth 20000 in
theorem gL_switchOn_X11_switchOn : GoodIn wsL_switchOn (wsV RL 29 RX11 yX11_switchOn wsX11_switchOn) := goodIn_app (goodIn_of _ (by decide +kernel)) ggL_switchOn_X11_switchOn
theorem dL_switchOn_0 : decode cL_switchOn 0 = .ok (.aload_n 2, 1) := by decide +kernel
theorem dL_switchOn_1 : decode cL_switchOn 1 = .ok (.iconst 0, 1) := by decide +kernel
theorem dL_switchOn_2 : decode cL_switchOn 2 = .ok (.aload_n 0, 1) := by decide +kernel
theorem dL_switchOn_3 : decode cL_switchOn 3 = .ok (.iload_n 1, 1) := by decide +kernel
theorem dL_switchOn_4 : decode cL_switchOn 4 = .ok (.invokevirtual 29, 3) := by decide +kernel
theorem dL_switchOn_7 : decode cL_switchOn 7 = .ok (.ifCond .eq 7, 3) := by decide +kernel
theorem dL_switchOn_10 : decode cL_switchOn 10 = .ok (.lconst 1, 1) := by decide +kernel
theorem dL_switchOn_11 : decode cL_switchOn 11 = .ok (.goto 4, 3) := by decide +kernel
theorem dL_switchOn_14 : decode cL_switchOn 14 = .ok (.lconst 0, 1) := by decide +kernel
theorem dL_switchOn_15 : decode cL_switchOn 15 = .ok (.lastore, 1) := by decide +kernel
theorem dL_switchOn_16 : decode cL_switchOn 16 = .ok (.goto 6, 3) := by decide +kernel
theorem dL_switchOn_19 : decode cL_switchOn 19 = .ok (.astore_n 3, 1) := by decide +kernel
theorem dL_switchOn_20 : decode cL_switchOn 20 = .ok (.iconst 1, 1) := by decide +kernel
theorem dL_switchOn_21 : decode cL_switchOn 21 = .ok (.ireturn, 1) := by decide +kernel
theorem dL_switchOn_22 : decode cL_switchOn 22 = .ok (.iconst 0, 1) := by decide +kernel
theorem dL_switchOn_23 : decode cL_switchOn 23 = .ok (.ireturn, 1) := by decide +kernel
set_option maxRecDepth 20000 in
theorem ggL_switchOff_X11_switchOff : GoodIn wsL_switchOff wsX11_switchOff := goodIn_ca (goodIn_ca (goodIn_r _ [6, 7, 8, 9, 10, 11, 12, 13, 5, 14, 15, 16, 17, 18, 19, 20, 21, 22, 23, 24, 25, 26, 27, 28, 29, 30, 31, 32, 33, 34, 35, 36, 37, 38, 39, 40, 41, 42, 43, 44, 45, 46, 47, 48, 49, 50, 51, 52, 53, 54, 55, 56, 57, 58, 59, 60, 61, 62, 63, 64, 65, 66, 67, 68, 69, 70, 71, 72, 73, 74, 75, 76, 77, 78, 79, 80, 81, 82, 83, 84, 85, 86, 87, 88, 89, 90, 91, 92, 93, 94, 95, 96, 97, 98, 99, 100, 101, 102, 103, 104, 105, 106, 107, 108, 109, 110, 111, 112, 113, 114, 115, 116, 117, 118, 119, 120, 121, 122, 123] (by decide +kernel) (by decide +kernel)) (goodIn_sub (fun _ h => List.mem_cons_of_mem _ (List.mem_append_left _ (List.mem_append_right _ h))) (by decide +kernel))) (goodIn_sub (fun _ h => List.mem_cons_of_mem _ (List.mem_append_right _ h)) (by decide +kernel))
set_option maxRecDepth 20000 in
theorem gL_switchOff_X11_switchOff : GoodIn wsL_switchOff (wsV RL 33 RX11 yX11_switchOff wsX11_switchOff) := goodIn_app (goodIn_of _ (by decide +kernel)) ggL_switchOff_X11_switchOff
theorem dL_switchOff_0 : decode cL_switchOff 0 = .ok (.aload_n 2, 1) := by decide +kernel
theorem dL_switchOff_1 : decode cL_switchOff 1 = .ok (.iconst 0, 1) := by decide +kernel
theorem dL_switchOff_2 : decode cL_switchOff 2 = .ok (.aload_n 0, 1) := by decide +kernel
theorem dL_switchOff_3 : decode cL_switchOff 3 = .ok (.iload_n 1, 1) := by decide +kernel
theorem dL_switchOff_4 : decode cL_switchOff 4 = .ok (.invokevirtual 33, 3) := by decide +kernel
theorem dL_switchOff_7 : decode cL_switchOff 7 = .ok (.ifCond .eq 7, 3) := by decide +kernel
theorem dL_switchOff_10 : decode cL_switchOff 10 = .ok (.lconst 1, 1) := by decide +kernel
theorem dL_switchOff_11 : decode cL_switchOff 11 = .ok (.goto 4, 3) := by decide +kernel
theorem dL_switchOff_14 : decode cL_switchOff 14 = .ok (.lconst 0, 1) := by decide +kernel
theorem dL_switchOff_15 : decode cL_switchOff 15 = .ok (.lastore, 1) := by decide +kernel
theorem dL_switchOff_16 : decode cL_switchOff 16 = .ok (.goto 6, 3) := by decide +kernel
theorem dL_switchOff_19 : decode cL_switchOff 19 = .ok (.astore_n 3, 1) := by decide +kernel
theorem dL_switchOff_20 : decode cL_switchOff 20 = .ok (.iconst 1, 1) := by decide +kernel
theorem dL_switchOff_21 : decode cL_switchOff 21 = .ok (.ireturn, 1) := by decide +kernel
theorem dL_switchOff_22 : decode cL_switchOff 22 = .ok (.iconst 0, 1) := by decide +kernel
theorem dL_switchOff_23 : decode cL_switchOff 23 = .ok (.ireturn, 1) := by decide +kernel
set_option maxRecDepth 20000 in
theorem ggL_streetOf_X11_streetOf : GoodIn wsL_streetOf wsX11_streetOf := goodIn_ca (goodIn_ca (goodIn_r _ [6, 7, 8, 9, 10, 11, 12, 5, 13, 14, 15, 16, 17, 18, 19, 20, 21, 22, 23, 24, 25, 26, 27, 28, 29, 30, 31, 32, 33, 34, 35, 36, 37, 38, 39, 40, 41, 42, 43, 44, 45] (by decide +kernel) (by decide +kernel)) (goodIn_sub (fun _ h => List.mem_cons_of_mem _ (List.mem_append_left _ (List.mem_append_right _ h))) (by decide +kernel))) (goodIn_sub (fun _ h => List.mem_cons_of_mem _ (List.mem_append_right _ h)) (by decide +kernel))
set_option maxRecDepth 20000 in
theorem gL_streetOf_X11_streetOf : GoodIn wsL_streetOf (wsV RL 36 RX11 yX11_streetOf wsX11_streetOf) := goodIn_app (goodIn_of _ (by decide +kernel)) ggL_streetOf_X11_streetOf
theorem dL_streetOf_0 : decode cL_streetOf 0 = .ok (.aload_n 2, 1) := by decide +kernel
theorem dL_streetOf_1 : decode cL_streetOf 1 = .ok (.iconst 0, 1) := by decide +kernel
theorem dL_streetOf_2 : decode cL_streetOf 2 = .ok (.aload_n 0, 1) := by decide +kernel
theorem dL_streetOf_3 : decode cL_streetOf 3 = .ok (.iload_n 1, 1) := by decide +kernel
theorem dL_streetOf_4 : decode cL_streetOf 4 = .ok (.invokevirtual 36, 3) := by decide +kernel
theorem dL_streetOf_7 : decode cL_streetOf 7 = .ok (.i2l, 1) := by decide +kernel
theorem dL_streetOf_8 : decode cL_streetOf 8 = .ok (.lastore, 1) := by decide +kernel
theorem dL_streetOf_9 : decode cL_streetOf 9 = .ok (.goto 6, 3) := by decide +kernel
theorem dL_streetOf_12 : decode cL_streetOf 12 = .ok (.astore_n 3, 1) := by decide +kernel
theorem dL_streetOf_13 : decode cL_streetOf 13 = .ok (.iconst 1, 1) := by decide +kernel
theorem dL_streetOf_14 : decode cL_streetOf 14 = .ok (.ireturn, 1) := by decide +kernel
theorem dL_streetOf_15 : decode cL_streetOf 15 = .ok (.iconst 0, 1) := by decide +kernel
theorem dL_streetOf_16 : decode cL_streetOf 16 = .ok (.ireturn, 1) := by decide +kernel
set_option maxRecDepth 20000 in
theorem ggL_sharesOf_X11_sharesOf : GoodIn wsL_sharesOf wsX11_sharesOf := goodIn_ca (goodIn_ca (goodIn_r _ [6, 7, 8, 9, 10, 11, 12, 5, 13, 14, 15, 16, 17, 18, 19, 20, 21, 22, 23, 24, 25, 26, 27, 28, 29, 30, 31, 32, 33, 34, 35, 36, 37, 38, 39, 40, 41, 42, 43, 44, 45] (by decide +kernel) (by decide +kernel)) (goodIn_sub (fun _ h => List.mem_cons_of_mem _ (List.mem_append_left _ (List.mem_append_right _ h))) (by decide +kernel))) (goodIn_sub (fun _ h => List.mem_cons_of_mem _ (List.mem_append_right _ h)) (by decide +kernel))
set_option maxRecDepth 20000 in
theorem gL_sharesOf_X11_sharesOf : GoodIn wsL_sharesOf (wsV RL 39 RX11 yX11_sharesOf wsX11_sharesOf) := goodIn_app (goodIn_of _ (by decide +kernel)) ggL_sharesOf_X11_sharesOf
theorem dL_sharesOf_0 : decode cL_sharesOf 0 = .ok (.aload_n 2, 1) := by decide +kernel
theorem dL_sharesOf_1 : decode cL_sharesOf 1 = .ok (.iconst 0, 1) := by decide +kernel
theorem dL_sharesOf_2 : decode cL_sharesOf 2 = .ok (.aload_n 0, 1) := by decide +kernel
theorem dL_sharesOf_3 : decode cL_sharesOf 3 = .ok (.iload_n 1, 1) := by decide +kernel
theorem dL_sharesOf_4 : decode cL_sharesOf 4 = .ok (.invokevirtual 39, 3) := by decide +kernel
theorem dL_sharesOf_7 : decode cL_sharesOf 7 = .ok (.i2l, 1) := by decide +kernel
theorem dL_sharesOf_8 : decode cL_sharesOf 8 = .ok (.lastore, 1) := by decide +kernel
theorem dL_sharesOf_9 : decode cL_sharesOf 9 = .ok (.goto 6, 3) := by decide +kernel
theorem dL_sharesOf_12 : decode cL_sharesOf 12 = .ok (.astore_n 3, 1) := by decide +kernel
theorem dL_sharesOf_13 : decode cL_sharesOf 13 = .ok (.iconst 1, 1) := by decide +kernel
theorem dL_sharesOf_14 : decode cL_sharesOf 14 = .ok (.ireturn, 1) := by decide +kernel
theorem dL_sharesOf_15 : decode cL_sharesOf 15 = .ok (.iconst 0, 1) := by decide +kernel
theorem dL_sharesOf_16 : decode cL_sharesOf 16 = .ok (.ireturn, 1) := by decide +kernel
set_option maxRecDepth 20000 in
theorem ggL_brightnessOf_X11_brightnessOf : GoodIn wsL_brightnessOf wsX11_brightnessOf := goodIn_ca (goodIn_ca (goodIn_r _ [6, 7, 8, 9, 10, 11, 12, 5, 13, 14, 15, 16, 17, 18, 19, 20, 21, 22, 23, 24, 25, 26, 27, 28, 29, 30, 31, 32, 33, 34, 35, 36, 37, 38, 39, 40, 41, 42, 43, 44, 45] (by decide +kernel) (by decide +kernel)) (goodIn_sub (fun _ h => List.mem_cons_of_mem _ (List.mem_append_left _ (List.mem_append_right _ h))) (by decide +kernel))) (goodIn_sub (fun _ h => List.mem_cons_of_mem _ (List.mem_append_right _ h)) (by decide +kernel))
set_option maxRecDepth 20000 in
theorem gL_brightnessOf_X11_brightnessOf : GoodIn wsL_brightnessOf (wsV RL 42 RX11 yX11_brightnessOf wsX11_brightnessOf) := goodIn_app (goodIn_of _ (by decide +kernel)) ggL_brightnessOf_X11_brightnessOf
theorem dL_brightnessOf_0 : decode cL_brightnessOf 0 = .ok (.aload_n 2, 1) := by decide +kernel
theorem dL_brightnessOf_1 : decode cL_brightnessOf 1 = .ok (.iconst 0, 1) := by decide +kernel
theorem dL_brightnessOf_2 : decode cL_brightnessOf 2 = .ok (.aload_n 0, 1) := by decide +kernel
theorem dL_brightnessOf_3 : decode cL_brightnessOf 3 = .ok (.iload_n 1, 1) := by decide +kernel
theorem dL_brightnessOf_4 : decode cL_brightnessOf 4 = .ok (.invokevirtual 42, 3) := by decide +kernel
theorem dL_brightnessOf_7 : decode cL_brightnessOf 7 = .ok (.i2l, 1) := by decide +kernel
theorem dL_brightnessOf_8 : decode cL_brightnessOf 8 = .ok (.lastore, 1) := by decide +kernel
theorem dL_brightnessOf_9 : decode cL_brightnessOf 9 = .ok (.goto 6, 3) := by decide +kernel
theorem dL_brightnessOf_12 : decode cL_brightnessOf 12 = .ok (.astore_n 3, 1) := by decide +kernel
theorem dL_brightnessOf_13 : decode cL_brightnessOf 13 = .ok (.iconst 1, 1) := by decide +kernel
theorem dL_brightnessOf_14 : decode cL_brightnessOf 14 = .ok (.ireturn, 1) := by decide +kernel
theorem dL_brightnessOf_15 : decode cL_brightnessOf 15 = .ok (.iconst 0, 1) := by decide +kernel
theorem dL_brightnessOf_16 : decode cL_brightnessOf 16 = .ok (.ireturn, 1) := by decide +kernel
set_option maxRecDepth 20000 in
theorem ggL_isOn_X11_isOn : GoodIn wsL_isOn wsX11_isOn := goodIn_ca (goodIn_ca (goodIn_r _ [6, 7, 8, 9, 10, 11, 12, 5, 13, 14, 15, 16, 17, 18, 19, 20, 21, 22, 23, 24, 25, 26, 27, 28, 29, 30, 31, 32, 33, 34, 35, 36, 37, 38, 39, 40, 41, 42, 43, 44, 45] (by decide +kernel) (by decide +kernel)) (goodIn_sub (fun _ h => List.mem_cons_of_mem _ (List.mem_append_left _ (List.mem_append_right _ h))) (by decide +kernel))) (goodIn_sub (fun _ h => List.mem_cons_of_mem _ (List.mem_append_right _ h)) (by decide +kernel))
set_option maxRecDepth 20000 in
theorem gL_isOn_X11_isOn : GoodIn wsL_isOn (wsV RL 45 RX11 yX11_isOn wsX11_isOn) := goodIn_app (goodIn_of _ (by decide +kernel)) ggL_isOn_X11_isOn
theorem dL_isOn_0 : decode cL_isOn 0 = .ok (.aload_n 2, 1) := by decide +kernel
theorem dL_isOn_1 : decode cL_isOn 1 = .ok (.iconst 0, 1) := by decide +kernel
theorem dL_isOn_2 : decode cL_isOn 2 = .ok (.aload_n 0, 1) := by decide +kernel
theorem dL_isOn_3 : decode cL_isOn 3 = .ok (.iload_n 1, 1) := by decide +kernel
theorem dL_isOn_4 : decode cL_isOn 4 = .ok (.invokevirtual 45, 3) := by decide +kernel
theorem dL_isOn_7 : decode cL_isOn 7 = .ok (.ifCond .eq 7, 3) := by decide +kernel
theorem dL_isOn_10 : decode cL_isOn 10 = .ok (.lconst 1, 1) := by decide +kernel
theorem dL_isOn_11 : decode cL_isOn 11 = .ok (.goto 4, 3) := by decide +kernel
theorem dL_isOn_14 : decode cL_isOn 14 = .ok (.lconst 0, 1) := by decide +kernel
theorem dL_isOn_15 : decode cL_isOn 15 = .ok (.lastore, 1) := by decide +kernel
theorem dL_isOn_16 : decode cL_isOn 16 = .ok (.goto 6, 3) := by decide +kernel
theorem dL_isOn_19 : decode cL_isOn 19 = .ok (.astore_n 3, 1) := by decide +kernel
theorem dL_isOn_20 : decode cL_isOn 20 = .ok (.iconst 1, 1) := by decide +kernel
theorem dL_isOn_21 : decode cL_isOn 21 = .ok (.ireturn, 1) := by decide +kernel
theorem dL_isOn_22 : decode cL_isOn 22 = .ok (.iconst 0, 1) := by decide +kernel
theorem dL_isOn_23 : decode cL_isOn 23 = .ok (.ireturn, 1) := by decide +kernel
set_option maxRecDepth 20000 in
theorem ggL_oilOf_X11_oilOf : GoodIn wsL_oilOf wsX11_oilOf := goodIn_ca (goodIn_ca (goodIn_r _ [6, 7, 8, 9, 10, 11, 12, 5, 13, 14, 15, 16, 17, 18, 19, 20, 21, 22, 23, 24, 25, 26, 27, 28, 29, 30, 31, 32, 33, 34, 35, 36, 37, 38, 39, 40, 41, 42, 43, 44, 45] (by decide +kernel) (by decide +kernel)) (goodIn_sub (fun _ h => List.mem_cons_of_mem _ (List.mem_append_left _ (List.mem_append_right _ h))) (by decide +kernel))) (goodIn_sub (fun _ h => List.mem_cons_of_mem _ (List.mem_append_right _ h)) (by decide +kernel))
set_option maxRecDepth 20000 in
theorem gL_oilOf_X11_oilOf : GoodIn wsL_oilOf (wsV RL 48 RX11 yX11_oilOf wsX11_oilOf) := goodIn_app (goodIn_of _ (by decide +kernel)) ggL_oilOf_X11_oilOf
theorem dL_oilOf_0 : decode cL_oilOf 0 = .ok (.aload_n 2, 1) := by decide +kernel
theorem dL_oilOf_1 : decode cL_oilOf 1 = .ok (.iconst 0, 1) := by decide +kernel
theorem dL_oilOf_2 : decode cL_oilOf 2 = .ok (.aload_n 0, 1) := by decide +kernel
theorem dL_oilOf_3 : decode cL_oilOf 3 = .ok (.iload_n 1, 1) := by decide +kernel
theorem dL_oilOf_4 : decode cL_oilOf 4 = .ok (.invokevirtual 48, 3) := by decide +kernel
theorem dL_oilOf_7 : decode cL_oilOf 7 = .ok (.i2l, 1) := by decide +kernel
theorem dL_oilOf_8 : decode cL_oilOf 8 = .ok (.lastore, 1) := by decide +kernel
theorem dL_oilOf_9 : decode cL_oilOf 9 = .ok (.goto 6, 3) := by decide +kernel
theorem dL_oilOf_12 : decode cL_oilOf 12 = .ok (.astore_n 3, 1) := by decide +kernel
theorem dL_oilOf_13 : decode cL_oilOf 13 = .ok (.iconst 1, 1) := by decide +kernel
theorem dL_oilOf_14 : decode cL_oilOf 14 = .ok (.ireturn, 1) := by decide +kernel
theorem dL_oilOf_15 : decode cL_oilOf 15 = .ok (.iconst 0, 1) := by decide +kernel
theorem dL_oilOf_16 : decode cL_oilOf 16 = .ok (.ireturn, 1) := by decide +kernel
set_option maxRecDepth 20000 in
theorem ggL_wickOf_X11_wickOf : GoodIn wsL_wickOf wsX11_wickOf := goodIn_ca (goodIn_ca (goodIn_r _ [6, 7, 8, 9, 10, 11, 12, 5, 13, 14, 15, 16, 17, 18, 19, 20, 21, 22, 23, 24, 25, 26, 27, 28, 29, 30, 31, 32, 33, 34, 35, 36, 37, 38, 39, 40, 41, 42, 43, 44, 45] (by decide +kernel) (by decide +kernel)) (goodIn_sub (fun _ h => List.mem_cons_of_mem _ (List.mem_append_left _ (List.mem_append_right _ h))) (by decide +kernel))) (goodIn_sub (fun _ h => List.mem_cons_of_mem _ (List.mem_append_right _ h)) (by decide +kernel))
set_option maxRecDepth 20000 in
theorem gL_wickOf_X11_wickOf : GoodIn wsL_wickOf (wsV RL 51 RX11 yX11_wickOf wsX11_wickOf) := goodIn_app (goodIn_of _ (by decide +kernel)) ggL_wickOf_X11_wickOf
theorem dL_wickOf_0 : decode cL_wickOf 0 = .ok (.aload_n 2, 1) := by decide +kernel
theorem dL_wickOf_1 : decode cL_wickOf 1 = .ok (.iconst 0, 1) := by decide +kernel
theorem dL_wickOf_2 : decode cL_wickOf 2 = .ok (.aload_n 0, 1) := by decide +kernel
theorem dL_wickOf_3 : decode cL_wickOf 3 = .ok (.iload_n 1, 1) := by decide +kernel
theorem dL_wickOf_4 : decode cL_wickOf 4 = .ok (.invokevirtual 51, 3) := by decide +kernel
theorem dL_wickOf_7 : decode cL_wickOf 7 = .ok (.i2l, 1) := by decide +kernel
theorem dL_wickOf_8 : decode cL_wickOf 8 = .ok (.lastore, 1) := by decide +kernel
theorem dL_wickOf_9 : decode cL_wickOf 9 = .ok (.goto 6, 3) := by decide +kernel
theorem dL_wickOf_12 : decode cL_wickOf 12 = .ok (.astore_n 3, 1) := by decide +kernel
theorem dL_wickOf_13 : decode cL_wickOf 13 = .ok (.iconst 1, 1) := by decide +kernel
theorem dL_wickOf_14 : decode cL_wickOf 14 = .ok (.ireturn, 1) := by decide +kernel
theorem dL_wickOf_15 : decode cL_wickOf 15 = .ok (.iconst 0, 1) := by decide +kernel
theorem dL_wickOf_16 : decode cL_wickOf 16 = .ok (.ireturn, 1) := by decide +kernel
set_option maxRecDepth 20000 in
theorem ggL_balanceOf_X11_balanceOf : GoodIn wsL_balanceOf wsX11_balanceOf := goodIn_ca (goodIn_ca (goodIn_r _ [6, 7, 8, 9, 10, 11, 12, 5, 13, 14, 15, 16, 17, 18, 19, 20, 21, 22, 23, 24, 25, 26, 27, 28, 29, 30, 31, 32, 33, 34, 35, 36, 37, 38, 39, 40, 41, 42, 43, 44, 45] (by decide +kernel) (by decide +kernel)) (goodIn_sub (fun _ h => List.mem_cons_of_mem _ (List.mem_append_left _ (List.mem_append_right _ h))) (by decide +kernel))) (goodIn_sub (fun _ h => List.mem_cons_of_mem _ (List.mem_append_right _ h)) (by decide +kernel))
set_option maxRecDepth 20000 in
theorem gL_balanceOf_X11_balanceOf : GoodIn wsL_balanceOf (wsV RL 54 RX11 yX11_balanceOf wsX11_balanceOf) := goodIn_app (goodIn_of _ (by decide +kernel)) ggL_balanceOf_X11_balanceOf
theorem dL_balanceOf_0 : decode cL_balanceOf 0 = .ok (.aload_n 2, 1) := by decide +kernel
theorem dL_balanceOf_1 : decode cL_balanceOf 1 = .ok (.iconst 0, 1) := by decide +kernel
theorem dL_balanceOf_2 : decode cL_balanceOf 2 = .ok (.aload_n 0, 1) := by decide +kernel
theorem dL_balanceOf_3 : decode cL_balanceOf 3 = .ok (.iload_n 1, 1) := by decide +kernel
theorem dL_balanceOf_4 : decode cL_balanceOf 4 = .ok (.invokevirtual 54, 3) := by decide +kernel
theorem dL_balanceOf_7 : decode cL_balanceOf 7 = .ok (.i2l, 1) := by decide +kernel
theorem dL_balanceOf_8 : decode cL_balanceOf 8 = .ok (.lastore, 1) := by decide +kernel
theorem dL_balanceOf_9 : decode cL_balanceOf 9 = .ok (.goto 6, 3) := by decide +kernel
theorem dL_balanceOf_12 : decode cL_balanceOf 12 = .ok (.astore_n 3, 1) := by decide +kernel
theorem dL_balanceOf_13 : decode cL_balanceOf 13 = .ok (.iconst 1, 1) := by decide +kernel
theorem dL_balanceOf_14 : decode cL_balanceOf 14 = .ok (.ireturn, 1) := by decide +kernel
theorem dL_balanceOf_15 : decode cL_balanceOf 15 = .ok (.iconst 0, 1) := by decide +kernel
theorem dL_balanceOf_16 : decode cL_balanceOf 16 = .ok (.ireturn, 1) := by decide +kernel
set_option maxRecDepth 20000 in
theorem ggL_deliverOil_X11_deliverOil : GoodIn wsL_deliverOil wsX11_deliverOil := goodIn_ca (goodIn_ca (goodIn_ca (goodIn_ca (goodIn_ca (goodIn_r _ [6, 7, 8, 9, 10, 11, 12, 13, 14, 15, 16, 17, 18, 19, 20, 5, 21, 22, 23, 24, 25, 26, 27, 28, 29, 30, 31, 32, 33, 34, 35, 36, 37, 38, 39, 40, 41, 42, 43, 44, 45, 46, 47, 48, 49, 50, 51, 52, 53, 54, 55, 56, 57, 58, 59, 60, 61, 62, 63, 64, 65, 66, 67, 68, 69, 70, 71, 72, 73, 74, 75, 76, 77, 78, 79, 80, 81, 82, 83, 84, 85, 86, 87, 88, 89, 90, 91, 92, 93, 94, 95, 96, 97, 98, 99, 100, 101, 102, 103, 104, 105, 106, 107, 108, 109, 110, 111, 112, 113, 114, 115, 116, 117, 118, 119, 120, 121, 122, 123, 124, 125, 126, 127, 128, 129, 130, 131, 132, 133, 134, 135, 136, 137, 138, 139, 140, 141, 142, 143, 144, 145, 146, 147, 148, 149, 150, 151, 152, 153, 154, 155, 156, 157, 158, 159, 160, 161, 162, 163, 164, 165, 166, 167, 168] (by decide +kernel) (by decide +kernel)) (goodIn_sub (fun _ h => List.mem_cons_of_mem _ (List.mem_append_left _ (List.mem_append_left _ (List.mem_append_left _ (List.mem_append_right _ h))))) (by decide +kernel))) (goodIn_sub (fun _ h => List.mem_cons_of_mem _ (List.mem_append_left _ (List.mem_append_left _ (List.mem_append_right _ h)))) (by decide +kernel))) (goodIn_sub (fun _ h => List.mem_cons_of_mem _ (List.mem_append_left _ (List.mem_append_right _ h))) (by decide +kernel))) (goodIn_sub (fun _ h => List.mem_cons_of_mem _ (List.mem_append_left _ (List.mem_append_left _ (List.mem_append_left _ (List.mem_append_left _ (List.mem_append_right _ h)))))) (by decide +kernel))) (goodIn_sub (fun _ h => List.mem_cons_of_mem _ (List.mem_append_right _ h)) (by decide +kernel))
set_option maxRecDepth 20000 in
theorem gL_deliverOil_X11_deliverOil : GoodIn wsL_deliverOil (wsV RL 57 RX11 yX11_deliverOil wsX11_deliverOil) := goodIn_app (goodIn_of _ (by decide +kernel)) ggL_deliverOil_X11_deliverOil
theorem dL_deliverOil_0 : decode cL_deliverOil 0 = .ok (.aload_n 2, 1) := by decide +kernel
theorem dL_deliverOil_1 : decode cL_deliverOil 1 = .ok (.iconst 0, 1) := by decide +kernel
theorem dL_deliverOil_2 : decode cL_deliverOil 2 = .ok (.aload_n 0, 1) := by decide +kernel
theorem dL_deliverOil_3 : decode cL_deliverOil 3 = .ok (.iload_n 1, 1) := by decide +kernel
theorem dL_deliverOil_4 : decode cL_deliverOil 4 = .ok (.invokevirtual 57, 3) := by decide +kernel
theorem dL_deliverOil_7 : decode cL_deliverOil 7 = .ok (.i2l, 1) := by decide +kernel
theorem dL_deliverOil_8 : decode cL_deliverOil 8 = .ok (.lastore, 1) := by decide +kernel
theorem dL_deliverOil_9 : decode cL_deliverOil 9 = .ok (.goto 9, 3) := by decide +kernel
theorem dL_deliverOil_12 : decode cL_deliverOil 12 = .ok (.astore_n 3, 1) := by decide +kernel
theorem dL_deliverOil_13 : decode cL_deliverOil 13 = .ok (.iconst 1, 1) := by decide +kernel
theorem dL_deliverOil_14 : decode cL_deliverOil 14 = .ok (.ireturn, 1) := by decide +kernel
theorem dL_deliverOil_15 : decode cL_deliverOil 15 = .ok (.astore_n 3, 1) := by decide +kernel
theorem dL_deliverOil_16 : decode cL_deliverOil 16 = .ok (.iconst 2, 1) := by decide +kernel
theorem dL_deliverOil_17 : decode cL_deliverOil 17 = .ok (.ireturn, 1) := by decide +kernel
theorem dL_deliverOil_18 : decode cL_deliverOil 18 = .ok (.iconst 0, 1) := by decide +kernel
theorem dL_deliverOil_19 : decode cL_deliverOil 19 = .ok (.ireturn, 1) := by decide +kernel
set_option maxRecDepth 20000 in
theorem ggL_buyOil_X11_buyOil : GoodIn wsL_buyOil wsX11_buyOil := goodIn_ca (goodIn_ca (goodIn_ca (goodIn_ca (goodIn_r _ [6, 7, 8, 9, 10, 11, 12, 13, 14, 15, 16, 17, 18, 19, 20, 21, 22, 23, 24, 25, 26, 27, 28, 29, 30, 31, 32, 33, 5, 34, 35, 36, 37, 38, 39, 40, 41, 42, 43, 44, 45, 46, 47, 48, 49, 50, 51, 52, 53, 54, 55, 56, 57, 58, 59, 60, 61, 62, 63, 64, 65, 66, 67, 68, 69, 70, 71, 72, 73, 74, 75, 76, 77, 78, 79, 80, 81, 82, 83, 84, 85, 86, 87, 88, 89, 90, 91, 92, 93, 94, 95, 96, 97, 98, 99, 100, 101, 102, 103, 104, 105, 106, 107, 108, 109, 110, 111, 112, 113, 114, 115, 116, 117, 118, 119, 120, 121, 122, 123, 124, 125, 126, 127, 128, 129, 130, 131, 132, 133, 134, 135, 136, 137, 138, 139, 140, 141, 142, 143, 144, 145, 146, 147, 148, 149] (by decide +kernel) (by decide +kernel)) (goodIn_sub (fun _ h => List.mem_cons_of_mem _ (List.mem_append_left _ (List.mem_append_left _ (List.mem_append_left _ (List.mem_append_right _ h))))) (by decide +kernel))) (goodIn_sub (fun _ h => List.mem_cons_of_mem _ (List.mem_append_left _ (List.mem_append_left _ (List.mem_append_right _ h)))) (by decide +kernel))) (goodIn_sub (fun _ h => List.mem_cons_of_mem _ (List.mem_append_left _ (List.mem_append_right _ h))) (by decide +kernel))) (goodIn_sub (fun _ h => List.mem_cons_of_mem _ (List.mem_append_right _ h)) (by decide +kernel))
set_option maxRecDepth 20000 in
theorem gL_buyOil_X11_buyOil : GoodIn wsL_buyOil (wsV RL 60 RX11 yX11_buyOil wsX11_buyOil) := goodIn_app (goodIn_of _ (by decide +kernel)) ggL_buyOil_X11_buyOil
theorem dL_buyOil_0 : decode cL_buyOil 0 = .ok (.aload_n 3, 1) := by decide +kernel
theorem dL_buyOil_1 : decode cL_buyOil 1 = .ok (.iconst 0, 1) := by decide +kernel
theorem dL_buyOil_2 : decode cL_buyOil 2 = .ok (.aload_n 0, 1) := by decide +kernel
theorem dL_buyOil_3 : decode cL_buyOil 3 = .ok (.iload_n 1, 1) := by decide +kernel
theorem dL_buyOil_4 : decode cL_buyOil 4 = .ok (.iload_n 2, 1) := by decide +kernel
theorem dL_buyOil_5 : decode cL_buyOil 5 = .ok (.invokevirtual 60, 3) := by decide +kernel
theorem dL_buyOil_8 : decode cL_buyOil 8 = .ok (.i2l, 1) := by decide +kernel
theorem dL_buyOil_9 : decode cL_buyOil 9 = .ok (.lastore, 1) := by decide +kernel
theorem dL_buyOil_10 : decode cL_buyOil 10 = .ok (.goto 15, 3) := by decide +kernel
theorem dL_buyOil_13 : decode cL_buyOil 13 = .ok (.astore 4, 2) := by decide +kernel
theorem dL_buyOil_15 : decode cL_buyOil 15 = .ok (.iconst 1, 1) := by decide +kernel
theorem dL_buyOil_16 : decode cL_buyOil 16 = .ok (.ireturn, 1) := by decide +kernel
theorem dL_buyOil_17 : decode cL_buyOil 17 = .ok (.astore 4, 2) := by decide +kernel
theorem dL_buyOil_19 : decode cL_buyOil 19 = .ok (.iconst 2, 1) := by decide +kernel
theorem dL_buyOil_20 : decode cL_buyOil 20 = .ok (.ireturn, 1) := by decide +kernel
theorem dL_buyOil_21 : decode cL_buyOil 21 = .ok (.astore 4, 2) := by decide +kernel
theorem dL_buyOil_23 : decode cL_buyOil 23 = .ok (.iconst 3, 1) := by decide +kernel
theorem dL_buyOil_24 : decode cL_buyOil 24 = .ok (.ireturn, 1) := by decide +kernel
theorem dL_buyOil_25 : decode cL_buyOil 25 = .ok (.iconst 0, 1) := by decide +kernel
theorem dL_buyOil_26 : decode cL_buyOil 26 = .ok (.ireturn, 1) := by decide +kernel
set_option maxRecDepth 20000 in
theorem ggL_donateWicks_X11_donateWicks : GoodIn wsL_donateWicks wsX11_donateWicks := goodIn_ca (goodIn_ca (goodIn_ca (goodIn_r _ [6, 7, 8, 9, 10, 11, 12, 13, 14, 15, 16, 17, 18, 19, 5, 20, 21, 22, 23, 24, 25, 26, 27, 28, 29, 30, 31, 32, 33, 34, 35, 36, 37, 38, 39, 40, 41, 42, 43, 44, 45, 46, 47, 48, 49, 50, 51, 52, 53, 54, 55, 56, 57, 58, 59, 60, 61, 62, 63, 64, 65, 66, 67, 68, 69, 70, 71, 72, 73, 74, 75, 76, 77, 78, 79, 80, 81, 82, 83, 84, 85, 86, 87, 88, 89, 90, 91, 92, 93, 94, 95, 96, 97, 98, 99, 100, 101, 102, 103, 104, 105, 106, 107, 108, 109, 110, 111, 112, 113, 114, 115, 116, 117, 118, 119, 120, 121, 122, 123, 124, 125, 126, 127, 128, 129, 130, 131, 132, 133, 134, 135, 136, 137, 138] (by decide +kernel) (by decide +kernel)) (goodIn_sub (fun _ h => List.mem_cons_of_mem _ (List.mem_append_left _ (List.mem_append_left _ (List.mem_append_right _ h)))) (by decide +kernel))) (goodIn_sub (fun _ h => List.mem_cons_of_mem _ (List.mem_append_left _ (List.mem_append_right _ h))) (by decide +kernel))) (goodIn_sub (fun _ h => List.mem_cons_of_mem _ (List.mem_append_right _ h)) (by decide +kernel))
set_option maxRecDepth 20000 in
theorem gL_donateWicks_X11_donateWicks : GoodIn wsL_donateWicks (wsV RL 63 RX11 yX11_donateWicks wsX11_donateWicks) := goodIn_app (goodIn_of _ (by decide +kernel)) ggL_donateWicks_X11_donateWicks
theorem dL_donateWicks_0 : decode cL_donateWicks 0 = .ok (.aload_n 2, 1) := by decide +kernel
theorem dL_donateWicks_1 : decode cL_donateWicks 1 = .ok (.iconst 0, 1) := by decide +kernel
theorem dL_donateWicks_2 : decode cL_donateWicks 2 = .ok (.aload_n 0, 1) := by decide +kernel
theorem dL_donateWicks_3 : decode cL_donateWicks 3 = .ok (.iload_n 1, 1) := by decide +kernel
theorem dL_donateWicks_4 : decode cL_donateWicks 4 = .ok (.invokevirtual 63, 3) := by decide +kernel
theorem dL_donateWicks_7 : decode cL_donateWicks 7 = .ok (.i2l, 1) := by decide +kernel
theorem dL_donateWicks_8 : decode cL_donateWicks 8 = .ok (.lastore, 1) := by decide +kernel
theorem dL_donateWicks_9 : decode cL_donateWicks 9 = .ok (.goto 9, 3) := by decide +kernel
theorem dL_donateWicks_12 : decode cL_donateWicks 12 = .ok (.astore_n 3, 1) := by decide +kernel
theorem dL_donateWicks_13 : decode cL_donateWicks 13 = .ok (.iconst 1, 1) := by decide +kernel
theorem dL_donateWicks_14 : decode cL_donateWicks 14 = .ok (.ireturn, 1) := by decide +kernel
theorem dL_donateWicks_15 : decode cL_donateWicks 15 = .ok (.astore_n 3, 1) := by decide +kernel
theorem dL_donateWicks_16 : decode cL_donateWicks 16 = .ok (.iconst 2, 1) := by decide +kernel
theorem dL_donateWicks_17 : decode cL_donateWicks 17 = .ok (.ireturn, 1) := by decide +kernel
theorem dL_donateWicks_18 : decode cL_donateWicks 18 = .ok (.iconst 0, 1) := by decide +kernel
theorem dL_donateWicks_19 : decode cL_donateWicks 19 = .ok (.ireturn, 1) := by decide +kernel
set_option maxRecDepth 20000 in
theorem ggL_giveWick_X11_giveWick : GoodIn wsL_giveWick wsX11_giveWick := goodIn_ca (goodIn_ca (goodIn_ca (goodIn_ca (goodIn_r _ [6, 7, 8, 9, 10, 11, 12, 13, 14, 15, 16, 17, 18, 19, 20, 21, 22, 23, 24, 25, 26, 27, 28, 29, 30, 31, 32, 5, 33, 34, 35, 36, 37, 38, 39, 40, 41, 42, 43, 44, 45, 46, 47, 48, 49, 50, 51, 52, 53, 54, 55, 56, 57, 58, 59, 60, 61, 62, 63, 64, 65, 66, 67, 68, 69, 70, 71, 72, 73, 74, 75, 76, 77, 78, 79, 80, 81, 82, 83, 84, 85, 86, 87, 88, 89, 90, 91, 92, 93, 94, 95, 96, 97, 98, 99, 100, 101, 102, 103, 104, 105, 106, 107, 108, 109, 110, 111, 112, 113, 114, 115, 116, 117, 118, 119, 120, 121, 122, 123, 124, 125, 126, 127, 128, 129, 130, 131, 132, 133, 134, 135, 136, 137, 138, 139, 140, 141, 142, 143, 144, 145, 146, 147] (by decide +kernel) (by decide +kernel)) (goodIn_sub (fun _ h => List.mem_cons_of_mem _ (List.mem_append_left _ (List.mem_append_left _ (List.mem_append_left _ (List.mem_append_right _ h))))) (by decide +kernel))) (goodIn_sub (fun _ h => List.mem_cons_of_mem _ (List.mem_append_left _ (List.mem_append_left _ (List.mem_append_right _ h)))) (by decide +kernel))) (goodIn_sub (fun _ h => List.mem_cons_of_mem _ (List.mem_append_left _ (List.mem_append_right _ h))) (by decide +kernel))) (goodIn_sub (fun _ h => List.mem_cons_of_mem _ (List.mem_append_right _ h)) (by decide +kernel))
set_option maxRecDepth 20000 in
theorem gL_giveWick_X11_giveWick : GoodIn wsL_giveWick (wsV RL 66 RX11 yX11_giveWick wsX11_giveWick) := goodIn_app (goodIn_of _ (by decide +kernel)) ggL_giveWick_X11_giveWick
theorem dL_giveWick_0 : decode cL_giveWick 0 = .ok (.aload_n 3, 1) := by decide +kernel
theorem dL_giveWick_1 : decode cL_giveWick 1 = .ok (.iconst 0, 1) := by decide +kernel
theorem dL_giveWick_2 : decode cL_giveWick 2 = .ok (.aload_n 0, 1) := by decide +kernel
theorem dL_giveWick_3 : decode cL_giveWick 3 = .ok (.iload_n 1, 1) := by decide +kernel
theorem dL_giveWick_4 : decode cL_giveWick 4 = .ok (.iload_n 2, 1) := by decide +kernel
theorem dL_giveWick_5 : decode cL_giveWick 5 = .ok (.invokevirtual 66, 3) := by decide +kernel
theorem dL_giveWick_8 : decode cL_giveWick 8 = .ok (.i2l, 1) := by decide +kernel
