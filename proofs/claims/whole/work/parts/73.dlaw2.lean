set_option maxRecDepth 20000 in
theorem gL_votesFor_X11_votesFor : GoodIn wsL_votesFor (wsV RL 118 RX11 yX11_votesFor wsX11_votesFor) := goodIn_app (goodIn_of _ (by decide +kernel)) ggL_votesFor_X11_votesFor
theorem dL_votesFor_0 : decode cL_votesFor 0 = .ok (.aload_n 2, 1) := by decide +kernel
theorem dL_votesFor_1 : decode cL_votesFor 1 = .ok (.iconst 0, 1) := by decide +kernel
theorem dL_votesFor_2 : decode cL_votesFor 2 = .ok (.aload_n 0, 1) := by decide +kernel
theorem dL_votesFor_3 : decode cL_votesFor 3 = .ok (.iload_n 1, 1) := by decide +kernel
theorem dL_votesFor_4 : decode cL_votesFor 4 = .ok (.invokevirtual 118, 3) := by decide +kernel
theorem dL_votesFor_7 : decode cL_votesFor 7 = .ok (.i2l, 1) := by decide +kernel
theorem dL_votesFor_8 : decode cL_votesFor 8 = .ok (.lastore, 1) := by decide +kernel
theorem dL_votesFor_9 : decode cL_votesFor 9 = .ok (.goto 6, 3) := by decide +kernel
theorem dL_votesFor_12 : decode cL_votesFor 12 = .ok (.astore_n 3, 1) := by decide +kernel
theorem dL_votesFor_13 : decode cL_votesFor 13 = .ok (.iconst 1, 1) := by decide +kernel
theorem dL_votesFor_14 : decode cL_votesFor 14 = .ok (.ireturn, 1) := by decide +kernel
theorem dL_votesFor_15 : decode cL_votesFor 15 = .ok (.iconst 0, 1) := by decide +kernel
theorem dL_votesFor_16 : decode cL_votesFor 16 = .ok (.ireturn, 1) := by decide +kernel
set_option maxRecDepth 20000 in
theorem ggL_lowestCap_X11_lowestCap : GoodIn wsL_lowestCap wsX11_lowestCap := goodIn_ca (goodIn_ca (goodIn_r _ [6, 7, 8, 9, 10, 11, 12, 13, 14, 15, 16, 17, 18, 19, 20, 21, 22, 23, 24, 25, 26, 27, 28, 29, 30, 31, 32, 33, 34, 35, 36, 37, 38, 39, 40, 41, 42, 43, 44, 45, 46, 47, 48, 49, 50, 51, 52, 53, 54, 55] (by decide +kernel) (by decide +kernel)) (goodIn_sub (fun _ h => List.mem_cons_of_mem _ (List.mem_append_right _ h)) (by decide +kernel))) (goodIn_sub (fun _ h => List.mem_cons_of_mem _ (List.mem_append_left _ (List.mem_append_right _ h))) (by decide +kernel))
set_option maxRecDepth 20000 in
theorem gL_lowestCap_X11_lowestCap : GoodIn wsL_lowestCap (wsV RL 121 RX11 yX11_lowestCap wsX11_lowestCap) := goodIn_app (goodIn_of _ (by decide +kernel)) ggL_lowestCap_X11_lowestCap
theorem dL_lowestCap_0 : decode cL_lowestCap 0 = .ok (.aload_n 1, 1) := by decide +kernel
theorem dL_lowestCap_1 : decode cL_lowestCap 1 = .ok (.iconst 0, 1) := by decide +kernel
theorem dL_lowestCap_2 : decode cL_lowestCap 2 = .ok (.aload_n 0, 1) := by decide +kernel
theorem dL_lowestCap_3 : decode cL_lowestCap 3 = .ok (.invokevirtual 121, 3) := by decide +kernel
theorem dL_lowestCap_6 : decode cL_lowestCap 6 = .ok (.i2l, 1) := by decide +kernel
theorem dL_lowestCap_7 : decode cL_lowestCap 7 = .ok (.lastore, 1) := by decide +kernel
theorem dL_lowestCap_8 : decode cL_lowestCap 8 = .ok (.goto 6, 3) := by decide +kernel
theorem dL_lowestCap_11 : decode cL_lowestCap 11 = .ok (.astore_n 2, 1) := by decide +kernel
theorem dL_lowestCap_12 : decode cL_lowestCap 12 = .ok (.iconst 1, 1) := by decide +kernel
theorem dL_lowestCap_13 : decode cL_lowestCap 13 = .ok (.ireturn, 1) := by decide +kernel
theorem dL_lowestCap_14 : decode cL_lowestCap 14 = .ok (.iconst 0, 1) := by decide +kernel
theorem dL_lowestCap_15 : decode cL_lowestCap 15 = .ok (.ireturn, 1) := by decide +kernel
set_option maxRecDepth 20000 in
theorem ggL_richestLamp_X11_richestLamp : GoodIn wsL_richestLamp wsX11_richestLamp := goodIn_ca (goodIn_ca (goodIn_r _ [6, 7, 8, 9, 10, 11, 12, 13, 14, 5, 15, 16, 17, 18, 19, 20, 21, 22, 23, 24, 25, 26, 27, 28, 29, 30, 31, 32, 33, 34, 35, 36, 37, 38, 39, 40, 41, 42, 43, 44, 45, 46, 47, 48, 49, 50, 51, 52, 53, 54, 55] (by decide +kernel) (by decide +kernel)) (goodIn_sub (fun _ h => List.mem_cons_of_mem _ (List.mem_append_left _ (List.mem_append_right _ h))) (by decide +kernel))) (goodIn_sub (fun _ h => List.mem_cons_of_mem _ (List.mem_append_right _ h)) (by decide +kernel))
set_option maxRecDepth 20000 in
theorem gL_richestLamp_X11_richestLamp : GoodIn wsL_richestLamp (wsV RL 126 RX11 yX11_richestLamp wsX11_richestLamp) := goodIn_app (goodIn_of _ (by decide +kernel)) ggL_richestLamp_X11_richestLamp
theorem dL_richestLamp_0 : decode cL_richestLamp 0 = .ok (.aload_n 2, 1) := by decide +kernel
theorem dL_richestLamp_1 : decode cL_richestLamp 1 = .ok (.iconst 0, 1) := by decide +kernel
theorem dL_richestLamp_2 : decode cL_richestLamp 2 = .ok (.aload_n 0, 1) := by decide +kernel
theorem dL_richestLamp_3 : decode cL_richestLamp 3 = .ok (.iload_n 1, 1) := by decide +kernel
theorem dL_richestLamp_4 : decode cL_richestLamp 4 = .ok (.invokevirtual 126, 3) := by decide +kernel
theorem dL_richestLamp_7 : decode cL_richestLamp 7 = .ok (.i2l, 1) := by decide +kernel
theorem dL_richestLamp_8 : decode cL_richestLamp 8 = .ok (.lastore, 1) := by decide +kernel
theorem dL_richestLamp_9 : decode cL_richestLamp 9 = .ok (.goto 6, 3) := by decide +kernel
theorem dL_richestLamp_12 : decode cL_richestLamp 12 = .ok (.astore_n 3, 1) := by decide +kernel
theorem dL_richestLamp_13 : decode cL_richestLamp 13 = .ok (.iconst 1, 1) := by decide +kernel
theorem dL_richestLamp_14 : decode cL_richestLamp 14 = .ok (.ireturn, 1) := by decide +kernel
theorem dL_richestLamp_15 : decode cL_richestLamp 15 = .ok (.iconst 0, 1) := by decide +kernel
theorem dL_richestLamp_16 : decode cL_richestLamp 16 = .ok (.ireturn, 1) := by decide +kernel
set_option maxRecDepth 20000 in
theorem ggL_longestLamp_X11_longestLamp : GoodIn wsL_longestLamp wsX11_longestLamp := goodIn_ca (goodIn_ca (goodIn_ca (goodIn_r _ [6, 7, 8, 9, 10, 11, 12, 13, 5, 14, 15, 16, 17, 18, 19, 20, 21, 22, 23, 24, 25, 26, 27, 28, 29, 30, 31, 32, 33, 34, 35, 36, 37, 38, 39, 40, 41, 42, 43, 44, 45, 46, 47, 48, 49, 50, 51, 52, 53, 54, 55, 56, 57, 58, 59, 60, 61, 62, 63, 64, 65] (by decide +kernel) (by decide +kernel)) (goodIn_sub (fun _ h => List.mem_cons_of_mem _ (List.mem_append_left _ (List.mem_append_left _ (List.mem_append_right _ h)))) (by decide +kernel))) (goodIn_sub (fun _ h => List.mem_cons_of_mem _ (List.mem_append_left _ (List.mem_append_right _ h))) (by decide +kernel))) (goodIn_sub (fun _ h => List.mem_cons_of_mem _ (List.mem_append_right _ h)) (by decide +kernel))
set_option maxRecDepth 20000 in
theorem gL_longestLamp_X11_longestLamp : GoodIn wsL_longestLamp (wsV RL 129 RX11 yX11_longestLamp wsX11_longestLamp) := goodIn_app (goodIn_of _ (by decide +kernel)) ggL_longestLamp_X11_longestLamp
theorem dL_longestLamp_0 : decode cL_longestLamp 0 = .ok (.aload_n 2, 1) := by decide +kernel
theorem dL_longestLamp_1 : decode cL_longestLamp 1 = .ok (.iconst 0, 1) := by decide +kernel
theorem dL_longestLamp_2 : decode cL_longestLamp 2 = .ok (.aload_n 0, 1) := by decide +kernel
theorem dL_longestLamp_3 : decode cL_longestLamp 3 = .ok (.iload_n 1, 1) := by decide +kernel
theorem dL_longestLamp_4 : decode cL_longestLamp 4 = .ok (.invokevirtual 129, 3) := by decide +kernel
theorem dL_longestLamp_7 : decode cL_longestLamp 7 = .ok (.i2l, 1) := by decide +kernel
theorem dL_longestLamp_8 : decode cL_longestLamp 8 = .ok (.lastore, 1) := by decide +kernel
theorem dL_longestLamp_9 : decode cL_longestLamp 9 = .ok (.goto 6, 3) := by decide +kernel
theorem dL_longestLamp_12 : decode cL_longestLamp 12 = .ok (.astore_n 3, 1) := by decide +kernel
theorem dL_longestLamp_13 : decode cL_longestLamp 13 = .ok (.iconst 1, 1) := by decide +kernel
theorem dL_longestLamp_14 : decode cL_longestLamp 14 = .ok (.ireturn, 1) := by decide +kernel
theorem dL_longestLamp_15 : decode cL_longestLamp 15 = .ok (.iconst 0, 1) := by decide +kernel
theorem dL_longestLamp_16 : decode cL_longestLamp 16 = .ok (.ireturn, 1) := by decide +kernel
set_option maxRecDepth 20000 in
theorem ggL_writeLamp_X11_writeLamp_h : GoodIn wsL_writeLamp [Cond.code yX11_writeLamp cX11_writeLamp 2 (some .int)] := goodIn_r _ [6] (by decide +kernel) (by decide +kernel)
set_option maxRecDepth 20000 in
theorem ggL_writeLamp_X11_writeLamp_wsX11_writeLamp_r1 : GoodIn wsL_writeLamp wsX11_writeLamp_r1 := goodIn_r _ [7, 8, 9, 10, 11, 12, 13, 14, 15, 16, 17, 5, 18, 19, 20, 21, 22, 23, 24, 25, 26, 27, 28, 29] (by decide +kernel) (by decide +kernel)
set_option maxRecDepth 20000 in
theorem ggL_writeLamp_X11_writeLamp_wsX11_writeLamp_r2 : GoodIn wsL_writeLamp wsX11_writeLamp_r2 := goodIn_r _ [30, 31, 32, 33, 34, 35, 36, 37, 38, 39, 40, 41, 42, 43, 44, 45, 46, 47, 48, 49, 50, 51, 52, 53] (by decide +kernel) (by decide +kernel)
set_option maxRecDepth 20000 in
theorem ggL_writeLamp_X11_writeLamp_wsX11_writeLamp_r3 : GoodIn wsL_writeLamp wsX11_writeLamp_r3 := goodIn_r _ [54, 55, 56, 57, 58, 59, 60, 61, 62, 63, 64, 65, 66, 67, 68, 69, 70, 71, 72, 73, 74, 75, 76, 77] (by decide +kernel) (by decide +kernel)
set_option maxRecDepth 20000 in
theorem ggL_writeLamp_X11_writeLamp_wsX11_writeLamp_r4 : GoodIn wsL_writeLamp wsX11_writeLamp_r4 := goodIn_r _ [78, 79, 80, 81, 82, 83, 84, 85, 86, 87, 88, 89, 90, 91, 92, 93, 94, 95, 96, 97, 98, 99, 100, 101] (by decide +kernel) (by decide +kernel)
set_option maxRecDepth 20000 in
theorem ggL_writeLamp_X11_writeLamp_wsX11_writeLamp_r5 : GoodIn wsL_writeLamp wsX11_writeLamp_r5 := goodIn_r _ [102, 103, 104, 105, 106, 107, 108, 109, 110, 111, 112, 113, 114, 115, 116, 117, 118, 119, 120, 121, 122, 123, 124, 125] (by decide +kernel) (by decide +kernel)
set_option maxRecDepth 20000 in
theorem ggL_writeLamp_X11_writeLamp_wsX11_writeLamp_r6 : GoodIn wsL_writeLamp wsX11_writeLamp_r6 := goodIn_r _ [126, 127, 128, 129, 130, 131, 132, 133, 134, 135, 136, 137, 138, 139, 140, 141, 142, 143, 144, 145, 146, 147, 148, 149] (by decide +kernel) (by decide +kernel)
set_option maxRecDepth 20000 in
theorem ggL_writeLamp_X11_writeLamp_wsX11_writeLamp_r7 : GoodIn wsL_writeLamp wsX11_writeLamp_r7 := goodIn_r _ [150, 151, 152, 153, 154, 155, 156, 157, 158, 159, 160, 161, 162, 163, 164, 165, 166, 167, 168, 169, 170, 171, 172, 173] (by decide +kernel) (by decide +kernel)
set_option maxRecDepth 20000 in
theorem ggL_writeLamp_X11_writeLamp_wsX11_writeLamp_r8 : GoodIn wsL_writeLamp wsX11_writeLamp_r8 := goodIn_r _ [174, 175, 176, 177, 178, 179, 180, 181, 182, 183, 184, 185, 186, 187, 188, 189, 190, 191, 192, 193, 194, 195, 196, 197] (by decide +kernel) (by decide +kernel)
set_option maxRecDepth 20000 in
theorem ggL_writeLamp_X11_writeLamp_wsX11_writeLamp_r9 : GoodIn wsL_writeLamp wsX11_writeLamp_r9 := goodIn_r _ [198, 199, 200, 201, 202, 203, 204, 205, 206, 207, 208, 209, 210, 211, 212, 213, 214, 215] (by decide +kernel) (by decide +kernel)
set_option maxRecDepth 20000 in
theorem ggL_writeLamp_X11_writeLamp : GoodIn wsL_writeLamp wsX11_writeLamp := fun w h => (List.mem_cons.mp h).elim (fun e => ggL_writeLamp_X11_writeLamp_h w (List.mem_singleton.mpr e)) ((goodIn_app (goodIn_app (goodIn_app (goodIn_app (goodIn_app (goodIn_app (goodIn_app (goodIn_app (goodIn_app ggL_writeLamp_X11_writeLamp_wsX11_writeLamp_r1 (goodIn_app ggL_writeLamp_X11_writeLamp_wsX11_writeLamp_r2 (goodIn_app ggL_writeLamp_X11_writeLamp_wsX11_writeLamp_r3 (goodIn_app ggL_writeLamp_X11_writeLamp_wsX11_writeLamp_r4 (goodIn_app ggL_writeLamp_X11_writeLamp_wsX11_writeLamp_r5 (goodIn_app ggL_writeLamp_X11_writeLamp_wsX11_writeLamp_r6 (goodIn_app ggL_writeLamp_X11_writeLamp_wsX11_writeLamp_r7 (goodIn_app ggL_writeLamp_X11_writeLamp_wsX11_writeLamp_r8 ggL_writeLamp_X11_writeLamp_wsX11_writeLamp_r9)))))))) (goodIn_sub (fun _ h => List.mem_cons_of_mem _ (List.mem_append_left _ (List.mem_append_left _ (List.mem_append_left _ (List.mem_append_left _ (List.mem_append_left _ (List.mem_append_left _ (List.mem_append_left _ (List.mem_append_right _ h))))))))) (by decide +kernel))) (goodIn_sub (fun _ h => List.mem_cons_of_mem _ (List.mem_append_left _ (List.mem_append_left _ (List.mem_append_left _ (List.mem_append_left _ (List.mem_append_left _ (List.mem_append_left _ (List.mem_append_right _ h)))))))) (by decide +kernel))) (goodIn_sub (fun _ h => List.mem_cons_of_mem _ (List.mem_append_left _ (List.mem_append_left _ (List.mem_append_left _ (List.mem_append_left _ (List.mem_append_left _ (List.mem_append_right _ h))))))) (by decide +kernel))) (goodIn_sub (fun _ h => List.mem_cons_of_mem _ (List.mem_append_left _ (List.mem_append_left _ (List.mem_append_left _ (List.mem_append_left _ (List.mem_append_right _ h)))))) (by decide +kernel))) (goodIn_sub (fun _ h => List.mem_cons_of_mem _ (List.mem_append_left _ (List.mem_append_left _ (List.mem_append_left _ (List.mem_append_right _ h))))) (by decide +kernel))) (goodIn_sub (fun _ h => List.mem_cons_of_mem _ (List.mem_append_left _ (List.mem_append_left _ (List.mem_append_right _ h)))) (by decide +kernel))) (goodIn_sub (fun _ h => List.mem_cons_of_mem _ (List.mem_append_left _ (List.mem_append_right _ h))) (by decide +kernel))) (goodIn_sub (fun _ h => List.mem_cons_of_mem _ (List.mem_append_right _ h)) (by decide +kernel))) w)
set_option maxRecDepth 20000 in
theorem gL_writeLamp_X11_writeLamp : GoodIn wsL_writeLamp (wsV RL 132 RX11 yX11_writeLamp wsX11_writeLamp) := goodIn_app (goodIn_of _ (by decide +kernel)) ggL_writeLamp_X11_writeLamp
theorem dL_writeLamp_0 : decode cL_writeLamp 0 = .ok (.aload_n 2, 1) := by decide +kernel
theorem dL_writeLamp_1 : decode cL_writeLamp 1 = .ok (.iconst 0, 1) := by decide +kernel
theorem dL_writeLamp_2 : decode cL_writeLamp 2 = .ok (.aload_n 0, 1) := by decide +kernel
theorem dL_writeLamp_3 : decode cL_writeLamp 3 = .ok (.iload_n 1, 1) := by decide +kernel
theorem dL_writeLamp_4 : decode cL_writeLamp 4 = .ok (.invokevirtual 132, 3) := by decide +kernel
theorem dL_writeLamp_7 : decode cL_writeLamp 7 = .ok (.i2l, 1) := by decide +kernel
theorem dL_writeLamp_8 : decode cL_writeLamp 8 = .ok (.lastore, 1) := by decide +kernel
theorem dL_writeLamp_9 : decode cL_writeLamp 9 = .ok (.goto 6, 3) := by decide +kernel
theorem dL_writeLamp_12 : decode cL_writeLamp 12 = .ok (.astore_n 3, 1) := by decide +kernel
theorem dL_writeLamp_13 : decode cL_writeLamp 13 = .ok (.iconst 1, 1) := by decide +kernel
theorem dL_writeLamp_14 : decode cL_writeLamp 14 = .ok (.ireturn, 1) := by decide +kernel
theorem dL_writeLamp_15 : decode cL_writeLamp 15 = .ok (.iconst 0, 1) := by decide +kernel
theorem dL_writeLamp_16 : decode cL_writeLamp 16 = .ok (.ireturn, 1) := by decide +kernel
set_option maxRecDepth 20000 in
theorem ggL_lineAt_X11_lineAt : GoodIn wsL_lineAt wsX11_lineAt := goodIn_ca (goodIn_r _ [6, 7, 8, 9, 10, 11, 12, 13, 14, 15, 16, 17, 18, 19, 20, 21, 22, 23, 24, 25, 26, 27, 28, 29, 30, 31, 32, 33, 34, 35, 36, 37, 38, 39, 40, 41, 42, 43, 44, 45, 46, 47, 48, 49, 50, 51, 52, 53, 54, 55, 56, 57, 58, 59, 60, 61, 62, 63, 64, 65, 66, 67, 68, 69, 70, 71] (by decide +kernel) (by decide +kernel)) (goodIn_sub (fun _ h => List.mem_cons_of_mem _ (List.mem_append_right _ h)) (by decide +kernel))
set_option maxRecDepth 20000 in
theorem gL_lineAt_X11_lineAt : GoodIn wsL_lineAt (wsV RL 135 RX11 yX11_lineAt wsX11_lineAt) := goodIn_app (goodIn_of _ (by decide +kernel)) ggL_lineAt_X11_lineAt
theorem dL_lineAt_0 : decode cL_lineAt 0 = .ok (.aload_n 2, 1) := by decide +kernel
theorem dL_lineAt_1 : decode cL_lineAt 1 = .ok (.iconst 0, 1) := by decide +kernel
theorem dL_lineAt_2 : decode cL_lineAt 2 = .ok (.aload_n 0, 1) := by decide +kernel
theorem dL_lineAt_3 : decode cL_lineAt 3 = .ok (.iload_n 1, 1) := by decide +kernel
theorem dL_lineAt_4 : decode cL_lineAt 4 = .ok (.invokevirtual 135, 3) := by decide +kernel
theorem dL_lineAt_7 : decode cL_lineAt 7 = .ok (.i2l, 1) := by decide +kernel
theorem dL_lineAt_8 : decode cL_lineAt 8 = .ok (.lastore, 1) := by decide +kernel
theorem dL_lineAt_9 : decode cL_lineAt 9 = .ok (.goto 6, 3) := by decide +kernel
theorem dL_lineAt_12 : decode cL_lineAt 12 = .ok (.astore_n 3, 1) := by decide +kernel
theorem dL_lineAt_13 : decode cL_lineAt 13 = .ok (.iconst 1, 1) := by decide +kernel
theorem dL_lineAt_14 : decode cL_lineAt 14 = .ok (.ireturn, 1) := by decide +kernel
theorem dL_lineAt_15 : decode cL_lineAt 15 = .ok (.iconst 0, 1) := by decide +kernel
theorem dL_lineAt_16 : decode cL_lineAt 16 = .ok (.ireturn, 1) := by decide +kernel
set_option maxRecDepth 20000 in
theorem ggL_meanOil_X11_meanOil : GoodIn wsL_meanOil wsX11_meanOil := goodIn_ca (goodIn_ca (goodIn_r _ [6, 7, 8, 9, 10, 11, 12, 13, 14, 15, 16, 17, 18, 19, 20, 21, 22, 23, 24, 25, 26, 27, 28, 29, 30, 31, 32, 33, 34, 35, 36, 37, 38, 39, 40, 41, 42] (by decide +kernel) (by decide +kernel)) (goodIn_sub (fun _ h => List.mem_cons_of_mem _ (List.mem_append_right _ h)) (by decide +kernel))) (goodIn_sub (fun _ h => List.mem_cons_of_mem _ (List.mem_append_left _ (List.mem_append_right _ h))) (by decide +kernel))
set_option maxRecDepth 20000 in
theorem gL_meanOil_X11_meanOil : GoodIn wsL_meanOil (wsV RL 139 RX11 yX11_meanOil wsX11_meanOil) := goodIn_app (goodIn_of _ (by decide +kernel)) ggL_meanOil_X11_meanOil
theorem dL_meanOil_0 : decode cL_meanOil 0 = .ok (.aload_n 1, 1) := by decide +kernel
theorem dL_meanOil_1 : decode cL_meanOil 1 = .ok (.iconst 0, 1) := by decide +kernel
theorem dL_meanOil_2 : decode cL_meanOil 2 = .ok (.aload_n 0, 1) := by decide +kernel
theorem dL_meanOil_3 : decode cL_meanOil 3 = .ok (.invokevirtual 139, 3) := by decide +kernel
theorem dL_meanOil_6 : decode cL_meanOil 6 = .ok (.dastore, 1) := by decide +kernel
theorem dL_meanOil_7 : decode cL_meanOil 7 = .ok (.goto 6, 3) := by decide +kernel
theorem dL_meanOil_10 : decode cL_meanOil 10 = .ok (.astore_n 2, 1) := by decide +kernel
theorem dL_meanOil_11 : decode cL_meanOil 11 = .ok (.iconst 1, 1) := by decide +kernel
theorem dL_meanOil_12 : decode cL_meanOil 12 = .ok (.ireturn, 1) := by decide +kernel
theorem dL_meanOil_13 : decode cL_meanOil 13 = .ok (.iconst 0, 1) := by decide +kernel
theorem dL_meanOil_14 : decode cL_meanOil 14 = .ok (.ireturn, 1) := by decide +kernel
set_option maxRecDepth 20000 in
theorem ggL_type_X11_type : GoodIn wsL_type wsX11_type := goodIn_ca (goodIn_ca (goodIn_ca (goodIn_r _ [6, 7, 8, 9, 10, 11, 12, 13, 5, 14, 15, 16, 17, 18, 19, 20, 21, 22, 23, 24, 25, 26, 27, 28, 29, 30, 31, 32, 33, 34, 35, 36, 37, 38, 39, 40, 41, 42, 43, 44, 45] (by decide +kernel) (by decide +kernel)) (goodIn_sub (fun _ h => List.mem_cons_of_mem _ (List.mem_append_left _ (List.mem_append_right _ h))) (by decide +kernel))) (goodIn_sub (fun _ h => List.mem_cons_of_mem _ (List.mem_append_right _ h)) (by decide +kernel))) (goodIn_sub (fun _ h => List.mem_cons_of_mem _ (List.mem_append_left _ (List.mem_append_left _ (List.mem_append_right _ h)))) (by decide +kernel))
set_option maxRecDepth 20000 in
theorem gL_type_X11_type : GoodIn wsL_type (wsV RL 145 RX11 yX11_type wsX11_type) := goodIn_app (goodIn_of _ (by decide +kernel)) ggL_type_X11_type
theorem dL_type_0 : decode cL_type 0 = .ok (.aload_n 2, 1) := by decide +kernel
theorem dL_type_1 : decode cL_type 1 = .ok (.iconst 0, 1) := by decide +kernel
theorem dL_type_2 : decode cL_type 2 = .ok (.aload_n 0, 1) := by decide +kernel
theorem dL_type_3 : decode cL_type 3 = .ok (.iload_n 1, 1) := by decide +kernel
theorem dL_type_4 : decode cL_type 4 = .ok (.invokevirtual 145, 3) := by decide +kernel
theorem dL_type_7 : decode cL_type 7 = .ok (.i2l, 1) := by decide +kernel
theorem dL_type_8 : decode cL_type 8 = .ok (.lastore, 1) := by decide +kernel
theorem dL_type_9 : decode cL_type 9 = .ok (.goto 9, 3) := by decide +kernel
theorem dL_type_12 : decode cL_type 12 = .ok (.astore_n 3, 1) := by decide +kernel
theorem dL_type_13 : decode cL_type 13 = .ok (.iconst 1, 1) := by decide +kernel
theorem dL_type_14 : decode cL_type 14 = .ok (.ireturn, 1) := by decide +kernel
theorem dL_type_15 : decode cL_type 15 = .ok (.astore_n 3, 1) := by decide +kernel
theorem dL_type_16 : decode cL_type 16 = .ok (.iconst 2, 1) := by decide +kernel
theorem dL_type_17 : decode cL_type 17 = .ok (.ireturn, 1) := by decide +kernel
theorem dL_type_18 : decode cL_type 18 = .ok (.iconst 0, 1) := by decide +kernel
theorem dL_type_19 : decode cL_type 19 = .ok (.ireturn, 1) := by decide +kernel
set_option maxRecDepth 20000 in
theorem ggL_execute_X11_execute_h : GoodIn wsL_execute [Cond.code yX11_execute cX11_execute 3 (some .int)] := goodIn_r _ [6] (by decide +kernel) (by decide +kernel)
set_option maxRecDepth 20000 in
theorem ggL_execute_X11_execute_wsX11_execute_r1 : GoodIn wsL_execute wsX11_execute_r1 := goodIn_r _ [7, 8, 9, 10, 11, 12, 13, 14, 15, 16, 17, 18, 19, 20, 21, 22, 23, 24, 25, 26, 27, 28, 29, 30] (by decide +kernel) (by decide +kernel)
set_option maxRecDepth 20000 in
theorem ggL_execute_X11_execute_wsX11_execute_r2 : GoodIn wsL_execute wsX11_execute_r2 := goodIn_r _ [31, 32, 33, 34, 35, 36, 37, 38, 39, 40, 41, 42, 43, 44, 45, 46, 47, 48, 49, 50, 51, 52, 53, 54] (by decide +kernel) (by decide +kernel)
set_option maxRecDepth 20000 in
theorem ggL_execute_X11_execute_wsX11_execute_r3 : GoodIn wsL_execute wsX11_execute_r3 := goodIn_r _ [55, 56, 57, 58, 59, 60, 61, 62, 63, 64, 65, 66, 67, 68, 69, 70, 71, 72, 73, 74, 75, 76, 77, 78] (by decide +kernel) (by decide +kernel)
set_option maxRecDepth 20000 in
theorem ggL_execute_X11_execute_wsX11_execute_r4 : GoodIn wsL_execute wsX11_execute_r4 := goodIn_r _ [79, 80, 81, 82, 83, 84, 85, 86, 87, 88, 89, 90, 91, 92, 93, 94, 95, 96, 97, 98, 99, 100, 101, 102] (by decide +kernel) (by decide +kernel)
set_option maxRecDepth 20000 in
theorem ggL_execute_X11_execute_wsX11_execute_r5 : GoodIn wsL_execute wsX11_execute_r5 := goodIn_r _ [103, 104, 105, 106, 107, 108, 109, 110, 111, 112, 113, 114, 115, 116, 117, 118, 119, 120, 121, 122, 123, 124, 125, 126] (by decide +kernel) (by decide +kernel)
set_option maxRecDepth 20000 in
theorem ggL_execute_X11_execute_wsX11_execute_r6 : GoodIn wsL_execute wsX11_execute_r6 := goodIn_r _ [127, 128, 129, 130, 131, 132, 133, 134, 135, 136, 137, 138, 139, 140, 141, 142, 143, 144, 145, 146, 147, 148, 149, 150] (by decide +kernel) (by decide +kernel)
set_option maxRecDepth 20000 in
theorem ggL_execute_X11_execute_wsX11_execute_r7 : GoodIn wsL_execute wsX11_execute_r7 := goodIn_r _ [151, 152, 153, 154, 155, 156, 157, 158, 159, 160, 161, 162, 163, 164, 165, 5, 166, 167, 168, 169, 170, 171, 172, 173] (by decide +kernel) (by decide +kernel)
set_option maxRecDepth 20000 in
theorem ggL_execute_X11_execute_wsX11_execute_r8 : GoodIn wsL_execute wsX11_execute_r8 := goodIn_r _ [174, 175, 176, 177, 178, 179, 180, 181, 182, 183, 184, 185, 186, 187, 188, 189, 190, 191, 192, 193, 194, 195, 196, 197] (by decide +kernel) (by decide +kernel)
set_option maxRecDepth 20000 in
theorem ggL_execute_X11_execute_wsX11_execute_r9 : GoodIn wsL_execute wsX11_execute_r9 := goodIn_r _ [198, 199, 200, 201, 202, 203, 204, 205, 206, 207, 208, 209, 210, 211, 212, 213, 214, 215, 216, 217, 218, 219, 220, 221] (by decide +kernel) (by decide +kernel)
set_option maxRecDepth 20000 in
theorem ggL_execute_X11_execute_wsX11_execute_r10 : GoodIn wsL_execute wsX11_execute_r10 := goodIn_r _ [222, 223, 224, 225, 226, 227, 228, 229, 230, 231, 232, 233, 234, 235, 236, 237, 238, 239, 240, 241, 242, 243, 244, 245] (by decide +kernel) (by decide +kernel)
set_option maxRecDepth 20000 in
theorem ggL_execute_X11_execute_wsX11_execute_r11 : GoodIn wsL_execute wsX11_execute_r11 := goodIn_r _ [246, 247, 248, 249, 250, 251, 252, 253, 254, 255, 256, 257, 258, 259, 260, 261, 262, 263, 264, 265, 266, 267, 268, 269] (by decide +kernel) (by decide +kernel)
set_option maxRecDepth 20000 in
theorem ggL_execute_X11_execute_wsX11_execute_r12 : GoodIn wsL_execute wsX11_execute_r12 := goodIn_r _ [270, 271, 272, 273, 274, 275, 276, 277, 278, 279, 280, 281, 282, 283, 284, 285, 286, 287, 288, 289, 290, 291, 292, 293] (by decide +kernel) (by decide +kernel)
set_option maxRecDepth 20000 in
theorem ggL_execute_X11_execute_wsX11_execute_r13 : GoodIn wsL_execute wsX11_execute_r13 := goodIn_r _ [294, 295, 296, 297, 298, 299, 300, 301, 302, 303, 304, 305, 306, 307, 308, 309, 310, 311, 312, 313, 314, 315, 316, 317] (by decide +kernel) (by decide +kernel)
set_option maxRecDepth 20000 in
theorem ggL_execute_X11_execute_wsX11_execute_r14 : GoodIn wsL_execute wsX11_execute_r14 := goodIn_r _ [318, 319, 320, 321, 322, 323, 324, 325, 326, 327, 328, 329, 330, 331, 332, 333, 334, 335, 336, 337, 338, 339, 340, 341] (by decide +kernel) (by decide +kernel)
set_option maxRecDepth 20000 in
theorem ggL_execute_X11_execute_wsX11_execute_r15 : GoodIn wsL_execute wsX11_execute_r15 := goodIn_r _ [342, 343, 344, 345, 346, 347, 348, 349, 350, 351, 352, 353, 354, 355, 356, 357, 358, 359, 360, 361, 362, 363, 364, 365] (by decide +kernel) (by decide +kernel)
set_option maxRecDepth 20000 in
theorem ggL_execute_X11_execute_wsX11_execute_r16 : GoodIn wsL_execute wsX11_execute_r16 := goodIn_r _ [366, 367, 368, 369, 370, 371, 372, 373, 374, 375, 376, 377, 378, 379, 380, 381, 382, 383, 384, 385, 386, 387, 388, 389] (by decide +kernel) (by decide +kernel)
set_option maxRecDepth 20000 in
theorem ggL_execute_X11_execute_wsX11_execute_r17 : GoodIn wsL_execute wsX11_execute_r17 := goodIn_r _ [390, 391, 392, 393, 394, 395, 396, 397, 398, 399, 400, 401, 402] (by decide +kernel) (by decide +kernel)
set_option maxRecDepth 20000 in
theorem ggL_execute_X11_execute : GoodIn wsL_execute wsX11_execute := fun w h => (List.mem_cons.mp h).elim (fun e => ggL_execute_X11_execute_h w (List.mem_singleton.mpr e)) ((goodIn_app (goodIn_app (goodIn_app (goodIn_app (goodIn_app (goodIn_app (goodIn_app (goodIn_app (goodIn_app (goodIn_app (goodIn_app (goodIn_app (goodIn_app (goodIn_app (goodIn_app ggL_execute_X11_execute_wsX11_execute_r1 (goodIn_app ggL_execute_X11_execute_wsX11_execute_r2 (goodIn_app ggL_execute_X11_execute_wsX11_execute_r3 (goodIn_app ggL_execute_X11_execute_wsX11_execute_r4 (goodIn_app ggL_execute_X11_execute_wsX11_execute_r5 (goodIn_app ggL_execute_X11_execute_wsX11_execute_r6 (goodIn_app ggL_execute_X11_execute_wsX11_execute_r7 (goodIn_app ggL_execute_X11_execute_wsX11_execute_r8 (goodIn_app ggL_execute_X11_execute_wsX11_execute_r9 (goodIn_app ggL_execute_X11_execute_wsX11_execute_r10 (goodIn_app ggL_execute_X11_execute_wsX11_execute_r11 (goodIn_app ggL_execute_X11_execute_wsX11_execute_r12 (goodIn_app ggL_execute_X11_execute_wsX11_execute_r13 (goodIn_app ggL_execute_X11_execute_wsX11_execute_r14 (goodIn_app ggL_execute_X11_execute_wsX11_execute_r15 (goodIn_app ggL_execute_X11_execute_wsX11_execute_r16 ggL_execute_X11_execute_wsX11_execute_r17)))))))))))))))) (goodIn_sub (fun _ h => List.mem_cons_of_mem _ (List.mem_append_left _ (List.mem_append_left _ (List.mem_append_left _ (List.mem_append_left _ (List.mem_append_left _ (List.mem_append_left _ (List.mem_append_left _ (List.mem_append_left _ (List.mem_append_left _ (List.mem_append_left _ (List.mem_append_left _ (List.mem_append_left _ (List.mem_append_left _ (List.mem_append_right _ h))))))))))))))) (by decide +kernel))) (goodIn_sub (fun _ h => List.mem_cons_of_mem _ (List.mem_append_left _ (List.mem_append_left _ (List.mem_append_left _ (List.mem_append_left _ (List.mem_append_left _ (List.mem_append_left _ (List.mem_append_left _ (List.mem_append_left _ (List.mem_append_left _ (List.mem_append_left _ (List.mem_append_left _ (List.mem_append_left _ (List.mem_append_right _ h)))))))))))))) (by decide +kernel))) (goodIn_sub (fun _ h => List.mem_cons_of_mem _ (List.mem_append_left _ (List.mem_append_left _ (List.mem_append_left _ (List.mem_append_left _ (List.mem_append_left _ (List.mem_append_left _ (List.mem_append_left _ (List.mem_append_left _ (List.mem_append_left _ (List.mem_append_left _ (List.mem_append_left _ (List.mem_append_right _ h))))))))))))) (by decide +kernel))) (goodIn_sub (fun _ h => List.mem_cons_of_mem _ (List.mem_append_left _ (List.mem_append_left _ (List.mem_append_left _ (List.mem_append_left _ (List.mem_append_left _ (List.mem_append_left _ (List.mem_append_left _ (List.mem_append_left _ (List.mem_append_left _ (List.mem_append_left _ (List.mem_append_right _ h)))))))))))) (by decide +kernel))) (goodIn_sub (fun _ h => List.mem_cons_of_mem _ (List.mem_append_left _ (List.mem_append_left _ (List.mem_append_left _ (List.mem_append_left _ (List.mem_append_left _ (List.mem_append_left _ (List.mem_append_left _ (List.mem_append_left _ (List.mem_append_left _ (List.mem_append_right _ h))))))))))) (by decide +kernel))) (goodIn_sub (fun _ h => List.mem_cons_of_mem _ (List.mem_append_left _ (List.mem_append_left _ (List.mem_append_left _ (List.mem_append_left _ (List.mem_append_left _ (List.mem_append_left _ (List.mem_append_left _ (List.mem_append_left _ (List.mem_append_right _ h)))))))))) (by decide +kernel))) (goodIn_sub (fun _ h => List.mem_cons_of_mem _ (List.mem_append_left _ (List.mem_append_left _ (List.mem_append_left _ (List.mem_append_left _ (List.mem_append_left _ (List.mem_append_left _ (List.mem_append_left _ (List.mem_append_right _ h))))))))) (by decide +kernel))) (goodIn_sub (fun _ h => List.mem_cons_of_mem _ (List.mem_append_left _ (List.mem_append_left _ (List.mem_append_left _ (List.mem_append_left _ (List.mem_append_left _ (List.mem_append_left _ (List.mem_append_right _ h)))))))) (by decide +kernel))) (goodIn_sub (fun _ h => List.mem_cons_of_mem _ (List.mem_append_left _ (List.mem_append_left _ (List.mem_append_left _ (List.mem_append_left _ (List.mem_append_left _ (List.mem_append_right _ h))))))) (by decide +kernel))) (goodIn_sub (fun _ h => List.mem_cons_of_mem _ (List.mem_append_left _ (List.mem_append_left _ (List.mem_append_left _ (List.mem_append_left _ (List.mem_append_right _ h)))))) (by decide +kernel))) (goodIn_sub (fun _ h => List.mem_cons_of_mem _ (List.mem_append_left _ (List.mem_append_left _ (List.mem_append_right _ h)))) (by decide +kernel))) (goodIn_sub (fun _ h => List.mem_cons_of_mem _ (List.mem_append_left _ (List.mem_append_right _ h))) (by decide +kernel))) (goodIn_sub (fun _ h => List.mem_cons_of_mem _ (List.mem_append_left _ (List.mem_append_left _ (List.mem_append_left _ (List.mem_append_right _ h))))) (by decide +kernel))) (goodIn_sub (fun _ h => List.mem_cons_of_mem _ (List.mem_append_right _ h)) (by decide +kernel))) w)
set_option maxRecDepth 20000 in
theorem gL_execute_X11_execute : GoodIn wsL_execute (wsV RL 149 RX11 yX11_execute wsX11_execute) := goodIn_app (goodIn_of _ (by decide +kernel)) ggL_execute_X11_execute
theorem dL_execute_0 : decode cL_execute 0 = .ok (.aload_n 1, 1) := by decide +kernel
theorem dL_execute_1 : decode cL_execute 1 = .ok (.iconst 0, 1) := by decide +kernel
theorem dL_execute_2 : decode cL_execute 2 = .ok (.aload_n 0, 1) := by decide +kernel
theorem dL_execute_3 : decode cL_execute 3 = .ok (.invokevirtual 149, 3) := by decide +kernel
theorem dL_execute_6 : decode cL_execute 6 = .ok (.i2l, 1) := by decide +kernel
theorem dL_execute_7 : decode cL_execute 7 = .ok (.lastore, 1) := by decide +kernel
theorem dL_execute_8 : decode cL_execute 8 = .ok (.goto 9, 3) := by decide +kernel
theorem dL_execute_11 : decode cL_execute 11 = .ok (.astore_n 2, 1) := by decide +kernel
theorem dL_execute_12 : decode cL_execute 12 = .ok (.iconst 1, 1) := by decide +kernel
theorem dL_execute_13 : decode cL_execute 13 = .ok (.ireturn, 1) := by decide +kernel
theorem dL_execute_14 : decode cL_execute 14 = .ok (.astore_n 2, 1) := by decide +kernel
theorem dL_execute_15 : decode cL_execute 15 = .ok (.iconst 2, 1) := by decide +kernel
theorem dL_execute_16 : decode cL_execute 16 = .ok (.ireturn, 1) := by decide +kernel
theorem dL_execute_17 : decode cL_execute 17 = .ok (.iconst 0, 1) := by decide +kernel
theorem dL_execute_18 : decode cL_execute 18 = .ok (.ireturn, 1) := by decide +kernel
set_option maxRecDepth 20000 in
theorem ggL_errorPosition_X11_errorPosition : GoodIn wsL_errorPosition wsX11_errorPosition := goodIn_ca (goodIn_r _ [6, 7, 8, 9, 10, 11, 12, 13, 14, 15, 16, 17, 18, 19, 20, 21, 22] (by decide +kernel) (by decide +kernel)) (goodIn_sub (fun _ h => List.mem_cons_of_mem _ (List.mem_append_right _ h)) (by decide +kernel))
set_option maxRecDepth 20000 in
theorem gL_errorPosition_X11_errorPosition : GoodIn wsL_errorPosition (wsV RL 152 RX11 yX11_errorPosition wsX11_errorPosition) := goodIn_app (goodIn_of _ (by decide +kernel)) ggL_errorPosition_X11_errorPosition
theorem dL_errorPosition_0 : decode cL_errorPosition 0 = .ok (.aload_n 1, 1) := by decide +kernel
theorem dL_errorPosition_1 : decode cL_errorPosition 1 = .ok (.iconst 0, 1) := by decide +kernel
theorem dL_errorPosition_2 : decode cL_errorPosition 2 = .ok (.aload_n 0, 1) := by decide +kernel
theorem dL_errorPosition_3 : decode cL_errorPosition 3 = .ok (.invokevirtual 152, 3) := by decide +kernel
theorem dL_errorPosition_6 : decode cL_errorPosition 6 = .ok (.i2l, 1) := by decide +kernel
theorem dL_errorPosition_7 : decode cL_errorPosition 7 = .ok (.lastore, 1) := by decide +kernel
theorem dL_errorPosition_8 : decode cL_errorPosition 8 = .ok (.goto 6, 3) := by decide +kernel
theorem dL_errorPosition_11 : decode cL_errorPosition 11 = .ok (.astore_n 2, 1) := by decide +kernel
theorem dL_errorPosition_12 : decode cL_errorPosition 12 = .ok (.iconst 1, 1) := by decide +kernel
theorem dL_errorPosition_13 : decode cL_errorPosition 13 = .ok (.ireturn, 1) := by decide +kernel
theorem dL_errorPosition_14 : decode cL_errorPosition 14 = .ok (.iconst 0, 1) := by decide +kernel
theorem dL_errorPosition_15 : decode cL_errorPosition 15 = .ok (.ireturn, 1) := by decide +kernel
set_option maxRecDepth 20000 in
theorem ggL_failedCommand_X11_failedCommand : GoodIn wsL_failedCommand wsX11_failedCommand := goodIn_ca (goodIn_r _ [6, 7, 8, 9, 10, 11, 12, 13, 14, 15, 16, 17, 18, 19, 20, 21, 22] (by decide +kernel) (by decide +kernel)) (goodIn_sub (fun _ h => List.mem_cons_of_mem _ (List.mem_append_right _ h)) (by decide +kernel))
set_option maxRecDepth 20000 in
theorem gL_failedCommand_X11_failedCommand : GoodIn wsL_failedCommand (wsV RL 155 RX11 yX11_failedCommand wsX11_failedCommand) := goodIn_app (goodIn_of _ (by decide +kernel)) ggL_failedCommand_X11_failedCommand
theorem dL_failedCommand_0 : decode cL_failedCommand 0 = .ok (.aload_n 1, 1) := by decide +kernel
theorem dL_failedCommand_1 : decode cL_failedCommand 1 = .ok (.iconst 0, 1) := by decide +kernel
theorem dL_failedCommand_2 : decode cL_failedCommand 2 = .ok (.aload_n 0, 1) := by decide +kernel
theorem dL_failedCommand_3 : decode cL_failedCommand 3 = .ok (.invokevirtual 155, 3) := by decide +kernel
theorem dL_failedCommand_6 : decode cL_failedCommand 6 = .ok (.i2l, 1) := by decide +kernel
theorem dL_failedCommand_7 : decode cL_failedCommand 7 = .ok (.lastore, 1) := by decide +kernel
theorem dL_failedCommand_8 : decode cL_failedCommand 8 = .ok (.goto 6, 3) := by decide +kernel
theorem dL_failedCommand_11 : decode cL_failedCommand 11 = .ok (.astore_n 2, 1) := by decide +kernel
theorem dL_failedCommand_12 : decode cL_failedCommand 12 = .ok (.iconst 1, 1) := by decide +kernel
theorem dL_failedCommand_13 : decode cL_failedCommand 13 = .ok (.ireturn, 1) := by decide +kernel
theorem dL_failedCommand_14 : decode cL_failedCommand 14 = .ok (.iconst 0, 1) := by decide +kernel
theorem dL_failedCommand_15 : decode cL_failedCommand 15 = .ok (.ireturn, 1) := by decide +kernel
set_option maxRecDepth 20000 in
theorem ggL_undo_X11_undo : GoodIn wsL_undo wsX11_undo := goodIn_ca (goodIn_r _ [6, 7, 8, 9, 10, 11, 12, 13, 14, 15, 16, 17, 18, 19, 20, 21, 22, 23, 24, 25, 26, 27, 28, 29, 30, 31, 32, 33, 34, 35, 36, 37, 38, 39, 40, 41, 42, 43, 44, 45, 46, 47, 48, 49, 50, 51, 52, 53, 54, 55, 56, 57, 58, 59, 60, 61, 62, 63, 64, 65, 66, 67, 68, 69, 70, 71, 72, 73, 74, 75, 76, 77, 78, 79, 80, 81, 82, 83, 84, 85, 86, 87, 88, 89, 90, 91, 92, 93, 94, 95, 96, 97, 98, 99, 100, 101, 102, 103, 104, 105, 106, 107, 108, 109, 110] (by decide +kernel) (by decide +kernel)) (goodIn_sub (fun _ h => List.mem_cons_of_mem _ (List.mem_append_right _ h)) (by decide +kernel))
set_option maxRecDepth 20000 in
theorem gL_undo_X11_undo : GoodIn wsL_undo (wsV RL 158 RX11 yX11_undo wsX11_undo) := goodIn_app (goodIn_of _ (by decide +kernel)) ggL_undo_X11_undo
theorem dL_undo_0 : decode cL_undo 0 = .ok (.aload_n 1, 1) := by decide +kernel
theorem dL_undo_1 : decode cL_undo 1 = .ok (.iconst 0, 1) := by decide +kernel
theorem dL_undo_2 : decode cL_undo 2 = .ok (.aload_n 0, 1) := by decide +kernel
theorem dL_undo_3 : decode cL_undo 3 = .ok (.invokevirtual 158, 3) := by decide +kernel
theorem dL_undo_6 : decode cL_undo 6 = .ok (.i2l, 1) := by decide +kernel
theorem dL_undo_7 : decode cL_undo 7 = .ok (.lastore, 1) := by decide +kernel
theorem dL_undo_8 : decode cL_undo 8 = .ok (.goto 6, 3) := by decide +kernel
theorem dL_undo_11 : decode cL_undo 11 = .ok (.astore_n 2, 1) := by decide +kernel
theorem dL_undo_12 : decode cL_undo 12 = .ok (.iconst 1, 1) := by decide +kernel
theorem dL_undo_13 : decode cL_undo 13 = .ok (.ireturn, 1) := by decide +kernel
theorem dL_undo_14 : decode cL_undo 14 = .ok (.iconst 0, 1) := by decide +kernel
theorem dL_undo_15 : decode cL_undo 15 = .ok (.ireturn, 1) := by decide +kernel
set_option maxRecDepth 20000 in
theorem ggL_restore_X11_restore : GoodIn wsL_restore wsX11_restore := goodIn_ca (goodIn_r _ [6, 7, 8, 9, 10, 11, 12, 13, 14, 15, 16, 17, 18, 19, 20, 21, 22, 23, 24, 25, 26, 27, 28, 29, 30, 31, 32, 33, 34, 35, 36, 37, 38, 39, 40, 41, 42, 43, 44, 45, 46, 47, 48, 49, 50, 51, 52, 53, 54, 55, 56, 57, 58, 59, 60, 61, 62, 63, 64, 65, 66, 67, 68, 69, 70, 71, 72, 73, 74, 75, 76, 77, 78, 79, 80, 81, 82, 83, 84, 85, 86, 87, 88, 89, 90, 91, 92, 93, 94, 95, 96, 97, 98, 99, 100, 101, 102, 103, 104, 105, 106] (by decide +kernel) (by decide +kernel)) (goodIn_sub (fun _ h => List.mem_cons_of_mem _ (List.mem_append_right _ h)) (by decide +kernel))
set_option maxRecDepth 20000 in
theorem gL_restore_X11_restore : GoodIn wsL_restore (wsV RL 161 RX11 yX11_restore wsX11_restore) := goodIn_app (goodIn_of _ (by decide +kernel)) ggL_restore_X11_restore
theorem dL_restore_0 : decode cL_restore 0 = .ok (.aload_n 1, 1) := by decide +kernel
theorem dL_restore_1 : decode cL_restore 1 = .ok (.iconst 0, 1) := by decide +kernel
theorem dL_restore_2 : decode cL_restore 2 = .ok (.aload_n 0, 1) := by decide +kernel
theorem dL_restore_3 : decode cL_restore 3 = .ok (.invokevirtual 161, 3) := by decide +kernel
theorem dL_restore_6 : decode cL_restore 6 = .ok (.i2l, 1) := by decide +kernel
theorem dL_restore_7 : decode cL_restore 7 = .ok (.lastore, 1) := by decide +kernel
theorem dL_restore_8 : decode cL_restore 8 = .ok (.goto 6, 3) := by decide +kernel
theorem dL_restore_11 : decode cL_restore 11 = .ok (.astore_n 2, 1) := by decide +kernel
theorem dL_restore_12 : decode cL_restore 12 = .ok (.iconst 1, 1) := by decide +kernel
theorem dL_restore_13 : decode cL_restore 13 = .ok (.ireturn, 1) := by decide +kernel
theorem dL_restore_14 : decode cL_restore 14 = .ok (.iconst 0, 1) := by decide +kernel
theorem dL_restore_15 : decode cL_restore 15 = .ok (.ireturn, 1) := by decide +kernel
set_option maxRecDepth 20000 in
theorem ggL_law_X11_init : GoodIn wsL_law wsX11_init := goodIn_r _ [10, 11, 12, 13, 14, 15, 16, 17, 18, 19, 20, 21, 22, 23, 24, 25, 26, 27, 28, 29, 30, 31, 32, 33, 34, 35, 36, 37, 38, 39, 40, 41, 42, 43, 44, 45, 46, 47, 48, 49, 50, 51, 52, 53, 54, 55, 56, 57, 58, 59, 60, 61, 62, 63, 64, 65, 66, 67, 68, 69, 70, 71, 72, 73, 74, 75, 76, 77, 78, 79, 80, 81, 82, 83, 84, 85, 86, 87, 88, 89, 90, 91, 92, 93, 94, 95, 96, 97, 98, 99, 100, 101, 102, 103, 104, 105, 106, 107, 108, 109, 110, 111, 112, 113, 114, 115, 116, 117, 118, 119, 120, 121, 122, 123, 124, 125, 126, 127, 128, 129, 130, 131, 132, 133, 134, 135, 136, 137, 138, 139, 140, 141, 142, 1602, 1603, 1604, 1573, 1574, 1575, 1576, 1577, 1578, 1579, 1580, 1581, 1582, 1583, 1584, 1585, 1605, 1606, 1607, 1608, 1609, 1610, 1611, 1612, 1613, 1614, 1615, 1616, 1617, 1618, 1619, 1620, 1621, 1622, 1623, 1624, 1625, 1626, 1627, 1628, 1629, 1630, 1631, 1632, 1633, 1634, 1635, 1636, 1637, 1638, 1639, 1640, 1641, 1642, 1643, 1644] (by decide +kernel) (by decide +kernel)
set_option maxRecDepth 20000 in
theorem gL_law_X11_init : GoodIn wsL_law (wsX11_init) := ggL_law_X11_init
set_option maxRecDepth 20000 in
theorem ggL_law_X12_init : GoodIn wsL_law wsX12_init := goodIn_r _ [145, 146, 12, 13, 34, 147, 148, 149, 150, 114, 151, 152, 153, 154, 155, 1586, 1587, 1588, 1589, 1590, 1591, 1592, 1593, 1594, 1595, 1596, 1597, 1598, 1599, 1600, 1601] (by decide +kernel) (by decide +kernel)
set_option maxRecDepth 20000 in
theorem gL_law_X12_init : GoodIn wsL_law (wsX12_init) := ggL_law_X12_init
set_option maxRecDepth 20000 in
theorem ggL_law_L_addLamp : GoodIn wsL_law wsL_addLamp := goodIn_ca (goodIn_ca (goodIn_ca (goodIn_ca (goodIn_r _ [159, 160, 161, 162, 163, 2, 164, 17, 24, 165, 166, 167, 168, 16, 169, 170, 52, 171, 172, 173, 174, 175, 176, 177, 178, 179, 180, 181, 182, 183, 184, 185, 186, 187, 188, 189, 190, 23, 191, 100, 98, 97, 192, 193, 194, 195, 196, 197, 198, 199, 56, 60, 200, 201, 202, 51, 203, 64, 65, 204, 205, 206, 207, 66, 67, 69, 70, 71, 72, 208, 209, 210, 55, 211, 76, 77, 212, 78, 79, 213, 214, 215, 59, 216, 83, 84, 85, 86, 87, 88, 89, 90, 91, 92, 217, 218, 219, 220, 1573, 1574, 1575, 1576, 1577, 1578, 1579, 1580, 1581, 1582, 1583, 1584, 1585, 1602, 1603, 1604, 1623, 1624, 1625, 1626, 1627, 1628, 1629, 1630, 1605, 1606, 1607, 1631, 1632, 1633, 1634, 1635, 1636, 1637, 1638, 1639, 1640, 1641, 1642, 1643, 1644] (by decide +kernel) (by decide +kernel)) (goodIn_sub (fun _ h => List.mem_append_left _ (List.mem_append_left _ (List.mem_append_left _ (List.mem_append_left _ (List.mem_append_left _ (List.mem_append_left _ (List.mem_append_right _ h))))))) (by decide +kernel))) (goodIn_sub (fun _ h => List.mem_append_left _ (List.mem_append_left _ (List.mem_append_left _ (List.mem_append_left _ (List.mem_append_left _ (List.mem_append_right _ h)))))) (by decide +kernel))) (goodIn_sub (fun _ h => List.mem_append_left _ (List.mem_append_left _ (List.mem_append_left _ (List.mem_append_left _ (List.mem_append_right _ h))))) (by decide +kernel))) (goodIn_sub (fun _ h => List.mem_append_left _ (List.mem_append_left _ (List.mem_append_left _ (List.mem_append_right _ h)))) (by decide +kernel))
set_option maxRecDepth 20000 in
theorem gL_law_L_addLamp : GoodIn wsL_law (va_wsS RL 168 yL_addLamp wsL_addLamp) := goodIn_app (goodIn_of _ (by decide +kernel)) ggL_law_L_addLamp
set_option maxRecDepth 20000 in
theorem ggL_law_X12_addLamp : GoodIn wsL_law wsX12_addLamp := goodIn_ca (goodIn_r _ [224, 225, 226, 227, 5, 228, 147, 148, 229, 230, 231, 232, 233, 234, 235, 236, 237, 238, 239, 240, 241, 242, 243, 244, 245, 246, 247, 248, 249, 250, 251, 252, 149, 1586, 1587, 1588, 1589, 1590, 1591, 1592, 1593, 1594, 1595, 1596, 1597, 1598, 1599, 1600, 1601] (by decide +kernel) (by decide +kernel)) (goodIn_sub (fun _ h => List.mem_append_left _ (List.mem_append_left _ (List.mem_append_left _ (List.mem_append_left _ (List.mem_append_left _ (List.mem_append_left _ (List.mem_append_right _ h))))))) (by decide +kernel))
set_option maxRecDepth 20000 in
theorem gL_law_X12_addLamp : GoodIn wsL_law (wsV RL 173 RX12 yX12_addLamp wsX12_addLamp) := goodIn_app (goodIn_of _ (by decide +kernel)) ggL_law_X12_addLamp
set_option maxRecDepth 20000 in
theorem ggL_law_X12_thrown : GoodIn wsL_law wsX12_thrown := goodIn_r _ [256, 243, 1586, 1587, 1588, 1589, 1590, 1591, 1592, 1593, 1594, 1595, 1596, 1597, 1598, 1599, 1600, 1601] (by decide +kernel) (by decide +kernel)
set_option maxRecDepth 20000 in
theorem gL_law_X12_thrown : GoodIn wsL_law (wsV RL 174 RX12 yX12_thrown wsX12_thrown) := goodIn_app (goodIn_of _ (by decide +kernel)) ggL_law_X12_thrown
set_option maxRecDepth 20000 in
theorem ggL_law_L_removeLamp : GoodIn wsL_law wsL_removeLamp := goodIn_ca (goodIn_ca (goodIn_ca (goodIn_ca (goodIn_r _ [259, 260, 261, 262, 263, 2, 264, 17, 24, 265, 266, 267, 16, 268, 52, 269, 60, 270, 271, 172, 173, 272, 273, 274, 51, 275, 64, 176, 177, 178, 179, 180, 181, 182, 183, 184, 185, 186, 187, 188, 189, 190, 23, 191, 100, 98, 97, 192, 193, 194, 195, 196, 197, 198, 199, 56, 200, 201, 202, 203, 65, 204, 205, 206, 207, 66, 67, 69, 70, 71, 72, 208, 209, 210, 55, 211, 76, 77, 212, 78, 79, 213, 214, 215, 59, 216, 83, 84, 85, 86, 87, 88, 89, 90, 91, 92, 276, 277, 278, 279, 280, 281, 282, 283, 171, 284, 285, 286, 287, 288, 289, 290, 291, 1573, 1574, 1575, 1576, 1577, 1578, 1579, 1580, 1581, 1582, 1583, 1584, 1585, 1602, 1603, 1604, 1635, 1636, 1637, 1638, 1639, 1640, 1641, 1642, 1643, 1644, 1623, 1624, 1625, 1626, 1627, 1628, 1629, 1630, 1605, 1606, 1607, 1631, 1632, 1633, 1634] (by decide +kernel) (by decide +kernel)) (goodIn_sub (fun _ h => List.mem_append_left _ (List.mem_append_left _ (List.mem_append_left _ (List.mem_append_left _ (List.mem_append_left _ (List.mem_append_left _ (List.mem_append_right _ h))))))) (by decide +kernel))) (goodIn_sub (fun _ h => List.mem_append_left _ (List.mem_append_left _ (List.mem_append_left _ (List.mem_append_left _ (List.mem_append_left _ (List.mem_append_right _ h)))))) (by decide +kernel))) (goodIn_sub (fun _ h => List.mem_append_left _ (List.mem_append_left _ (List.mem_append_left _ (List.mem_append_left _ (List.mem_append_right _ h))))) (by decide +kernel))) (goodIn_sub (fun _ h => List.mem_append_left _ (List.mem_append_left _ (List.mem_append_left _ (List.mem_append_right _ h)))) (by decide +kernel))
set_option maxRecDepth 20000 in
theorem gL_law_L_removeLamp : GoodIn wsL_law (va_wsS RL 177 yL_removeLamp wsL_removeLamp) := goodIn_app (goodIn_of _ (by decide +kernel)) ggL_law_L_removeLamp
set_option maxRecDepth 20000 in
theorem ggL_law_X12_removeLamp : GoodIn wsL_law wsX12_removeLamp := goodIn_ca (goodIn_r _ [295, 225, 226, 227, 5, 228, 147, 148, 229, 230, 231, 296, 297, 298, 299, 300, 301, 302, 303, 236, 237, 238, 239, 240, 241, 242, 243, 304, 305, 306, 307, 244, 245, 246, 247, 248, 249, 250, 251, 252, 149, 1586, 1587, 1588, 1589, 1590, 1591, 1592, 1593, 1594, 1595, 1596, 1597, 1598, 1599, 1600, 1601] (by decide +kernel) (by decide +kernel)) (goodIn_sub (fun _ h => List.mem_append_left _ (List.mem_append_left _ (List.mem_append_left _ (List.mem_append_left _ (List.mem_append_left _ (List.mem_append_left _ (List.mem_append_right _ h))))))) (by decide +kernel))
set_option maxRecDepth 20000 in
theorem gL_law_X12_removeLamp : GoodIn wsL_law (wsV RL 180 RX12 yX12_removeLamp wsX12_removeLamp) := goodIn_app (goodIn_of _ (by decide +kernel)) ggL_law_X12_removeLamp
set_option maxRecDepth 20000 in
theorem ggL_law_L_setShares : GoodIn wsL_law wsL_setShares := goodIn_ca (goodIn_ca (goodIn_ca (goodIn_ca (goodIn_r _ [310, 260, 311, 312, 313, 2, 314, 17, 24, 165, 315, 316, 317, 318, 16, 319, 52, 269, 173, 170, 272, 273, 274, 51, 275, 64, 174, 175, 176, 177, 178, 179, 180, 181, 182, 183, 184, 185, 186, 187, 188, 189, 190, 23, 191, 100, 98, 97, 192, 193, 194, 195, 196, 197, 198, 199, 56, 60, 200, 201, 202, 203, 65, 204, 205, 206, 207, 66, 67, 69, 70, 71, 72, 208, 209, 210, 55, 211, 76, 77, 212, 78, 79, 213, 214, 215, 59, 216, 83, 84, 85, 86, 87, 88, 89, 90, 91, 92, 1573, 1574, 1575, 1576, 1577, 1578, 1579, 1580, 1581, 1582, 1583, 1584, 1585, 1602, 1603, 1604, 1623, 1624, 1625, 1626, 1627, 1628, 1629, 1630, 1605, 1606, 1607, 1631, 1632, 1633, 1634, 1635, 1636, 1637, 1638, 1639, 1640, 1641, 1642, 1643, 1644] (by decide +kernel) (by decide +kernel)) (goodIn_sub (fun _ h => List.mem_append_left _ (List.mem_append_left _ (List.mem_append_left _ (List.mem_append_left _ (List.mem_append_left _ (List.mem_append_left _ (List.mem_append_right _ h))))))) (by decide +kernel))) (goodIn_sub (fun _ h => List.mem_append_left _ (List.mem_append_left _ (List.mem_append_left _ (List.mem_append_left _ (List.mem_append_left _ (List.mem_append_right _ h)))))) (by decide +kernel))) (goodIn_sub (fun _ h => List.mem_append_left _ (List.mem_append_left _ (List.mem_append_left _ (List.mem_append_left _ (List.mem_append_right _ h))))) (by decide +kernel))) (goodIn_sub (fun _ h => List.mem_append_left _ (List.mem_append_left _ (List.mem_append_left _ (List.mem_append_right _ h)))) (by decide +kernel))
set_option maxRecDepth 20000 in
theorem gL_law_L_setShares : GoodIn wsL_law (va_wsS RL 181 yL_setShares wsL_setShares) := goodIn_app (goodIn_of _ (by decide +kernel)) ggL_law_L_setShares
set_option maxRecDepth 20000 in
theorem ggL_law_X12_setShares : GoodIn wsL_law wsX12_setShares := goodIn_ca (goodIn_r _ [323, 225, 226, 227, 5, 228, 147, 148, 229, 230, 231, 324, 325, 326, 327, 300, 301, 302, 303, 236, 237, 238, 239, 240, 241, 242, 243, 244, 245, 246, 247, 248, 249, 250, 251, 252, 149, 1586, 1587, 1588, 1589, 1590, 1591, 1592, 1593, 1594, 1595, 1596, 1597, 1598, 1599, 1600, 1601] (by decide +kernel) (by decide +kernel)) (goodIn_sub (fun _ h => List.mem_append_left _ (List.mem_append_left _ (List.mem_append_left _ (List.mem_append_left _ (List.mem_append_left _ (List.mem_append_left _ (List.mem_append_right _ h))))))) (by decide +kernel))
set_option maxRecDepth 20000 in
theorem gL_law_X12_setShares : GoodIn wsL_law (wsV RL 183 RX12 yX12_setShares wsX12_setShares) := goodIn_app (goodIn_of _ (by decide +kernel)) ggL_law_X12_setShares
set_option maxRecDepth 20000 in
theorem ggL_law_L_setBrightness : GoodIn wsL_law wsL_setBrightness := goodIn_ca (goodIn_ca (goodIn_ca (goodIn_ca (goodIn_r _ [330, 260, 331, 332, 333, 2, 334, 17, 24, 165, 335, 316, 317, 318, 16, 319, 52, 269, 173, 170, 272, 273, 274, 51, 275, 64, 174, 175, 176, 177, 178, 179, 180, 181, 182, 183, 184, 185, 186, 187, 188, 189, 190, 23, 191, 100, 98, 97, 192, 193, 194, 195, 196, 197, 198, 199, 56, 60, 200, 201, 202, 203, 65, 204, 205, 206, 207, 66, 67, 69, 70, 71, 72, 208, 209, 210, 55, 211, 76, 77, 212, 78, 79, 213, 214, 215, 59, 216, 83, 84, 85, 86, 87, 88, 89, 90, 91, 92, 1573, 1574, 1575, 1576, 1577, 1578, 1579, 1580, 1581, 1582, 1583, 1584, 1585, 1602, 1603, 1604, 1623, 1624, 1625, 1626, 1627, 1628, 1629, 1630, 1605, 1606, 1607, 1631, 1632, 1633, 1634, 1635, 1636, 1637, 1638, 1639, 1640, 1641, 1642, 1643, 1644] (by decide +kernel) (by decide +kernel)) (goodIn_sub (fun _ h => List.mem_append_left _ (List.mem_append_left _ (List.mem_append_left _ (List.mem_append_left _ (List.mem_append_left _ (List.mem_append_left _ (List.mem_append_right _ h))))))) (by decide +kernel))) (goodIn_sub (fun _ h => List.mem_append_left _ (List.mem_append_left _ (List.mem_append_left _ (List.mem_append_left _ (List.mem_append_left _ (List.mem_append_right _ h)))))) (by decide +kernel))) (goodIn_sub (fun _ h => List.mem_append_left _ (List.mem_append_left _ (List.mem_append_left _ (List.mem_append_left _ (List.mem_append_right _ h))))) (by decide +kernel))) (goodIn_sub (fun _ h => List.mem_append_left _ (List.mem_append_left _ (List.mem_append_left _ (List.mem_append_right _ h)))) (by decide +kernel))
set_option maxRecDepth 20000 in
theorem gL_law_L_setBrightness : GoodIn wsL_law (va_wsS RL 184 yL_setBrightness wsL_setBrightness) := goodIn_app (goodIn_of _ (by decide +kernel)) ggL_law_L_setBrightness
set_option maxRecDepth 20000 in
theorem ggL_law_X12_setBrightness : GoodIn wsL_law wsX12_setBrightness := goodIn_ca (goodIn_r _ [339, 225, 226, 227, 5, 228, 147, 148, 229, 230, 231, 324, 325, 326, 327, 300, 301, 302, 303, 236, 237, 238, 239, 240, 241, 242, 243, 244, 245, 246, 247, 248, 249, 250, 251, 252, 149, 1586, 1587, 1588, 1589, 1590, 1591, 1592, 1593, 1594, 1595, 1596, 1597, 1598, 1599, 1600, 1601] (by decide +kernel) (by decide +kernel)) (goodIn_sub (fun _ h => List.mem_append_left _ (List.mem_append_left _ (List.mem_append_left _ (List.mem_append_left _ (List.mem_append_left _ (List.mem_append_left _ (List.mem_append_right _ h))))))) (by decide +kernel))
set_option maxRecDepth 20000 in
theorem gL_law_X12_setBrightness : GoodIn wsL_law (wsV RL 186 RX12 yX12_setBrightness wsX12_setBrightness) := goodIn_app (goodIn_of _ (by decide +kernel)) ggL_law_X12_setBrightness
set_option maxRecDepth 20000 in
theorem ggL_law_L_switchOn : GoodIn wsL_law wsL_switchOn := goodIn_ca (goodIn_ca (goodIn_r _ [342, 260, 343, 344, 345, 2, 346, 24, 17, 165, 347, 348, 349, 350, 351, 179, 180, 352, 273, 274, 51, 275, 64, 188, 189, 190, 23, 191, 100, 98, 97, 192, 193, 194, 195, 196, 197, 198, 16, 199, 52, 56, 60, 200, 201, 202, 203, 65, 204, 205, 206, 207, 66, 67, 69, 70, 71, 72, 208, 209, 210, 55, 211, 76, 77, 212, 78, 79, 213, 214, 215, 59, 216, 83, 84, 85, 86, 87, 88, 89, 90, 91, 92, 1573, 1574, 1575, 1576, 1577, 1578, 1579, 1580, 1581, 1582, 1583, 1584, 1585, 1602, 1603, 1604, 1623, 1624, 1625, 1626, 1627, 1628, 1629, 1630, 1605, 1606, 1607, 1631, 1632, 1633, 1634, 1635, 1636, 1637, 1638, 1639, 1640, 1641, 1642, 1643, 1644] (by decide +kernel) (by decide +kernel)) (goodIn_sub (fun _ h => List.mem_append_left _ (List.mem_append_left _ (List.mem_append_left _ (List.mem_append_left _ (List.mem_append_left _ (List.mem_append_left _ (List.mem_append_right _ h))))))) (by decide +kernel))) (goodIn_sub (fun _ h => List.mem_append_left _ (List.mem_append_left _ (List.mem_append_left _ (List.mem_append_left _ (List.mem_append_left _ (List.mem_append_right _ h)))))) (by decide +kernel))
set_option maxRecDepth 20000 in
theorem gL_law_L_switchOn : GoodIn wsL_law (va_wsS RL 187 yL_switchOn wsL_switchOn) := goodIn_app (goodIn_of _ (by decide +kernel)) ggL_law_L_switchOn
set_option maxRecDepth 20000 in
theorem ggL_law_X12_switchOn : GoodIn wsL_law wsX12_switchOn := goodIn_ca (goodIn_r _ [356, 225, 226, 227, 5, 228, 147, 148, 229, 230, 231, 357, 358, 359, 360, 300, 301, 302, 303, 236, 237, 238, 239, 240, 241, 242, 243, 244, 245, 246, 247, 248, 249, 250, 251, 252, 149, 1586, 1587, 1588, 1589, 1590, 1591, 1592, 1593, 1594, 1595, 1596, 1597, 1598, 1599, 1600, 1601] (by decide +kernel) (by decide +kernel)) (goodIn_sub (fun _ h => List.mem_append_left _ (List.mem_append_left _ (List.mem_append_left _ (List.mem_append_left _ (List.mem_append_left _ (List.mem_append_left _ (List.mem_append_right _ h))))))) (by decide +kernel))
set_option maxRecDepth 20000 in
theorem gL_law_X12_switchOn : GoodIn wsL_law (wsV RL 189 RX12 yX12_switchOn wsX12_switchOn) := goodIn_app (goodIn_of _ (by decide +kernel)) ggL_law_X12_switchOn
set_option maxRecDepth 20000 in
theorem ggL_law_L_switchOff : GoodIn wsL_law wsL_switchOff := goodIn_ca (goodIn_ca (goodIn_r _ [363, 260, 364, 365, 366, 2, 367, 24, 17, 165, 347, 348, 349, 350, 351, 179, 180, 352, 273, 274, 51, 275, 64, 188, 189, 190, 23, 191, 100, 98, 97, 192, 193, 194, 195, 196, 197, 198, 16, 199, 52, 56, 60, 200, 201, 202, 203, 65, 204, 205, 206, 207, 66, 67, 69, 70, 71, 72, 208, 209, 210, 55, 211, 76, 77, 212, 78, 79, 213, 214, 215, 59, 216, 83, 84, 85, 86, 87, 88, 89, 90, 91, 92, 1573, 1574, 1575, 1576, 1577, 1578, 1579, 1580, 1581, 1582, 1583, 1584, 1585, 1602, 1603, 1604, 1623, 1624, 1625, 1626, 1627, 1628, 1629, 1630, 1605, 1606, 1607, 1631, 1632, 1633, 1634, 1635, 1636, 1637, 1638, 1639, 1640, 1641, 1642, 1643, 1644] (by decide +kernel) (by decide +kernel)) (goodIn_sub (fun _ h => List.mem_append_left _ (List.mem_append_left _ (List.mem_append_left _ (List.mem_append_left _ (List.mem_append_left _ (List.mem_append_left _ (List.mem_append_right _ h))))))) (by decide +kernel))) (goodIn_sub (fun _ h => List.mem_append_left _ (List.mem_append_left _ (List.mem_append_left _ (List.mem_append_left _ (List.mem_append_left _ (List.mem_append_right _ h)))))) (by decide +kernel))
set_option maxRecDepth 20000 in
theorem gL_law_L_switchOff : GoodIn wsL_law (va_wsS RL 190 yL_switchOff wsL_switchOff) := goodIn_app (goodIn_of _ (by decide +kernel)) ggL_law_L_switchOff
set_option maxRecDepth 20000 in
theorem ggL_law_X12_switchOff : GoodIn wsL_law wsX12_switchOff := goodIn_ca (goodIn_r _ [371, 225, 226, 227, 5, 228, 147, 148, 229, 230, 231, 357, 358, 359, 360, 300, 301, 302, 303, 236, 237, 238, 239, 240, 241, 242, 243, 244, 245, 246, 247, 248, 249, 250, 251, 252, 149, 1586, 1587, 1588, 1589, 1590, 1591, 1592, 1593, 1594, 1595, 1596, 1597, 1598, 1599, 1600, 1601] (by decide +kernel) (by decide +kernel)) (goodIn_sub (fun _ h => List.mem_append_left _ (List.mem_append_left _ (List.mem_append_left _ (List.mem_append_left _ (List.mem_append_left _ (List.mem_append_left _ (List.mem_append_right _ h))))))) (by decide +kernel))
set_option maxRecDepth 20000 in
theorem gL_law_X12_switchOff : GoodIn wsL_law (wsV RL 192 RX12 yX12_switchOff wsX12_switchOff) := goodIn_app (goodIn_of _ (by decide +kernel)) ggL_law_X12_switchOff
set_option maxRecDepth 20000 in
theorem ggL_law_X11_lampCount : GoodIn wsL_law wsX11_lampCount := goodIn_r _ [375, 17, 165, 376, 1573, 1574, 1575, 1576, 1577, 1578, 1579, 1580, 1581, 1582, 1583, 1584, 1585, 1602, 1603, 1604, 1623, 1624, 1625, 1626, 1627, 1628, 1629, 1630] (by decide +kernel) (by decide +kernel)
set_option maxRecDepth 20000 in
theorem gL_law_X11_lampCount : GoodIn wsL_law (wsV RL 193 RX11 yX11_lampCount wsX11_lampCount) := goodIn_app (goodIn_of _ (by decide +kernel)) ggL_law_X11_lampCount
set_option maxRecDepth 20000 in
theorem ggL_law_X12_lampCount : GoodIn wsL_law wsX12_lampCount := goodIn_ca (goodIn_r _ [380, 147, 244, 245, 246, 5, 247, 243, 1586, 1587, 1588, 1589, 1590, 1591, 1592, 1593, 1594, 1595, 1596, 1597, 1598, 1599, 1600, 1601] (by decide +kernel) (by decide +kernel)) (goodIn_sub (fun _ h => List.mem_append_left _ (List.mem_append_left _ (List.mem_append_left _ (List.mem_append_left _ (List.mem_append_left _ (List.mem_append_left _ (List.mem_append_right _ h))))))) (by decide +kernel))
set_option maxRecDepth 20000 in
theorem gL_law_X12_lampCount : GoodIn wsL_law (wsV RL 196 RX12 yX12_lampCount wsX12_lampCount) := goodIn_app (goodIn_of _ (by decide +kernel)) ggL_law_X12_lampCount
set_option maxRecDepth 20000 in
theorem ggL_law_L_streetOf : GoodIn wsL_law wsL_streetOf := goodIn_ca (goodIn_ca (goodIn_r _ [383, 260, 384, 385, 386, 2, 387, 17, 165, 388, 348, 349, 350, 351, 179, 180, 352, 273, 274, 51, 275, 64, 1573, 1574, 1575, 1576, 1577, 1578, 1579, 1580, 1581, 1582, 1583, 1584, 1585, 1602, 1603, 1604, 1623, 1624, 1625, 1626, 1627, 1628, 1629, 1630] (by decide +kernel) (by decide +kernel)) (goodIn_sub (fun _ h => List.mem_append_left _ (List.mem_append_left _ (List.mem_append_left _ (List.mem_append_left _ (List.mem_append_left _ (List.mem_append_left _ (List.mem_append_right _ h))))))) (by decide +kernel))) (goodIn_sub (fun _ h => List.mem_append_left _ (List.mem_append_left _ (List.mem_append_left _ (List.mem_append_left _ (List.mem_append_left _ (List.mem_append_right _ h)))))) (by decide +kernel))
set_option maxRecDepth 20000 in
theorem gL_law_L_streetOf : GoodIn wsL_law (va_wsS RL 197 yL_streetOf wsL_streetOf) := goodIn_app (goodIn_of _ (by decide +kernel)) ggL_law_L_streetOf
set_option maxRecDepth 20000 in
theorem ggL_law_X12_streetOf : GoodIn wsL_law wsX12_streetOf := goodIn_ca (goodIn_r _ [392, 393, 394, 395, 5, 396, 147, 300, 301, 302, 303, 236, 237, 238, 244, 245, 246, 247, 243, 239, 240, 241, 242, 1586, 1587, 1588, 1589, 1590, 1591, 1592, 1593, 1594, 1595, 1596, 1597, 1598, 1599, 1600, 1601] (by decide +kernel) (by decide +kernel)) (goodIn_sub (fun _ h => List.mem_append_left _ (List.mem_append_left _ (List.mem_append_left _ (List.mem_append_left _ (List.mem_append_left _ (List.mem_append_left _ (List.mem_append_right _ h))))))) (by decide +kernel))
set_option maxRecDepth 20000 in
theorem gL_law_X12_streetOf : GoodIn wsL_law (wsV RL 199 RX12 yX12_streetOf wsX12_streetOf) := goodIn_app (goodIn_of _ (by decide +kernel)) ggL_law_X12_streetOf
set_option maxRecDepth 20000 in
theorem ggL_law_L_sharesOf : GoodIn wsL_law wsL_sharesOf := goodIn_ca (goodIn_ca (goodIn_r _ [399, 260, 400, 401, 402, 2, 403, 17, 165, 315, 348, 349, 350, 351, 179, 180, 352, 273, 274, 51, 275, 64, 1573, 1574, 1575, 1576, 1577, 1578, 1579, 1580, 1581, 1582, 1583, 1584, 1585, 1602, 1603, 1604, 1623, 1624, 1625, 1626, 1627, 1628, 1629, 1630] (by decide +kernel) (by decide +kernel)) (goodIn_sub (fun _ h => List.mem_append_left _ (List.mem_append_left _ (List.mem_append_left _ (List.mem_append_left _ (List.mem_append_left _ (List.mem_append_left _ (List.mem_append_right _ h))))))) (by decide +kernel))) (goodIn_sub (fun _ h => List.mem_append_left _ (List.mem_append_left _ (List.mem_append_left _ (List.mem_append_left _ (List.mem_append_left _ (List.mem_append_right _ h)))))) (by decide +kernel))
set_option maxRecDepth 20000 in
theorem gL_law_L_sharesOf : GoodIn wsL_law (va_wsS RL 200 yL_sharesOf wsL_sharesOf) := goodIn_app (goodIn_of _ (by decide +kernel)) ggL_law_L_sharesOf
set_option maxRecDepth 20000 in
theorem ggL_law_X12_sharesOf : GoodIn wsL_law wsX12_sharesOf := goodIn_ca (goodIn_r _ [407, 393, 394, 395, 5, 396, 147, 300, 301, 302, 303, 236, 237, 238, 244, 245, 246, 247, 243, 239, 240, 241, 242, 1586, 1587, 1588, 1589, 1590, 1591, 1592, 1593, 1594, 1595, 1596, 1597, 1598, 1599, 1600, 1601] (by decide +kernel) (by decide +kernel)) (goodIn_sub (fun _ h => List.mem_append_left _ (List.mem_append_left _ (List.mem_append_left _ (List.mem_append_left _ (List.mem_append_left _ (List.mem_append_left _ (List.mem_append_right _ h))))))) (by decide +kernel))
set_option maxRecDepth 20000 in
theorem gL_law_X12_sharesOf : GoodIn wsL_law (wsV RL 202 RX12 yX12_sharesOf wsX12_sharesOf) := goodIn_app (goodIn_of _ (by decide +kernel)) ggL_law_X12_sharesOf
set_option maxRecDepth 20000 in
theorem ggL_law_L_brightnessOf : GoodIn wsL_law wsL_brightnessOf := goodIn_ca (goodIn_ca (goodIn_r _ [410, 260, 411, 412, 413, 2, 414, 17, 165, 335, 348, 349, 350, 351, 179, 180, 352, 273, 274, 51, 275, 64, 1573, 1574, 1575, 1576, 1577, 1578, 1579, 1580, 1581, 1582, 1583, 1584, 1585, 1602, 1603, 1604, 1623, 1624, 1625, 1626, 1627, 1628, 1629, 1630] (by decide +kernel) (by decide +kernel)) (goodIn_sub (fun _ h => List.mem_append_left _ (List.mem_append_left _ (List.mem_append_left _ (List.mem_append_left _ (List.mem_append_left _ (List.mem_append_left _ (List.mem_append_right _ h))))))) (by decide +kernel))) (goodIn_sub (fun _ h => List.mem_append_left _ (List.mem_append_left _ (List.mem_append_left _ (List.mem_append_left _ (List.mem_append_left _ (List.mem_append_right _ h)))))) (by decide +kernel))
set_option maxRecDepth 20000 in
theorem gL_law_L_brightnessOf : GoodIn wsL_law (va_wsS RL 203 yL_brightnessOf wsL_brightnessOf) := goodIn_app (goodIn_of _ (by decide +kernel)) ggL_law_L_brightnessOf
set_option maxRecDepth 20000 in
theorem ggL_law_X12_brightnessOf : GoodIn wsL_law wsX12_brightnessOf := goodIn_ca (goodIn_r _ [418, 393, 394, 395, 5, 396, 147, 300, 301, 302, 303, 236, 237, 238, 244, 245, 246, 247, 243, 239, 240, 241, 242, 1586, 1587, 1588, 1589, 1590, 1591, 1592, 1593, 1594, 1595, 1596, 1597, 1598, 1599, 1600, 1601] (by decide +kernel) (by decide +kernel)) (goodIn_sub (fun _ h => List.mem_append_left _ (List.mem_append_left _ (List.mem_append_left _ (List.mem_append_left _ (List.mem_append_left _ (List.mem_append_left _ (List.mem_append_right _ h))))))) (by decide +kernel))
set_option maxRecDepth 20000 in
theorem gL_law_X12_brightnessOf : GoodIn wsL_law (wsV RL 205 RX12 yX12_brightnessOf wsX12_brightnessOf) := goodIn_app (goodIn_of _ (by decide +kernel)) ggL_law_X12_brightnessOf
set_option maxRecDepth 20000 in
theorem ggL_law_L_isOn : GoodIn wsL_law wsL_isOn := goodIn_ca (goodIn_ca (goodIn_r _ [421, 260, 422, 423, 424, 2, 425, 17, 165, 347, 348, 349, 350, 351, 179, 180, 352, 273, 274, 51, 275, 64, 1573, 1574, 1575, 1576, 1577, 1578, 1579, 1580, 1581, 1582, 1583, 1584, 1585, 1602, 1603, 1604, 1623, 1624, 1625, 1626, 1627, 1628, 1629, 1630] (by decide +kernel) (by decide +kernel)) (goodIn_sub (fun _ h => List.mem_append_left _ (List.mem_append_left _ (List.mem_append_left _ (List.mem_append_left _ (List.mem_append_left _ (List.mem_append_left _ (List.mem_append_right _ h))))))) (by decide +kernel))) (goodIn_sub (fun _ h => List.mem_append_left _ (List.mem_append_left _ (List.mem_append_left _ (List.mem_append_left _ (List.mem_append_left _ (List.mem_append_right _ h)))))) (by decide +kernel))
set_option maxRecDepth 20000 in
theorem gL_law_L_isOn : GoodIn wsL_law (va_wsS RL 206 yL_isOn wsL_isOn) := goodIn_app (goodIn_of _ (by decide +kernel)) ggL_law_L_isOn
set_option maxRecDepth 20000 in
theorem ggL_law_X12_isOn : GoodIn wsL_law wsX12_isOn := goodIn_ca (goodIn_r _ [429, 243, 393, 394, 395, 5, 396, 147, 300, 301, 302, 303, 236, 237, 238, 244, 245, 246, 247, 239, 240, 241, 242, 1586, 1587, 1588, 1589, 1590, 1591, 1592, 1593, 1594, 1595, 1596, 1597, 1598, 1599, 1600, 1601] (by decide +kernel) (by decide +kernel)) (goodIn_sub (fun _ h => List.mem_append_left _ (List.mem_append_left _ (List.mem_append_left _ (List.mem_append_left _ (List.mem_append_left _ (List.mem_append_left _ (List.mem_append_right _ h))))))) (by decide +kernel))
set_option maxRecDepth 20000 in
theorem gL_law_X12_isOn : GoodIn wsL_law (wsV RL 208 RX12 yX12_isOn wsX12_isOn) := goodIn_app (goodIn_of _ (by decide +kernel)) ggL_law_X12_isOn
set_option maxRecDepth 20000 in
theorem ggL_law_L_oilOf : GoodIn wsL_law wsL_oilOf := goodIn_ca (goodIn_ca (goodIn_r _ [432, 260, 433, 434, 435, 2, 436, 17, 165, 437, 348, 349, 350, 351, 179, 180, 352, 273, 274, 51, 275, 64, 1573, 1574, 1575, 1576, 1577, 1578, 1579, 1580, 1581, 1582, 1583, 1584, 1585, 1602, 1603, 1604, 1623, 1624, 1625, 1626, 1627, 1628, 1629, 1630] (by decide +kernel) (by decide +kernel)) (goodIn_sub (fun _ h => List.mem_append_left _ (List.mem_append_left _ (List.mem_append_left _ (List.mem_append_left _ (List.mem_append_left _ (List.mem_append_left _ (List.mem_append_right _ h))))))) (by decide +kernel))) (goodIn_sub (fun _ h => List.mem_append_left _ (List.mem_append_left _ (List.mem_append_left _ (List.mem_append_left _ (List.mem_append_left _ (List.mem_append_right _ h)))))) (by decide +kernel))
set_option maxRecDepth 20000 in
theorem gL_law_L_oilOf : GoodIn wsL_law (va_wsS RL 209 yL_oilOf wsL_oilOf) := goodIn_app (goodIn_of _ (by decide +kernel)) ggL_law_L_oilOf
