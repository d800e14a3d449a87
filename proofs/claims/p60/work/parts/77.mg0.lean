set_option maxRecDepth 20000 in
theorem ggL_lamps_X11_lampCount : GoodIn wsL_lamps wsX11_lampCount := goodIn_r _ [7, 8, 9, 10, 58, 59, 60, 61, 62, 63, 64, 65, 66, 67, 68, 69, 70, 71, 72, 73, 74, 75, 76, 77, 78, 79, 80, 81] (by decide +kernel) (by decide +kernel)
set_option maxRecDepth 20000 in
theorem gL_lamps_X11_lampCount : GoodIn wsL_lamps (wsV RL 34 RX11 yX11_lampCount wsX11_lampCount) := goodIn_app (goodIn_of _ (by decide +kernel)) ggL_lamps_X11_lampCount
set_option maxRecDepth 20000 in
theorem ggL_lamps_X11_streetOf : GoodIn wsL_lamps wsX11_streetOf := goodIn_ca (goodIn_ca (goodIn_r _ [14, 8, 9, 15, 16, 17, 18, 6, 19, 20, 21, 22, 23, 24, 25, 26, 27, 58, 59, 60, 61, 62, 63, 64, 65, 66, 67, 68, 69, 70, 71, 72, 73, 74, 75, 76, 77, 78, 79, 80, 81] (by decide +kernel) (by decide +kernel)) (goodIn_sub (fun _ h => List.mem_cons_of_mem _ (List.mem_append_left _ (List.mem_append_right _ h))) (by decide +kernel))) (goodIn_sub (fun _ h => List.mem_cons_of_mem _ (List.mem_append_right _ h)) (by decide +kernel))
set_option maxRecDepth 20000 in
theorem gL_lamps_X11_streetOf : GoodIn wsL_lamps (wsV RL 104 RX11 yX11_streetOf wsX11_streetOf) := goodIn_app (goodIn_of _ (by decide +kernel)) ggL_lamps_X11_streetOf
set_option maxRecDepth 20000 in
theorem ggL_lamps_X11_sharesOf : GoodIn wsL_lamps wsX11_sharesOf := goodIn_ca (goodIn_ca (goodIn_r _ [31, 8, 9, 32, 16, 17, 18, 6, 19, 20, 21, 22, 23, 24, 25, 26, 27, 58, 59, 60, 61, 62, 63, 64, 65, 66, 67, 68, 69, 70, 71, 72, 73, 74, 75, 76, 77, 78, 79, 80, 81] (by decide +kernel) (by decide +kernel)) (goodIn_sub (fun _ h => List.mem_cons_of_mem _ (List.mem_append_left _ (List.mem_append_right _ h))) (by decide +kernel))) (goodIn_sub (fun _ h => List.mem_cons_of_mem _ (List.mem_append_right _ h)) (by decide +kernel))
set_option maxRecDepth 20000 in
theorem gL_lamps_X11_sharesOf : GoodIn wsL_lamps (wsV RL 107 RX11 yX11_sharesOf wsX11_sharesOf) := goodIn_app (goodIn_of _ (by decide +kernel)) ggL_lamps_X11_sharesOf
set_option maxRecDepth 20000 in
theorem ggL_lamps_X11_brightnessOf : GoodIn wsL_lamps wsX11_brightnessOf := goodIn_ca (goodIn_ca (goodIn_r _ [36, 8, 9, 37, 16, 17, 18, 6, 19, 20, 21, 22, 23, 24, 25, 26, 27, 58, 59, 60, 61, 62, 63, 64, 65, 66, 67, 68, 69, 70, 71, 72, 73, 74, 75, 76, 77, 78, 79, 80, 81] (by decide +kernel) (by decide +kernel)) (goodIn_sub (fun _ h => List.mem_cons_of_mem _ (List.mem_append_left _ (List.mem_append_right _ h))) (by decide +kernel))) (goodIn_sub (fun _ h => List.mem_cons_of_mem _ (List.mem_append_right _ h)) (by decide +kernel))
set_option maxRecDepth 20000 in
theorem gL_lamps_X11_brightnessOf : GoodIn wsL_lamps (wsV RL 110 RX11 yX11_brightnessOf wsX11_brightnessOf) := goodIn_app (goodIn_of _ (by decide +kernel)) ggL_lamps_X11_brightnessOf
set_option maxRecDepth 20000 in
theorem ggL_lamps_X11_isOn : GoodIn wsL_lamps wsX11_isOn := goodIn_ca (goodIn_ca (goodIn_r _ [41, 8, 9, 42, 16, 17, 18, 6, 19, 20, 21, 22, 23, 24, 25, 26, 27, 58, 59, 60, 61, 62, 63, 64, 65, 66, 67, 68, 69, 70, 71, 72, 73, 74, 75, 76, 77, 78, 79, 80, 81] (by decide +kernel) (by decide +kernel)) (goodIn_sub (fun _ h => List.mem_cons_of_mem _ (List.mem_append_left _ (List.mem_append_right _ h))) (by decide +kernel))) (goodIn_sub (fun _ h => List.mem_cons_of_mem _ (List.mem_append_right _ h)) (by decide +kernel))
set_option maxRecDepth 20000 in
theorem gL_lamps_X11_isOn : GoodIn wsL_lamps (wsV RL 113 RX11 yX11_isOn wsX11_isOn) := goodIn_app (goodIn_of _ (by decide +kernel)) ggL_lamps_X11_isOn
set_option maxRecDepth 20000 in
theorem ggL_lamps_X11_oilOf : GoodIn wsL_lamps wsX11_oilOf := goodIn_ca (goodIn_ca (goodIn_r _ [46, 8, 9, 47, 16, 17, 18, 6, 19, 20, 21, 22, 23, 24, 25, 26, 27, 58, 59, 60, 61, 62, 63, 64, 65, 66, 67, 68, 69, 70, 71, 72, 73, 74, 75, 76, 77, 78, 79, 80, 81] (by decide +kernel) (by decide +kernel)) (goodIn_sub (fun _ h => List.mem_cons_of_mem _ (List.mem_append_left _ (List.mem_append_right _ h))) (by decide +kernel))) (goodIn_sub (fun _ h => List.mem_cons_of_mem _ (List.mem_append_right _ h)) (by decide +kernel))
set_option maxRecDepth 20000 in
theorem gL_lamps_X11_oilOf : GoodIn wsL_lamps (wsV RL 116 RX11 yX11_oilOf wsX11_oilOf) := goodIn_app (goodIn_of _ (by decide +kernel)) ggL_lamps_X11_oilOf
set_option maxRecDepth 20000 in
theorem ggL_lamps_X11_wickOf : GoodIn wsL_lamps wsX11_wickOf := goodIn_ca (goodIn_ca (goodIn_r _ [51, 8, 9, 52, 16, 17, 18, 6, 19, 20, 21, 22, 23, 24, 25, 26, 27, 58, 59, 60, 61, 62, 63, 64, 65, 66, 67, 68, 69, 70, 71, 72, 73, 74, 75, 76, 77, 78, 79, 80, 81] (by decide +kernel) (by decide +kernel)) (goodIn_sub (fun _ h => List.mem_cons_of_mem _ (List.mem_append_left _ (List.mem_append_right _ h))) (by decide +kernel))) (goodIn_sub (fun _ h => List.mem_cons_of_mem _ (List.mem_append_right _ h)) (by decide +kernel))
set_option maxRecDepth 20000 in
theorem gL_lamps_X11_wickOf : GoodIn wsL_lamps (wsV RL 119 RX11 yX11_wickOf wsX11_wickOf) := goodIn_app (goodIn_of _ (by decide +kernel)) ggL_lamps_X11_wickOf
set_option maxRecDepth 20000 in
theorem ggL_lamps_X11_balanceOf : GoodIn wsL_lamps wsX11_balanceOf := goodIn_ca (goodIn_ca (goodIn_r _ [56, 8, 9, 57, 16, 17, 18, 6, 19, 20, 21, 22, 23, 24, 25, 26, 27, 58, 59, 60, 61, 62, 63, 64, 65, 66, 67, 68, 69, 70, 71, 72, 73, 74, 75, 76, 77, 78, 79, 80, 81] (by decide +kernel) (by decide +kernel)) (goodIn_sub (fun _ h => List.mem_cons_of_mem _ (List.mem_append_left _ (List.mem_append_right _ h))) (by decide +kernel))) (goodIn_sub (fun _ h => List.mem_cons_of_mem _ (List.mem_append_right _ h)) (by decide +kernel))
set_option maxRecDepth 20000 in
theorem gL_lamps_X11_balanceOf : GoodIn wsL_lamps (wsV RL 122 RX11 yX11_balanceOf wsX11_balanceOf) := goodIn_app (goodIn_of _ (by decide +kernel)) ggL_lamps_X11_balanceOf
set_option maxRecDepth 20000 in
theorem ggL_moths_X11_mothCount : GoodIn wsL_moths wsX11_mothCount := goodIn_r _ [7, 8, 9, 10, 38, 39, 40, 41, 42, 43, 44, 45, 46, 47, 48, 49, 50, 51, 52, 53, 54, 55, 56, 57] (by decide +kernel) (by decide +kernel)
set_option maxRecDepth 20000 in
theorem gL_moths_X11_mothCount : GoodIn wsL_moths (wsV RL 43 RX11 yX11_mothCount wsX11_mothCount) := goodIn_app (goodIn_of _ (by decide +kernel)) ggL_moths_X11_mothCount
set_option maxRecDepth 20000 in
theorem ggL_moths_X11_lampOfMoth : GoodIn wsL_moths wsX11_lampOfMoth := goodIn_ca (goodIn_ca (goodIn_r _ [14, 8, 9, 15, 16, 17, 18, 6, 19, 20, 21, 22, 23, 24, 25, 26, 27, 38, 39, 40, 41, 42, 43, 44, 45, 46, 47, 48, 49, 50, 51, 52, 53, 54, 55, 56, 57] (by decide +kernel) (by decide +kernel)) (goodIn_sub (fun _ h => List.mem_cons_of_mem _ (List.mem_append_left _ (List.mem_append_right _ h))) (by decide +kernel))) (goodIn_sub (fun _ h => List.mem_cons_of_mem _ (List.mem_append_right _ h)) (by decide +kernel))
set_option maxRecDepth 20000 in
theorem gL_moths_X11_lampOfMoth : GoodIn wsL_moths (wsV RL 125 RX11 yX11_lampOfMoth wsX11_lampOfMoth) := goodIn_app (goodIn_of _ (by decide +kernel)) ggL_moths_X11_lampOfMoth
set_option maxRecDepth 20000 in
theorem ggL_moths_X11_strikesOf : GoodIn wsL_moths wsX11_strikesOf := goodIn_ca (goodIn_ca (goodIn_r _ [31, 8, 9, 32, 16, 17, 18, 6, 19, 20, 21, 22, 23, 24, 25, 26, 27, 38, 39, 40, 41, 42, 43, 44, 45, 46, 47, 48, 49, 50, 51, 52, 53, 54, 55, 56, 57] (by decide +kernel) (by decide +kernel)) (goodIn_sub (fun _ h => List.mem_cons_of_mem _ (List.mem_append_left _ (List.mem_append_right _ h))) (by decide +kernel))) (goodIn_sub (fun _ h => List.mem_cons_of_mem _ (List.mem_append_right _ h)) (by decide +kernel))
set_option maxRecDepth 20000 in
theorem gL_moths_X11_strikesOf : GoodIn wsL_moths (wsV RL 128 RX11 yX11_strikesOf wsX11_strikesOf) := goodIn_app (goodIn_of _ (by decide +kernel)) ggL_moths_X11_strikesOf
set_option maxRecDepth 20000 in
theorem ggL_moths_X11_probationOf : GoodIn wsL_moths wsX11_probationOf := goodIn_ca (goodIn_ca (goodIn_r _ [36, 8, 9, 37, 16, 17, 18, 6, 19, 20, 21, 22, 23, 24, 25, 26, 27, 38, 39, 40, 41, 42, 43, 44, 45, 46, 47, 48, 49, 50, 51, 52, 53, 54, 55, 56, 57] (by decide +kernel) (by decide +kernel)) (goodIn_sub (fun _ h => List.mem_cons_of_mem _ (List.mem_append_left _ (List.mem_append_right _ h))) (by decide +kernel))) (goodIn_sub (fun _ h => List.mem_cons_of_mem _ (List.mem_append_right _ h)) (by decide +kernel))
set_option maxRecDepth 20000 in
theorem gL_moths_X11_probationOf : GoodIn wsL_moths (wsV RL 131 RX11 yX11_probationOf wsX11_probationOf) := goodIn_app (goodIn_of _ (by decide +kernel)) ggL_moths_X11_probationOf
set_option maxRecDepth 20000 in
theorem ggL_state_X11_nightCount : GoodIn wsL_state wsX11_nightCount := goodIn_r _ [5, 6, 7, 8, 117, 118, 119, 120, 121, 122, 123, 124, 125, 126, 127, 128, 129, 130, 131, 132, 133, 134, 135, 136, 137, 138, 139, 140, 141, 142] (by decide +kernel) (by decide +kernel)
set_option maxRecDepth 20000 in
theorem gL_state_X11_nightCount : GoodIn wsL_state (wsV RL 134 RX11 yX11_nightCount wsX11_nightCount) := goodIn_app (goodIn_of _ (by decide +kernel)) ggL_state_X11_nightCount
set_option maxRecDepth 20000 in
theorem ggL_state_X11_reserve : GoodIn wsL_state wsX11_reserve := goodIn_r _ [12, 6, 7, 13, 117, 118, 119, 120, 121, 122, 123, 124, 125, 126, 127, 128, 129, 130, 131, 132, 133, 134, 135, 136, 137, 138, 139, 140, 141, 142] (by decide +kernel) (by decide +kernel)
set_option maxRecDepth 20000 in
theorem gL_state_X11_reserve : GoodIn wsL_state (wsV RL 137 RX11 yX11_reserve wsX11_reserve) := goodIn_app (goodIn_of _ (by decide +kernel)) ggL_state_X11_reserve
set_option maxRecDepth 20000 in
theorem ggL_state_X11_pool : GoodIn wsL_state wsX11_pool := goodIn_r _ [17, 6, 7, 18, 117, 118, 119, 120, 121, 122, 123, 124, 125, 126, 127, 128, 129, 130, 131, 132, 133, 134, 135, 136, 137, 138, 139, 140, 141, 142] (by decide +kernel) (by decide +kernel)
set_option maxRecDepth 20000 in
theorem gL_state_X11_pool : GoodIn wsL_state (wsV RL 140 RX11 yX11_pool wsX11_pool) := goodIn_app (goodIn_of _ (by decide +kernel)) ggL_state_X11_pool
set_option maxRecDepth 20000 in
theorem ggL_state_X11_treasury : GoodIn wsL_state wsX11_treasury := goodIn_r _ [22, 6, 7, 23, 117, 118, 119, 120, 121, 122, 123, 124, 125, 126, 127, 128, 129, 130, 131, 132, 133, 134, 135, 136, 137, 138, 139, 140, 141, 142] (by decide +kernel) (by decide +kernel)
set_option maxRecDepth 20000 in
theorem gL_state_X11_treasury : GoodIn wsL_state (wsV RL 143 RX11 yX11_treasury wsX11_treasury) := goodIn_app (goodIn_of _ (by decide +kernel)) ggL_state_X11_treasury
set_option maxRecDepth 20000 in
theorem ggL_state_L_lamps : GoodIn wsL_state wsL_lamps := goodIn_ca (goodIn_ca (goodIn_r _ [27, 28, 29, 30, 31, 32, 4, 33, 6, 34, 35, 36, 37, 38, 39, 40, 41, 42, 43, 44, 45, 46, 47, 48, 49, 50, 51, 52, 53, 54, 55, 56, 57, 58, 59, 60, 61, 62, 63, 64, 65, 66, 67, 68, 69, 70, 71, 72, 73, 74, 75, 76, 77, 78, 79, 80, 81, 82, 117, 118, 119, 120, 121, 122, 123, 124, 125, 126, 127, 128, 129, 130, 131, 132, 143, 144, 145, 146, 147, 148, 149, 150] (by decide +kernel) (by decide +kernel)) (goodIn_sub (fun _ h => List.mem_cons_of_mem _ (List.mem_append_left _ (List.mem_append_right _ h))) (by decide +kernel))) (goodIn_sub (fun _ h => List.mem_cons_of_mem _ (List.mem_append_right _ h)) (by decide +kernel))
set_option maxRecDepth 20000 in
theorem gL_state_L_lamps : GoodIn wsL_state (va_wsS RL 146 yL_lamps wsL_lamps) := goodIn_app (goodIn_of _ (by decide +kernel)) ggL_state_L_lamps
set_option maxRecDepth 20000 in
theorem ggL_state_L_moths : GoodIn wsL_state wsL_moths := goodIn_ca (goodIn_ca (goodIn_r _ [85, 28, 29, 86, 87, 88, 4, 89, 6, 90, 91, 92, 93, 94, 95, 96, 97, 98, 99, 100, 45, 46, 101, 102, 103, 104, 105, 106, 107, 108, 109, 110, 111, 112, 113, 114, 115, 116, 117, 118, 119, 120, 121, 122, 123, 124, 125, 126, 127, 128, 129, 130, 131, 132, 151, 152, 153, 154] (by decide +kernel) (by decide +kernel)) (goodIn_sub (fun _ h => List.mem_cons_of_mem _ (List.mem_append_left _ (List.mem_append_right _ h))) (by decide +kernel))) (goodIn_sub (fun _ h => List.mem_cons_of_mem _ (List.mem_append_right _ h)) (by decide +kernel))
set_option maxRecDepth 20000 in
theorem gL_state_L_moths : GoodIn wsL_state (va_wsS RL 150 yL_moths wsL_moths) := goodIn_app (goodIn_of _ (by decide +kernel)) ggL_state_L_moths
set_option maxRecDepth 20000 in
theorem ggL_state_X11_lampCount : GoodIn wsL_state wsX11_lampCount := goodIn_r _ [33, 6, 34, 35, 117, 118, 119, 120, 121, 122, 123, 124, 125, 126, 127, 128, 129, 130, 131, 132, 143, 144, 145, 146, 147, 148, 149, 150] (by decide +kernel) (by decide +kernel)
set_option maxRecDepth 20000 in
theorem gL_state_X11_lampCount : GoodIn wsL_state (wsV RL 34 RX11 yX11_lampCount wsX11_lampCount) := goodIn_app (goodIn_of _ (by decide +kernel)) ggL_state_X11_lampCount
