set_option maxRecDepth 20000 in
theorem ggX11_init_X9_init : GoodIn wsX11_init wsX9_init := goodIn_r _ [37, 38, 2, 3, 39, 40, 41, 42, 43, 44, 45, 46, 47, 48, 49, 50, 51, 52, 53, 54, 24, 55, 56, 57, 58, 59, 60, 61, 62, 63, 64, 65, 66, 67, 68, 69, 70, 71, 72, 73, 74, 75, 76, 77, 78, 79, 80, 81, 82, 167, 168, 169, 170, 171, 172, 173, 174, 133, 134, 135, 175, 176, 177, 178, 179, 180, 181, 182, 183, 184, 185, 186, 187, 188] (by decide +kernel) (by decide +kernel)
set_option maxRecDepth 20000 in
theorem gX11_init_X9_init_n9 : GoodIn wsX11_init (wsX9_init) := ggX11_init_X9_init
set_option maxRecDepth 20000 in
theorem ggX11_init_X4_init : GoodIn wsX11_init wsX4_init := goodIn_r _ [85, 86, 2, 3, 87, 88, 89, 90, 5, 6, 36, 37, 38, 39, 40, 41, 42, 43, 44, 45, 46, 47, 48, 49, 50, 51, 52, 53, 54, 24, 55, 56, 57, 58, 59, 60, 61, 62, 63, 64, 65, 66, 67, 68, 69, 70, 71, 72, 73, 74, 75, 76, 77, 78, 79, 80, 81, 82, 149, 150, 151, 133, 134, 135, 167, 168, 169, 170, 171, 172, 173, 174, 175, 176, 177, 178, 179, 180, 181, 182, 183, 184, 185, 186, 187, 188] (by decide +kernel) (by decide +kernel)
set_option maxRecDepth 20000 in
theorem gX11_init_X4_init : GoodIn wsX11_init (wsX4_init) := ggX11_init_X4_init
set_option maxRecDepth 20000 in
theorem ggX11_init_X7_init : GoodIn wsX11_init wsX7_init := goodIn_r _ [92, 93, 2, 3, 58, 94, 152] (by decide +kernel) (by decide +kernel)
set_option maxRecDepth 20000 in
theorem gX11_init_X7_init_n35 : GoodIn wsX11_init (wsX7_init) := ggX11_init_X7_init
set_option maxRecDepth 20000 in
theorem ggX11_init_X1_init : GoodIn wsX11_init wsX1_init := goodIn_r _ [96, 97, 2, 3, 24, 98, 99, 100, 153, 154, 155] (by decide +kernel) (by decide +kernel)
set_option maxRecDepth 20000 in
theorem gX11_init_X1_init_n42 : GoodIn wsX11_init (wsX1_init) := ggX11_init_X1_init
set_option maxRecDepth 20000 in
theorem ggX11_init_X3_init : GoodIn wsX11_init wsX3_init := goodIn_r _ [102, 103, 2, 3, 104, 105, 106, 107, 108, 109, 110, 24, 111, 112, 156, 157, 158, 159, 160, 161, 162] (by decide +kernel) (by decide +kernel)
set_option maxRecDepth 20000 in
theorem gX11_init_X3_init_n56 : GoodIn wsX11_init (wsX3_init) := ggX11_init_X3_init
set_option maxRecDepth 20000 in
theorem ggX11_init_J4_init_da8c8 : GoodIn wsX11_init wsJ4_init_da8c8 := goodIn_r _ [115, 116, 117, 118, 119, 120, 2, 3, 121, 122, 123, 124, 125, 126, 127, 128, 129, 130, 131, 132, 163, 164, 165, 166] (by decide +kernel) (by decide +kernel)
set_option maxRecDepth 20000 in
theorem gX11_init_J4_init_da8c8 : GoodIn wsX11_init (wsJ4_init_da8c8) := ggX11_init_J4_init_da8c8
theorem dX11_init_0 : decode cX11_init 0 = .ok (.aload_n 0, 1) := by decide +kernel
theorem dX11_init_1 : decode cX11_init 1 = .ok (.invokespecial 1, 3) := by decide +kernel
theorem dX11_init_4 : decode cX11_init 4 = .ok (.aload_n 0, 1) := by decide +kernel
theorem dX11_init_5 : decode cX11_init 5 = .ok (.new 7, 3) := by decide +kernel
theorem dX11_init_8 : decode cX11_init 8 = .ok (.dup, 1) := by decide +kernel
theorem dX11_init_9 : decode cX11_init 9 = .ok (.invokespecial 9, 3) := by decide +kernel
theorem dX11_init_12 : decode cX11_init 12 = .ok (.putfield 10, 3) := by decide +kernel
theorem dX11_init_15 : decode cX11_init 15 = .ok (.aload_n 0, 1) := by decide +kernel
theorem dX11_init_16 : decode cX11_init 16 = .ok (.new 7, 3) := by decide +kernel
theorem dX11_init_19 : decode cX11_init 19 = .ok (.dup, 1) := by decide +kernel
theorem dX11_init_20 : decode cX11_init 20 = .ok (.invokespecial 9, 3) := by decide +kernel
theorem dX11_init_23 : decode cX11_init 23 = .ok (.putfield 16, 3) := by decide +kernel
theorem dX11_init_26 : decode cX11_init 26 = .ok (.aload_n 0, 1) := by decide +kernel
theorem dX11_init_27 : decode cX11_init 27 = .ok (.new 7, 3) := by decide +kernel
theorem dX11_init_30 : decode cX11_init 30 = .ok (.dup, 1) := by decide +kernel
theorem dX11_init_31 : decode cX11_init 31 = .ok (.invokespecial 9, 3) := by decide +kernel
theorem dX11_init_34 : decode cX11_init 34 = .ok (.putfield 19, 3) := by decide +kernel
theorem dX11_init_37 : decode cX11_init 37 = .ok (.aload_n 0, 1) := by decide +kernel
theorem dX11_init_38 : decode cX11_init 38 = .ok (.iconst 0, 1) := by decide +kernel
theorem dX11_init_39 : decode cX11_init 39 = .ok (.putfield 22, 3) := by decide +kernel
theorem dX11_init_42 : decode cX11_init 42 = .ok (.aload_n 0, 1) := by decide +kernel
theorem dX11_init_43 : decode cX11_init 43 = .ok (.new 26, 3) := by decide +kernel
theorem dX11_init_46 : decode cX11_init 46 = .ok (.dup, 1) := by decide +kernel
theorem dX11_init_47 : decode cX11_init 47 = .ok (.invokespecial 28, 3) := by decide +kernel
theorem dX11_init_50 : decode cX11_init 50 = .ok (.putfield 29, 3) := by decide +kernel
theorem dX11_init_53 : decode cX11_init 53 = .ok (.aload_n 0, 1) := by decide +kernel
theorem dX11_init_54 : decode cX11_init 54 = .ok (.new 33, 3) := by decide +kernel
theorem dX11_init_57 : decode cX11_init 57 = .ok (.dup, 1) := by decide +kernel
theorem dX11_init_58 : decode cX11_init 58 = .ok (.invokespecial 35, 3) := by decide +kernel
theorem dX11_init_61 : decode cX11_init 61 = .ok (.putfield 36, 3) := by decide +kernel
theorem dX11_init_64 : decode cX11_init 64 = .ok (.aload_n 0, 1) := by decide +kernel
theorem dX11_init_65 : decode cX11_init 65 = .ok (.new 40, 3) := by decide +kernel
theorem dX11_init_68 : decode cX11_init 68 = .ok (.dup, 1) := by decide +kernel
theorem dX11_init_69 : decode cX11_init 69 = .ok (.invokespecial 42, 3) := by decide +kernel
theorem dX11_init_72 : decode cX11_init 72 = .ok (.putfield 43, 3) := by decide +kernel
theorem dX11_init_75 : decode cX11_init 75 = .ok (.aload_n 0, 1) := by decide +kernel
theorem dX11_init_76 : decode cX11_init 76 = .ok (.new 40, 3) := by decide +kernel
theorem dX11_init_79 : decode cX11_init 79 = .ok (.dup, 1) := by decide +kernel
theorem dX11_init_80 : decode cX11_init 80 = .ok (.invokespecial 42, 3) := by decide +kernel
theorem dX11_init_83 : decode cX11_init 83 = .ok (.putfield 47, 3) := by decide +kernel
theorem dX11_init_86 : decode cX11_init 86 = .ok (.aload_n 0, 1) := by decide +kernel
theorem dX11_init_87 : decode cX11_init 87 = .ok (.bipush 8, 2) := by decide +kernel
theorem dX11_init_89 : decode cX11_init 89 = .ok (.newarray .int, 2) := by decide +kernel
theorem dX11_init_91 : decode cX11_init 91 = .ok (.putfield 50, 3) := by decide +kernel
theorem dX11_init_94 : decode cX11_init 94 = .ok (.aload_n 0, 1) := by decide +kernel
theorem dX11_init_95 : decode cX11_init 95 = .ok (.new 54, 3) := by decide +kernel
theorem dX11_init_98 : decode cX11_init 98 = .ok (.dup, 1) := by decide +kernel
theorem dX11_init_99 : decode cX11_init 99 = .ok (.invokespecial 56, 3) := by decide +kernel
theorem dX11_init_102 : decode cX11_init 102 = .ok (.putfield 57, 3) := by decide +kernel
theorem dX11_init_105 : decode cX11_init 105 = .ok (.aload_n 0, 1) := by decide +kernel
theorem dX11_init_106 : decode cX11_init 106 = .ok (.new 61, 3) := by decide +kernel
theorem dX11_init_109 : decode cX11_init 109 = .ok (.dup, 1) := by decide +kernel
theorem dX11_init_110 : decode cX11_init 110 = .ok (.invokespecial 63, 3) := by decide +kernel
theorem dX11_init_113 : decode cX11_init 113 = .ok (.putfield 64, 3) := by decide +kernel
theorem dX11_init_116 : decode cX11_init 116 = .ok (.aload_n 0, 1) := by decide +kernel
theorem dX11_init_117 : decode cX11_init 117 = .ok (.iconst (-1), 1) := by decide +kernel
theorem dX11_init_118 : decode cX11_init 118 = .ok (.putfield 68, 3) := by decide +kernel
theorem dX11_init_121 : decode cX11_init 121 = .ok (.aload_n 0, 1) := by decide +kernel
theorem dX11_init_122 : decode cX11_init 122 = .ok (.iconst (-1), 1) := by decide +kernel
theorem dX11_init_123 : decode cX11_init 123 = .ok (.putfield 72, 3) := by decide +kernel
theorem dX11_init_126 : decode cX11_init 126 = .ok (.return_, 1) := by decide +kernel
set_option maxRecDepth 20000 in
theorem ggX11_addLamp_X9_refusalToAddLamp : GoodIn wsX11_addLamp wsX9_refusalToAddLamp := goodIn_r _ [8, 9, 10, 11, 12, 13, 14, 15, 16, 106, 107, 108, 109, 110, 111, 112, 113, 114, 115, 116] (by decide +kernel) (by decide +kernel)
set_option maxRecDepth 20000 in
theorem gX11_addLamp_X9_refusalToAddLamp : GoodIn wsX11_addLamp (wsV RX11 75 RX9 yX9_refusalToAddLamp wsX9_refusalToAddLamp) := goodIn_app (goodIn_of _ (by decide +kernel)) ggX11_addLamp_X9_refusalToAddLamp
set_option maxRecDepth 20000 in
theorem ggX11_addLamp_X11_raise : GoodIn wsX11_addLamp wsX11_raise := goodIn_ca (goodIn_ca (goodIn_ca (goodIn_r _ [19, 20, 21, 22, 23, 24, 25, 26, 27, 28] (by decide +kernel) (by decide +kernel)) (goodIn_sub (fun _ h => List.mem_cons_of_mem _ (List.mem_append_left _ (List.mem_append_left _ (List.mem_append_left _ (List.mem_append_right _ h))))) (by decide +kernel))) (goodIn_sub (fun _ h => List.mem_cons_of_mem _ (List.mem_append_left _ (List.mem_append_left _ (List.mem_append_right _ h)))) (by decide +kernel))) (goodIn_sub (fun _ h => List.mem_cons_of_mem _ (List.mem_append_left _ (List.mem_append_right _ h))) (by decide +kernel))
set_option maxRecDepth 20000 in
theorem gX11_addLamp_X11_raise : GoodIn wsX11_addLamp (va_wsS RX11 79 yX11_raise wsX11_raise) := goodIn_app (goodIn_of _ (by decide +kernel)) ggX11_addLamp_X11_raise
set_option maxRecDepth 20000 in
theorem ggX11_addLamp_X4_remember : GoodIn wsX11_addLamp wsX4_remember := goodIn_r _ [33, 34, 35, 36, 37, 38, 39, 40, 41, 42, 43, 7, 44, 10, 45, 46, 47, 48, 49, 50, 51, 52, 53, 54, 55, 56, 57, 58, 59, 60, 61, 62, 63, 64, 65, 66, 67, 68, 69, 70, 71, 72, 73, 74, 75, 76, 77, 78, 79, 80, 81, 82, 83, 84, 85, 86, 87, 88, 117, 118, 119, 106, 107, 108, 109, 110, 111, 112, 113, 114, 115, 116, 120, 121, 122, 123, 124, 125, 126, 127, 128, 129, 130, 131, 132, 133] (by decide +kernel) (by decide +kernel)
set_option maxRecDepth 20000 in
theorem gX11_addLamp_X4_remember : GoodIn wsX11_addLamp (wsV RX11 83 RX4 yX4_remember wsX4_remember) := goodIn_app (goodIn_of _ (by decide +kernel)) ggX11_addLamp_X4_remember
set_option maxRecDepth 20000 in
theorem ggX11_addLamp_X5_append : GoodIn wsX11_addLamp wsX5_append := goodIn_ca (goodIn_r _ [92, 52, 53, 58, 59, 60, 61, 62, 63, 109, 110, 111, 112, 113, 114, 115, 116] (by decide +kernel) (by decide +kernel)) (goodIn_sub (fun _ h => List.mem_cons_of_mem _ (List.mem_append_right _ h)) (by decide +kernel))
set_option maxRecDepth 20000 in
theorem gX11_addLamp_X5_append : GoodIn wsX11_addLamp (wsV RX11 91 RX5 yX5_append wsX5_append) := goodIn_app (goodIn_of _ (by decide +kernel)) ggX11_addLamp_X5_append
theorem dX11_addLamp_0 : decode cX11_addLamp 0 = .ok (.aload_n 0, 1) := by decide +kernel
theorem dX11_addLamp_1 : decode cX11_addLamp 1 = .ok (.getfield 10, 3) := by decide +kernel
theorem dX11_addLamp_4 : decode cX11_addLamp 4 = .ok (.iload_n 1, 1) := by decide +kernel
theorem dX11_addLamp_5 : decode cX11_addLamp 5 = .ok (.iload_n 2, 1) := by decide +kernel
theorem dX11_addLamp_6 : decode cX11_addLamp 6 = .ok (.invokevirtual 75, 3) := by decide +kernel
theorem dX11_addLamp_9 : decode cX11_addLamp 9 = .ok (.invokestatic 79, 3) := by decide +kernel
theorem dX11_addLamp_12 : decode cX11_addLamp 12 = .ok (.aload_n 0, 1) := by decide +kernel
theorem dX11_addLamp_13 : decode cX11_addLamp 13 = .ok (.getfield 29, 3) := by decide +kernel
theorem dX11_addLamp_16 : decode cX11_addLamp 16 = .ok (.aload_n 0, 1) := by decide +kernel
theorem dX11_addLamp_17 : decode cX11_addLamp 17 = .ok (.getfield 10, 3) := by decide +kernel
theorem dX11_addLamp_20 : decode cX11_addLamp 20 = .ok (.invokevirtual 83, 3) := by decide +kernel
theorem dX11_addLamp_23 : decode cX11_addLamp 23 = .ok (.aload_n 0, 1) := by decide +kernel
theorem dX11_addLamp_24 : decode cX11_addLamp 24 = .ok (.getfield 10, 3) := by decide +kernel
theorem dX11_addLamp_27 : decode cX11_addLamp 27 = .ok (.getfield 87, 3) := by decide +kernel
theorem dX11_addLamp_30 : decode cX11_addLamp 30 = .ok (.iload_n 1, 1) := by decide +kernel
theorem dX11_addLamp_31 : decode cX11_addLamp 31 = .ok (.iload_n 2, 1) := by decide +kernel
theorem dX11_addLamp_32 : decode cX11_addLamp 32 = .ok (.invokevirtual 91, 3) := by decide +kernel
theorem dX11_addLamp_35 : decode cX11_addLamp 35 = .ok (.ireturn, 1) := by decide +kernel
set_option maxRecDepth 20000 in
theorem ggX11_removeLamp_X9_refusalToDropLamp : GoodIn wsX11_removeLamp wsX9_refusalToDropLamp := goodIn_ca (goodIn_r _ [7, 8, 9, 10, 11, 12, 13, 14, 15, 16, 17, 18, 19, 20, 121, 122, 123, 124, 125, 126, 127, 128, 129, 130, 131, 132, 133, 134, 135, 136, 137, 138, 139, 140, 141] (by decide +kernel) (by decide +kernel)) (goodIn_sub (fun _ h => List.mem_cons_of_mem _ (List.mem_append_left _ (List.mem_append_left _ (List.mem_append_left _ (List.mem_append_right _ h))))) (by decide +kernel))
set_option maxRecDepth 20000 in
theorem gX11_removeLamp_X9_refusalToDropLamp : GoodIn wsX11_removeLamp (wsV RX11 97 RX9 yX9_refusalToDropLamp wsX9_refusalToDropLamp) := goodIn_app (goodIn_of _ (by decide +kernel)) ggX11_removeLamp_X9_refusalToDropLamp
set_option maxRecDepth 20000 in
theorem ggX11_removeLamp_X11_raise : GoodIn wsX11_removeLamp wsX11_raise := goodIn_ca (goodIn_ca (goodIn_ca (goodIn_r _ [24, 25, 26, 27, 28, 29, 30, 31, 32, 33] (by decide +kernel) (by decide +kernel)) (goodIn_sub (fun _ h => List.mem_cons_of_mem _ (List.mem_append_left _ (List.mem_append_left _ (List.mem_append_right _ h)))) (by decide +kernel))) (goodIn_sub (fun _ h => List.mem_cons_of_mem _ (List.mem_append_left _ (List.mem_append_right _ h))) (by decide +kernel))) (goodIn_sub (fun _ h => List.mem_cons_of_mem _ (List.mem_append_right _ h)) (by decide +kernel))
set_option maxRecDepth 20000 in
theorem gX11_removeLamp_X11_raise : GoodIn wsX11_removeLamp (va_wsS RX11 79 yX11_raise wsX11_raise) := goodIn_app (goodIn_of _ (by decide +kernel)) ggX11_removeLamp_X11_raise
set_option maxRecDepth 20000 in
theorem ggX11_removeLamp_X4_remember : GoodIn wsX11_removeLamp wsX4_remember := goodIn_r _ [38, 39, 40, 41, 42, 43, 44, 45, 46, 47, 48, 6, 49, 8, 50, 10, 51, 52, 53, 18, 54, 20, 55, 56, 57, 58, 59, 60, 61, 62, 63, 64, 65, 66, 67, 68, 69, 70, 71, 72, 73, 74, 75, 76, 77, 78, 79, 80, 81, 82, 83, 84, 85, 86, 87, 88, 89, 90, 142, 143, 144, 121, 122, 123, 134, 135, 136, 137, 138, 139, 140, 141, 145, 146, 147, 148, 124, 125, 126, 127, 128, 129, 130, 131, 132, 133] (by decide +kernel) (by decide +kernel)
set_option maxRecDepth 20000 in
theorem gX11_removeLamp_X4_remember : GoodIn wsX11_removeLamp (wsV RX11 83 RX4 yX4_remember wsX4_remember) := goodIn_app (goodIn_of _ (by decide +kernel)) ggX11_removeLamp_X4_remember
set_option maxRecDepth 20000 in
theorem ggX11_removeLamp_X9_dropLamp : GoodIn wsX11_removeLamp wsX9_dropLamp := goodIn_ca (goodIn_r _ [94, 10, 95, 8, 96, 11, 12, 97, 98, 50, 99, 100, 101, 102, 18, 103, 20, 55, 56, 57, 58, 59, 60, 61, 62, 63, 64, 65, 104, 105, 106, 69, 107, 71, 72, 121, 122, 123, 124, 125, 126, 127, 128, 129, 130, 131, 132, 133, 134, 135, 136, 137, 138, 139, 140, 141, 145, 146, 147, 148] (by decide +kernel) (by decide +kernel)) (goodIn_sub (fun _ h => List.mem_cons_of_mem _ (List.mem_append_left _ (List.mem_append_left _ (List.mem_append_left _ (List.mem_append_right _ h))))) (by decide +kernel))
set_option maxRecDepth 20000 in
theorem gX11_removeLamp_X9_dropLamp : GoodIn wsX11_removeLamp (wsV RX11 101 RX9 yX9_dropLamp wsX9_dropLamp) := goodIn_app (goodIn_of _ (by decide +kernel)) ggX11_removeLamp_X9_dropLamp
theorem dX11_removeLamp_0 : decode cX11_removeLamp 0 = .ok (.aload_n 0, 1) := by decide +kernel
theorem dX11_removeLamp_1 : decode cX11_removeLamp 1 = .ok (.getfield 10, 3) := by decide +kernel
theorem dX11_removeLamp_4 : decode cX11_removeLamp 4 = .ok (.iload_n 1, 1) := by decide +kernel
theorem dX11_removeLamp_5 : decode cX11_removeLamp 5 = .ok (.invokevirtual 97, 3) := by decide +kernel
theorem dX11_removeLamp_8 : decode cX11_removeLamp 8 = .ok (.invokestatic 79, 3) := by decide +kernel
theorem dX11_removeLamp_11 : decode cX11_removeLamp 11 = .ok (.aload_n 0, 1) := by decide +kernel
theorem dX11_removeLamp_12 : decode cX11_removeLamp 12 = .ok (.getfield 29, 3) := by decide +kernel
theorem dX11_removeLamp_15 : decode cX11_removeLamp 15 = .ok (.aload_n 0, 1) := by decide +kernel
theorem dX11_removeLamp_16 : decode cX11_removeLamp 16 = .ok (.getfield 10, 3) := by decide +kernel
theorem dX11_removeLamp_19 : decode cX11_removeLamp 19 = .ok (.invokevirtual 83, 3) := by decide +kernel
theorem dX11_removeLamp_22 : decode cX11_removeLamp 22 = .ok (.aload_n 0, 1) := by decide +kernel
theorem dX11_removeLamp_23 : decode cX11_removeLamp 23 = .ok (.getfield 10, 3) := by decide +kernel
theorem dX11_removeLamp_26 : decode cX11_removeLamp 26 = .ok (.iload_n 1, 1) := by decide +kernel
theorem dX11_removeLamp_27 : decode cX11_removeLamp 27 = .ok (.invokevirtual 101, 3) := by decide +kernel
theorem dX11_removeLamp_30 : decode cX11_removeLamp 30 = .ok (.ireturn, 1) := by decide +kernel
set_option maxRecDepth 20000 in
theorem ggX11_setShares_X9_refusalOnLamp : GoodIn wsX11_setShares wsX9_refusalOnLamp := goodIn_r _ [9, 10, 11, 12, 13, 14, 15, 16, 17, 18, 19, 20, 21, 22, 106, 107, 108, 109, 110, 111, 112, 113, 114, 115, 116] (by decide +kernel) (by decide +kernel)
set_option maxRecDepth 20000 in
theorem gX11_setShares_X9_refusalOnLamp : GoodIn wsX11_setShares (wsV RX11 105 RX9 yX9_refusalOnLamp wsX9_refusalOnLamp) := goodIn_app (goodIn_of _ (by decide +kernel)) ggX11_setShares_X9_refusalOnLamp
set_option maxRecDepth 20000 in
theorem ggX11_setShares_X11_raise : GoodIn wsX11_setShares wsX11_raise := goodIn_ca (goodIn_ca (goodIn_ca (goodIn_r _ [25, 26, 27, 28, 29, 30, 31, 32, 33, 34] (by decide +kernel) (by decide +kernel)) (goodIn_sub (fun _ h => List.mem_cons_of_mem _ (List.mem_append_left _ (List.mem_append_left _ (List.mem_append_right _ h)))) (by decide +kernel))) (goodIn_sub (fun _ h => List.mem_cons_of_mem _ (List.mem_append_left _ (List.mem_append_right _ h))) (by decide +kernel))) (goodIn_sub (fun _ h => List.mem_cons_of_mem _ (List.mem_append_right _ h)) (by decide +kernel))
set_option maxRecDepth 20000 in
theorem gX11_setShares_X11_raise : GoodIn wsX11_setShares (va_wsS RX11 79 yX11_raise wsX11_raise) := goodIn_app (goodIn_of _ (by decide +kernel)) ggX11_setShares_X11_raise
set_option maxRecDepth 20000 in
theorem ggX11_setShares_X4_remember : GoodIn wsX11_setShares wsX4_remember := goodIn_r _ [39, 40, 41, 42, 43, 44, 45, 46, 47, 48, 49, 8, 50, 10, 51, 52, 53, 54, 55, 17, 56, 19, 57, 58, 59, 60, 61, 62, 63, 64, 65, 66, 67, 68, 69, 70, 71, 72, 73, 74, 75, 76, 77, 78, 79, 80, 81, 82, 83, 84, 85, 86, 87, 88, 89, 90, 91, 92, 117, 118, 119, 106, 107, 108, 109, 110, 111, 112, 113, 114, 115, 116, 120, 121, 122, 123, 124, 125, 126, 127, 128, 129, 130, 131, 132, 133] (by decide +kernel) (by decide +kernel)
set_option maxRecDepth 20000 in
theorem gX11_setShares_X4_remember : GoodIn wsX11_setShares (wsV RX11 83 RX4 yX4_remember wsX4_remember) := goodIn_app (goodIn_of _ (by decide +kernel)) ggX11_setShares_X4_remember
theorem dX11_setShares_0 : decode cX11_setShares 0 = .ok (.aload_n 0, 1) := by decide +kernel
theorem dX11_setShares_1 : decode cX11_setShares 1 = .ok (.getfield 10, 3) := by decide +kernel
theorem dX11_setShares_4 : decode cX11_setShares 4 = .ok (.iload_n 1, 1) := by decide +kernel
theorem dX11_setShares_5 : decode cX11_setShares 5 = .ok (.iload_n 2, 1) := by decide +kernel
theorem dX11_setShares_6 : decode cX11_setShares 6 = .ok (.bipush 9, 2) := by decide +kernel
theorem dX11_setShares_8 : decode cX11_setShares 8 = .ok (.invokevirtual 105, 3) := by decide +kernel
theorem dX11_setShares_11 : decode cX11_setShares 11 = .ok (.invokestatic 79, 3) := by decide +kernel
theorem dX11_setShares_14 : decode cX11_setShares 14 = .ok (.aload_n 0, 1) := by decide +kernel
theorem dX11_setShares_15 : decode cX11_setShares 15 = .ok (.getfield 29, 3) := by decide +kernel
theorem dX11_setShares_18 : decode cX11_setShares 18 = .ok (.aload_n 0, 1) := by decide +kernel
theorem dX11_setShares_19 : decode cX11_setShares 19 = .ok (.getfield 10, 3) := by decide +kernel
theorem dX11_setShares_22 : decode cX11_setShares 22 = .ok (.invokevirtual 83, 3) := by decide +kernel
theorem dX11_setShares_25 : decode cX11_setShares 25 = .ok (.aload_n 0, 1) := by decide +kernel
theorem dX11_setShares_26 : decode cX11_setShares 26 = .ok (.getfield 10, 3) := by decide +kernel
theorem dX11_setShares_29 : decode cX11_setShares 29 = .ok (.getfield 87, 3) := by decide +kernel
theorem dX11_setShares_32 : decode cX11_setShares 32 = .ok (.getfield 109, 3) := by decide +kernel
theorem dX11_setShares_35 : decode cX11_setShares 35 = .ok (.iload_n 1, 1) := by decide +kernel
theorem dX11_setShares_36 : decode cX11_setShares 36 = .ok (.iaload, 1) := by decide +kernel
theorem dX11_setShares_37 : decode cX11_setShares 37 = .ok (.istore_n 3, 1) := by decide +kernel
theorem dX11_setShares_38 : decode cX11_setShares 38 = .ok (.aload_n 0, 1) := by decide +kernel
theorem dX11_setShares_39 : decode cX11_setShares 39 = .ok (.getfield 10, 3) := by decide +kernel
theorem dX11_setShares_42 : decode cX11_setShares 42 = .ok (.getfield 87, 3) := by decide +kernel
theorem dX11_setShares_45 : decode cX11_setShares 45 = .ok (.getfield 109, 3) := by decide +kernel
theorem dX11_setShares_48 : decode cX11_setShares 48 = .ok (.iload_n 1, 1) := by decide +kernel
theorem dX11_setShares_49 : decode cX11_setShares 49 = .ok (.iload_n 2, 1) := by decide +kernel
theorem dX11_setShares_50 : decode cX11_setShares 50 = .ok (.iastore, 1) := by decide +kernel
theorem dX11_setShares_51 : decode cX11_setShares 51 = .ok (.iload_n 3, 1) := by decide +kernel
theorem dX11_setShares_52 : decode cX11_setShares 52 = .ok (.ireturn, 1) := by decide +kernel
set_option maxRecDepth 20000 in
theorem ggX11_setBrightness_X9_refusalOnLamp : GoodIn wsX11_setBrightness wsX9_refusalOnLamp := goodIn_r _ [9, 10, 11, 12, 13, 14, 15, 16, 17, 18, 19, 20, 21, 22, 106, 107, 108, 109, 110, 111, 112, 113, 114, 115, 116] (by decide +kernel) (by decide +kernel)
set_option maxRecDepth 20000 in
theorem gX11_setBrightness_X9_refusalOnLamp : GoodIn wsX11_setBrightness (wsV RX11 105 RX9 yX9_refusalOnLamp wsX9_refusalOnLamp) := goodIn_app (goodIn_of _ (by decide +kernel)) ggX11_setBrightness_X9_refusalOnLamp
set_option maxRecDepth 20000 in
theorem ggX11_setBrightness_X11_raise : GoodIn wsX11_setBrightness wsX11_raise := goodIn_ca (goodIn_ca (goodIn_ca (goodIn_r _ [25, 26, 27, 28, 29, 30, 31, 32, 33, 34] (by decide +kernel) (by decide +kernel)) (goodIn_sub (fun _ h => List.mem_cons_of_mem _ (List.mem_append_left _ (List.mem_append_left _ (List.mem_append_right _ h)))) (by decide +kernel))) (goodIn_sub (fun _ h => List.mem_cons_of_mem _ (List.mem_append_left _ (List.mem_append_right _ h))) (by decide +kernel))) (goodIn_sub (fun _ h => List.mem_cons_of_mem _ (List.mem_append_right _ h)) (by decide +kernel))
set_option maxRecDepth 20000 in
theorem gX11_setBrightness_X11_raise : GoodIn wsX11_setBrightness (va_wsS RX11 79 yX11_raise wsX11_raise) := goodIn_app (goodIn_of _ (by decide +kernel)) ggX11_setBrightness_X11_raise
set_option maxRecDepth 20000 in
theorem ggX11_setBrightness_X4_remember : GoodIn wsX11_setBrightness wsX4_remember := goodIn_r _ [39, 40, 41, 42, 43, 44, 45, 46, 47, 48, 49, 8, 50, 10, 51, 52, 53, 54, 55, 17, 56, 19, 57, 58, 59, 60, 61, 62, 63, 64, 65, 66, 67, 68, 69, 70, 71, 72, 73, 74, 75, 76, 77, 78, 79, 80, 81, 82, 83, 84, 85, 86, 87, 88, 89, 90, 91, 92, 117, 118, 119, 106, 107, 108, 109, 110, 111, 112, 113, 114, 115, 116, 120, 121, 122, 123, 124, 125, 126, 127, 128, 129, 130, 131, 132, 133] (by decide +kernel) (by decide +kernel)
set_option maxRecDepth 20000 in
theorem gX11_setBrightness_X4_remember : GoodIn wsX11_setBrightness (wsV RX11 83 RX4 yX4_remember wsX4_remember) := goodIn_app (goodIn_of _ (by decide +kernel)) ggX11_setBrightness_X4_remember
theorem dX11_setBrightness_0 : decode cX11_setBrightness 0 = .ok (.aload_n 0, 1) := by decide +kernel
theorem dX11_setBrightness_1 : decode cX11_setBrightness 1 = .ok (.getfield 10, 3) := by decide +kernel
theorem dX11_setBrightness_4 : decode cX11_setBrightness 4 = .ok (.iload_n 1, 1) := by decide +kernel
theorem dX11_setBrightness_5 : decode cX11_setBrightness 5 = .ok (.iload_n 2, 1) := by decide +kernel
theorem dX11_setBrightness_6 : decode cX11_setBrightness 6 = .ok (.iconst 5, 1) := by decide +kernel
theorem dX11_setBrightness_7 : decode cX11_setBrightness 7 = .ok (.invokevirtual 105, 3) := by decide +kernel
theorem dX11_setBrightness_10 : decode cX11_setBrightness 10 = .ok (.invokestatic 79, 3) := by decide +kernel
theorem dX11_setBrightness_13 : decode cX11_setBrightness 13 = .ok (.aload_n 0, 1) := by decide +kernel
theorem dX11_setBrightness_14 : decode cX11_setBrightness 14 = .ok (.getfield 29, 3) := by decide +kernel
theorem dX11_setBrightness_17 : decode cX11_setBrightness 17 = .ok (.aload_n 0, 1) := by decide +kernel
theorem dX11_setBrightness_18 : decode cX11_setBrightness 18 = .ok (.getfield 10, 3) := by decide +kernel
theorem dX11_setBrightness_21 : decode cX11_setBrightness 21 = .ok (.invokevirtual 83, 3) := by decide +kernel
theorem dX11_setBrightness_24 : decode cX11_setBrightness 24 = .ok (.aload_n 0, 1) := by decide +kernel
theorem dX11_setBrightness_25 : decode cX11_setBrightness 25 = .ok (.getfield 10, 3) := by decide +kernel
theorem dX11_setBrightness_28 : decode cX11_setBrightness 28 = .ok (.getfield 87, 3) := by decide +kernel
theorem dX11_setBrightness_31 : decode cX11_setBrightness 31 = .ok (.getfield 112, 3) := by decide +kernel
theorem dX11_setBrightness_34 : decode cX11_setBrightness 34 = .ok (.iload_n 1, 1) := by decide +kernel
theorem dX11_setBrightness_35 : decode cX11_setBrightness 35 = .ok (.iaload, 1) := by decide +kernel
theorem dX11_setBrightness_36 : decode cX11_setBrightness 36 = .ok (.istore_n 3, 1) := by decide +kernel
theorem dX11_setBrightness_37 : decode cX11_setBrightness 37 = .ok (.aload_n 0, 1) := by decide +kernel
theorem dX11_setBrightness_38 : decode cX11_setBrightness 38 = .ok (.getfield 10, 3) := by decide +kernel
theorem dX11_setBrightness_41 : decode cX11_setBrightness 41 = .ok (.getfield 87, 3) := by decide +kernel
theorem dX11_setBrightness_44 : decode cX11_setBrightness 44 = .ok (.getfield 112, 3) := by decide +kernel
theorem dX11_setBrightness_47 : decode cX11_setBrightness 47 = .ok (.iload_n 1, 1) := by decide +kernel
theorem dX11_setBrightness_48 : decode cX11_setBrightness 48 = .ok (.iload_n 2, 1) := by decide +kernel
theorem dX11_setBrightness_49 : decode cX11_setBrightness 49 = .ok (.iastore, 1) := by decide +kernel
theorem dX11_setBrightness_50 : decode cX11_setBrightness 50 = .ok (.iload_n 3, 1) := by decide +kernel
theorem dX11_setBrightness_51 : decode cX11_setBrightness 51 = .ok (.ireturn, 1) := by decide +kernel
set_option maxRecDepth 20000 in
theorem ggX11_switchOn_X11_requireLamp : GoodIn wsX11_switchOn wsX11_requireLamp := goodIn_ca (goodIn_r _ [9, 10, 11, 2, 3, 12, 13, 14, 15, 16, 17, 78, 79, 80, 81, 82, 83, 84, 85, 86, 87, 88, 89, 90, 91, 92, 93, 94, 95, 96, 97, 98, 99, 100, 101] (by decide +kernel) (by decide +kernel)) (goodIn_sub (fun _ h => List.mem_cons_of_mem _ (List.mem_append_right _ h)) (by decide +kernel))
set_option maxRecDepth 20000 in
theorem gX11_switchOn_X11_requireLamp : GoodIn wsX11_switchOn (wsV RX11 115 RX11 yX11_requireLamp wsX11_requireLamp) := goodIn_app (goodIn_of _ (by decide +kernel)) ggX11_switchOn_X11_requireLamp
set_option maxRecDepth 20000 in
theorem ggX11_switchOn_X4_remember : GoodIn wsX11_switchOn wsX4_remember := goodIn_r _ [22, 23, 24, 25, 26, 27, 28, 29, 30, 31, 32, 33, 34, 35, 36, 37, 38, 39, 40, 15, 41, 17, 42, 43, 44, 45, 46, 47, 48, 49, 50, 51, 52, 53, 54, 55, 56, 57, 58, 59, 60, 61, 62, 63, 64, 65, 66, 67, 68, 69, 70, 71, 72, 73, 74, 75, 76, 77, 102, 103, 104, 91, 92, 93, 94, 95, 96, 97, 98, 99, 100, 101, 105, 106, 107, 108, 109, 110, 111, 112, 113, 114, 115, 116, 117, 118] (by decide +kernel) (by decide +kernel)
set_option maxRecDepth 20000 in
theorem gX11_switchOn_X4_remember : GoodIn wsX11_switchOn (wsV RX11 83 RX4 yX4_remember wsX4_remember) := goodIn_app (goodIn_of _ (by decide +kernel)) ggX11_switchOn_X4_remember
theorem dX11_switchOn_0 : decode cX11_switchOn 0 = .ok (.aload_n 0, 1) := by decide +kernel
theorem dX11_switchOn_1 : decode cX11_switchOn 1 = .ok (.iload_n 1, 1) := by decide +kernel
theorem dX11_switchOn_2 : decode cX11_switchOn 2 = .ok (.invokevirtual 115, 3) := by decide +kernel
theorem dX11_switchOn_5 : decode cX11_switchOn 5 = .ok (.aload_n 0, 1) := by decide +kernel
theorem dX11_switchOn_6 : decode cX11_switchOn 6 = .ok (.getfield 29, 3) := by decide +kernel
theorem dX11_switchOn_9 : decode cX11_switchOn 9 = .ok (.aload_n 0, 1) := by decide +kernel
theorem dX11_switchOn_10 : decode cX11_switchOn 10 = .ok (.getfield 10, 3) := by decide +kernel
theorem dX11_switchOn_13 : decode cX11_switchOn 13 = .ok (.invokevirtual 83, 3) := by decide +kernel
theorem dX11_switchOn_16 : decode cX11_switchOn 16 = .ok (.aload_n 0, 1) := by decide +kernel
theorem dX11_switchOn_17 : decode cX11_switchOn 17 = .ok (.getfield 10, 3) := by decide +kernel
theorem dX11_switchOn_20 : decode cX11_switchOn 20 = .ok (.getfield 87, 3) := by decide +kernel
theorem dX11_switchOn_23 : decode cX11_switchOn 23 = .ok (.getfield 119, 3) := by decide +kernel
theorem dX11_switchOn_26 : decode cX11_switchOn 26 = .ok (.iload_n 1, 1) := by decide +kernel
theorem dX11_switchOn_27 : decode cX11_switchOn 27 = .ok (.baload, 1) := by decide +kernel
theorem dX11_switchOn_28 : decode cX11_switchOn 28 = .ok (.ifCond .ne 7, 3) := by decide +kernel
theorem dX11_switchOn_31 : decode cX11_switchOn 31 = .ok (.iconst 1, 1) := by decide +kernel
theorem dX11_switchOn_32 : decode cX11_switchOn 32 = .ok (.goto 4, 3) := by decide +kernel
theorem dX11_switchOn_35 : decode cX11_switchOn 35 = .ok (.iconst 0, 1) := by decide +kernel
theorem dX11_switchOn_36 : decode cX11_switchOn 36 = .ok (.istore_n 2, 1) := by decide +kernel
theorem dX11_switchOn_37 : decode cX11_switchOn 37 = .ok (.aload_n 0, 1) := by decide +kernel
theorem dX11_switchOn_38 : decode cX11_switchOn 38 = .ok (.getfield 10, 3) := by decide +kernel
theorem dX11_switchOn_41 : decode cX11_switchOn 41 = .ok (.getfield 87, 3) := by decide +kernel
theorem dX11_switchOn_44 : decode cX11_switchOn 44 = .ok (.getfield 119, 3) := by decide +kernel
theorem dX11_switchOn_47 : decode cX11_switchOn 47 = .ok (.iload_n 1, 1) := by decide +kernel
theorem dX11_switchOn_48 : decode cX11_switchOn 48 = .ok (.iconst 1, 1) := by decide +kernel
theorem dX11_switchOn_49 : decode cX11_switchOn 49 = .ok (.bastore, 1) := by decide +kernel
theorem dX11_switchOn_50 : decode cX11_switchOn 50 = .ok (.iload_n 2, 1) := by decide +kernel
theorem dX11_switchOn_51 : decode cX11_switchOn 51 = .ok (.ireturn, 1) := by decide +kernel
set_option maxRecDepth 20000 in
theorem ggX11_switchOff_X11_requireLamp : GoodIn wsX11_switchOff wsX11_requireLamp := goodIn_ca (goodIn_r _ [9, 10, 11, 2, 3, 12, 13, 14, 15, 16, 17, 78, 79, 80, 81, 82, 83, 84, 85, 86, 87, 88, 89, 90, 91, 92, 93, 94, 95, 96, 97, 98, 99, 100, 101] (by decide +kernel) (by decide +kernel)) (goodIn_sub (fun _ h => List.mem_cons_of_mem _ (List.mem_append_right _ h)) (by decide +kernel))
set_option maxRecDepth 20000 in
theorem gX11_switchOff_X11_requireLamp : GoodIn wsX11_switchOff (wsV RX11 115 RX11 yX11_requireLamp wsX11_requireLamp) := goodIn_app (goodIn_of _ (by decide +kernel)) ggX11_switchOff_X11_requireLamp
set_option maxRecDepth 20000 in
theorem ggX11_switchOff_X4_remember : GoodIn wsX11_switchOff wsX4_remember := goodIn_r _ [22, 23, 24, 25, 26, 27, 28, 29, 30, 31, 32, 33, 34, 35, 36, 37, 38, 39, 40, 15, 41, 17, 42, 43, 44, 45, 46, 47, 48, 49, 50, 51, 52, 53, 54, 55, 56, 57, 58, 59, 60, 61, 62, 63, 64, 65, 66, 67, 68, 69, 70, 71, 72, 73, 74, 75, 76, 77, 102, 103, 104, 91, 92, 93, 94, 95, 96, 97, 98, 99, 100, 101, 105, 106, 107, 108, 109, 110, 111, 112, 113, 114, 115, 116, 117, 118] (by decide +kernel) (by decide +kernel)
set_option maxRecDepth 20000 in
theorem gX11_switchOff_X4_remember : GoodIn wsX11_switchOff (wsV RX11 83 RX4 yX4_remember wsX4_remember) := goodIn_app (goodIn_of _ (by decide +kernel)) ggX11_switchOff_X4_remember
theorem dX11_switchOff_0 : decode cX11_switchOff 0 = .ok (.aload_n 0, 1) := by decide +kernel
theorem dX11_switchOff_1 : decode cX11_switchOff 1 = .ok (.iload_n 1, 1) := by decide +kernel
theorem dX11_switchOff_2 : decode cX11_switchOff 2 = .ok (.invokevirtual 115, 3) := by decide +kernel
theorem dX11_switchOff_5 : decode cX11_switchOff 5 = .ok (.aload_n 0, 1) := by decide +kernel
theorem dX11_switchOff_6 : decode cX11_switchOff 6 = .ok (.getfield 29, 3) := by decide +kernel
theorem dX11_switchOff_9 : decode cX11_switchOff 9 = .ok (.aload_n 0, 1) := by decide +kernel
theorem dX11_switchOff_10 : decode cX11_switchOff 10 = .ok (.getfield 10, 3) := by decide +kernel
theorem dX11_switchOff_13 : decode cX11_switchOff 13 = .ok (.invokevirtual 83, 3) := by decide +kernel
theorem dX11_switchOff_16 : decode cX11_switchOff 16 = .ok (.aload_n 0, 1) := by decide +kernel
theorem dX11_switchOff_17 : decode cX11_switchOff 17 = .ok (.getfield 10, 3) := by decide +kernel
theorem dX11_switchOff_20 : decode cX11_switchOff 20 = .ok (.getfield 87, 3) := by decide +kernel
theorem dX11_switchOff_23 : decode cX11_switchOff 23 = .ok (.getfield 119, 3) := by decide +kernel
theorem dX11_switchOff_26 : decode cX11_switchOff 26 = .ok (.iload_n 1, 1) := by decide +kernel
theorem dX11_switchOff_27 : decode cX11_switchOff 27 = .ok (.baload, 1) := by decide +kernel
theorem dX11_switchOff_28 : decode cX11_switchOff 28 = .ok (.istore_n 2, 1) := by decide +kernel
theorem dX11_switchOff_29 : decode cX11_switchOff 29 = .ok (.aload_n 0, 1) := by decide +kernel
theorem dX11_switchOff_30 : decode cX11_switchOff 30 = .ok (.getfield 10, 3) := by decide +kernel
theorem dX11_switchOff_33 : decode cX11_switchOff 33 = .ok (.getfield 87, 3) := by decide +kernel
theorem dX11_switchOff_36 : decode cX11_switchOff 36 = .ok (.getfield 119, 3) := by decide +kernel
theorem dX11_switchOff_39 : decode cX11_switchOff 39 = .ok (.iload_n 1, 1) := by decide +kernel
theorem dX11_switchOff_40 : decode cX11_switchOff 40 = .ok (.iconst 0, 1) := by decide +kernel
theorem dX11_switchOff_41 : decode cX11_switchOff 41 = .ok (.bastore, 1) := by decide +kernel
theorem dX11_switchOff_42 : decode cX11_switchOff 42 = .ok (.iload_n 2, 1) := by decide +kernel
theorem dX11_switchOff_43 : decode cX11_switchOff 43 = .ok (.ireturn, 1) := by decide +kernel
theorem dX11_lampCount_0 : decode cX11_lampCount 0 = .ok (.aload_n 0, 1) := by decide +kernel
theorem dX11_lampCount_1 : decode cX11_lampCount 1 = .ok (.getfield 10, 3) := by decide +kernel
theorem dX11_lampCount_4 : decode cX11_lampCount 4 = .ok (.getfield 87, 3) := by decide +kernel
theorem dX11_lampCount_7 : decode cX11_lampCount 7 = .ok (.getfield 123, 3) := by decide +kernel
theorem dX11_lampCount_10 : decode cX11_lampCount 10 = .ok (.ireturn, 1) := by decide +kernel
set_option maxRecDepth 20000 in
theorem ggX11_streetOf_X11_requireLamp : GoodIn wsX11_streetOf wsX11_requireLamp := goodIn_ca (goodIn_r _ [8, 9, 10, 1, 2, 11, 12, 13, 14, 15, 16, 17, 18, 19, 20, 21, 22, 23, 24, 25, 26, 27, 28, 29, 30, 31, 32, 33, 34, 35, 36, 37, 38, 39, 40] (by decide +kernel) (by decide +kernel)) (goodIn_sub (fun _ h => List.mem_cons_of_mem _ (List.mem_append_right _ h)) (by decide +kernel))
set_option maxRecDepth 20000 in
theorem gX11_streetOf_X11_requireLamp : GoodIn wsX11_streetOf (wsV RX11 115 RX11 yX11_requireLamp wsX11_requireLamp) := goodIn_app (goodIn_of _ (by decide +kernel)) ggX11_streetOf_X11_requireLamp
theorem dX11_streetOf_0 : decode cX11_streetOf 0 = .ok (.aload_n 0, 1) := by decide +kernel
theorem dX11_streetOf_1 : decode cX11_streetOf 1 = .ok (.iload_n 1, 1) := by decide +kernel
theorem dX11_streetOf_2 : decode cX11_streetOf 2 = .ok (.invokevirtual 115, 3) := by decide +kernel
theorem dX11_streetOf_5 : decode cX11_streetOf 5 = .ok (.aload_n 0, 1) := by decide +kernel
theorem dX11_streetOf_6 : decode cX11_streetOf 6 = .ok (.getfield 10, 3) := by decide +kernel
theorem dX11_streetOf_9 : decode cX11_streetOf 9 = .ok (.getfield 87, 3) := by decide +kernel
theorem dX11_streetOf_12 : decode cX11_streetOf 12 = .ok (.getfield 126, 3) := by decide +kernel
theorem dX11_streetOf_15 : decode cX11_streetOf 15 = .ok (.iload_n 1, 1) := by decide +kernel
theorem dX11_streetOf_16 : decode cX11_streetOf 16 = .ok (.iaload, 1) := by decide +kernel
theorem dX11_streetOf_17 : decode cX11_streetOf 17 = .ok (.ireturn, 1) := by decide +kernel
set_option maxRecDepth 20000 in
theorem ggX11_sharesOf_X11_requireLamp : GoodIn wsX11_sharesOf wsX11_requireLamp := goodIn_ca (goodIn_r _ [8, 9, 10, 1, 2, 11, 12, 13, 14, 15, 16, 17, 18, 19, 20, 21, 22, 23, 24, 25, 26, 27, 28, 29, 30, 31, 32, 33, 34, 35, 36, 37, 38, 39, 40] (by decide +kernel) (by decide +kernel)) (goodIn_sub (fun _ h => List.mem_cons_of_mem _ (List.mem_append_right _ h)) (by decide +kernel))
set_option maxRecDepth 20000 in
theorem gX11_sharesOf_X11_requireLamp : GoodIn wsX11_sharesOf (wsV RX11 115 RX11 yX11_requireLamp wsX11_requireLamp) := goodIn_app (goodIn_of _ (by decide +kernel)) ggX11_sharesOf_X11_requireLamp
theorem dX11_sharesOf_0 : decode cX11_sharesOf 0 = .ok (.aload_n 0, 1) := by decide +kernel
theorem dX11_sharesOf_1 : decode cX11_sharesOf 1 = .ok (.iload_n 1, 1) := by decide +kernel
theorem dX11_sharesOf_2 : decode cX11_sharesOf 2 = .ok (.invokevirtual 115, 3) := by decide +kernel
theorem dX11_sharesOf_5 : decode cX11_sharesOf 5 = .ok (.aload_n 0, 1) := by decide +kernel
theorem dX11_sharesOf_6 : decode cX11_sharesOf 6 = .ok (.getfield 10, 3) := by decide +kernel
theorem dX11_sharesOf_9 : decode cX11_sharesOf 9 = .ok (.getfield 87, 3) := by decide +kernel
theorem dX11_sharesOf_12 : decode cX11_sharesOf 12 = .ok (.getfield 109, 3) := by decide +kernel
theorem dX11_sharesOf_15 : decode cX11_sharesOf 15 = .ok (.iload_n 1, 1) := by decide +kernel
theorem dX11_sharesOf_16 : decode cX11_sharesOf 16 = .ok (.iaload, 1) := by decide +kernel
theorem dX11_sharesOf_17 : decode cX11_sharesOf 17 = .ok (.ireturn, 1) := by decide +kernel
set_option maxRecDepth 20000 in
theorem ggX11_brightnessOf_X11_requireLamp : GoodIn wsX11_brightnessOf wsX11_requireLamp := goodIn_ca (goodIn_r _ [8, 9, 10, 1, 2, 11, 12, 13, 14, 15, 16, 17, 18, 19, 20, 21, 22, 23, 24, 25, 26, 27, 28, 29, 30, 31, 32, 33, 34, 35, 36, 37, 38, 39, 40] (by decide +kernel) (by decide +kernel)) (goodIn_sub (fun _ h => List.mem_cons_of_mem _ (List.mem_append_right _ h)) (by decide +kernel))
set_option maxRecDepth 20000 in
theorem gX11_brightnessOf_X11_requireLamp : GoodIn wsX11_brightnessOf (wsV RX11 115 RX11 yX11_requireLamp wsX11_requireLamp) := goodIn_app (goodIn_of _ (by decide +kernel)) ggX11_brightnessOf_X11_requireLamp
theorem dX11_brightnessOf_0 : decode cX11_brightnessOf 0 = .ok (.aload_n 0, 1) := by decide +kernel
theorem dX11_brightnessOf_1 : decode cX11_brightnessOf 1 = .ok (.iload_n 1, 1) := by decide +kernel
theorem dX11_brightnessOf_2 : decode cX11_brightnessOf 2 = .ok (.invokevirtual 115, 3) := by decide +kernel
theorem dX11_brightnessOf_5 : decode cX11_brightnessOf 5 = .ok (.aload_n 0, 1) := by decide +kernel
theorem dX11_brightnessOf_6 : decode cX11_brightnessOf 6 = .ok (.getfield 10, 3) := by decide +kernel
theorem dX11_brightnessOf_9 : decode cX11_brightnessOf 9 = .ok (.getfield 87, 3) := by decide +kernel
theorem dX11_brightnessOf_12 : decode cX11_brightnessOf 12 = .ok (.getfield 112, 3) := by decide +kernel
theorem dX11_brightnessOf_15 : decode cX11_brightnessOf 15 = .ok (.iload_n 1, 1) := by decide +kernel
theorem dX11_brightnessOf_16 : decode cX11_brightnessOf 16 = .ok (.iaload, 1) := by decide +kernel
theorem dX11_brightnessOf_17 : decode cX11_brightnessOf 17 = .ok (.ireturn, 1) := by decide +kernel
set_option maxRecDepth 20000 in
theorem ggX11_isOn_X11_requireLamp : GoodIn wsX11_isOn wsX11_requireLamp := goodIn_ca (goodIn_r _ [8, 9, 10, 1, 2, 11, 12, 13, 14, 15, 16, 17, 18, 19, 20, 21, 22, 23, 24, 25, 26, 27, 28, 29, 30, 31, 32, 33, 34, 35, 36, 37, 38, 39, 40] (by decide +kernel) (by decide +kernel)) (goodIn_sub (fun _ h => List.mem_cons_of_mem _ (List.mem_append_right _ h)) (by decide +kernel))
set_option maxRecDepth 20000 in
theorem gX11_isOn_X11_requireLamp : GoodIn wsX11_isOn (wsV RX11 115 RX11 yX11_requireLamp wsX11_requireLamp) := goodIn_app (goodIn_of _ (by decide +kernel)) ggX11_isOn_X11_requireLamp
theorem dX11_isOn_0 : decode cX11_isOn 0 = .ok (.aload_n 0, 1) := by decide +kernel
theorem dX11_isOn_1 : decode cX11_isOn 1 = .ok (.iload_n 1, 1) := by decide +kernel
theorem dX11_isOn_2 : decode cX11_isOn 2 = .ok (.invokevirtual 115, 3) := by decide +kernel
theorem dX11_isOn_5 : decode cX11_isOn 5 = .ok (.aload_n 0, 1) := by decide +kernel
theorem dX11_isOn_6 : decode cX11_isOn 6 = .ok (.getfield 10, 3) := by decide +kernel
theorem dX11_isOn_9 : decode cX11_isOn 9 = .ok (.getfield 87, 3) := by decide +kernel
theorem dX11_isOn_12 : decode cX11_isOn 12 = .ok (.getfield 119, 3) := by decide +kernel
theorem dX11_isOn_15 : decode cX11_isOn 15 = .ok (.iload_n 1, 1) := by decide +kernel
theorem dX11_isOn_16 : decode cX11_isOn 16 = .ok (.baload, 1) := by decide +kernel
theorem dX11_isOn_17 : decode cX11_isOn 17 = .ok (.ireturn, 1) := by decide +kernel
set_option maxRecDepth 20000 in
theorem ggX11_oilOf_X11_requireLamp : GoodIn wsX11_oilOf wsX11_requireLamp := goodIn_ca (goodIn_r _ [8, 9, 10, 1, 2, 11, 12, 13, 14, 15, 16, 17, 18, 19, 20, 21, 22, 23, 24, 25, 26, 27, 28, 29, 30, 31, 32, 33, 34, 35, 36, 37, 38, 39, 40] (by decide +kernel) (by decide +kernel)) (goodIn_sub (fun _ h => List.mem_cons_of_mem _ (List.mem_append_right _ h)) (by decide +kernel))
set_option maxRecDepth 20000 in
theorem gX11_oilOf_X11_requireLamp : GoodIn wsX11_oilOf (wsV RX11 115 RX11 yX11_requireLamp wsX11_requireLamp) := goodIn_app (goodIn_of _ (by decide +kernel)) ggX11_oilOf_X11_requireLamp
theorem dX11_oilOf_0 : decode cX11_oilOf 0 = .ok (.aload_n 0, 1) := by decide +kernel
theorem dX11_oilOf_1 : decode cX11_oilOf 1 = .ok (.iload_n 1, 1) := by decide +kernel
theorem dX11_oilOf_2 : decode cX11_oilOf 2 = .ok (.invokevirtual 115, 3) := by decide +kernel
theorem dX11_oilOf_5 : decode cX11_oilOf 5 = .ok (.aload_n 0, 1) := by decide +kernel
theorem dX11_oilOf_6 : decode cX11_oilOf 6 = .ok (.getfield 10, 3) := by decide +kernel
theorem dX11_oilOf_9 : decode cX11_oilOf 9 = .ok (.getfield 87, 3) := by decide +kernel
theorem dX11_oilOf_12 : decode cX11_oilOf 12 = .ok (.getfield 129, 3) := by decide +kernel
theorem dX11_oilOf_15 : decode cX11_oilOf 15 = .ok (.iload_n 1, 1) := by decide +kernel
theorem dX11_oilOf_16 : decode cX11_oilOf 16 = .ok (.iaload, 1) := by decide +kernel
theorem dX11_oilOf_17 : decode cX11_oilOf 17 = .ok (.ireturn, 1) := by decide +kernel
set_option maxRecDepth 20000 in
theorem ggX11_wickOf_X11_requireLamp : GoodIn wsX11_wickOf wsX11_requireLamp := goodIn_ca (goodIn_r _ [8, 9, 10, 1, 2, 11, 12, 13, 14, 15, 16, 17, 18, 19, 20, 21, 22, 23, 24, 25, 26, 27, 28, 29, 30, 31, 32, 33, 34, 35, 36, 37, 38, 39, 40] (by decide +kernel) (by decide +kernel)) (goodIn_sub (fun _ h => List.mem_cons_of_mem _ (List.mem_append_right _ h)) (by decide +kernel))
set_option maxRecDepth 20000 in
theorem gX11_wickOf_X11_requireLamp : GoodIn wsX11_wickOf (wsV RX11 115 RX11 yX11_requireLamp wsX11_requireLamp) := goodIn_app (goodIn_of _ (by decide +kernel)) ggX11_wickOf_X11_requireLamp
theorem dX11_wickOf_0 : decode cX11_wickOf 0 = .ok (.aload_n 0, 1) := by decide +kernel
theorem dX11_wickOf_1 : decode cX11_wickOf 1 = .ok (.iload_n 1, 1) := by decide +kernel
theorem dX11_wickOf_2 : decode cX11_wickOf 2 = .ok (.invokevirtual 115, 3) := by decide +kernel
theorem dX11_wickOf_5 : decode cX11_wickOf 5 = .ok (.aload_n 0, 1) := by decide +kernel
theorem dX11_wickOf_6 : decode cX11_wickOf 6 = .ok (.getfield 10, 3) := by decide +kernel
theorem dX11_wickOf_9 : decode cX11_wickOf 9 = .ok (.getfield 87, 3) := by decide +kernel
theorem dX11_wickOf_12 : decode cX11_wickOf 12 = .ok (.getfield 132, 3) := by decide +kernel
theorem dX11_wickOf_15 : decode cX11_wickOf 15 = .ok (.iload_n 1, 1) := by decide +kernel
theorem dX11_wickOf_16 : decode cX11_wickOf 16 = .ok (.iaload, 1) := by decide +kernel
theorem dX11_wickOf_17 : decode cX11_wickOf 17 = .ok (.ireturn, 1) := by decide +kernel
set_option maxRecDepth 20000 in
theorem ggX11_balanceOf_X11_requireLamp : GoodIn wsX11_balanceOf wsX11_requireLamp := goodIn_ca (goodIn_r _ [8, 9, 10, 1, 2, 11, 12, 13, 14, 15, 16, 17, 18, 19, 20, 21, 22, 23, 24, 25, 26, 27, 28, 29, 30, 31, 32, 33, 34, 35, 36, 37, 38, 39, 40] (by decide +kernel) (by decide +kernel)) (goodIn_sub (fun _ h => List.mem_cons_of_mem _ (List.mem_append_right _ h)) (by decide +kernel))
set_option maxRecDepth 20000 in
theorem gX11_balanceOf_X11_requireLamp : GoodIn wsX11_balanceOf (wsV RX11 115 RX11 yX11_requireLamp wsX11_requireLamp) := goodIn_app (goodIn_of _ (by decide +kernel)) ggX11_balanceOf_X11_requireLamp
theorem dX11_balanceOf_0 : decode cX11_balanceOf 0 = .ok (.aload_n 0, 1) := by decide +kernel
theorem dX11_balanceOf_1 : decode cX11_balanceOf 1 = .ok (.iload_n 1, 1) := by decide +kernel
theorem dX11_balanceOf_2 : decode cX11_balanceOf 2 = .ok (.invokevirtual 115, 3) := by decide +kernel
theorem dX11_balanceOf_5 : decode cX11_balanceOf 5 = .ok (.aload_n 0, 1) := by decide +kernel
theorem dX11_balanceOf_6 : decode cX11_balanceOf 6 = .ok (.getfield 10, 3) := by decide +kernel
theorem dX11_balanceOf_9 : decode cX11_balanceOf 9 = .ok (.getfield 87, 3) := by decide +kernel
theorem dX11_balanceOf_12 : decode cX11_balanceOf 12 = .ok (.getfield 135, 3) := by decide +kernel
theorem dX11_balanceOf_15 : decode cX11_balanceOf 15 = .ok (.iload_n 1, 1) := by decide +kernel
theorem dX11_balanceOf_16 : decode cX11_balanceOf 16 = .ok (.iaload, 1) := by decide +kernel
theorem dX11_balanceOf_17 : decode cX11_balanceOf 17 = .ok (.ireturn, 1) := by decide +kernel
set_option maxRecDepth 20000 in
theorem ggX11_deliverOil_X9_refusalToDeliver : GoodIn wsX11_deliverOil wsX9_refusalToDeliver := goodIn_r _ [8, 9, 10, 11, 12, 13, 14, 15, 16, 133, 134, 135, 136, 137, 138, 139, 140, 141, 142, 143] (by decide +kernel) (by decide +kernel)
set_option maxRecDepth 20000 in
theorem gX11_deliverOil_X9_refusalToDeliver : GoodIn wsX11_deliverOil (wsV RX11 138 RX9 yX9_refusalToDeliver wsX9_refusalToDeliver) := goodIn_app (goodIn_of _ (by decide +kernel)) ggX11_deliverOil_X9_refusalToDeliver
set_option maxRecDepth 20000 in
theorem ggX11_deliverOil_X11_raise : GoodIn wsX11_deliverOil wsX11_raise := goodIn_ca (goodIn_ca (goodIn_ca (goodIn_r _ [19, 20, 21, 22, 23, 24, 25, 26, 27, 28] (by decide +kernel) (by decide +kernel)) (goodIn_sub (fun _ h => List.mem_cons_of_mem _ (List.mem_append_left _ (List.mem_append_left _ (List.mem_append_left _ (List.mem_append_right _ h))))) (by decide +kernel))) (goodIn_sub (fun _ h => List.mem_cons_of_mem _ (List.mem_append_left _ (List.mem_append_left _ (List.mem_append_right _ h)))) (by decide +kernel))) (goodIn_sub (fun _ h => List.mem_cons_of_mem _ (List.mem_append_left _ (List.mem_append_right _ h))) (by decide +kernel))
set_option maxRecDepth 20000 in
theorem gX11_deliverOil_X11_raise : GoodIn wsX11_deliverOil (va_wsS RX11 79 yX11_raise wsX11_raise) := goodIn_app (goodIn_of _ (by decide +kernel)) ggX11_deliverOil_X11_raise
set_option maxRecDepth 20000 in
theorem ggX11_deliverOil_X4_remember : GoodIn wsX11_deliverOil wsX4_remember := goodIn_r _ [33, 34, 35, 36, 37, 38, 39, 40, 41, 42, 43, 7, 44, 10, 45, 46, 47, 48, 49, 50, 51, 52, 53, 54, 55, 56, 57, 58, 59, 60, 61, 62, 63, 64, 65, 66, 67, 68, 69, 70, 71, 72, 73, 74, 75, 76, 77, 78, 79, 80, 81, 82, 83, 84, 85, 86, 87, 88, 144, 145, 146, 133, 134, 135, 136, 137, 138, 139, 140, 141, 142, 143, 147, 148, 149, 150, 151, 152, 153, 154, 155, 156, 157, 158, 159, 160] (by decide +kernel) (by decide +kernel)
set_option maxRecDepth 20000 in
theorem gX11_deliverOil_X4_remember : GoodIn wsX11_deliverOil (wsV RX11 83 RX4 yX4_remember wsX4_remember) := goodIn_app (goodIn_of _ (by decide +kernel)) ggX11_deliverOil_X4_remember
set_option maxRecDepth 20000 in
theorem ggX11_deliverOil_X9_pourOil : GoodIn wsX11_deliverOil wsX9_pourOil := goodIn_ca (goodIn_r _ [92, 10, 11, 93, 94, 95, 38, 39, 40, 46, 96, 97, 98, 99, 100, 101, 102, 103, 104, 105, 106, 107, 108, 109, 110, 111, 112, 113, 114, 50, 115, 52, 116, 117, 118, 119, 133, 134, 135, 136, 137, 138, 139, 140, 141, 142, 143, 161, 162, 163, 151, 152, 153, 154, 155, 156, 157, 158, 159, 160] (by decide +kernel) (by decide +kernel)) (goodIn_sub (fun _ h => List.mem_cons_of_mem _ (List.mem_append_right _ h)) (by decide +kernel))
set_option maxRecDepth 20000 in
theorem gX11_deliverOil_X9_pourOil : GoodIn wsX11_deliverOil (wsV RX11 141 RX9 yX9_pourOil wsX9_pourOil) := goodIn_app (goodIn_of _ (by decide +kernel)) ggX11_deliverOil_X9_pourOil
theorem dX11_deliverOil_0 : decode cX11_deliverOil 0 = .ok (.aload_n 0, 1) := by decide +kernel
theorem dX11_deliverOil_1 : decode cX11_deliverOil 1 = .ok (.getfield 10, 3) := by decide +kernel
theorem dX11_deliverOil_4 : decode cX11_deliverOil 4 = .ok (.iload_n 1, 1) := by decide +kernel
theorem dX11_deliverOil_5 : decode cX11_deliverOil 5 = .ok (.invokevirtual 138, 3) := by decide +kernel
theorem dX11_deliverOil_8 : decode cX11_deliverOil 8 = .ok (.invokestatic 79, 3) := by decide +kernel
theorem dX11_deliverOil_11 : decode cX11_deliverOil 11 = .ok (.aload_n 0, 1) := by decide +kernel
theorem dX11_deliverOil_12 : decode cX11_deliverOil 12 = .ok (.getfield 29, 3) := by decide +kernel
theorem dX11_deliverOil_15 : decode cX11_deliverOil 15 = .ok (.aload_n 0, 1) := by decide +kernel
theorem dX11_deliverOil_16 : decode cX11_deliverOil 16 = .ok (.getfield 10, 3) := by decide +kernel
theorem dX11_deliverOil_19 : decode cX11_deliverOil 19 = .ok (.invokevirtual 83, 3) := by decide +kernel
theorem dX11_deliverOil_22 : decode cX11_deliverOil 22 = .ok (.aload_n 0, 1) := by decide +kernel
theorem dX11_deliverOil_23 : decode cX11_deliverOil 23 = .ok (.getfield 10, 3) := by decide +kernel
theorem dX11_deliverOil_26 : decode cX11_deliverOil 26 = .ok (.iload_n 1, 1) := by decide +kernel
theorem dX11_deliverOil_27 : decode cX11_deliverOil 27 = .ok (.aload_n 0, 1) := by decide +kernel
theorem dX11_deliverOil_28 : decode cX11_deliverOil 28 = .ok (.getfield 43, 3) := by decide +kernel
theorem dX11_deliverOil_31 : decode cX11_deliverOil 31 = .ok (.invokevirtual 141, 3) := by decide +kernel
theorem dX11_deliverOil_34 : decode cX11_deliverOil 34 = .ok (.ireturn, 1) := by decide +kernel
set_option maxRecDepth 20000 in
theorem ggX11_buyOil_X9_refusalToBuy : GoodIn wsX11_buyOil wsX9_refusalToBuy := goodIn_ca (goodIn_r _ [7, 8, 9, 10, 11, 12, 13, 14, 15, 16, 17, 6, 18, 19, 20, 21, 22, 23, 24, 25, 26, 27, 28, 29, 117, 118, 119, 120, 121, 122, 123, 124, 125, 126, 127, 128, 129, 130, 131, 132, 133, 134, 135, 136, 137] (by decide +kernel) (by decide +kernel)) (goodIn_sub (fun _ h => List.mem_cons_of_mem _ (List.mem_append_left _ (List.mem_append_left _ (List.mem_append_left _ (List.mem_append_right _ h))))) (by decide +kernel))
set_option maxRecDepth 20000 in
theorem gX11_buyOil_X9_refusalToBuy : GoodIn wsX11_buyOil (wsV RX11 145 RX9 yX9_refusalToBuy wsX9_refusalToBuy) := goodIn_app (goodIn_of _ (by decide +kernel)) ggX11_buyOil_X9_refusalToBuy
set_option maxRecDepth 20000 in
theorem ggX11_buyOil_X11_raise : GoodIn wsX11_buyOil wsX11_raise := goodIn_ca (goodIn_ca (goodIn_ca (goodIn_r _ [32, 33, 34, 35, 36, 37, 38, 39, 40, 41] (by decide +kernel) (by decide +kernel)) (goodIn_sub (fun _ h => List.mem_cons_of_mem _ (List.mem_append_left _ (List.mem_append_left _ (List.mem_append_right _ h)))) (by decide +kernel))) (goodIn_sub (fun _ h => List.mem_cons_of_mem _ (List.mem_append_left _ (List.mem_append_right _ h))) (by decide +kernel))) (goodIn_sub (fun _ h => List.mem_cons_of_mem _ (List.mem_append_right _ h)) (by decide +kernel))
set_option maxRecDepth 20000 in
theorem gX11_buyOil_X11_raise : GoodIn wsX11_buyOil (va_wsS RX11 79 yX11_raise wsX11_raise) := goodIn_app (goodIn_of _ (by decide +kernel)) ggX11_buyOil_X11_raise
set_option maxRecDepth 20000 in
theorem ggX11_buyOil_X4_remember : GoodIn wsX11_buyOil wsX4_remember := goodIn_r _ [46, 47, 48, 49, 50, 51, 52, 53, 54, 55, 56, 6, 57, 11, 58, 9, 59, 60, 61, 24, 62, 26, 63, 64, 65, 66, 67, 68, 69, 70, 71, 72, 73, 74, 75, 76, 77, 78, 79, 80, 81, 82, 83, 84, 85, 86, 87, 88, 89, 90, 91, 92, 93, 94, 95, 96, 97, 98, 138, 139, 140, 117, 118, 119, 130, 131, 132, 133, 134, 135, 136, 137, 141, 142, 143, 144, 120, 121, 122, 123, 124, 125, 126, 127, 128, 129] (by decide +kernel) (by decide +kernel)
set_option maxRecDepth 20000 in
theorem gX11_buyOil_X4_remember : GoodIn wsX11_buyOil (wsV RX11 83 RX4 yX4_remember wsX4_remember) := goodIn_app (goodIn_of _ (by decide +kernel)) ggX11_buyOil_X4_remember
set_option maxRecDepth 20000 in
theorem ggX11_buyOil_X9_sellOil : GoodIn wsX11_buyOil wsX9_sellOil := goodIn_ca (goodIn_r _ [102, 9, 10, 11, 12, 13, 103, 117, 118, 119, 120, 121, 122, 123, 124, 125, 126, 127, 128, 129, 130, 131, 132, 133, 134, 135, 136, 137] (by decide +kernel) (by decide +kernel)) (goodIn_sub (fun _ h => List.mem_cons_of_mem _ (List.mem_append_left _ (List.mem_append_left _ (List.mem_append_left _ (List.mem_append_right _ h))))) (by decide +kernel))
set_option maxRecDepth 20000 in
theorem gX11_buyOil_X9_sellOil : GoodIn wsX11_buyOil (wsV RX11 148 RX9 yX9_sellOil wsX9_sellOil) := goodIn_app (goodIn_of _ (by decide +kernel)) ggX11_buyOil_X9_sellOil
theorem dX11_buyOil_0 : decode cX11_buyOil 0 = .ok (.aload_n 0, 1) := by decide +kernel
theorem dX11_buyOil_1 : decode cX11_buyOil 1 = .ok (.getfield 10, 3) := by decide +kernel
theorem dX11_buyOil_4 : decode cX11_buyOil 4 = .ok (.iload_n 1, 1) := by decide +kernel
theorem dX11_buyOil_5 : decode cX11_buyOil 5 = .ok (.iload_n 2, 1) := by decide +kernel
theorem dX11_buyOil_6 : decode cX11_buyOil 6 = .ok (.invokevirtual 145, 3) := by decide +kernel
theorem dX11_buyOil_9 : decode cX11_buyOil 9 = .ok (.invokestatic 79, 3) := by decide +kernel
theorem dX11_buyOil_12 : decode cX11_buyOil 12 = .ok (.aload_n 0, 1) := by decide +kernel
theorem dX11_buyOil_13 : decode cX11_buyOil 13 = .ok (.getfield 29, 3) := by decide +kernel
theorem dX11_buyOil_16 : decode cX11_buyOil 16 = .ok (.aload_n 0, 1) := by decide +kernel
theorem dX11_buyOil_17 : decode cX11_buyOil 17 = .ok (.getfield 10, 3) := by decide +kernel
theorem dX11_buyOil_20 : decode cX11_buyOil 20 = .ok (.invokevirtual 83, 3) := by decide +kernel
theorem dX11_buyOil_23 : decode cX11_buyOil 23 = .ok (.aload_n 0, 1) := by decide +kernel
theorem dX11_buyOil_24 : decode cX11_buyOil 24 = .ok (.getfield 10, 3) := by decide +kernel
theorem dX11_buyOil_27 : decode cX11_buyOil 27 = .ok (.iload_n 1, 1) := by decide +kernel
theorem dX11_buyOil_28 : decode cX11_buyOil 28 = .ok (.iload_n 2, 1) := by decide +kernel
theorem dX11_buyOil_29 : decode cX11_buyOil 29 = .ok (.invokevirtual 148, 3) := by decide +kernel
theorem dX11_buyOil_32 : decode cX11_buyOil 32 = .ok (.ireturn, 1) := by decide +kernel
set_option maxRecDepth 20000 in
theorem ggX11_donateWicks_X9_refusalToDonate : GoodIn wsX11_donateWicks wsX9_refusalToDonate := goodIn_r _ [7, 8, 9, 10, 11, 12, 13, 14, 15, 106, 107, 108, 109, 110, 111, 112, 113, 114, 115, 116, 117, 118] (by decide +kernel) (by decide +kernel)
set_option maxRecDepth 20000 in
theorem gX11_donateWicks_X9_refusalToDonate : GoodIn wsX11_donateWicks (wsV RX11 151 RX9 yX9_refusalToDonate wsX9_refusalToDonate) := goodIn_app (goodIn_of _ (by decide +kernel)) ggX11_donateWicks_X9_refusalToDonate
set_option maxRecDepth 20000 in
theorem ggX11_donateWicks_X11_raise : GoodIn wsX11_donateWicks wsX11_raise := goodIn_ca (goodIn_ca (goodIn_ca (goodIn_r _ [18, 19, 20, 21, 22, 23, 24, 25, 26, 27] (by decide +kernel) (by decide +kernel)) (goodIn_sub (fun _ h => List.mem_cons_of_mem _ (List.mem_append_left _ (List.mem_append_left _ (List.mem_append_right _ h)))) (by decide +kernel))) (goodIn_sub (fun _ h => List.mem_cons_of_mem _ (List.mem_append_left _ (List.mem_append_right _ h))) (by decide +kernel))) (goodIn_sub (fun _ h => List.mem_cons_of_mem _ (List.mem_append_right _ h)) (by decide +kernel))
set_option maxRecDepth 20000 in
theorem gX11_donateWicks_X11_raise : GoodIn wsX11_donateWicks (va_wsS RX11 79 yX11_raise wsX11_raise) := goodIn_app (goodIn_of _ (by decide +kernel)) ggX11_donateWicks_X11_raise
set_option maxRecDepth 20000 in
theorem ggX11_donateWicks_X4_remember : GoodIn wsX11_donateWicks wsX4_remember := goodIn_r _ [32, 33, 34, 35, 36, 37, 38, 39, 40, 41, 42, 6, 43, 44, 45, 9, 46, 47, 48, 49, 50, 51, 52, 53, 54, 55, 56, 57, 58, 59, 60, 61, 62, 63, 64, 65, 66, 67, 68, 69, 70, 71, 72, 73, 74, 75, 76, 77, 78, 79, 80, 81, 82, 83, 84, 85, 86, 87, 119, 120, 121, 106, 107, 108, 122, 123, 124, 125, 126, 127, 128, 129, 130, 131, 132, 133, 109, 110, 111, 112, 113, 114, 115, 116, 117, 118] (by decide +kernel) (by decide +kernel)
set_option maxRecDepth 20000 in
theorem gX11_donateWicks_X4_remember : GoodIn wsX11_donateWicks (wsV RX11 83 RX4 yX4_remember wsX4_remember) := goodIn_app (goodIn_of _ (by decide +kernel)) ggX11_donateWicks_X4_remember
set_option maxRecDepth 20000 in
theorem ggX11_donateWicks_X9_takeDonation : GoodIn wsX11_donateWicks wsX9_takeDonation := goodIn_r _ [91, 9, 10, 92, 106, 107, 108, 109, 110, 111, 112, 113, 114, 115, 116, 117, 118] (by decide +kernel) (by decide +kernel)
set_option maxRecDepth 20000 in
theorem gX11_donateWicks_X9_takeDonation : GoodIn wsX11_donateWicks (wsV RX11 154 RX9 yX9_takeDonation wsX9_takeDonation) := goodIn_app (goodIn_of _ (by decide +kernel)) ggX11_donateWicks_X9_takeDonation
theorem dX11_donateWicks_0 : decode cX11_donateWicks 0 = .ok (.aload_n 0, 1) := by decide +kernel
theorem dX11_donateWicks_1 : decode cX11_donateWicks 1 = .ok (.getfield 10, 3) := by decide +kernel
theorem dX11_donateWicks_4 : decode cX11_donateWicks 4 = .ok (.iload_n 1, 1) := by decide +kernel
theorem dX11_donateWicks_5 : decode cX11_donateWicks 5 = .ok (.invokevirtual 151, 3) := by decide +kernel
theorem dX11_donateWicks_8 : decode cX11_donateWicks 8 = .ok (.invokestatic 79, 3) := by decide +kernel
theorem dX11_donateWicks_11 : decode cX11_donateWicks 11 = .ok (.aload_n 0, 1) := by decide +kernel
theorem dX11_donateWicks_12 : decode cX11_donateWicks 12 = .ok (.getfield 29, 3) := by decide +kernel
theorem dX11_donateWicks_15 : decode cX11_donateWicks 15 = .ok (.aload_n 0, 1) := by decide +kernel
theorem dX11_donateWicks_16 : decode cX11_donateWicks 16 = .ok (.getfield 10, 3) := by decide +kernel
theorem dX11_donateWicks_19 : decode cX11_donateWicks 19 = .ok (.invokevirtual 83, 3) := by decide +kernel
theorem dX11_donateWicks_22 : decode cX11_donateWicks 22 = .ok (.aload_n 0, 1) := by decide +kernel
theorem dX11_donateWicks_23 : decode cX11_donateWicks 23 = .ok (.getfield 10, 3) := by decide +kernel
theorem dX11_donateWicks_26 : decode cX11_donateWicks 26 = .ok (.iload_n 1, 1) := by decide +kernel
theorem dX11_donateWicks_27 : decode cX11_donateWicks 27 = .ok (.invokevirtual 154, 3) := by decide +kernel
theorem dX11_donateWicks_30 : decode cX11_donateWicks 30 = .ok (.ireturn, 1) := by decide +kernel
set_option maxRecDepth 20000 in
theorem ggX11_giveWick_X9_refusalToGive : GoodIn wsX11_giveWick wsX9_refusalToGive := goodIn_ca (goodIn_r _ [7, 8, 9, 10, 11, 12, 13, 14, 15, 16, 6, 17, 18, 19, 20, 21, 22, 23, 24, 25, 26, 27, 28, 115, 116, 117, 118, 119, 120, 121, 122, 123, 124, 125, 126, 127, 128, 129, 130, 131, 132, 133, 134, 135] (by decide +kernel) (by decide +kernel)) (goodIn_sub (fun _ h => List.mem_cons_of_mem _ (List.mem_append_left _ (List.mem_append_left _ (List.mem_append_left _ (List.mem_append_right _ h))))) (by decide +kernel))
set_option maxRecDepth 20000 in
theorem gX11_giveWick_X9_refusalToGive : GoodIn wsX11_giveWick (wsV RX11 157 RX9 yX9_refusalToGive wsX9_refusalToGive) := goodIn_app (goodIn_of _ (by decide +kernel)) ggX11_giveWick_X9_refusalToGive
set_option maxRecDepth 20000 in
theorem ggX11_giveWick_X11_raise : GoodIn wsX11_giveWick wsX11_raise := goodIn_ca (goodIn_ca (goodIn_ca (goodIn_r _ [31, 32, 33, 34, 35, 36, 37, 38, 39, 40] (by decide +kernel) (by decide +kernel)) (goodIn_sub (fun _ h => List.mem_cons_of_mem _ (List.mem_append_left _ (List.mem_append_left _ (List.mem_append_right _ h)))) (by decide +kernel))) (goodIn_sub (fun _ h => List.mem_cons_of_mem _ (List.mem_append_left _ (List.mem_append_right _ h))) (by decide +kernel))) (goodIn_sub (fun _ h => List.mem_cons_of_mem _ (List.mem_append_right _ h)) (by decide +kernel))
set_option maxRecDepth 20000 in
theorem gX11_giveWick_X11_raise : GoodIn wsX11_giveWick (va_wsS RX11 79 yX11_raise wsX11_raise) := goodIn_app (goodIn_of _ (by decide +kernel)) ggX11_giveWick_X11_raise
set_option maxRecDepth 20000 in
theorem ggX11_giveWick_X4_remember : GoodIn wsX11_giveWick wsX4_remember := goodIn_r _ [45, 46, 47, 48, 49, 50, 51, 52, 53, 54, 55, 6, 56, 11, 57, 9, 58, 59, 60, 23, 61, 25, 62, 63, 64, 65, 66, 67, 68, 69, 70, 71, 72, 73, 74, 75, 76, 77, 78, 79, 80, 81, 82, 83, 84, 85, 86, 87, 88, 89, 90, 91, 92, 93, 94, 95, 96, 97, 136, 137, 138, 115, 116, 117, 128, 129, 130, 131, 132, 133, 134, 135, 139, 140, 141, 142, 118, 119, 120, 121, 122, 123, 124, 125, 126, 127] (by decide +kernel) (by decide +kernel)
set_option maxRecDepth 20000 in
theorem gX11_giveWick_X4_remember : GoodIn wsX11_giveWick (wsV RX11 83 RX4 yX4_remember wsX4_remember) := goodIn_app (goodIn_of _ (by decide +kernel)) ggX11_giveWick_X4_remember
set_option maxRecDepth 20000 in
theorem ggX11_giveWick_X9_moveWickToLamp : GoodIn wsX11_giveWick wsX9_moveWickToLamp := goodIn_ca (goodIn_r _ [101, 9, 10, 11, 12, 115, 116, 117, 118, 119, 120, 121, 122, 123, 124, 125, 126, 127, 128, 129, 130, 131, 132, 133, 134, 135] (by decide +kernel) (by decide +kernel)) (goodIn_sub (fun _ h => List.mem_cons_of_mem _ (List.mem_append_left _ (List.mem_append_left _ (List.mem_append_left _ (List.mem_append_right _ h))))) (by decide +kernel))
set_option maxRecDepth 20000 in
theorem gX11_giveWick_X9_moveWickToLamp : GoodIn wsX11_giveWick (wsV RX11 160 RX9 yX9_moveWickToLamp wsX9_moveWickToLamp) := goodIn_app (goodIn_of _ (by decide +kernel)) ggX11_giveWick_X9_moveWickToLamp
theorem dX11_giveWick_0 : decode cX11_giveWick 0 = .ok (.aload_n 0, 1) := by decide +kernel
theorem dX11_giveWick_1 : decode cX11_giveWick 1 = .ok (.getfield 10, 3) := by decide +kernel
theorem dX11_giveWick_4 : decode cX11_giveWick 4 = .ok (.iload_n 1, 1) := by decide +kernel
theorem dX11_giveWick_5 : decode cX11_giveWick 5 = .ok (.iload_n 2, 1) := by decide +kernel
theorem dX11_giveWick_6 : decode cX11_giveWick 6 = .ok (.invokevirtual 157, 3) := by decide +kernel
theorem dX11_giveWick_9 : decode cX11_giveWick 9 = .ok (.invokestatic 79, 3) := by decide +kernel
theorem dX11_giveWick_12 : decode cX11_giveWick 12 = .ok (.aload_n 0, 1) := by decide +kernel
theorem dX11_giveWick_13 : decode cX11_giveWick 13 = .ok (.getfield 29, 3) := by decide +kernel
theorem dX11_giveWick_16 : decode cX11_giveWick 16 = .ok (.aload_n 0, 1) := by decide +kernel
theorem dX11_giveWick_17 : decode cX11_giveWick 17 = .ok (.getfield 10, 3) := by decide +kernel
theorem dX11_giveWick_20 : decode cX11_giveWick 20 = .ok (.invokevirtual 83, 3) := by decide +kernel
theorem dX11_giveWick_23 : decode cX11_giveWick 23 = .ok (.aload_n 0, 1) := by decide +kernel
theorem dX11_giveWick_24 : decode cX11_giveWick 24 = .ok (.getfield 10, 3) := by decide +kernel
theorem dX11_giveWick_27 : decode cX11_giveWick 27 = .ok (.iload_n 1, 1) := by decide +kernel
theorem dX11_giveWick_28 : decode cX11_giveWick 28 = .ok (.iload_n 2, 1) := by decide +kernel
theorem dX11_giveWick_29 : decode cX11_giveWick 29 = .ok (.invokevirtual 160, 3) := by decide +kernel
theorem dX11_giveWick_32 : decode cX11_giveWick 32 = .ok (.ireturn, 1) := by decide +kernel
set_option maxRecDepth 20000 in
theorem ggX11_returnWick_X9_refusalToReturn : GoodIn wsX11_returnWick wsX9_refusalToReturn := goodIn_ca (goodIn_r _ [7, 8, 9, 10, 11, 12, 13, 14, 15, 16, 6, 17, 18, 19, 20, 21, 22, 23, 24, 25, 26, 27, 28, 115, 116, 117, 118, 119, 120, 121, 122, 123, 124, 125, 126, 127, 128, 129, 130, 131, 132, 133, 134, 135] (by decide +kernel) (by decide +kernel)) (goodIn_sub (fun _ h => List.mem_cons_of_mem _ (List.mem_append_left _ (List.mem_append_left _ (List.mem_append_left _ (List.mem_append_right _ h))))) (by decide +kernel))
set_option maxRecDepth 20000 in
theorem gX11_returnWick_X9_refusalToReturn : GoodIn wsX11_returnWick (wsV RX11 163 RX9 yX9_refusalToReturn wsX9_refusalToReturn) := goodIn_app (goodIn_of _ (by decide +kernel)) ggX11_returnWick_X9_refusalToReturn
set_option maxRecDepth 20000 in
theorem ggX11_returnWick_X11_raise : GoodIn wsX11_returnWick wsX11_raise := goodIn_ca (goodIn_ca (goodIn_ca (goodIn_r _ [31, 32, 33, 34, 35, 36, 37, 38, 39, 40] (by decide +kernel) (by decide +kernel)) (goodIn_sub (fun _ h => List.mem_cons_of_mem _ (List.mem_append_left _ (List.mem_append_left _ (List.mem_append_right _ h)))) (by decide +kernel))) (goodIn_sub (fun _ h => List.mem_cons_of_mem _ (List.mem_append_left _ (List.mem_append_right _ h))) (by decide +kernel))) (goodIn_sub (fun _ h => List.mem_cons_of_mem _ (List.mem_append_right _ h)) (by decide +kernel))
set_option maxRecDepth 20000 in
theorem gX11_returnWick_X11_raise : GoodIn wsX11_returnWick (va_wsS RX11 79 yX11_raise wsX11_raise) := goodIn_app (goodIn_of _ (by decide +kernel)) ggX11_returnWick_X11_raise
set_option maxRecDepth 20000 in
theorem ggX11_returnWick_X4_remember : GoodIn wsX11_returnWick wsX4_remember := goodIn_r _ [45, 46, 47, 48, 49, 50, 51, 52, 53, 54, 55, 6, 56, 9, 57, 11, 58, 59, 60, 23, 61, 25, 62, 63, 64, 65, 66, 67, 68, 69, 70, 71, 72, 73, 74, 75, 76, 77, 78, 79, 80, 81, 82, 83, 84, 85, 86, 87, 88, 89, 90, 91, 92, 93, 94, 95, 96, 97, 136, 137, 138, 115, 116, 117, 118, 119, 120, 121, 122, 123, 124, 125, 139, 140, 141, 142, 126, 127, 128, 129, 130, 131, 132, 133, 134, 135] (by decide +kernel) (by decide +kernel)
set_option maxRecDepth 20000 in
theorem gX11_returnWick_X4_remember : GoodIn wsX11_returnWick (wsV RX11 83 RX4 yX4_remember wsX4_remember) := goodIn_app (goodIn_of _ (by decide +kernel)) ggX11_returnWick_X4_remember
set_option maxRecDepth 20000 in
theorem ggX11_returnWick_X9_moveWickToLamp : GoodIn wsX11_returnWick wsX9_moveWickToLamp := goodIn_ca (goodIn_r _ [101, 11, 12, 9, 10, 115, 116, 117, 126, 127, 128, 129, 130, 131, 132, 133, 134, 135, 118, 119, 120, 121, 122, 123, 124, 125] (by decide +kernel) (by decide +kernel)) (goodIn_sub (fun _ h => List.mem_cons_of_mem _ (List.mem_append_left _ (List.mem_append_left _ (List.mem_append_left _ (List.mem_append_right _ h))))) (by decide +kernel))
set_option maxRecDepth 20000 in
theorem gX11_returnWick_X9_moveWickToLamp : GoodIn wsX11_returnWick (wsV RX11 160 RX9 yX9_moveWickToLamp wsX9_moveWickToLamp) := goodIn_app (goodIn_of _ (by decide +kernel)) ggX11_returnWick_X9_moveWickToLamp
theorem dX11_returnWick_0 : decode cX11_returnWick 0 = .ok (.aload_n 0, 1) := by decide +kernel
theorem dX11_returnWick_1 : decode cX11_returnWick 1 = .ok (.getfield 10, 3) := by decide +kernel
theorem dX11_returnWick_4 : decode cX11_returnWick 4 = .ok (.iload_n 1, 1) := by decide +kernel
theorem dX11_returnWick_5 : decode cX11_returnWick 5 = .ok (.iload_n 2, 1) := by decide +kernel
theorem dX11_returnWick_6 : decode cX11_returnWick 6 = .ok (.invokevirtual 163, 3) := by decide +kernel
theorem dX11_returnWick_9 : decode cX11_returnWick 9 = .ok (.invokestatic 79, 3) := by decide +kernel
theorem dX11_returnWick_12 : decode cX11_returnWick 12 = .ok (.aload_n 0, 1) := by decide +kernel
theorem dX11_returnWick_13 : decode cX11_returnWick 13 = .ok (.getfield 29, 3) := by decide +kernel
theorem dX11_returnWick_16 : decode cX11_returnWick 16 = .ok (.aload_n 0, 1) := by decide +kernel
theorem dX11_returnWick_17 : decode cX11_returnWick 17 = .ok (.getfield 10, 3) := by decide +kernel
theorem dX11_returnWick_20 : decode cX11_returnWick 20 = .ok (.invokevirtual 83, 3) := by decide +kernel
theorem dX11_returnWick_23 : decode cX11_returnWick 23 = .ok (.aload_n 0, 1) := by decide +kernel
theorem dX11_returnWick_24 : decode cX11_returnWick 24 = .ok (.getfield 10, 3) := by decide +kernel
theorem dX11_returnWick_27 : decode cX11_returnWick 27 = .ok (.iload_n 1, 1) := by decide +kernel
theorem dX11_returnWick_28 : decode cX11_returnWick 28 = .ok (.iload_n 2, 1) := by decide +kernel
theorem dX11_returnWick_29 : decode cX11_returnWick 29 = .ok (.ineg, 1) := by decide +kernel
theorem dX11_returnWick_30 : decode cX11_returnWick 30 = .ok (.invokevirtual 160, 3) := by decide +kernel
theorem dX11_returnWick_33 : decode cX11_returnWick 33 = .ok (.ireturn, 1) := by decide +kernel
set_option maxRecDepth 20000 in
theorem ggX11_payDividend_X9_refusalToPay : GoodIn wsX11_payDividend wsX9_refusalToPay := goodIn_r _ [8, 9, 10, 11, 12, 13, 14, 128, 129, 130, 131, 132, 133, 134, 135, 136, 137, 138, 139, 140, 141, 142, 143, 144, 145, 146, 147, 148] (by decide +kernel) (by decide +kernel)
set_option maxRecDepth 20000 in
theorem gX11_payDividend_X9_refusalToPay : GoodIn wsX11_payDividend (wsV RX11 166 RX9 yX9_refusalToPay wsX9_refusalToPay) := goodIn_app (goodIn_of _ (by decide +kernel)) ggX11_payDividend_X9_refusalToPay
set_option maxRecDepth 20000 in
theorem ggX11_payDividend_X11_raise : GoodIn wsX11_payDividend wsX11_raise := goodIn_ca (goodIn_ca (goodIn_ca (goodIn_r _ [18, 19, 20, 21, 22, 23, 24, 25, 26, 27] (by decide +kernel) (by decide +kernel)) (goodIn_sub (fun _ h => List.mem_cons_of_mem _ (List.mem_append_left _ (List.mem_append_left _ (List.mem_append_left _ (List.mem_append_right _ h))))) (by decide +kernel))) (goodIn_sub (fun _ h => List.mem_cons_of_mem _ (List.mem_append_left _ (List.mem_append_left _ (List.mem_append_right _ h)))) (by decide +kernel))) (goodIn_sub (fun _ h => List.mem_cons_of_mem _ (List.mem_append_left _ (List.mem_append_right _ h))) (by decide +kernel))
set_option maxRecDepth 20000 in
theorem gX11_payDividend_X11_raise : GoodIn wsX11_payDividend (va_wsS RX11 79 yX11_raise wsX11_raise) := goodIn_app (goodIn_of _ (by decide +kernel)) ggX11_payDividend_X11_raise
set_option maxRecDepth 20000 in
theorem ggX11_payDividend_X4_remember : GoodIn wsX11_payDividend wsX4_remember := goodIn_r _ [32, 33, 34, 35, 36, 37, 38, 39, 40, 41, 42, 7, 43, 9, 44, 11, 45, 46, 47, 48, 49, 50, 51, 52, 53, 54, 55, 56, 57, 58, 59, 60, 61, 62, 63, 64, 65, 66, 67, 68, 69, 70, 71, 72, 73, 74, 75, 76, 77, 78, 79, 80, 81, 82, 83, 84, 85, 86, 149, 150, 151, 128, 129, 130, 131, 132, 133, 134, 135, 136, 137, 138, 152, 153, 154, 155, 139, 140, 141, 142, 143, 144, 145, 146, 147, 148] (by decide +kernel) (by decide +kernel)
set_option maxRecDepth 20000 in
theorem gX11_payDividend_X4_remember : GoodIn wsX11_payDividend (wsV RX11 83 RX4 yX4_remember wsX4_remember) := goodIn_app (goodIn_of _ (by decide +kernel)) ggX11_payDividend_X4_remember
set_option maxRecDepth 20000 in
theorem ggX11_payDividend_X9_shareTreasury : GoodIn wsX11_payDividend wsX9_shareTreasury := goodIn_ca (goodIn_r _ [90, 11, 12, 9, 10, 91, 92, 93, 94, 95, 96, 97, 98, 99, 100, 101, 102, 103, 104, 105, 106, 107, 108, 109, 48, 110, 50, 111, 112, 113, 114, 128, 129, 130, 139, 140, 141, 142, 143, 144, 145, 146, 147, 148, 131, 132, 133, 134, 135, 136, 137, 138, 156, 157, 158] (by decide +kernel) (by decide +kernel)) (goodIn_sub (fun _ h => List.mem_cons_of_mem _ (List.mem_append_right _ h)) (by decide +kernel))
set_option maxRecDepth 20000 in
theorem gX11_payDividend_X9_shareTreasury : GoodIn wsX11_payDividend (wsV RX11 170 RX9 yX9_shareTreasury wsX9_shareTreasury) := goodIn_app (goodIn_of _ (by decide +kernel)) ggX11_payDividend_X9_shareTreasury
theorem dX11_payDividend_0 : decode cX11_payDividend 0 = .ok (.aload_n 0, 1) := by decide +kernel
theorem dX11_payDividend_1 : decode cX11_payDividend 1 = .ok (.getfield 10, 3) := by decide +kernel
theorem dX11_payDividend_4 : decode cX11_payDividend 4 = .ok (.invokevirtual 166, 3) := by decide +kernel
theorem dX11_payDividend_7 : decode cX11_payDividend 7 = .ok (.invokestatic 79, 3) := by decide +kernel
theorem dX11_payDividend_10 : decode cX11_payDividend 10 = .ok (.aload_n 0, 1) := by decide +kernel
theorem dX11_payDividend_11 : decode cX11_payDividend 11 = .ok (.getfield 29, 3) := by decide +kernel
theorem dX11_payDividend_14 : decode cX11_payDividend 14 = .ok (.aload_n 0, 1) := by decide +kernel
theorem dX11_payDividend_15 : decode cX11_payDividend 15 = .ok (.getfield 10, 3) := by decide +kernel
theorem dX11_payDividend_18 : decode cX11_payDividend 18 = .ok (.invokevirtual 83, 3) := by decide +kernel
theorem dX11_payDividend_21 : decode cX11_payDividend 21 = .ok (.aload_n 0, 1) := by decide +kernel
theorem dX11_payDividend_22 : decode cX11_payDividend 22 = .ok (.getfield 10, 3) := by decide +kernel
theorem dX11_payDividend_25 : decode cX11_payDividend 25 = .ok (.aload_n 0, 1) := by decide +kernel
theorem dX11_payDividend_26 : decode cX11_payDividend 26 = .ok (.getfield 43, 3) := by decide +kernel
theorem dX11_payDividend_29 : decode cX11_payDividend 29 = .ok (.invokevirtual 170, 3) := by decide +kernel
theorem dX11_payDividend_32 : decode cX11_payDividend 32 = .ok (.ireturn, 1) := by decide +kernel
theorem dX11_reserve_0 : decode cX11_reserve 0 = .ok (.aload_n 0, 1) := by decide +kernel
theorem dX11_reserve_1 : decode cX11_reserve 1 = .ok (.getfield 10, 3) := by decide +kernel
theorem dX11_reserve_4 : decode cX11_reserve 4 = .ok (.getfield 174, 3) := by decide +kernel
theorem dX11_reserve_7 : decode cX11_reserve 7 = .ok (.getfield 178, 3) := by decide +kernel
theorem dX11_reserve_10 : decode cX11_reserve 10 = .ok (.ireturn, 1) := by decide +kernel
theorem dX11_pool_0 : decode cX11_pool 0 = .ok (.aload_n 0, 1) := by decide +kernel
theorem dX11_pool_1 : decode cX11_pool 1 = .ok (.getfield 10, 3) := by decide +kernel
theorem dX11_pool_4 : decode cX11_pool 4 = .ok (.getfield 174, 3) := by decide +kernel
theorem dX11_pool_7 : decode cX11_pool 7 = .ok (.getfield 183, 3) := by decide +kernel
theorem dX11_pool_10 : decode cX11_pool 10 = .ok (.ireturn, 1) := by decide +kernel
theorem dX11_treasury_0 : decode cX11_treasury 0 = .ok (.aload_n 0, 1) := by decide +kernel
theorem dX11_treasury_1 : decode cX11_treasury 1 = .ok (.getfield 10, 3) := by decide +kernel
theorem dX11_treasury_4 : decode cX11_treasury 4 = .ok (.getfield 174, 3) := by decide +kernel
theorem dX11_treasury_7 : decode cX11_treasury 7 = .ok (.getfield 186, 3) := by decide +kernel
theorem dX11_treasury_10 : decode cX11_treasury 10 = .ok (.ireturn, 1) := by decide +kernel
set_option maxRecDepth 20000 in
theorem ggX11_portionOf_X9_refusalToPortion : GoodIn wsX11_portionOf wsX9_refusalToPortion := goodIn_r _ [9, 10, 11, 12, 13, 14, 15, 16, 17, 18, 19, 20, 21, 22, 70, 71, 72, 76, 77, 78, 79, 80, 81, 82, 83] (by decide +kernel) (by decide +kernel)
set_option maxRecDepth 20000 in
theorem gX11_portionOf_X9_refusalToPortion : GoodIn wsX11_portionOf (wsV RX11 189 RX9 yX9_refusalToPortion wsX9_refusalToPortion) := goodIn_app (goodIn_of _ (by decide +kernel)) ggX11_portionOf_X9_refusalToPortion
set_option maxRecDepth 20000 in
theorem ggX11_portionOf_X11_raise : GoodIn wsX11_portionOf wsX11_raise := goodIn_ca (goodIn_ca (goodIn_ca (goodIn_r _ [25, 26, 27, 28, 29, 30, 31, 32, 33, 34] (by decide +kernel) (by decide +kernel)) (goodIn_sub (fun _ h => List.mem_cons_of_mem _ (List.mem_append_left _ (List.mem_append_left _ (List.mem_append_right _ h)))) (by decide +kernel))) (goodIn_sub (fun _ h => List.mem_cons_of_mem _ (List.mem_append_left _ (List.mem_append_right _ h))) (by decide +kernel))) (goodIn_sub (fun _ h => List.mem_cons_of_mem _ (List.mem_append_right _ h)) (by decide +kernel))
set_option maxRecDepth 20000 in
theorem gX11_portionOf_X11_raise : GoodIn wsX11_portionOf (va_wsS RX11 79 yX11_raise wsX11_raise) := goodIn_app (goodIn_of _ (by decide +kernel)) ggX11_portionOf_X11_raise
set_option maxRecDepth 20000 in
theorem ggX11_portionOf_X1_divideBySorting : GoodIn wsX11_portionOf wsX1_divideBySorting := goodIn_ca (goodIn_r _ [39, 40, 41, 42, 43, 44, 45, 38, 46, 47, 48, 49, 50, 51, 17, 52, 19, 53, 54, 55, 56, 76, 77, 78, 79, 80, 81, 82, 83, 73, 74, 75] (by decide +kernel) (by decide +kernel)) (goodIn_sub (fun _ h => List.mem_cons_of_mem _ (List.mem_append_left _ (List.mem_append_left _ (List.mem_append_left _ (List.mem_append_right _ h))))) (by decide +kernel))
set_option maxRecDepth 20000 in
theorem gX11_portionOf_X1_divideBySorting : GoodIn wsX11_portionOf (wsV RX11 192 RX1 yX1_divideBySorting wsX1_divideBySorting) := goodIn_app (goodIn_of _ (by decide +kernel)) ggX11_portionOf_X1_divideBySorting
theorem dX11_portionOf_0 : decode cX11_portionOf 0 = .ok (.aload_n 0, 1) := by decide +kernel
theorem dX11_portionOf_1 : decode cX11_portionOf 1 = .ok (.getfield 10, 3) := by decide +kernel
theorem dX11_portionOf_4 : decode cX11_portionOf 4 = .ok (.iload_n 1, 1) := by decide +kernel
theorem dX11_portionOf_5 : decode cX11_portionOf 5 = .ok (.iload_n 2, 1) := by decide +kernel
theorem dX11_portionOf_6 : decode cX11_portionOf 6 = .ok (.invokevirtual 189, 3) := by decide +kernel
theorem dX11_portionOf_9 : decode cX11_portionOf 9 = .ok (.invokestatic 79, 3) := by decide +kernel
theorem dX11_portionOf_12 : decode cX11_portionOf 12 = .ok (.aload_n 0, 1) := by decide +kernel
theorem dX11_portionOf_13 : decode cX11_portionOf 13 = .ok (.getfield 43, 3) := by decide +kernel
theorem dX11_portionOf_16 : decode cX11_portionOf 16 = .ok (.aload_n 0, 1) := by decide +kernel
theorem dX11_portionOf_17 : decode cX11_portionOf 17 = .ok (.getfield 10, 3) := by decide +kernel
theorem dX11_portionOf_20 : decode cX11_portionOf 20 = .ok (.getfield 87, 3) := by decide +kernel
theorem dX11_portionOf_23 : decode cX11_portionOf 23 = .ok (.iload_n 2, 1) := by decide +kernel
theorem dX11_portionOf_24 : decode cX11_portionOf 24 = .ok (.invokevirtual 192, 3) := by decide +kernel
theorem dX11_portionOf_27 : decode cX11_portionOf 27 = .ok (.aload_n 0, 1) := by decide +kernel
theorem dX11_portionOf_28 : decode cX11_portionOf 28 = .ok (.getfield 43, 3) := by decide +kernel
theorem dX11_portionOf_31 : decode cX11_portionOf 31 = .ok (.getfield 196, 3) := by decide +kernel
theorem dX11_portionOf_34 : decode cX11_portionOf 34 = .ok (.iload_n 1, 1) := by decide +kernel
theorem dX11_portionOf_35 : decode cX11_portionOf 35 = .ok (.iaload, 1) := by decide +kernel
theorem dX11_portionOf_36 : decode cX11_portionOf 36 = .ok (.ireturn, 1) := by decide +kernel
set_option maxRecDepth 20000 in
theorem ggX11_portionByRounds_X9_refusalToPortion : GoodIn wsX11_portionByRounds wsX9_refusalToPortion := goodIn_r _ [9, 10, 11, 12, 13, 14, 15, 16, 17, 18, 19, 20, 21, 22, 69, 70, 71, 75, 76, 77, 78, 79, 80, 81, 82] (by decide +kernel) (by decide +kernel)
set_option maxRecDepth 20000 in
theorem gX11_portionByRounds_X9_refusalToPortion : GoodIn wsX11_portionByRounds (wsV RX11 189 RX9 yX9_refusalToPortion wsX9_refusalToPortion) := goodIn_app (goodIn_of _ (by decide +kernel)) ggX11_portionByRounds_X9_refusalToPortion
set_option maxRecDepth 20000 in
theorem ggX11_portionByRounds_X11_raise : GoodIn wsX11_portionByRounds wsX11_raise := goodIn_ca (goodIn_ca (goodIn_ca (goodIn_r _ [25, 26, 27, 28, 29, 30, 31, 32, 33, 34] (by decide +kernel) (by decide +kernel)) (goodIn_sub (fun _ h => List.mem_cons_of_mem _ (List.mem_append_left _ (List.mem_append_left _ (List.mem_append_right _ h)))) (by decide +kernel))) (goodIn_sub (fun _ h => List.mem_cons_of_mem _ (List.mem_append_left _ (List.mem_append_right _ h))) (by decide +kernel))) (goodIn_sub (fun _ h => List.mem_cons_of_mem _ (List.mem_append_right _ h)) (by decide +kernel))
set_option maxRecDepth 20000 in
theorem gX11_portionByRounds_X11_raise : GoodIn wsX11_portionByRounds (va_wsS RX11 79 yX11_raise wsX11_raise) := goodIn_app (goodIn_of _ (by decide +kernel)) ggX11_portionByRounds_X11_raise
set_option maxRecDepth 20000 in
theorem ggX11_portionByRounds_X1_divideInRounds : GoodIn wsX11_portionByRounds wsX1_divideInRounds := goodIn_ca (goodIn_r _ [39, 40, 41, 42, 43, 44, 45, 38, 46, 47, 48, 49, 50, 17, 51, 19, 52, 53, 54, 55, 75, 76, 77, 78, 79, 80, 81, 82, 72, 73, 74] (by decide +kernel) (by decide +kernel)) (goodIn_sub (fun _ h => List.mem_cons_of_mem _ (List.mem_append_left _ (List.mem_append_left _ (List.mem_append_left _ (List.mem_append_right _ h))))) (by decide +kernel))
set_option maxRecDepth 20000 in
theorem gX11_portionByRounds_X1_divideInRounds : GoodIn wsX11_portionByRounds (wsV RX11 199 RX1 yX1_divideInRounds wsX1_divideInRounds) := goodIn_app (goodIn_of _ (by decide +kernel)) ggX11_portionByRounds_X1_divideInRounds
theorem dX11_portionByRounds_0 : decode cX11_portionByRounds 0 = .ok (.aload_n 0, 1) := by decide +kernel
theorem dX11_portionByRounds_1 : decode cX11_portionByRounds 1 = .ok (.getfield 10, 3) := by decide +kernel
theorem dX11_portionByRounds_4 : decode cX11_portionByRounds 4 = .ok (.iload_n 1, 1) := by decide +kernel
theorem dX11_portionByRounds_5 : decode cX11_portionByRounds 5 = .ok (.iload_n 2, 1) := by decide +kernel
theorem dX11_portionByRounds_6 : decode cX11_portionByRounds 6 = .ok (.invokevirtual 189, 3) := by decide +kernel
theorem dX11_portionByRounds_9 : decode cX11_portionByRounds 9 = .ok (.invokestatic 79, 3) := by decide +kernel
theorem dX11_portionByRounds_12 : decode cX11_portionByRounds 12 = .ok (.aload_n 0, 1) := by decide +kernel
theorem dX11_portionByRounds_13 : decode cX11_portionByRounds 13 = .ok (.getfield 47, 3) := by decide +kernel
theorem dX11_portionByRounds_16 : decode cX11_portionByRounds 16 = .ok (.aload_n 0, 1) := by decide +kernel
theorem dX11_portionByRounds_17 : decode cX11_portionByRounds 17 = .ok (.getfield 10, 3) := by decide +kernel
theorem dX11_portionByRounds_20 : decode cX11_portionByRounds 20 = .ok (.getfield 87, 3) := by decide +kernel
theorem dX11_portionByRounds_23 : decode cX11_portionByRounds 23 = .ok (.iload_n 2, 1) := by decide +kernel
theorem dX11_portionByRounds_24 : decode cX11_portionByRounds 24 = .ok (.invokevirtual 199, 3) := by decide +kernel
theorem dX11_portionByRounds_27 : decode cX11_portionByRounds 27 = .ok (.aload_n 0, 1) := by decide +kernel
theorem dX11_portionByRounds_28 : decode cX11_portionByRounds 28 = .ok (.getfield 47, 3) := by decide +kernel
theorem dX11_portionByRounds_31 : decode cX11_portionByRounds 31 = .ok (.getfield 196, 3) := by decide +kernel
theorem dX11_portionByRounds_34 : decode cX11_portionByRounds 34 = .ok (.iload_n 1, 1) := by decide +kernel
theorem dX11_portionByRounds_35 : decode cX11_portionByRounds 35 = .ok (.iaload, 1) := by decide +kernel
theorem dX11_portionByRounds_36 : decode cX11_portionByRounds 36 = .ok (.ireturn, 1) := by decide +kernel
set_option maxRecDepth 20000 in
theorem ggX11_addMoth_X9_refusalToAddMoth : GoodIn wsX11_addMoth wsX9_refusalToAddMoth := goodIn_r _ [8, 9, 10, 11, 12, 13, 14, 15, 16, 17, 18, 19, 20, 108, 109, 110, 111, 112, 113, 114, 115, 116, 117, 118, 119, 120, 121, 122] (by decide +kernel) (by decide +kernel)
set_option maxRecDepth 20000 in
theorem gX11_addMoth_X9_refusalToAddMoth : GoodIn wsX11_addMoth (wsV RX11 202 RX9 yX9_refusalToAddMoth wsX9_refusalToAddMoth) := goodIn_app (goodIn_of _ (by decide +kernel)) ggX11_addMoth_X9_refusalToAddMoth
set_option maxRecDepth 20000 in
theorem ggX11_addMoth_X11_raise : GoodIn wsX11_addMoth wsX11_raise := goodIn_ca (goodIn_ca (goodIn_ca (goodIn_r _ [24, 25, 26, 27, 28, 29, 30, 31, 32, 33] (by decide +kernel) (by decide +kernel)) (goodIn_sub (fun _ h => List.mem_cons_of_mem _ (List.mem_append_left _ (List.mem_append_left _ (List.mem_append_left _ (List.mem_append_right _ h))))) (by decide +kernel))) (goodIn_sub (fun _ h => List.mem_cons_of_mem _ (List.mem_append_left _ (List.mem_append_left _ (List.mem_append_right _ h)))) (by decide +kernel))) (goodIn_sub (fun _ h => List.mem_cons_of_mem _ (List.mem_append_left _ (List.mem_append_right _ h))) (by decide +kernel))
set_option maxRecDepth 20000 in
theorem gX11_addMoth_X11_raise : GoodIn wsX11_addMoth (va_wsS RX11 79 yX11_raise wsX11_raise) := goodIn_app (goodIn_of _ (by decide +kernel)) ggX11_addMoth_X11_raise
set_option maxRecDepth 20000 in
theorem ggX11_addMoth_X4_remember : GoodIn wsX11_addMoth wsX4_remember := goodIn_r _ [38, 39, 40, 41, 42, 43, 44, 45, 46, 47, 48, 7, 49, 9, 11, 50, 51, 52, 53, 18, 54, 20, 55, 56, 57, 58, 59, 60, 61, 62, 63, 64, 65, 66, 67, 68, 69, 70, 71, 72, 73, 74, 75, 76, 77, 78, 79, 80, 81, 82, 83, 84, 85, 86, 87, 88, 89, 90, 123, 124, 125, 108, 109, 110, 115, 116, 117, 118, 119, 120, 121, 122, 111, 112, 113, 114, 126, 127, 128, 129, 130, 131, 132, 133, 134, 135] (by decide +kernel) (by decide +kernel)
set_option maxRecDepth 20000 in
theorem gX11_addMoth_X4_remember : GoodIn wsX11_addMoth (wsV RX11 83 RX4 yX4_remember wsX4_remember) := goodIn_app (goodIn_of _ (by decide +kernel)) ggX11_addMoth_X4_remember
set_option maxRecDepth 20000 in
theorem ggX11_addMoth_X6_append : GoodIn wsX11_addMoth wsX6_append := goodIn_ca (goodIn_r _ [94, 71, 72, 74, 75, 111, 112, 113, 114] (by decide +kernel) (by decide +kernel)) (goodIn_sub (fun _ h => List.mem_cons_of_mem _ (List.mem_append_right _ h)) (by decide +kernel))
set_option maxRecDepth 20000 in
theorem gX11_addMoth_X6_append : GoodIn wsX11_addMoth (wsV RX11 209 RX6 yX6_append wsX6_append) := goodIn_app (goodIn_of _ (by decide +kernel)) ggX11_addMoth_X6_append
theorem dX11_addMoth_0 : decode cX11_addMoth 0 = .ok (.aload_n 0, 1) := by decide +kernel
theorem dX11_addMoth_1 : decode cX11_addMoth 1 = .ok (.getfield 10, 3) := by decide +kernel
theorem dX11_addMoth_4 : decode cX11_addMoth 4 = .ok (.iload_n 1, 1) := by decide +kernel
theorem dX11_addMoth_5 : decode cX11_addMoth 5 = .ok (.invokevirtual 202, 3) := by decide +kernel
theorem dX11_addMoth_8 : decode cX11_addMoth 8 = .ok (.invokestatic 79, 3) := by decide +kernel
theorem dX11_addMoth_11 : decode cX11_addMoth 11 = .ok (.aload_n 0, 1) := by decide +kernel
theorem dX11_addMoth_12 : decode cX11_addMoth 12 = .ok (.getfield 29, 3) := by decide +kernel
theorem dX11_addMoth_15 : decode cX11_addMoth 15 = .ok (.aload_n 0, 1) := by decide +kernel
theorem dX11_addMoth_16 : decode cX11_addMoth 16 = .ok (.getfield 10, 3) := by decide +kernel
theorem dX11_addMoth_19 : decode cX11_addMoth 19 = .ok (.invokevirtual 83, 3) := by decide +kernel
theorem dX11_addMoth_22 : decode cX11_addMoth 22 = .ok (.aload_n 0, 1) := by decide +kernel
theorem dX11_addMoth_23 : decode cX11_addMoth 23 = .ok (.getfield 10, 3) := by decide +kernel
theorem dX11_addMoth_26 : decode cX11_addMoth 26 = .ok (.getfield 205, 3) := by decide +kernel
theorem dX11_addMoth_29 : decode cX11_addMoth 29 = .ok (.iload_n 1, 1) := by decide +kernel
theorem dX11_addMoth_30 : decode cX11_addMoth 30 = .ok (.invokevirtual 209, 3) := by decide +kernel
theorem dX11_addMoth_33 : decode cX11_addMoth 33 = .ok (.ireturn, 1) := by decide +kernel
set_option maxRecDepth 20000 in
theorem ggX11_moveMoth_X11_requireMoth : GoodIn wsX11_moveMoth wsX11_requireMoth := goodIn_ca (goodIn_r _ [9, 10, 11, 2, 3, 12, 13, 14, 15, 16, 17, 87, 88, 89, 90, 91, 92, 93, 94, 95, 96, 97, 98, 99, 100, 101, 102, 103, 104, 105, 106] (by decide +kernel) (by decide +kernel)) (goodIn_sub (fun _ h => List.mem_cons_of_mem _ (List.mem_append_right _ h)) (by decide +kernel))
set_option maxRecDepth 20000 in
theorem gX11_moveMoth_X11_requireMoth : GoodIn wsX11_moveMoth (wsV RX11 213 RX11 yX11_requireMoth wsX11_requireMoth) := goodIn_app (goodIn_of _ (by decide +kernel)) ggX11_moveMoth_X11_requireMoth
set_option maxRecDepth 20000 in
theorem ggX11_moveMoth_X11_requireLamp : GoodIn wsX11_moveMoth wsX11_requireLamp := goodIn_ca (goodIn_r _ [21, 10, 11, 2, 22, 23, 24, 25, 26, 27, 28, 87, 88, 89, 90, 91, 92, 93, 94, 95, 96, 97, 98, 99, 100, 101, 102, 107, 108, 109, 110, 111, 112, 113, 114] (by decide +kernel) (by decide +kernel)) (goodIn_sub (fun _ h => List.mem_cons_of_mem _ (List.mem_append_right _ h)) (by decide +kernel))
set_option maxRecDepth 20000 in
theorem gX11_moveMoth_X11_requireLamp : GoodIn wsX11_moveMoth (wsV RX11 115 RX11 yX11_requireLamp wsX11_requireLamp) := goodIn_app (goodIn_of _ (by decide +kernel)) ggX11_moveMoth_X11_requireLamp
set_option maxRecDepth 20000 in
theorem ggX11_moveMoth_X4_remember : GoodIn wsX11_moveMoth wsX4_remember := goodIn_r _ [33, 34, 35, 36, 37, 38, 39, 40, 41, 42, 43, 44, 45, 46, 47, 48, 49, 50, 51, 26, 52, 28, 53, 54, 55, 56, 57, 58, 59, 60, 61, 62, 63, 64, 65, 66, 15, 67, 17, 68, 69, 70, 71, 72, 73, 74, 75, 76, 77, 78, 79, 80, 81, 82, 83, 84, 85, 86, 115, 116, 117, 100, 101, 102, 107, 108, 109, 110, 111, 112, 113, 114, 103, 104, 105, 106, 118, 119, 120, 121, 122, 123, 124, 125, 126, 127] (by decide +kernel) (by decide +kernel)
set_option maxRecDepth 20000 in
theorem gX11_moveMoth_X4_remember : GoodIn wsX11_moveMoth (wsV RX11 83 RX4 yX4_remember wsX4_remember) := goodIn_app (goodIn_of _ (by decide +kernel)) ggX11_moveMoth_X4_remember
theorem dX11_moveMoth_0 : decode cX11_moveMoth 0 = .ok (.aload_n 0, 1) := by decide +kernel
theorem dX11_moveMoth_1 : decode cX11_moveMoth 1 = .ok (.iload_n 1, 1) := by decide +kernel
theorem dX11_moveMoth_2 : decode cX11_moveMoth 2 = .ok (.invokevirtual 213, 3) := by decide +kernel
theorem dX11_moveMoth_5 : decode cX11_moveMoth 5 = .ok (.iload_n 2, 1) := by decide +kernel
theorem dX11_moveMoth_6 : decode cX11_moveMoth 6 = .ok (.iconst (-1), 1) := by decide +kernel
theorem dX11_moveMoth_7 : decode cX11_moveMoth 7 = .ok (.if_icmp .eq 8, 3) := by decide +kernel
theorem dX11_moveMoth_10 : decode cX11_moveMoth 10 = .ok (.aload_n 0, 1) := by decide +kernel
theorem dX11_moveMoth_11 : decode cX11_moveMoth 11 = .ok (.iload_n 2, 1) := by decide +kernel
theorem dX11_moveMoth_12 : decode cX11_moveMoth 12 = .ok (.invokevirtual 115, 3) := by decide +kernel
theorem dX11_moveMoth_15 : decode cX11_moveMoth 15 = .ok (.aload_n 0, 1) := by decide +kernel
theorem dX11_moveMoth_16 : decode cX11_moveMoth 16 = .ok (.getfield 29, 3) := by decide +kernel
theorem dX11_moveMoth_19 : decode cX11_moveMoth 19 = .ok (.aload_n 0, 1) := by decide +kernel
theorem dX11_moveMoth_20 : decode cX11_moveMoth 20 = .ok (.getfield 10, 3) := by decide +kernel
theorem dX11_moveMoth_23 : decode cX11_moveMoth 23 = .ok (.invokevirtual 83, 3) := by decide +kernel
theorem dX11_moveMoth_26 : decode cX11_moveMoth 26 = .ok (.aload_n 0, 1) := by decide +kernel
theorem dX11_moveMoth_27 : decode cX11_moveMoth 27 = .ok (.getfield 10, 3) := by decide +kernel
theorem dX11_moveMoth_30 : decode cX11_moveMoth 30 = .ok (.getfield 205, 3) := by decide +kernel
theorem dX11_moveMoth_33 : decode cX11_moveMoth 33 = .ok (.getfield 216, 3) := by decide +kernel
theorem dX11_moveMoth_36 : decode cX11_moveMoth 36 = .ok (.iload_n 1, 1) := by decide +kernel
theorem dX11_moveMoth_37 : decode cX11_moveMoth 37 = .ok (.iaload, 1) := by decide +kernel
theorem dX11_moveMoth_38 : decode cX11_moveMoth 38 = .ok (.istore_n 3, 1) := by decide +kernel
theorem dX11_moveMoth_39 : decode cX11_moveMoth 39 = .ok (.aload_n 0, 1) := by decide +kernel
theorem dX11_moveMoth_40 : decode cX11_moveMoth 40 = .ok (.getfield 10, 3) := by decide +kernel
theorem dX11_moveMoth_43 : decode cX11_moveMoth 43 = .ok (.getfield 205, 3) := by decide +kernel
theorem dX11_moveMoth_46 : decode cX11_moveMoth 46 = .ok (.getfield 216, 3) := by decide +kernel
theorem dX11_moveMoth_49 : decode cX11_moveMoth 49 = .ok (.iload_n 1, 1) := by decide +kernel
theorem dX11_moveMoth_50 : decode cX11_moveMoth 50 = .ok (.iload_n 2, 1) := by decide +kernel
theorem dX11_moveMoth_51 : decode cX11_moveMoth 51 = .ok (.iastore, 1) := by decide +kernel
theorem dX11_moveMoth_52 : decode cX11_moveMoth 52 = .ok (.iload_n 3, 1) := by decide +kernel
theorem dX11_moveMoth_53 : decode cX11_moveMoth 53 = .ok (.ireturn, 1) := by decide +kernel
theorem dX11_mothCount_0 : decode cX11_mothCount 0 = .ok (.aload_n 0, 1) := by decide +kernel
theorem dX11_mothCount_1 : decode cX11_mothCount 1 = .ok (.getfield 10, 3) := by decide +kernel
theorem dX11_mothCount_4 : decode cX11_mothCount 4 = .ok (.getfield 205, 3) := by decide +kernel
theorem dX11_mothCount_7 : decode cX11_mothCount 7 = .ok (.getfield 219, 3) := by decide +kernel
theorem dX11_mothCount_10 : decode cX11_mothCount 10 = .ok (.ireturn, 1) := by decide +kernel
set_option maxRecDepth 20000 in
theorem ggX11_lampOfMoth_X11_requireMoth : GoodIn wsX11_lampOfMoth wsX11_requireMoth := goodIn_ca (goodIn_r _ [8, 9, 10, 1, 2, 11, 12, 13, 14, 15, 16, 17, 18, 19, 20, 21, 22, 23, 24, 25, 26, 27, 28, 29, 30, 31, 32, 33, 34, 35, 36] (by decide +kernel) (by decide +kernel)) (goodIn_sub (fun _ h => List.mem_cons_of_mem _ (List.mem_append_right _ h)) (by decide +kernel))
set_option maxRecDepth 20000 in
theorem gX11_lampOfMoth_X11_requireMoth : GoodIn wsX11_lampOfMoth (wsV RX11 213 RX11 yX11_requireMoth wsX11_requireMoth) := goodIn_app (goodIn_of _ (by decide +kernel)) ggX11_lampOfMoth_X11_requireMoth
theorem dX11_lampOfMoth_0 : decode cX11_lampOfMoth 0 = .ok (.aload_n 0, 1) := by decide +kernel
theorem dX11_lampOfMoth_1 : decode cX11_lampOfMoth 1 = .ok (.iload_n 1, 1) := by decide +kernel
theorem dX11_lampOfMoth_2 : decode cX11_lampOfMoth 2 = .ok (.invokevirtual 213, 3) := by decide +kernel
theorem dX11_lampOfMoth_5 : decode cX11_lampOfMoth 5 = .ok (.aload_n 0, 1) := by decide +kernel
theorem dX11_lampOfMoth_6 : decode cX11_lampOfMoth 6 = .ok (.getfield 10, 3) := by decide +kernel
theorem dX11_lampOfMoth_9 : decode cX11_lampOfMoth 9 = .ok (.getfield 205, 3) := by decide +kernel
theorem dX11_lampOfMoth_12 : decode cX11_lampOfMoth 12 = .ok (.getfield 216, 3) := by decide +kernel
theorem dX11_lampOfMoth_15 : decode cX11_lampOfMoth 15 = .ok (.iload_n 1, 1) := by decide +kernel
theorem dX11_lampOfMoth_16 : decode cX11_lampOfMoth 16 = .ok (.iaload, 1) := by decide +kernel
theorem dX11_lampOfMoth_17 : decode cX11_lampOfMoth 17 = .ok (.ireturn, 1) := by decide +kernel
set_option maxRecDepth 20000 in
theorem ggX11_strikesOf_X11_requireMoth : GoodIn wsX11_strikesOf wsX11_requireMoth := goodIn_ca (goodIn_r _ [8, 9, 10, 1, 2, 11, 12, 13, 14, 15, 16, 17, 18, 19, 20, 21, 22, 23, 24, 25, 26, 27, 28, 29, 30, 31, 32, 33, 34, 35, 36] (by decide +kernel) (by decide +kernel)) (goodIn_sub (fun _ h => List.mem_cons_of_mem _ (List.mem_append_right _ h)) (by decide +kernel))
set_option maxRecDepth 20000 in
theorem gX11_strikesOf_X11_requireMoth : GoodIn wsX11_strikesOf (wsV RX11 213 RX11 yX11_requireMoth wsX11_requireMoth) := goodIn_app (goodIn_of _ (by decide +kernel)) ggX11_strikesOf_X11_requireMoth
theorem dX11_strikesOf_0 : decode cX11_strikesOf 0 = .ok (.aload_n 0, 1) := by decide +kernel
theorem dX11_strikesOf_1 : decode cX11_strikesOf 1 = .ok (.iload_n 1, 1) := by decide +kernel
theorem dX11_strikesOf_2 : decode cX11_strikesOf 2 = .ok (.invokevirtual 213, 3) := by decide +kernel
theorem dX11_strikesOf_5 : decode cX11_strikesOf 5 = .ok (.aload_n 0, 1) := by decide +kernel
theorem dX11_strikesOf_6 : decode cX11_strikesOf 6 = .ok (.getfield 10, 3) := by decide +kernel
theorem dX11_strikesOf_9 : decode cX11_strikesOf 9 = .ok (.getfield 205, 3) := by decide +kernel
theorem dX11_strikesOf_12 : decode cX11_strikesOf 12 = .ok (.getfield 220, 3) := by decide +kernel
theorem dX11_strikesOf_15 : decode cX11_strikesOf 15 = .ok (.iload_n 1, 1) := by decide +kernel
theorem dX11_strikesOf_16 : decode cX11_strikesOf 16 = .ok (.iaload, 1) := by decide +kernel
theorem dX11_strikesOf_17 : decode cX11_strikesOf 17 = .ok (.ireturn, 1) := by decide +kernel
set_option maxRecDepth 20000 in
theorem ggX11_probationOf_X11_requireMoth : GoodIn wsX11_probationOf wsX11_requireMoth := goodIn_ca (goodIn_r _ [8, 9, 10, 1, 2, 11, 12, 13, 14, 15, 16, 17, 18, 19, 20, 21, 22, 23, 24, 25, 26, 27, 28, 29, 30, 31, 32, 33, 34, 35, 36] (by decide +kernel) (by decide +kernel)) (goodIn_sub (fun _ h => List.mem_cons_of_mem _ (List.mem_append_right _ h)) (by decide +kernel))
set_option maxRecDepth 20000 in
theorem gX11_probationOf_X11_requireMoth : GoodIn wsX11_probationOf (wsV RX11 213 RX11 yX11_requireMoth wsX11_requireMoth) := goodIn_app (goodIn_of _ (by decide +kernel)) ggX11_probationOf_X11_requireMoth
theorem dX11_probationOf_0 : decode cX11_probationOf 0 = .ok (.aload_n 0, 1) := by decide +kernel
theorem dX11_probationOf_1 : decode cX11_probationOf 1 = .ok (.iload_n 1, 1) := by decide +kernel
theorem dX11_probationOf_2 : decode cX11_probationOf 2 = .ok (.invokevirtual 213, 3) := by decide +kernel
theorem dX11_probationOf_5 : decode cX11_probationOf 5 = .ok (.aload_n 0, 1) := by decide +kernel
theorem dX11_probationOf_6 : decode cX11_probationOf 6 = .ok (.getfield 10, 3) := by decide +kernel
theorem dX11_probationOf_9 : decode cX11_probationOf 9 = .ok (.getfield 205, 3) := by decide +kernel
theorem dX11_probationOf_12 : decode cX11_probationOf 12 = .ok (.getfield 223, 3) := by decide +kernel
theorem dX11_probationOf_15 : decode cX11_probationOf 15 = .ok (.iload_n 1, 1) := by decide +kernel
theorem dX11_probationOf_16 : decode cX11_probationOf 16 = .ok (.iaload, 1) := by decide +kernel
theorem dX11_probationOf_17 : decode cX11_probationOf 17 = .ok (.ireturn, 1) := by decide +kernel
set_option maxRecDepth 20000 in
theorem ggX11_isMember_X11_requireMoth : GoodIn wsX11_isMember wsX11_requireMoth := goodIn_ca (goodIn_r _ [7, 8, 9, 1, 2, 10, 11, 12, 13, 14, 15, 21, 22, 23, 24, 25, 26, 27, 28, 29, 30, 31, 32, 33, 34, 35, 36, 37, 38, 39, 40] (by decide +kernel) (by decide +kernel)) (goodIn_sub (fun _ h => List.mem_cons_of_mem _ (List.mem_append_left _ (List.mem_append_right _ h))) (by decide +kernel))
set_option maxRecDepth 20000 in
theorem gX11_isMember_X11_requireMoth : GoodIn wsX11_isMember (wsV RX11 213 RX11 yX11_requireMoth wsX11_requireMoth) := goodIn_app (goodIn_of _ (by decide +kernel)) ggX11_isMember_X11_requireMoth
set_option maxRecDepth 20000 in
theorem ggX11_isMember_X6_onProbation : GoodIn wsX11_isMember wsX6_onProbation := goodIn_ca (goodIn_r _ [19, 20, 37, 38, 39, 40] (by decide +kernel) (by decide +kernel)) (goodIn_sub (fun _ h => List.mem_cons_of_mem _ (List.mem_append_right _ h)) (by decide +kernel))
set_option maxRecDepth 20000 in
theorem gX11_isMember_X6_onProbation : GoodIn wsX11_isMember (wsV RX11 226 RX6 yX6_onProbation wsX6_onProbation) := goodIn_app (goodIn_of _ (by decide +kernel)) ggX11_isMember_X6_onProbation
theorem dX11_isMember_0 : decode cX11_isMember 0 = .ok (.aload_n 0, 1) := by decide +kernel
theorem dX11_isMember_1 : decode cX11_isMember 1 = .ok (.iload_n 1, 1) := by decide +kernel
theorem dX11_isMember_2 : decode cX11_isMember 2 = .ok (.invokevirtual 213, 3) := by decide +kernel
theorem dX11_isMember_5 : decode cX11_isMember 5 = .ok (.aload_n 0, 1) := by decide +kernel
theorem dX11_isMember_6 : decode cX11_isMember 6 = .ok (.getfield 10, 3) := by decide +kernel
theorem dX11_isMember_9 : decode cX11_isMember 9 = .ok (.getfield 205, 3) := by decide +kernel
theorem dX11_isMember_12 : decode cX11_isMember 12 = .ok (.iload_n 1, 1) := by decide +kernel
theorem dX11_isMember_13 : decode cX11_isMember 13 = .ok (.invokevirtual 226, 3) := by decide +kernel
theorem dX11_isMember_16 : decode cX11_isMember 16 = .ok (.ifCond .ne 7, 3) := by decide +kernel
theorem dX11_isMember_19 : decode cX11_isMember 19 = .ok (.iconst 1, 1) := by decide +kernel
theorem dX11_isMember_20 : decode cX11_isMember 20 = .ok (.goto 4, 3) := by decide +kernel
theorem dX11_isMember_23 : decode cX11_isMember 23 = .ok (.iconst 0, 1) := by decide +kernel
theorem dX11_isMember_24 : decode cX11_isMember 24 = .ok (.ireturn, 1) := by decide +kernel
set_option maxRecDepth 20000 in
theorem ggX11_burnNight_X4_remember : GoodIn wsX11_burnNight wsX4_remember := goodIn_r _ [8, 9, 10, 11, 12, 13, 14, 15, 16, 17, 18, 19, 20, 21, 22, 23, 24, 25, 26, 27, 28, 29, 30, 31, 32, 33, 34, 35, 36, 37, 38, 39, 40, 41, 42, 43, 44, 45, 46, 47, 48, 49, 50, 51, 52, 53, 54, 55, 56, 57, 58, 59, 60, 61, 62, 63, 64, 65, 135, 136, 137, 138, 139, 140, 141, 142, 143, 144, 145, 146, 147, 148, 149, 150, 151, 152, 153, 154, 155, 156, 157, 158, 159, 160, 161, 162] (by decide +kernel) (by decide +kernel)
set_option maxRecDepth 20000 in
theorem gX11_burnNight_X4_remember : GoodIn wsX11_burnNight (wsV RX11 83 RX4 yX4_remember wsX4_remember) := goodIn_app (goodIn_of _ (by decide +kernel)) ggX11_burnNight_X4_remember
set_option maxRecDepth 20000 in
theorem ggX11_burnNight_X7_pass : GoodIn wsX11_burnNight wsX7_pass := goodIn_ca (goodIn_r _ [70, 71, 72, 73, 74, 75, 76, 77, 69, 78, 79, 80, 81, 82, 83, 84, 85, 86, 87, 88, 27, 89, 37, 38, 36, 39, 90, 91, 92, 93, 94, 95, 96, 97, 98, 99, 100, 101, 102, 29, 103, 104, 105, 44, 106, 50, 107, 108, 109, 110, 46, 49, 47, 111, 112, 113, 114, 115, 116, 117, 118, 119, 120, 121, 138, 139, 140, 153, 154, 155, 156, 157, 158, 159, 160, 161, 162, 141, 142, 143, 144, 145, 146, 147, 148, 163, 149, 150, 151, 152] (by decide +kernel) (by decide +kernel)) (goodIn_sub (fun _ h => List.mem_cons_of_mem _ (List.mem_append_right _ h)) (by decide +kernel))
set_option maxRecDepth 20000 in
theorem gX11_burnNight_X7_pass : GoodIn wsX11_burnNight (wsV RX11 230 RX7 yX7_pass wsX7_pass) := goodIn_app (goodIn_of _ (by decide +kernel)) ggX11_burnNight_X7_pass
theorem dX11_burnNight_0 : decode cX11_burnNight 0 = .ok (.aload_n 0, 1) := by decide +kernel
theorem dX11_burnNight_1 : decode cX11_burnNight 1 = .ok (.getfield 29, 3) := by decide +kernel
theorem dX11_burnNight_4 : decode cX11_burnNight 4 = .ok (.aload_n 0, 1) := by decide +kernel
theorem dX11_burnNight_5 : decode cX11_burnNight 5 = .ok (.getfield 10, 3) := by decide +kernel
theorem dX11_burnNight_8 : decode cX11_burnNight 8 = .ok (.invokevirtual 83, 3) := by decide +kernel
theorem dX11_burnNight_11 : decode cX11_burnNight 11 = .ok (.aload_n 0, 1) := by decide +kernel
theorem dX11_burnNight_12 : decode cX11_burnNight 12 = .ok (.getfield 36, 3) := by decide +kernel
theorem dX11_burnNight_15 : decode cX11_burnNight 15 = .ok (.aload_n 0, 1) := by decide +kernel
theorem dX11_burnNight_16 : decode cX11_burnNight 16 = .ok (.getfield 10, 3) := by decide +kernel
theorem dX11_burnNight_19 : decode cX11_burnNight 19 = .ok (.invokevirtual 230, 3) := by decide +kernel
theorem dX11_burnNight_22 : decode cX11_burnNight 22 = .ok (.ireturn, 1) := by decide +kernel
theorem dX11_nightCount_0 : decode cX11_nightCount 0 = .ok (.aload_n 0, 1) := by decide +kernel
theorem dX11_nightCount_1 : decode cX11_nightCount 1 = .ok (.getfield 10, 3) := by decide +kernel
theorem dX11_nightCount_4 : decode cX11_nightCount 4 = .ok (.getfield 174, 3) := by decide +kernel
theorem dX11_nightCount_7 : decode cX11_nightCount 7 = .ok (.getfield 234, 3) := by decide +kernel
theorem dX11_nightCount_10 : decode cX11_nightCount 10 = .ok (.ireturn, 1) := by decide +kernel
set_option maxRecDepth 20000 in
theorem ggX11_canBurn_X11_requireLamp : GoodIn wsX11_canBurn wsX11_requireLamp := goodIn_ca (goodIn_r _ [7, 8, 9, 1, 2, 10, 11, 12, 13, 14, 15, 24, 25, 26, 27, 28, 29, 30, 31, 32, 33, 34, 35, 36, 37, 38, 39, 40, 41, 42, 43, 44, 45, 46, 47] (by decide +kernel) (by decide +kernel)) (goodIn_sub (fun _ h => List.mem_cons_of_mem _ (List.mem_append_left _ (List.mem_append_right _ h))) (by decide +kernel))
set_option maxRecDepth 20000 in
theorem gX11_canBurn_X11_requireLamp : GoodIn wsX11_canBurn (wsV RX11 115 RX11 yX11_requireLamp wsX11_requireLamp) := goodIn_app (goodIn_of _ (by decide +kernel)) ggX11_canBurn_X11_requireLamp
set_option maxRecDepth 20000 in
theorem ggX11_canBurn_X5_readyToBurn : GoodIn wsX11_canBurn wsX5_readyToBurn := goodIn_ca (goodIn_r _ [19, 20, 21, 22, 23, 40, 41, 42, 43, 44, 45, 46, 47] (by decide +kernel) (by decide +kernel)) (goodIn_sub (fun _ h => List.mem_cons_of_mem _ (List.mem_append_right _ h)) (by decide +kernel))
set_option maxRecDepth 20000 in
theorem gX11_canBurn_X5_readyToBurn : GoodIn wsX11_canBurn (wsV RX11 237 RX5 yX5_readyToBurn wsX5_readyToBurn) := goodIn_app (goodIn_of _ (by decide +kernel)) ggX11_canBurn_X5_readyToBurn
theorem dX11_canBurn_0 : decode cX11_canBurn 0 = .ok (.aload_n 0, 1) := by decide +kernel
theorem dX11_canBurn_1 : decode cX11_canBurn 1 = .ok (.iload_n 1, 1) := by decide +kernel
theorem dX11_canBurn_2 : decode cX11_canBurn 2 = .ok (.invokevirtual 115, 3) := by decide +kernel
theorem dX11_canBurn_5 : decode cX11_canBurn 5 = .ok (.aload_n 0, 1) := by decide +kernel
theorem dX11_canBurn_6 : decode cX11_canBurn 6 = .ok (.getfield 10, 3) := by decide +kernel
theorem dX11_canBurn_9 : decode cX11_canBurn 9 = .ok (.getfield 87, 3) := by decide +kernel
theorem dX11_canBurn_12 : decode cX11_canBurn 12 = .ok (.iload_n 1, 1) := by decide +kernel
theorem dX11_canBurn_13 : decode cX11_canBurn 13 = .ok (.invokevirtual 237, 3) := by decide +kernel
theorem dX11_canBurn_16 : decode cX11_canBurn 16 = .ok (.ireturn, 1) := by decide +kernel
set_option maxRecDepth 20000 in
theorem ggX11_nightsOf_X11_requireLamp : GoodIn wsX11_nightsOf wsX11_requireLamp := goodIn_ca (goodIn_r _ [7, 8, 9, 1, 2, 10, 11, 12, 13, 14, 15, 27, 28, 29, 30, 31, 32, 33, 34, 35, 36, 37, 38, 39, 40, 41, 42, 43, 44, 45, 46, 47, 48, 49, 50] (by decide +kernel) (by decide +kernel)) (goodIn_sub (fun _ h => List.mem_cons_of_mem _ (List.mem_append_left _ (List.mem_append_right _ h))) (by decide +kernel))
set_option maxRecDepth 20000 in
theorem gX11_nightsOf_X11_requireLamp : GoodIn wsX11_nightsOf (wsV RX11 115 RX11 yX11_requireLamp wsX11_requireLamp) := goodIn_app (goodIn_of _ (by decide +kernel)) ggX11_nightsOf_X11_requireLamp
set_option maxRecDepth 20000 in
theorem ggX11_nightsOf_X5_nightsByFormula : GoodIn wsX11_nightsOf wsX5_nightsByFormula := goodIn_ca (goodIn_r _ [19, 20, 21, 22, 23, 24, 25, 26, 43, 44, 45, 46, 47, 48, 49, 50] (by decide +kernel) (by decide +kernel)) (goodIn_sub (fun _ h => List.mem_cons_of_mem _ (List.mem_append_right _ h)) (by decide +kernel))
set_option maxRecDepth 20000 in
theorem gX11_nightsOf_X5_nightsByFormula : GoodIn wsX11_nightsOf (wsV RX11 240 RX5 yX5_nightsByFormula wsX5_nightsByFormula) := goodIn_app (goodIn_of _ (by decide +kernel)) ggX11_nightsOf_X5_nightsByFormula
theorem dX11_nightsOf_0 : decode cX11_nightsOf 0 = .ok (.aload_n 0, 1) := by decide +kernel
theorem dX11_nightsOf_1 : decode cX11_nightsOf 1 = .ok (.iload_n 1, 1) := by decide +kernel
theorem dX11_nightsOf_2 : decode cX11_nightsOf 2 = .ok (.invokevirtual 115, 3) := by decide +kernel
theorem dX11_nightsOf_5 : decode cX11_nightsOf 5 = .ok (.aload_n 0, 1) := by decide +kernel
theorem dX11_nightsOf_6 : decode cX11_nightsOf 6 = .ok (.getfield 10, 3) := by decide +kernel
theorem dX11_nightsOf_9 : decode cX11_nightsOf 9 = .ok (.getfield 87, 3) := by decide +kernel
theorem dX11_nightsOf_12 : decode cX11_nightsOf 12 = .ok (.iload_n 1, 1) := by decide +kernel
theorem dX11_nightsOf_13 : decode cX11_nightsOf 13 = .ok (.invokevirtual 240, 3) := by decide +kernel
theorem dX11_nightsOf_16 : decode cX11_nightsOf 16 = .ok (.ireturn, 1) := by decide +kernel
set_option maxRecDepth 20000 in
theorem ggX11_nightsBySimulation_X11_requireLamp : GoodIn wsX11_nightsBySimulation wsX11_requireLamp := goodIn_ca (goodIn_r _ [7, 8, 9, 1, 2, 10, 11, 12, 13, 14, 15, 23, 24, 25, 26, 27, 28, 29, 30, 31, 32, 33, 34, 35, 36, 37, 38, 39, 40, 41, 42, 43, 44, 45, 46] (by decide +kernel) (by decide +kernel)) (goodIn_sub (fun _ h => List.mem_cons_of_mem _ (List.mem_append_left _ (List.mem_append_right _ h))) (by decide +kernel))
set_option maxRecDepth 20000 in
theorem gX11_nightsBySimulation_X11_requireLamp : GoodIn wsX11_nightsBySimulation (wsV RX11 115 RX11 yX11_requireLamp wsX11_requireLamp) := goodIn_app (goodIn_of _ (by decide +kernel)) ggX11_nightsBySimulation_X11_requireLamp
set_option maxRecDepth 20000 in
theorem ggX11_nightsBySimulation_X5_nightsOneByOne : GoodIn wsX11_nightsBySimulation wsX5_nightsOneByOne := goodIn_ca (goodIn_r _ [19, 20, 21, 22, 39, 40, 41, 42, 43, 44, 45, 46] (by decide +kernel) (by decide +kernel)) (goodIn_sub (fun _ h => List.mem_cons_of_mem _ (List.mem_append_right _ h)) (by decide +kernel))
set_option maxRecDepth 20000 in
theorem gX11_nightsBySimulation_X5_nightsOneByOne : GoodIn wsX11_nightsBySimulation (wsV RX11 243 RX5 yX5_nightsOneByOne wsX5_nightsOneByOne) := goodIn_app (goodIn_of _ (by decide +kernel)) ggX11_nightsBySimulation_X5_nightsOneByOne
theorem dX11_nightsBySimulation_0 : decode cX11_nightsBySimulation 0 = .ok (.aload_n 0, 1) := by decide +kernel
theorem dX11_nightsBySimulation_1 : decode cX11_nightsBySimulation 1 = .ok (.iload_n 1, 1) := by decide +kernel
theorem dX11_nightsBySimulation_2 : decode cX11_nightsBySimulation 2 = .ok (.invokevirtual 115, 3) := by decide +kernel
theorem dX11_nightsBySimulation_5 : decode cX11_nightsBySimulation 5 = .ok (.aload_n 0, 1) := by decide +kernel
theorem dX11_nightsBySimulation_6 : decode cX11_nightsBySimulation 6 = .ok (.getfield 10, 3) := by decide +kernel
theorem dX11_nightsBySimulation_9 : decode cX11_nightsBySimulation 9 = .ok (.getfield 87, 3) := by decide +kernel
theorem dX11_nightsBySimulation_12 : decode cX11_nightsBySimulation 12 = .ok (.iload_n 1, 1) := by decide +kernel
theorem dX11_nightsBySimulation_13 : decode cX11_nightsBySimulation 13 = .ok (.invokevirtual 243, 3) := by decide +kernel
theorem dX11_nightsBySimulation_16 : decode cX11_nightsBySimulation 16 = .ok (.ireturn, 1) := by decide +kernel
set_option maxRecDepth 20000 in
theorem ggX11_glowOf_X11_requireStreet : GoodIn wsX11_glowOf wsX11_requireStreet := goodIn_ca (goodIn_r _ [6, 7, 8, 9, 10, 5, 11] (by decide +kernel) (by decide +kernel)) (goodIn_sub (fun _ h => List.mem_cons_of_mem _ (List.mem_append_left _ (List.mem_append_right _ h))) (by decide +kernel))
set_option maxRecDepth 20000 in
theorem gX11_glowOf_X11_requireStreet : GoodIn wsX11_glowOf (va_wsS RX11 246 yX11_requireStreet wsX11_requireStreet) := goodIn_app (goodIn_of _ (by decide +kernel)) ggX11_glowOf_X11_requireStreet
set_option maxRecDepth 20000 in
theorem ggX11_glowOf_X5_glowIn : GoodIn wsX11_glowOf wsX5_glowIn := goodIn_ca (goodIn_r _ [16, 17, 18, 19, 20, 21, 22, 15, 23, 24, 25, 26, 43, 44, 45, 46, 47, 48, 49, 50] (by decide +kernel) (by decide +kernel)) (goodIn_sub (fun _ h => List.mem_cons_of_mem _ (List.mem_append_right _ h)) (by decide +kernel))
set_option maxRecDepth 20000 in
theorem gX11_glowOf_X5_glowIn : GoodIn wsX11_glowOf (wsV RX11 249 RX5 yX5_glowIn wsX5_glowIn) := goodIn_app (goodIn_of _ (by decide +kernel)) ggX11_glowOf_X5_glowIn
theorem dX11_glowOf_0 : decode cX11_glowOf 0 = .ok (.iload_n 1, 1) := by decide +kernel
theorem dX11_glowOf_1 : decode cX11_glowOf 1 = .ok (.invokestatic 246, 3) := by decide +kernel
theorem dX11_glowOf_4 : decode cX11_glowOf 4 = .ok (.aload_n 0, 1) := by decide +kernel
theorem dX11_glowOf_5 : decode cX11_glowOf 5 = .ok (.getfield 10, 3) := by decide +kernel
theorem dX11_glowOf_8 : decode cX11_glowOf 8 = .ok (.getfield 87, 3) := by decide +kernel
theorem dX11_glowOf_11 : decode cX11_glowOf 11 = .ok (.iload_n 1, 1) := by decide +kernel
theorem dX11_glowOf_12 : decode cX11_glowOf 12 = .ok (.invokevirtual 249, 3) := by decide +kernel
theorem dX11_glowOf_15 : decode cX11_glowOf 15 = .ok (.ireturn, 1) := by decide +kernel
set_option maxRecDepth 20000 in
theorem ggX11_isDark_X11_requireStreet : GoodIn wsX11_isDark wsX11_requireStreet := goodIn_ca (goodIn_r _ [6, 7, 8, 9, 10, 5, 11] (by decide +kernel) (by decide +kernel)) (goodIn_sub (fun _ h => List.mem_cons_of_mem _ (List.mem_append_left _ (List.mem_append_right _ h))) (by decide +kernel))
set_option maxRecDepth 20000 in
theorem gX11_isDark_X11_requireStreet : GoodIn wsX11_isDark (va_wsS RX11 246 yX11_requireStreet wsX11_requireStreet) := goodIn_app (goodIn_of _ (by decide +kernel)) ggX11_isDark_X11_requireStreet
set_option maxRecDepth 20000 in
theorem ggX11_isDark_X5_glowIn : GoodIn wsX11_isDark wsX5_glowIn := goodIn_ca (goodIn_r _ [16, 17, 18, 19, 20, 21, 22, 15, 23, 24, 25, 26, 43, 44, 45, 46, 47, 48, 49, 50] (by decide +kernel) (by decide +kernel)) (goodIn_sub (fun _ h => List.mem_cons_of_mem _ (List.mem_append_right _ h)) (by decide +kernel))
set_option maxRecDepth 20000 in
theorem gX11_isDark_X5_glowIn : GoodIn wsX11_isDark (wsV RX11 249 RX5 yX5_glowIn wsX5_glowIn) := goodIn_app (goodIn_of _ (by decide +kernel)) ggX11_isDark_X5_glowIn
theorem dX11_isDark_0 : decode cX11_isDark 0 = .ok (.iload_n 1, 1) := by decide +kernel
theorem dX11_isDark_1 : decode cX11_isDark 1 = .ok (.invokestatic 246, 3) := by decide +kernel
theorem dX11_isDark_4 : decode cX11_isDark 4 = .ok (.aload_n 0, 1) := by decide +kernel
theorem dX11_isDark_5 : decode cX11_isDark 5 = .ok (.getfield 10, 3) := by decide +kernel
theorem dX11_isDark_8 : decode cX11_isDark 8 = .ok (.getfield 87, 3) := by decide +kernel
theorem dX11_isDark_11 : decode cX11_isDark 11 = .ok (.iload_n 1, 1) := by decide +kernel
theorem dX11_isDark_12 : decode cX11_isDark 12 = .ok (.invokevirtual 249, 3) := by decide +kernel
theorem dX11_isDark_15 : decode cX11_isDark 15 = .ok (.ifCond .ne 7, 3) := by decide +kernel
theorem dX11_isDark_18 : decode cX11_isDark 18 = .ok (.iconst 1, 1) := by decide +kernel
theorem dX11_isDark_19 : decode cX11_isDark 19 = .ok (.goto 4, 3) := by decide +kernel
theorem dX11_isDark_22 : decode cX11_isDark 22 = .ok (.iconst 0, 1) := by decide +kernel
theorem dX11_isDark_23 : decode cX11_isDark 23 = .ok (.ireturn, 1) := by decide +kernel
set_option maxRecDepth 20000 in
theorem ggX11_brightestStreet_X5_glowIn : GoodIn wsX11_brightestStreet wsX5_glowIn := goodIn_ca (goodIn_r _ [7, 8, 9, 10, 11, 12, 13, 6, 14, 15, 16, 17, 34, 35, 36, 37, 38, 39, 40, 41] (by decide +kernel) (by decide +kernel)) (goodIn_sub (fun _ h => List.mem_cons_of_mem _ (List.mem_append_right _ h)) (by decide +kernel))
set_option maxRecDepth 20000 in
theorem gX11_brightestStreet_X5_glowIn : GoodIn wsX11_brightestStreet (wsV RX11 249 RX5 yX5_glowIn wsX5_glowIn) := goodIn_app (goodIn_of _ (by decide +kernel)) ggX11_brightestStreet_X5_glowIn
theorem dX11_brightestStreet_0 : decode cX11_brightestStreet 0 = .ok (.iconst 0, 1) := by decide +kernel
theorem dX11_brightestStreet_1 : decode cX11_brightestStreet 1 = .ok (.istore_n 1, 1) := by decide +kernel
theorem dX11_brightestStreet_2 : decode cX11_brightestStreet 2 = .ok (.aload_n 0, 1) := by decide +kernel
theorem dX11_brightestStreet_3 : decode cX11_brightestStreet 3 = .ok (.getfield 10, 3) := by decide +kernel
theorem dX11_brightestStreet_6 : decode cX11_brightestStreet 6 = .ok (.getfield 87, 3) := by decide +kernel
theorem dX11_brightestStreet_9 : decode cX11_brightestStreet 9 = .ok (.iconst 0, 1) := by decide +kernel
theorem dX11_brightestStreet_10 : decode cX11_brightestStreet 10 = .ok (.invokevirtual 249, 3) := by decide +kernel
theorem dX11_brightestStreet_13 : decode cX11_brightestStreet 13 = .ok (.istore_n 2, 1) := by decide +kernel
theorem dX11_brightestStreet_14 : decode cX11_brightestStreet 14 = .ok (.iconst 1, 1) := by decide +kernel
theorem dX11_brightestStreet_15 : decode cX11_brightestStreet 15 = .ok (.istore_n 3, 1) := by decide +kernel
theorem dX11_brightestStreet_16 : decode cX11_brightestStreet 16 = .ok (.iload_n 3, 1) := by decide +kernel
theorem dX11_brightestStreet_17 : decode cX11_brightestStreet 17 = .ok (.iconst 4, 1) := by decide +kernel
theorem dX11_brightestStreet_18 : decode cX11_brightestStreet 18 = .ok (.if_icmp .ge 33, 3) := by decide +kernel
theorem dX11_brightestStreet_21 : decode cX11_brightestStreet 21 = .ok (.aload_n 0, 1) := by decide +kernel
theorem dX11_brightestStreet_22 : decode cX11_brightestStreet 22 = .ok (.getfield 10, 3) := by decide +kernel
theorem dX11_brightestStreet_25 : decode cX11_brightestStreet 25 = .ok (.getfield 87, 3) := by decide +kernel
theorem dX11_brightestStreet_28 : decode cX11_brightestStreet 28 = .ok (.iload_n 3, 1) := by decide +kernel
theorem dX11_brightestStreet_29 : decode cX11_brightestStreet 29 = .ok (.invokevirtual 249, 3) := by decide +kernel
theorem dX11_brightestStreet_32 : decode cX11_brightestStreet 32 = .ok (.istore 4, 2) := by decide +kernel
theorem dX11_brightestStreet_34 : decode cX11_brightestStreet 34 = .ok (.iload 4, 2) := by decide +kernel
theorem dX11_brightestStreet_36 : decode cX11_brightestStreet 36 = .ok (.iload_n 2, 1) := by decide +kernel
theorem dX11_brightestStreet_37 : decode cX11_brightestStreet 37 = .ok (.if_icmp .le 8, 3) := by decide +kernel
theorem dX11_brightestStreet_40 : decode cX11_brightestStreet 40 = .ok (.iload_n 3, 1) := by decide +kernel
theorem dX11_brightestStreet_41 : decode cX11_brightestStreet 41 = .ok (.istore_n 1, 1) := by decide +kernel
theorem dX11_brightestStreet_42 : decode cX11_brightestStreet 42 = .ok (.iload 4, 2) := by decide +kernel
theorem dX11_brightestStreet_44 : decode cX11_brightestStreet 44 = .ok (.istore_n 2, 1) := by decide +kernel
theorem dX11_brightestStreet_45 : decode cX11_brightestStreet 45 = .ok (.iinc 3 1, 3) := by decide +kernel
theorem dX11_brightestStreet_48 : decode cX11_brightestStreet 48 = .ok (.goto (-32), 3) := by decide +kernel
theorem dX11_brightestStreet_51 : decode cX11_brightestStreet 51 = .ok (.iload_n 1, 1) := by decide +kernel
theorem dX11_brightestStreet_52 : decode cX11_brightestStreet 52 = .ok (.ireturn, 1) := by decide +kernel
set_option maxRecDepth 20000 in
theorem ggX11_proposeCap_X9_refusalToPropose : GoodIn wsX11_proposeCap wsX9_refusalToPropose := goodIn_r _ [8, 9, 10, 11, 12, 13, 14, 15, 16, 123, 124, 125, 126, 127, 128, 129, 130, 131, 132, 133] (by decide +kernel) (by decide +kernel)
set_option maxRecDepth 20000 in
theorem gX11_proposeCap_X9_refusalToPropose : GoodIn wsX11_proposeCap (wsV RX11 252 RX9 yX9_refusalToPropose wsX9_refusalToPropose) := goodIn_app (goodIn_of _ (by decide +kernel)) ggX11_proposeCap_X9_refusalToPropose
set_option maxRecDepth 20000 in
theorem ggX11_proposeCap_X11_raise : GoodIn wsX11_proposeCap wsX11_raise := goodIn_ca (goodIn_ca (goodIn_ca (goodIn_r _ [19, 20, 21, 22, 23, 24, 25, 26, 27, 28] (by decide +kernel) (by decide +kernel)) (goodIn_sub (fun _ h => List.mem_cons_of_mem _ (List.mem_append_left _ (List.mem_append_left _ (List.mem_append_left _ (List.mem_append_right _ h))))) (by decide +kernel))) (goodIn_sub (fun _ h => List.mem_cons_of_mem _ (List.mem_append_left _ (List.mem_append_left _ (List.mem_append_right _ h)))) (by decide +kernel))) (goodIn_sub (fun _ h => List.mem_cons_of_mem _ (List.mem_append_left _ (List.mem_append_right _ h))) (by decide +kernel))
set_option maxRecDepth 20000 in
theorem gX11_proposeCap_X11_raise : GoodIn wsX11_proposeCap (va_wsS RX11 79 yX11_raise wsX11_raise) := goodIn_app (goodIn_of _ (by decide +kernel)) ggX11_proposeCap_X11_raise
set_option maxRecDepth 20000 in
theorem ggX11_proposeCap_X4_remember : GoodIn wsX11_proposeCap wsX4_remember := goodIn_r _ [33, 34, 35, 36, 37, 38, 39, 40, 41, 42, 43, 7, 44, 10, 45, 46, 47, 48, 49, 50, 51, 52, 53, 54, 55, 56, 57, 58, 59, 60, 61, 62, 63, 64, 65, 66, 67, 68, 69, 70, 71, 72, 73, 74, 75, 76, 77, 78, 79, 80, 81, 82, 83, 84, 85, 86, 87, 88, 134, 135, 136, 123, 124, 125, 126, 127, 128, 129, 130, 131, 132, 133, 137, 138, 139, 140, 141, 142, 143, 144, 145, 146, 147, 148, 149, 150] (by decide +kernel) (by decide +kernel)
set_option maxRecDepth 20000 in
theorem gX11_proposeCap_X4_remember : GoodIn wsX11_proposeCap (wsV RX11 83 RX4 yX4_remember wsX4_remember) := goodIn_app (goodIn_of _ (by decide +kernel)) ggX11_proposeCap_X4_remember
set_option maxRecDepth 20000 in
theorem ggX11_proposeCap_X5_voteOnCap : GoodIn wsX11_proposeCap wsX5_voteOnCap := goodIn_ca (goodIn_r _ [92, 52, 59, 93, 38, 39, 40, 94, 95, 96, 50, 97, 98, 99, 100, 101, 58, 102, 103, 104, 105, 106, 107, 108, 109, 126, 127, 128, 129, 130, 131, 132, 133] (by decide +kernel) (by decide +kernel)) (goodIn_sub (fun _ h => List.mem_cons_of_mem _ (List.mem_append_right _ h)) (by decide +kernel))
set_option maxRecDepth 20000 in
theorem gX11_proposeCap_X5_voteOnCap : GoodIn wsX11_proposeCap (wsV RX11 255 RX5 yX5_voteOnCap wsX5_voteOnCap) := goodIn_app (goodIn_of _ (by decide +kernel)) ggX11_proposeCap_X5_voteOnCap
theorem dX11_proposeCap_0 : decode cX11_proposeCap 0 = .ok (.aload_n 0, 1) := by decide +kernel
theorem dX11_proposeCap_1 : decode cX11_proposeCap 1 = .ok (.getfield 10, 3) := by decide +kernel
theorem dX11_proposeCap_4 : decode cX11_proposeCap 4 = .ok (.iload_n 1, 1) := by decide +kernel
theorem dX11_proposeCap_5 : decode cX11_proposeCap 5 = .ok (.invokevirtual 252, 3) := by decide +kernel
theorem dX11_proposeCap_8 : decode cX11_proposeCap 8 = .ok (.invokestatic 79, 3) := by decide +kernel
theorem dX11_proposeCap_11 : decode cX11_proposeCap 11 = .ok (.aload_n 0, 1) := by decide +kernel
theorem dX11_proposeCap_12 : decode cX11_proposeCap 12 = .ok (.getfield 29, 3) := by decide +kernel
theorem dX11_proposeCap_15 : decode cX11_proposeCap 15 = .ok (.aload_n 0, 1) := by decide +kernel
theorem dX11_proposeCap_16 : decode cX11_proposeCap 16 = .ok (.getfield 10, 3) := by decide +kernel
theorem dX11_proposeCap_19 : decode cX11_proposeCap 19 = .ok (.invokevirtual 83, 3) := by decide +kernel
theorem dX11_proposeCap_22 : decode cX11_proposeCap 22 = .ok (.aload_n 0, 1) := by decide +kernel
theorem dX11_proposeCap_23 : decode cX11_proposeCap 23 = .ok (.getfield 10, 3) := by decide +kernel
theorem dX11_proposeCap_26 : decode cX11_proposeCap 26 = .ok (.getfield 87, 3) := by decide +kernel
theorem dX11_proposeCap_29 : decode cX11_proposeCap 29 = .ok (.iload_n 1, 1) := by decide +kernel
theorem dX11_proposeCap_30 : decode cX11_proposeCap 30 = .ok (.invokevirtual 255, 3) := by decide +kernel
theorem dX11_proposeCap_33 : decode cX11_proposeCap 33 = .ok (.ireturn, 1) := by decide +kernel
set_option maxRecDepth 20000 in
theorem ggX11_votesFor_X11_within : GoodIn wsX11_votesFor wsX11_within := goodIn_r _ [8] (by decide +kernel) (by decide +kernel)
set_option maxRecDepth 20000 in
theorem gX11_votesFor_X11_within : GoodIn wsX11_votesFor (va_wsS RX11 258 yX11_within wsX11_within) := goodIn_app (goodIn_of _ (by decide +kernel)) ggX11_votesFor_X11_within
set_option maxRecDepth 20000 in
theorem ggX11_votesFor_X5_sharesFor : GoodIn wsX11_votesFor wsX5_sharesFor := goodIn_ca (goodIn_r _ [13, 14, 15, 16, 33, 34, 35, 36, 37, 38, 39, 40] (by decide +kernel) (by decide +kernel)) (goodIn_sub (fun _ h => List.mem_cons_of_mem _ (List.mem_append_right _ h)) (by decide +kernel))
set_option maxRecDepth 20000 in
theorem gX11_votesFor_X5_sharesFor : GoodIn wsX11_votesFor (wsV RX11 269 RX5 yX5_sharesFor wsX5_sharesFor) := goodIn_app (goodIn_of _ (by decide +kernel)) ggX11_votesFor_X5_sharesFor
theorem dX11_votesFor_0 : decode cX11_votesFor 0 = .ok (.iload_n 1, 1) := by decide +kernel
theorem dX11_votesFor_1 : decode cX11_votesFor 1 = .ok (.iconst 1, 1) := by decide +kernel
theorem dX11_votesFor_2 : decode cX11_votesFor 2 = .ok (.iconst 5, 1) := by decide +kernel
theorem dX11_votesFor_3 : decode cX11_votesFor 3 = .ok (.invokestatic 258, 3) := by decide +kernel
theorem dX11_votesFor_6 : decode cX11_votesFor 6 = .ok (.ifCond .ne 14, 3) := by decide +kernel
theorem dX11_votesFor_9 : decode cX11_votesFor 9 = .ok (.new 262, 3) := by decide +kernel
theorem dX11_votesFor_12 : decode cX11_votesFor 12 = .ok (.dup, 1) := by decide +kernel
theorem dX11_votesFor_13 : decode cX11_votesFor 13 = .ok (.ldc_w 264, 3) := by decide +kernel
theorem dX11_votesFor_16 : decode cX11_votesFor 16 = .ok (.invokespecial 266, 3) := by decide +kernel
theorem dX11_votesFor_19 : decode cX11_votesFor 19 = .ok (.athrow, 1) := by decide +kernel
theorem dX11_votesFor_20 : decode cX11_votesFor 20 = .ok (.aload_n 0, 1) := by decide +kernel
theorem dX11_votesFor_21 : decode cX11_votesFor 21 = .ok (.getfield 10, 3) := by decide +kernel
theorem dX11_votesFor_24 : decode cX11_votesFor 24 = .ok (.getfield 87, 3) := by decide +kernel
theorem dX11_votesFor_27 : decode cX11_votesFor 27 = .ok (.iload_n 1, 1) := by decide +kernel
theorem dX11_votesFor_28 : decode cX11_votesFor 28 = .ok (.invokevirtual 269, 3) := by decide +kernel
theorem dX11_votesFor_31 : decode cX11_votesFor 31 = .ok (.ireturn, 1) := by decide +kernel
set_option maxRecDepth 20000 in
theorem ggX11_lowestCap_X5_wouldCarry : GoodIn wsX11_lowestCap wsX5_wouldCarry := goodIn_ca (goodIn_r _ [10, 11, 12, 13, 9, 14, 15, 16, 17, 18, 19, 20, 21, 22, 23, 24, 25, 42, 43, 44, 45, 46, 47, 48, 49] (by decide +kernel) (by decide +kernel)) (goodIn_sub (fun _ h => List.mem_cons_of_mem _ (List.mem_append_right _ h)) (by decide +kernel))
set_option maxRecDepth 20000 in
theorem gX11_lowestCap_X5_wouldCarry : GoodIn wsX11_lowestCap (wsV RX11 277 RX5 yX5_wouldCarry wsX5_wouldCarry) := goodIn_app (goodIn_of _ (by decide +kernel)) ggX11_lowestCap_X5_wouldCarry
theorem dX11_lowestCap_0 : decode cX11_lowestCap 0 = .ok (.aload_n 0, 1) := by decide +kernel
theorem dX11_lowestCap_1 : decode cX11_lowestCap 1 = .ok (.getfield 10, 3) := by decide +kernel
theorem dX11_lowestCap_4 : decode cX11_lowestCap 4 = .ok (.getfield 87, 3) := by decide +kernel
theorem dX11_lowestCap_7 : decode cX11_lowestCap 7 = .ok (.getfield 123, 3) := by decide +kernel
theorem dX11_lowestCap_10 : decode cX11_lowestCap 10 = .ok (.ifCond .ne 14, 3) := by decide +kernel
theorem dX11_lowestCap_13 : decode cX11_lowestCap 13 = .ok (.new 272, 3) := by decide +kernel
theorem dX11_lowestCap_16 : decode cX11_lowestCap 16 = .ok (.dup, 1) := by decide +kernel
theorem dX11_lowestCap_17 : decode cX11_lowestCap 17 = .ok (.ldc_w 274, 3) := by decide +kernel
theorem dX11_lowestCap_20 : decode cX11_lowestCap 20 = .ok (.invokespecial 276, 3) := by decide +kernel
theorem dX11_lowestCap_23 : decode cX11_lowestCap 23 = .ok (.athrow, 1) := by decide +kernel
theorem dX11_lowestCap_24 : decode cX11_lowestCap 24 = .ok (.iconst 1, 1) := by decide +kernel
theorem dX11_lowestCap_25 : decode cX11_lowestCap 25 = .ok (.istore_n 1, 1) := by decide +kernel
theorem dX11_lowestCap_26 : decode cX11_lowestCap 26 = .ok (.iload_n 1, 1) := by decide +kernel
theorem dX11_lowestCap_27 : decode cX11_lowestCap 27 = .ok (.iconst 5, 1) := by decide +kernel
theorem dX11_lowestCap_28 : decode cX11_lowestCap 28 = .ok (.if_icmp .ge 23, 3) := by decide +kernel
theorem dX11_lowestCap_31 : decode cX11_lowestCap 31 = .ok (.aload_n 0, 1) := by decide +kernel
theorem dX11_lowestCap_32 : decode cX11_lowestCap 32 = .ok (.getfield 10, 3) := by decide +kernel
theorem dX11_lowestCap_35 : decode cX11_lowestCap 35 = .ok (.getfield 87, 3) := by decide +kernel
theorem dX11_lowestCap_38 : decode cX11_lowestCap 38 = .ok (.iload_n 1, 1) := by decide +kernel
theorem dX11_lowestCap_39 : decode cX11_lowestCap 39 = .ok (.invokevirtual 277, 3) := by decide +kernel
theorem dX11_lowestCap_42 : decode cX11_lowestCap 42 = .ok (.ifCond .ne 9, 3) := by decide +kernel
theorem dX11_lowestCap_45 : decode cX11_lowestCap 45 = .ok (.iinc 1 1, 3) := by decide +kernel
theorem dX11_lowestCap_48 : decode cX11_lowestCap 48 = .ok (.goto (-22), 3) := by decide +kernel
theorem dX11_lowestCap_51 : decode cX11_lowestCap 51 = .ok (.iload_n 1, 1) := by decide +kernel
theorem dX11_lowestCap_52 : decode cX11_lowestCap 52 = .ok (.ireturn, 1) := by decide +kernel
set_option maxRecDepth 20000 in
theorem ggX11_totalShares_X5_allShares : GoodIn wsX11_totalShares wsX5_allShares := goodIn_ca (goodIn_r _ [7, 8, 9, 10, 11, 6, 12, 13, 30, 31, 32, 33, 34, 35, 36, 37] (by decide +kernel) (by decide +kernel)) (goodIn_sub (fun _ h => List.mem_cons_of_mem _ (List.mem_append_right _ h)) (by decide +kernel))
set_option maxRecDepth 20000 in
theorem gX11_totalShares_X5_allShares : GoodIn wsX11_totalShares (wsV RX11 280 RX5 yX5_allShares wsX5_allShares) := goodIn_app (goodIn_of _ (by decide +kernel)) ggX11_totalShares_X5_allShares
theorem dX11_totalShares_0 : decode cX11_totalShares 0 = .ok (.aload_n 0, 1) := by decide +kernel
theorem dX11_totalShares_1 : decode cX11_totalShares 1 = .ok (.getfield 10, 3) := by decide +kernel
theorem dX11_totalShares_4 : decode cX11_totalShares 4 = .ok (.getfield 87, 3) := by decide +kernel
theorem dX11_totalShares_7 : decode cX11_totalShares 7 = .ok (.invokevirtual 280, 3) := by decide +kernel
theorem dX11_totalShares_10 : decode cX11_totalShares 10 = .ok (.ireturn, 1) := by decide +kernel
set_option maxRecDepth 20000 in
theorem ggX11_richestLamp_X11_requireRank : GoodIn wsX11_richestLamp wsX11_requireRank := goodIn_ca (goodIn_r _ [10, 11, 12, 1, 2, 13, 14, 15, 16, 17, 18, 27, 28, 29, 30, 31, 32, 33, 34, 35, 36, 37, 38, 39, 40, 41, 42, 43, 44, 45, 46, 47, 48, 49, 50] (by decide +kernel) (by decide +kernel)) (goodIn_sub (fun _ h => List.mem_cons_of_mem _ (List.mem_append_right _ h)) (by decide +kernel))
set_option maxRecDepth 20000 in
theorem gX11_richestLamp_X11_requireRank : GoodIn wsX11_richestLamp (wsV RX11 284 RX11 yX11_requireRank wsX11_requireRank) := goodIn_app (goodIn_of _ (by decide +kernel)) ggX11_richestLamp_X11_requireRank
set_option maxRecDepth 20000 in
theorem ggX11_richestLamp_X11_lampAtRank : GoodIn wsX11_richestLamp wsX11_lampAtRank := goodIn_ca (goodIn_r _ [22, 1, 2, 3, 23, 24, 25, 9, 26, 4, 27, 28, 29, 30, 31, 32, 33, 34, 35, 36, 37, 38, 39, 40, 41, 42, 43, 44, 45, 46, 47, 48, 49, 50] (by decide +kernel) (by decide +kernel)) (goodIn_sub (fun _ h => List.mem_cons_of_mem _ (List.mem_append_left _ (List.mem_append_right _ h))) (by decide +kernel))
set_option maxRecDepth 20000 in
theorem gX11_richestLamp_X11_lampAtRank : GoodIn wsX11_richestLamp (wsV RX11 287 RX11 yX11_lampAtRank wsX11_lampAtRank) := goodIn_app (goodIn_of _ (by decide +kernel)) ggX11_richestLamp_X11_lampAtRank
theorem dX11_richestLamp_0 : decode cX11_richestLamp 0 = .ok (.aload_n 0, 1) := by decide +kernel
theorem dX11_richestLamp_1 : decode cX11_richestLamp 1 = .ok (.iload_n 1, 1) := by decide +kernel
theorem dX11_richestLamp_2 : decode cX11_richestLamp 2 = .ok (.invokevirtual 284, 3) := by decide +kernel
theorem dX11_richestLamp_5 : decode cX11_richestLamp 5 = .ok (.iconst 0, 1) := by decide +kernel
theorem dX11_richestLamp_6 : decode cX11_richestLamp 6 = .ok (.istore_n 2, 1) := by decide +kernel
theorem dX11_richestLamp_7 : decode cX11_richestLamp 7 = .ok (.iload_n 2, 1) := by decide +kernel
theorem dX11_richestLamp_8 : decode cX11_richestLamp 8 = .ok (.aload_n 0, 1) := by decide +kernel
theorem dX11_richestLamp_9 : decode cX11_richestLamp 9 = .ok (.getfield 10, 3) := by decide +kernel
theorem dX11_richestLamp_12 : decode cX11_richestLamp 12 = .ok (.getfield 87, 3) := by decide +kernel
theorem dX11_richestLamp_15 : decode cX11_richestLamp 15 = .ok (.getfield 123, 3) := by decide +kernel
theorem dX11_richestLamp_18 : decode cX11_richestLamp 18 = .ok (.if_icmp .ge 27, 3) := by decide +kernel
theorem dX11_richestLamp_21 : decode cX11_richestLamp 21 = .ok (.aload_n 0, 1) := by decide +kernel
theorem dX11_richestLamp_22 : decode cX11_richestLamp 22 = .ok (.getfield 50, 3) := by decide +kernel
theorem dX11_richestLamp_25 : decode cX11_richestLamp 25 = .ok (.iload_n 2, 1) := by decide +kernel
theorem dX11_richestLamp_26 : decode cX11_richestLamp 26 = .ok (.aload_n 0, 1) := by decide +kernel
theorem dX11_richestLamp_27 : decode cX11_richestLamp 27 = .ok (.getfield 10, 3) := by decide +kernel
theorem dX11_richestLamp_30 : decode cX11_richestLamp 30 = .ok (.getfield 87, 3) := by decide +kernel
theorem dX11_richestLamp_33 : decode cX11_richestLamp 33 = .ok (.getfield 135, 3) := by decide +kernel
theorem dX11_richestLamp_36 : decode cX11_richestLamp 36 = .ok (.iload_n 2, 1) := by decide +kernel
theorem dX11_richestLamp_37 : decode cX11_richestLamp 37 = .ok (.iaload, 1) := by decide +kernel
theorem dX11_richestLamp_38 : decode cX11_richestLamp 38 = .ok (.iastore, 1) := by decide +kernel
theorem dX11_richestLamp_39 : decode cX11_richestLamp 39 = .ok (.iinc 2 1, 3) := by decide +kernel
theorem dX11_richestLamp_42 : decode cX11_richestLamp 42 = .ok (.goto (-35), 3) := by decide +kernel
theorem dX11_richestLamp_45 : decode cX11_richestLamp 45 = .ok (.aload_n 0, 1) := by decide +kernel
theorem dX11_richestLamp_46 : decode cX11_richestLamp 46 = .ok (.iload_n 1, 1) := by decide +kernel
theorem dX11_richestLamp_47 : decode cX11_richestLamp 47 = .ok (.invokevirtual 287, 3) := by decide +kernel
theorem dX11_richestLamp_50 : decode cX11_richestLamp 50 = .ok (.ireturn, 1) := by decide +kernel
set_option maxRecDepth 20000 in
theorem ggX11_longestLamp_X11_requireRank : GoodIn wsX11_longestLamp wsX11_requireRank := goodIn_ca (goodIn_r _ [9, 10, 11, 1, 2, 12, 13, 14, 15, 16, 17, 37, 38, 39, 40, 41, 42, 43, 44, 45, 46, 47, 48, 49, 50, 51, 52, 53, 54, 55, 56, 57, 58, 59, 60] (by decide +kernel) (by decide +kernel)) (goodIn_sub (fun _ h => List.mem_cons_of_mem _ (List.mem_append_right _ h)) (by decide +kernel))
set_option maxRecDepth 20000 in
theorem gX11_longestLamp_X11_requireRank : GoodIn wsX11_longestLamp (wsV RX11 284 RX11 yX11_requireRank wsX11_requireRank) := goodIn_app (goodIn_of _ (by decide +kernel)) ggX11_longestLamp_X11_requireRank
set_option maxRecDepth 20000 in
theorem ggX11_longestLamp_X5_nightsByFormula : GoodIn wsX11_longestLamp wsX5_nightsByFormula := goodIn_ca (goodIn_r _ [21, 22, 23, 24, 25, 26, 27, 28, 53, 54, 55, 56, 57, 58, 59, 60] (by decide +kernel) (by decide +kernel)) (goodIn_sub (fun _ h => List.mem_cons_of_mem _ (List.mem_append_left _ (List.mem_append_right _ h))) (by decide +kernel))
set_option maxRecDepth 20000 in
theorem gX11_longestLamp_X5_nightsByFormula : GoodIn wsX11_longestLamp (wsV RX11 240 RX5 yX5_nightsByFormula wsX5_nightsByFormula) := goodIn_app (goodIn_of _ (by decide +kernel)) ggX11_longestLamp_X5_nightsByFormula
set_option maxRecDepth 20000 in
theorem ggX11_longestLamp_X11_lampAtRank : GoodIn wsX11_longestLamp wsX11_lampAtRank := goodIn_ca (goodIn_r _ [32, 1, 2, 3, 33, 34, 35, 8, 36, 4, 37, 38, 39, 40, 41, 42, 43, 44, 45, 46, 47, 48, 49, 50, 51, 52, 53, 54, 55, 56, 57, 58, 59, 60] (by decide +kernel) (by decide +kernel)) (goodIn_sub (fun _ h => List.mem_cons_of_mem _ (List.mem_append_left _ (List.mem_append_right _ h))) (by decide +kernel))
set_option maxRecDepth 20000 in
theorem gX11_longestLamp_X11_lampAtRank : GoodIn wsX11_longestLamp (wsV RX11 287 RX11 yX11_lampAtRank wsX11_lampAtRank) := goodIn_app (goodIn_of _ (by decide +kernel)) ggX11_longestLamp_X11_lampAtRank
theorem dX11_longestLamp_0 : decode cX11_longestLamp 0 = .ok (.aload_n 0, 1) := by decide +kernel
theorem dX11_longestLamp_1 : decode cX11_longestLamp 1 = .ok (.iload_n 1, 1) := by decide +kernel
theorem dX11_longestLamp_2 : decode cX11_longestLamp 2 = .ok (.invokevirtual 284, 3) := by decide +kernel
theorem dX11_longestLamp_5 : decode cX11_longestLamp 5 = .ok (.iconst 0, 1) := by decide +kernel
theorem dX11_longestLamp_6 : decode cX11_longestLamp 6 = .ok (.istore_n 2, 1) := by decide +kernel
theorem dX11_longestLamp_7 : decode cX11_longestLamp 7 = .ok (.iload_n 2, 1) := by decide +kernel
theorem dX11_longestLamp_8 : decode cX11_longestLamp 8 = .ok (.aload_n 0, 1) := by decide +kernel
theorem dX11_longestLamp_9 : decode cX11_longestLamp 9 = .ok (.getfield 10, 3) := by decide +kernel
theorem dX11_longestLamp_12 : decode cX11_longestLamp 12 = .ok (.getfield 87, 3) := by decide +kernel
theorem dX11_longestLamp_15 : decode cX11_longestLamp 15 = .ok (.getfield 123, 3) := by decide +kernel
theorem dX11_longestLamp_18 : decode cX11_longestLamp 18 = .ok (.if_icmp .ge 26, 3) := by decide +kernel
theorem dX11_longestLamp_21 : decode cX11_longestLamp 21 = .ok (.aload_n 0, 1) := by decide +kernel
theorem dX11_longestLamp_22 : decode cX11_longestLamp 22 = .ok (.getfield 50, 3) := by decide +kernel
theorem dX11_longestLamp_25 : decode cX11_longestLamp 25 = .ok (.iload_n 2, 1) := by decide +kernel
theorem dX11_longestLamp_26 : decode cX11_longestLamp 26 = .ok (.aload_n 0, 1) := by decide +kernel
theorem dX11_longestLamp_27 : decode cX11_longestLamp 27 = .ok (.getfield 10, 3) := by decide +kernel
theorem dX11_longestLamp_30 : decode cX11_longestLamp 30 = .ok (.getfield 87, 3) := by decide +kernel
theorem dX11_longestLamp_33 : decode cX11_longestLamp 33 = .ok (.iload_n 2, 1) := by decide +kernel
theorem dX11_longestLamp_34 : decode cX11_longestLamp 34 = .ok (.invokevirtual 240, 3) := by decide +kernel
theorem dX11_longestLamp_37 : decode cX11_longestLamp 37 = .ok (.iastore, 1) := by decide +kernel
theorem dX11_longestLamp_38 : decode cX11_longestLamp 38 = .ok (.iinc 2 1, 3) := by decide +kernel
theorem dX11_longestLamp_41 : decode cX11_longestLamp 41 = .ok (.goto (-34), 3) := by decide +kernel
theorem dX11_longestLamp_44 : decode cX11_longestLamp 44 = .ok (.aload_n 0, 1) := by decide +kernel
theorem dX11_longestLamp_45 : decode cX11_longestLamp 45 = .ok (.iload_n 1, 1) := by decide +kernel
theorem dX11_longestLamp_46 : decode cX11_longestLamp 46 = .ok (.invokevirtual 287, 3) := by decide +kernel
theorem dX11_longestLamp_49 : decode cX11_longestLamp 49 = .ok (.ireturn, 1) := by decide +kernel
set_option maxRecDepth 20000 in
theorem ggX11_isBalanced_X9_totalsBalance : GoodIn wsX11_isBalanced wsX9_totalsBalance := goodIn_ca (goodIn_r _ [6, 7, 8, 9, 10, 11, 12, 13, 14, 15, 16, 17, 18, 19, 20, 21, 22, 23, 24, 25, 26, 77, 78, 79, 80, 81, 82, 83, 84, 85, 86, 87, 88, 89, 90, 91, 92, 93, 94, 95, 96, 97] (by decide +kernel) (by decide +kernel)) (goodIn_sub (fun _ h => List.mem_cons_of_mem _ (List.mem_append_right _ h)) (by decide +kernel))
set_option maxRecDepth 20000 in
theorem gX11_isBalanced_X9_totalsBalance : GoodIn wsX11_isBalanced (wsV RX11 318 RX9 yX9_totalsBalance wsX9_totalsBalance) := goodIn_app (goodIn_of _ (by decide +kernel)) ggX11_isBalanced_X9_totalsBalance
set_option maxRecDepth 20000 in
theorem ggX11_isBalanced_X11_apportionmentsAgree : GoodIn wsX11_isBalanced wsX11_apportionmentsAgree := goodIn_ca (goodIn_r _ [31, 32, 1, 33, 34, 35, 36, 37, 38, 39, 40, 41, 42, 43, 44, 45, 46, 47, 48, 49, 50, 51, 22, 23, 24, 25, 26, 52, 53, 54, 55, 56, 57, 58, 59, 60, 61, 62, 63, 64, 65, 66, 67, 68, 69, 70, 71, 72, 73, 74, 75, 76, 77, 78, 79, 80, 81, 82, 83, 84, 85, 86, 87, 98, 99, 100] (by decide +kernel) (by decide +kernel)) (goodIn_sub (fun _ h => List.mem_cons_of_mem _ (List.mem_append_right _ h)) (by decide +kernel))
set_option maxRecDepth 20000 in
theorem gX11_isBalanced_X11_apportionmentsAgree : GoodIn wsX11_isBalanced (wsV RX11 322 RX11 yX11_apportionmentsAgree wsX11_apportionmentsAgree) := goodIn_app (goodIn_of _ (by decide +kernel)) ggX11_isBalanced_X11_apportionmentsAgree
theorem dX11_isBalanced_0 : decode cX11_isBalanced 0 = .ok (.aload_n 0, 1) := by decide +kernel
theorem dX11_isBalanced_1 : decode cX11_isBalanced 1 = .ok (.getfield 10, 3) := by decide +kernel
theorem dX11_isBalanced_4 : decode cX11_isBalanced 4 = .ok (.invokevirtual 318, 3) := by decide +kernel
theorem dX11_isBalanced_7 : decode cX11_isBalanced 7 = .ok (.ifCond .eq 14, 3) := by decide +kernel
theorem dX11_isBalanced_10 : decode cX11_isBalanced 10 = .ok (.aload_n 0, 1) := by decide +kernel
theorem dX11_isBalanced_11 : decode cX11_isBalanced 11 = .ok (.invokevirtual 322, 3) := by decide +kernel
theorem dX11_isBalanced_14 : decode cX11_isBalanced 14 = .ok (.ifCond .eq 7, 3) := by decide +kernel
theorem dX11_isBalanced_17 : decode cX11_isBalanced 17 = .ok (.iconst 1, 1) := by decide +kernel
theorem dX11_isBalanced_18 : decode cX11_isBalanced 18 = .ok (.goto 4, 3) := by decide +kernel
theorem dX11_isBalanced_21 : decode cX11_isBalanced 21 = .ok (.iconst 0, 1) := by decide +kernel
theorem dX11_isBalanced_22 : decode cX11_isBalanced 22 = .ok (.ireturn, 1) := by decide +kernel
set_option maxRecDepth 20000 in
theorem ggX11_type_X11_within : GoodIn wsX11_type wsX11_within := goodIn_r _ [9] (by decide +kernel) (by decide +kernel)
set_option maxRecDepth 20000 in
theorem gX11_type_X11_within : GoodIn wsX11_type (va_wsS RX11 258 yX11_within wsX11_within) := goodIn_app (goodIn_of _ (by decide +kernel)) ggX11_type_X11_within
set_option maxRecDepth 20000 in
theorem ggX11_type_X3_isFull : GoodIn wsX11_type wsX3_isFull := goodIn_r _ [14, 15, 34, 35, 36, 37, 38, 39, 40] (by decide +kernel) (by decide +kernel)
set_option maxRecDepth 20000 in
theorem gX11_type_X3_isFull : GoodIn wsX11_type (wsV RX11 327 RX3 yX3_isFull wsX3_isFull) := goodIn_app (goodIn_of _ (by decide +kernel)) ggX11_type_X3_isFull
set_option maxRecDepth 20000 in
theorem ggX11_type_X3_append : GoodIn wsX11_type wsX3_append := goodIn_ca (goodIn_r _ [19, 20, 15, 34, 35, 36, 37, 38, 39, 40] (by decide +kernel) (by decide +kernel)) (goodIn_sub (fun _ h => List.mem_cons_of_mem _ (List.mem_append_right _ h)) (by decide +kernel))
set_option maxRecDepth 20000 in
theorem gX11_type_X3_append : GoodIn wsX11_type (wsV RX11 335 RX3 yX3_append wsX3_append) := goodIn_app (goodIn_of _ (by decide +kernel)) ggX11_type_X3_append
theorem dX11_type_0 : decode cX11_type 0 = .ok (.iload_n 1, 1) := by decide +kernel
theorem dX11_type_1 : decode cX11_type 1 = .ok (.bipush 32, 2) := by decide +kernel
theorem dX11_type_3 : decode cX11_type 3 = .ok (.bipush 126, 2) := by decide +kernel
theorem dX11_type_5 : decode cX11_type 5 = .ok (.invokestatic 258, 3) := by decide +kernel
theorem dX11_type_8 : decode cX11_type 8 = .ok (.ifCond .ne 14, 3) := by decide +kernel
theorem dX11_type_11 : decode cX11_type 11 = .ok (.new 262, 3) := by decide +kernel
theorem dX11_type_14 : decode cX11_type 14 = .ok (.dup, 1) := by decide +kernel
theorem dX11_type_15 : decode cX11_type 15 = .ok (.ldc_w 325, 3) := by decide +kernel
theorem dX11_type_18 : decode cX11_type 18 = .ok (.invokespecial 266, 3) := by decide +kernel
theorem dX11_type_21 : decode cX11_type 21 = .ok (.athrow, 1) := by decide +kernel
theorem dX11_type_22 : decode cX11_type 22 = .ok (.aload_n 0, 1) := by decide +kernel
theorem dX11_type_23 : decode cX11_type 23 = .ok (.getfield 57, 3) := by decide +kernel
theorem dX11_type_26 : decode cX11_type 26 = .ok (.invokevirtual 327, 3) := by decide +kernel
theorem dX11_type_29 : decode cX11_type 29 = .ok (.ifCond .eq 14, 3) := by decide +kernel
theorem dX11_type_32 : decode cX11_type 32 = .ok (.new 330, 3) := by decide +kernel
theorem dX11_type_35 : decode cX11_type 35 = .ok (.dup, 1) := by decide +kernel
theorem dX11_type_36 : decode cX11_type 36 = .ok (.ldc_w 332, 3) := by decide +kernel
theorem dX11_type_39 : decode cX11_type 39 = .ok (.invokespecial 334, 3) := by decide +kernel
theorem dX11_type_42 : decode cX11_type 42 = .ok (.athrow, 1) := by decide +kernel
theorem dX11_type_43 : decode cX11_type 43 = .ok (.aload_n 0, 1) := by decide +kernel
theorem dX11_type_44 : decode cX11_type 44 = .ok (.getfield 57, 3) := by decide +kernel
theorem dX11_type_47 : decode cX11_type 47 = .ok (.iload_n 1, 1) := by decide +kernel
theorem dX11_type_48 : decode cX11_type 48 = .ok (.invokevirtual 335, 3) := by decide +kernel
theorem dX11_type_51 : decode cX11_type 51 = .ok (.ireturn, 1) := by decide +kernel
set_option maxRecDepth 20000 in
theorem ggX11_execute_X3_parse : GoodIn wsX11_execute wsX3_parse := goodIn_ca (goodIn_r _ [18, 19, 20, 21, 22, 23, 24, 17, 25, 26, 27, 28, 29, 30, 31, 32, 33, 34, 35, 36, 37, 38, 39, 40, 41, 42, 43, 44, 45, 46, 47, 48, 49, 50, 51, 52, 53, 54, 55, 56, 57, 58, 59, 60, 61, 62, 63, 64, 65, 66, 67, 68, 69, 70, 71, 72, 73, 74, 75, 76, 77, 78, 79, 80, 81, 82, 83, 84, 85, 86, 87, 88, 89, 90, 91, 92, 93, 94, 95, 96, 97, 98, 99, 100, 101, 102, 103, 104, 105, 106, 411, 412, 413, 414, 415, 416, 417, 418, 419] (by decide +kernel) (by decide +kernel)) (goodIn_sub (fun _ h => List.mem_cons_of_mem _ (List.mem_append_right _ h)) (by decide +kernel))
set_option maxRecDepth 20000 in
theorem gX11_execute_X3_parse : GoodIn wsX11_execute (wsV RX11 338 RX3 yX3_parse wsX3_parse) := goodIn_app (goodIn_of _ (by decide +kernel)) ggX11_execute_X3_parse
set_option maxRecDepth 20000 in
theorem ggX11_execute_X9_copyFrom : GoodIn wsX11_execute wsX9_copyFrom := goodIn_r _ [111, 112, 113, 114, 115, 116, 117, 118, 119, 120, 121, 122, 123, 124, 125, 126, 127, 128, 129, 130, 131, 132, 133, 134, 135, 136, 137, 138, 139, 140, 141, 142, 143, 144, 145, 146, 147, 148, 149, 150, 151, 152, 153, 154, 155, 156, 420, 421, 422, 423, 424, 425, 426, 427, 428, 429, 430, 431, 432, 433, 434, 435, 436, 437, 438, 439, 440, 441, 442, 443, 444] (by decide +kernel) (by decide +kernel)
set_option maxRecDepth 20000 in
theorem gX11_execute_X9_copyFrom : GoodIn wsX11_execute (wsV RX11 348 RX9 yX9_copyFrom wsX9_copyFrom) := goodIn_app (goodIn_of _ (by decide +kernel)) ggX11_execute_X9_copyFrom
set_option maxRecDepth 20000 in
theorem ggX11_execute_X11_performCommands : GoodIn wsX11_execute wsX11_performCommands := goodIn_ca (goodIn_r _ [161, 5, 11, 162, 163, 164, 165, 166, 167, 168, 160, 169, 170, 10, 171, 172, 173, 174, 175, 176, 177, 178, 179, 180, 181, 182, 110, 183, 184, 112, 185, 186, 187, 188, 189, 190, 191, 192, 193, 194, 114, 195, 196, 197, 198, 199, 118, 200, 120, 201, 202, 203, 204, 205, 206, 207, 208, 209, 210, 211, 212, 213, 214, 215, 216, 217, 218, 219, 220, 221, 222, 113, 223, 224, 225, 226, 227, 228, 229, 230, 231, 232, 233, 234, 235, 236, 237, 238, 239, 240, 241, 242, 243, 244, 245, 246, 247, 248, 249, 250, 251, 252, 121, 126, 127, 128, 129, 130, 131, 253, 254, 255, 256, 257, 258, 259, 260, 122, 123, 124, 125, 261, 262, 263, 135, 264, 137, 138, 265, 266, 267, 268, 269, 270, 271, 39, 272, 273, 274, 275, 276, 277, 278, 279, 280, 281, 282, 283, 284, 285, 286, 287, 288, 289, 290, 291, 292, 293, 294, 295, 296, 297, 298, 299, 300, 301, 302, 303, 304, 305, 306, 307, 308, 140, 141, 309, 310, 311, 312, 313, 314, 315, 316, 317, 318, 319, 320, 321, 322, 323, 324, 325, 326, 327, 328, 329, 330, 331, 332, 333, 334, 335, 336, 337, 338, 339, 340, 341, 342, 343, 344, 345, 346, 347, 348, 349, 350, 351, 352, 353, 354, 355, 356, 357, 358, 359, 360, 361, 362, 363, 364, 365, 366, 367, 368, 369, 370, 371, 372, 373, 374, 375, 376, 377, 378, 379, 380, 381, 382, 383, 384, 385, 386, 387, 398, 399, 400, 401, 402, 403, 404, 405, 406, 407, 408, 409, 410, 411, 412, 413, 414, 415, 416, 417, 420, 421, 422, 423, 424, 425, 426, 427, 428, 429, 430, 435, 436, 437, 438, 439, 440, 441, 442, 443, 444, 431, 432, 433, 434, 445, 446, 447, 448] (by decide +kernel) (by decide +kernel)) (goodIn_sub (fun _ h => List.mem_cons_of_mem _ (List.mem_append_right _ h)) (by decide +kernel))
set_option maxRecDepth 20000 in
theorem gX11_execute_X11_performCommands : GoodIn wsX11_execute (wsV RX11 351 RX11 yX11_performCommands wsX11_performCommands) := goodIn_app (goodIn_of _ (by decide +kernel)) ggX11_execute_X11_performCommands
set_option maxRecDepth 20000 in
theorem ggX11_execute_X4_remember : GoodIn wsX11_execute wsX4_remember := goodIn_r _ [392, 393, 394, 395, 396, 271, 39, 272, 397, 108, 109, 110, 111, 112, 113, 114, 115, 116, 117, 118, 119, 120, 121, 122, 123, 124, 125, 126, 127, 128, 129, 130, 131, 132, 133, 134, 135, 136, 137, 138, 139, 140, 141, 142, 143, 144, 145, 146, 147, 148, 149, 150, 151, 152, 153, 154, 155, 156, 449, 450, 451, 420, 421, 422, 423, 424, 425, 426, 427, 428, 429, 430, 431, 432, 433, 434, 435, 436, 437, 438, 439, 440, 441, 442, 443, 444] (by decide +kernel) (by decide +kernel)
set_option maxRecDepth 20000 in
theorem gX11_execute_X4_remember : GoodIn wsX11_execute (wsV RX11 83 RX4 yX4_remember wsX4_remember) := goodIn_app (goodIn_of _ (by decide +kernel)) ggX11_execute_X4_remember
theorem dX11_execute_0 : decode cX11_execute 0 = .ok (.aload_n 0, 1) := by decide +kernel
theorem dX11_execute_1 : decode cX11_execute 1 = .ok (.getfield 57, 3) := by decide +kernel
theorem dX11_execute_4 : decode cX11_execute 4 = .ok (.invokevirtual 338, 3) := by decide +kernel
theorem dX11_execute_7 : decode cX11_execute 7 = .ok (.istore_n 1, 1) := by decide +kernel
theorem dX11_execute_8 : decode cX11_execute 8 = .ok (.aload_n 0, 1) := by decide +kernel
theorem dX11_execute_9 : decode cX11_execute 9 = .ok (.getfield 57, 3) := by decide +kernel
theorem dX11_execute_12 : decode cX11_execute 12 = .ok (.iconst 0, 1) := by decide +kernel
theorem dX11_execute_13 : decode cX11_execute 13 = .ok (.putfield 341, 3) := by decide +kernel
theorem dX11_execute_16 : decode cX11_execute 16 = .ok (.iload_n 1, 1) := by decide +kernel
theorem dX11_execute_17 : decode cX11_execute 17 = .ok (.ifCond .ne 25, 3) := by decide +kernel
theorem dX11_execute_20 : decode cX11_execute 20 = .ok (.aload_n 0, 1) := by decide +kernel
theorem dX11_execute_21 : decode cX11_execute 21 = .ok (.aload_n 0, 1) := by decide +kernel
theorem dX11_execute_22 : decode cX11_execute 22 = .ok (.getfield 57, 3) := by decide +kernel
theorem dX11_execute_25 : decode cX11_execute 25 = .ok (.getfield 343, 3) := by decide +kernel
theorem dX11_execute_28 : decode cX11_execute 28 = .ok (.putfield 68, 3) := by decide +kernel
theorem dX11_execute_31 : decode cX11_execute 31 = .ok (.new 262, 3) := by decide +kernel
theorem dX11_execute_34 : decode cX11_execute 34 = .ok (.dup, 1) := by decide +kernel
theorem dX11_execute_35 : decode cX11_execute 35 = .ok (.ldc_w 346, 3) := by decide +kernel
theorem dX11_execute_38 : decode cX11_execute 38 = .ok (.invokespecial 266, 3) := by decide +kernel
theorem dX11_execute_41 : decode cX11_execute 41 = .ok (.athrow, 1) := by decide +kernel
theorem dX11_execute_42 : decode cX11_execute 42 = .ok (.aload_n 0, 1) := by decide +kernel
theorem dX11_execute_43 : decode cX11_execute 43 = .ok (.getfield 16, 3) := by decide +kernel
theorem dX11_execute_46 : decode cX11_execute 46 = .ok (.aload_n 0, 1) := by decide +kernel
theorem dX11_execute_47 : decode cX11_execute 47 = .ok (.getfield 10, 3) := by decide +kernel
theorem dX11_execute_50 : decode cX11_execute 50 = .ok (.invokevirtual 348, 3) := by decide +kernel
theorem dX11_execute_53 : decode cX11_execute 53 = .ok (.aload_n 0, 1) := by decide +kernel
theorem dX11_execute_54 : decode cX11_execute 54 = .ok (.invokevirtual 351, 3) := by decide +kernel
theorem dX11_execute_57 : decode cX11_execute 57 = .ok (.istore_n 2, 1) := by decide +kernel
theorem dX11_execute_58 : decode cX11_execute 58 = .ok (.iload_n 2, 1) := by decide +kernel
theorem dX11_execute_59 : decode cX11_execute 59 = .ok (.aload_n 0, 1) := by decide +kernel
theorem dX11_execute_60 : decode cX11_execute 60 = .ok (.getfield 57, 3) := by decide +kernel
theorem dX11_execute_63 : decode cX11_execute 63 = .ok (.getfield 354, 3) := by decide +kernel
theorem dX11_execute_66 : decode cX11_execute 66 = .ok (.if_icmp .ge 30, 3) := by decide +kernel
theorem dX11_execute_69 : decode cX11_execute 69 = .ok (.aload_n 0, 1) := by decide +kernel
theorem dX11_execute_70 : decode cX11_execute 70 = .ok (.getfield 10, 3) := by decide +kernel
theorem dX11_execute_73 : decode cX11_execute 73 = .ok (.aload_n 0, 1) := by decide +kernel
theorem dX11_execute_74 : decode cX11_execute 74 = .ok (.getfield 16, 3) := by decide +kernel
theorem dX11_execute_77 : decode cX11_execute 77 = .ok (.invokevirtual 348, 3) := by decide +kernel
theorem dX11_execute_80 : decode cX11_execute 80 = .ok (.aload_n 0, 1) := by decide +kernel
theorem dX11_execute_81 : decode cX11_execute 81 = .ok (.iload_n 2, 1) := by decide +kernel
theorem dX11_execute_82 : decode cX11_execute 82 = .ok (.putfield 72, 3) := by decide +kernel
theorem dX11_execute_85 : decode cX11_execute 85 = .ok (.new 330, 3) := by decide +kernel
theorem dX11_execute_88 : decode cX11_execute 88 = .ok (.dup, 1) := by decide +kernel
theorem dX11_execute_89 : decode cX11_execute 89 = .ok (.ldc_w 357, 3) := by decide +kernel
theorem dX11_execute_92 : decode cX11_execute 92 = .ok (.invokespecial 334, 3) := by decide +kernel
theorem dX11_execute_95 : decode cX11_execute 95 = .ok (.athrow, 1) := by decide +kernel
theorem dX11_execute_96 : decode cX11_execute 96 = .ok (.aload_n 0, 1) := by decide +kernel
theorem dX11_execute_97 : decode cX11_execute 97 = .ok (.getfield 29, 3) := by decide +kernel
theorem dX11_execute_100 : decode cX11_execute 100 = .ok (.aload_n 0, 1) := by decide +kernel
theorem dX11_execute_101 : decode cX11_execute 101 = .ok (.getfield 16, 3) := by decide +kernel
theorem dX11_execute_104 : decode cX11_execute 104 = .ok (.invokevirtual 83, 3) := by decide +kernel
theorem dX11_execute_107 : decode cX11_execute 107 = .ok (.iload_n 2, 1) := by decide +kernel
theorem dX11_execute_108 : decode cX11_execute 108 = .ok (.ireturn, 1) := by decide +kernel
theorem dX11_errorPosition_0 : decode cX11_errorPosition 0 = .ok (.aload_n 0, 1) := by decide +kernel
theorem dX11_errorPosition_1 : decode cX11_errorPosition 1 = .ok (.getfield 68, 3) := by decide +kernel
theorem dX11_errorPosition_4 : decode cX11_errorPosition 4 = .ok (.iconst (-1), 1) := by decide +kernel
theorem dX11_errorPosition_5 : decode cX11_errorPosition 5 = .ok (.if_icmp .ne 14, 3) := by decide +kernel
theorem dX11_errorPosition_8 : decode cX11_errorPosition 8 = .ok (.new 272, 3) := by decide +kernel
theorem dX11_errorPosition_11 : decode cX11_errorPosition 11 = .ok (.dup, 1) := by decide +kernel
theorem dX11_errorPosition_12 : decode cX11_errorPosition 12 = .ok (.ldc_w 359, 3) := by decide +kernel
theorem dX11_errorPosition_15 : decode cX11_errorPosition 15 = .ok (.invokespecial 276, 3) := by decide +kernel
theorem dX11_errorPosition_18 : decode cX11_errorPosition 18 = .ok (.athrow, 1) := by decide +kernel
theorem dX11_errorPosition_19 : decode cX11_errorPosition 19 = .ok (.aload_n 0, 1) := by decide +kernel
theorem dX11_errorPosition_20 : decode cX11_errorPosition 20 = .ok (.getfield 68, 3) := by decide +kernel
theorem dX11_errorPosition_23 : decode cX11_errorPosition 23 = .ok (.ireturn, 1) := by decide +kernel
theorem dX11_failedCommand_0 : decode cX11_failedCommand 0 = .ok (.aload_n 0, 1) := by decide +kernel
theorem dX11_failedCommand_1 : decode cX11_failedCommand 1 = .ok (.getfield 72, 3) := by decide +kernel
theorem dX11_failedCommand_4 : decode cX11_failedCommand 4 = .ok (.iconst (-1), 1) := by decide +kernel
theorem dX11_failedCommand_5 : decode cX11_failedCommand 5 = .ok (.if_icmp .ne 14, 3) := by decide +kernel
theorem dX11_failedCommand_8 : decode cX11_failedCommand 8 = .ok (.new 272, 3) := by decide +kernel
theorem dX11_failedCommand_11 : decode cX11_failedCommand 11 = .ok (.dup, 1) := by decide +kernel
theorem dX11_failedCommand_12 : decode cX11_failedCommand 12 = .ok (.ldc_w 361, 3) := by decide +kernel
theorem dX11_failedCommand_15 : decode cX11_failedCommand 15 = .ok (.invokespecial 276, 3) := by decide +kernel
theorem dX11_failedCommand_18 : decode cX11_failedCommand 18 = .ok (.athrow, 1) := by decide +kernel
theorem dX11_failedCommand_19 : decode cX11_failedCommand 19 = .ok (.aload_n 0, 1) := by decide +kernel
theorem dX11_failedCommand_20 : decode cX11_failedCommand 20 = .ok (.getfield 72, 3) := by decide +kernel
theorem dX11_failedCommand_23 : decode cX11_failedCommand 23 = .ok (.ireturn, 1) := by decide +kernel
set_option maxRecDepth 20000 in
theorem ggX11_undo_X4_takeBack : GoodIn wsX11_undo wsX4_takeBack := goodIn_r _ [10, 11, 12, 13, 14, 15, 16, 17, 18, 19, 20, 21, 22, 23, 24, 25, 26, 27, 28, 29, 30, 31, 32, 33, 34, 35, 36, 37, 38, 39, 40, 41, 42, 43, 44, 45, 46, 47, 48, 49, 50, 51, 52, 53, 54, 55, 56, 57, 58, 59, 60, 61, 62, 63, 77, 78, 79, 80, 81, 82, 83, 84, 85, 86, 87, 88, 89, 90, 91, 92, 93, 94, 95, 96, 97, 98, 99, 100, 101, 102, 103, 104] (by decide +kernel) (by decide +kernel)
set_option maxRecDepth 20000 in
theorem gX11_undo_X4_takeBack : GoodIn wsX11_undo (wsV RX11 368 RX4 yX4_takeBack wsX4_takeBack) := goodIn_app (goodIn_of _ (by decide +kernel)) ggX11_undo_X4_takeBack
theorem dX11_undo_0 : decode cX11_undo 0 = .ok (.aload_n 0, 1) := by decide +kernel
theorem dX11_undo_1 : decode cX11_undo 1 = .ok (.getfield 29, 3) := by decide +kernel
theorem dX11_undo_4 : decode cX11_undo 4 = .ok (.getfield 363, 3) := by decide +kernel
theorem dX11_undo_7 : decode cX11_undo 7 = .ok (.ifCond .ne 14, 3) := by decide +kernel
theorem dX11_undo_10 : decode cX11_undo 10 = .ok (.new 330, 3) := by decide +kernel
theorem dX11_undo_13 : decode cX11_undo 13 = .ok (.dup, 1) := by decide +kernel
theorem dX11_undo_14 : decode cX11_undo 14 = .ok (.ldc_w 366, 3) := by decide +kernel
theorem dX11_undo_17 : decode cX11_undo 17 = .ok (.invokespecial 334, 3) := by decide +kernel
theorem dX11_undo_20 : decode cX11_undo 20 = .ok (.athrow, 1) := by decide +kernel
theorem dX11_undo_21 : decode cX11_undo 21 = .ok (.aload_n 0, 1) := by decide +kernel
theorem dX11_undo_22 : decode cX11_undo 22 = .ok (.getfield 29, 3) := by decide +kernel
theorem dX11_undo_25 : decode cX11_undo 25 = .ok (.aload_n 0, 1) := by decide +kernel
theorem dX11_undo_26 : decode cX11_undo 26 = .ok (.getfield 10, 3) := by decide +kernel
theorem dX11_undo_29 : decode cX11_undo 29 = .ok (.invokevirtual 368, 3) := by decide +kernel
theorem dX11_undo_32 : decode cX11_undo 32 = .ok (.aload_n 0, 1) := by decide +kernel
theorem dX11_undo_33 : decode cX11_undo 33 = .ok (.getfield 29, 3) := by decide +kernel
theorem dX11_undo_36 : decode cX11_undo 36 = .ok (.getfield 363, 3) := by decide +kernel
theorem dX11_undo_39 : decode cX11_undo 39 = .ok (.ireturn, 1) := by decide +kernel
set_option maxRecDepth 20000 in
theorem ggX11_save_X9_copyFrom : GoodIn wsX11_save wsX9_copyFrom := goodIn_r _ [10, 11, 12, 13, 14, 15, 16, 17, 18, 19, 20, 21, 22, 23, 24, 25, 26, 27, 28, 29, 30, 31, 32, 33, 34, 35, 36, 37, 38, 39, 40, 41, 42, 43, 44, 45, 46, 47, 48, 49, 50, 51, 52, 53, 54, 55, 69, 70, 71, 72, 73, 74, 75, 76, 77, 78, 79, 80, 81, 82, 83, 84, 85, 86, 87, 88, 89, 90, 91, 92, 93] (by decide +kernel) (by decide +kernel)
set_option maxRecDepth 20000 in
theorem gX11_save_X9_copyFrom : GoodIn wsX11_save (wsV RX11 348 RX9 yX9_copyFrom wsX9_copyFrom) := goodIn_app (goodIn_of _ (by decide +kernel)) ggX11_save_X9_copyFrom
theorem dX11_save_0 : decode cX11_save 0 = .ok (.aload_n 0, 1) := by decide +kernel
theorem dX11_save_1 : decode cX11_save 1 = .ok (.getfield 19, 3) := by decide +kernel
theorem dX11_save_4 : decode cX11_save 4 = .ok (.aload_n 0, 1) := by decide +kernel
theorem dX11_save_5 : decode cX11_save 5 = .ok (.getfield 10, 3) := by decide +kernel
theorem dX11_save_8 : decode cX11_save 8 = .ok (.invokevirtual 348, 3) := by decide +kernel
theorem dX11_save_11 : decode cX11_save 11 = .ok (.aload_n 0, 1) := by decide +kernel
theorem dX11_save_12 : decode cX11_save 12 = .ok (.iconst 1, 1) := by decide +kernel
theorem dX11_save_13 : decode cX11_save 13 = .ok (.putfield 22, 3) := by decide +kernel
theorem dX11_save_16 : decode cX11_save 16 = .ok (.aload_n 0, 1) := by decide +kernel
theorem dX11_save_17 : decode cX11_save 17 = .ok (.getfield 10, 3) := by decide +kernel
theorem dX11_save_20 : decode cX11_save 20 = .ok (.getfield 87, 3) := by decide +kernel
theorem dX11_save_23 : decode cX11_save 23 = .ok (.getfield 123, 3) := by decide +kernel
theorem dX11_save_26 : decode cX11_save 26 = .ok (.ireturn, 1) := by decide +kernel
set_option maxRecDepth 20000 in
theorem ggX11_restore_X9_copyFrom : GoodIn wsX11_restore wsX9_copyFrom := goodIn_r _ [14, 15, 16, 17, 18, 19, 20, 21, 22, 23, 24, 25, 26, 27, 28, 29, 30, 31, 32, 33, 34, 35, 36, 37, 38, 39, 40, 41, 42, 43, 44, 45, 46, 47, 48, 49, 50, 51, 52, 53, 54, 55, 56, 57, 58, 59, 76, 77, 78, 79, 80, 81, 82, 83, 84, 85, 86, 87, 88, 89, 90, 91, 92, 93, 94, 95, 96, 97, 98, 99, 100] (by decide +kernel) (by decide +kernel)
set_option maxRecDepth 20000 in
theorem gX11_restore_X9_copyFrom : GoodIn wsX11_restore (wsV RX11 348 RX9 yX9_copyFrom wsX9_copyFrom) := goodIn_app (goodIn_of _ (by decide +kernel)) ggX11_restore_X9_copyFrom
theorem dX11_restore_0 : decode cX11_restore 0 = .ok (.aload_n 0, 1) := by decide +kernel
theorem dX11_restore_1 : decode cX11_restore 1 = .ok (.getfield 22, 3) := by decide +kernel
theorem dX11_restore_4 : decode cX11_restore 4 = .ok (.ifCond .ne 14, 3) := by decide +kernel
theorem dX11_restore_7 : decode cX11_restore 7 = .ok (.new 330, 3) := by decide +kernel
theorem dX11_restore_10 : decode cX11_restore 10 = .ok (.dup, 1) := by decide +kernel
theorem dX11_restore_11 : decode cX11_restore 11 = .ok (.ldc_w 371, 3) := by decide +kernel
theorem dX11_restore_14 : decode cX11_restore 14 = .ok (.invokespecial 334, 3) := by decide +kernel
theorem dX11_restore_17 : decode cX11_restore 17 = .ok (.athrow, 1) := by decide +kernel
theorem dX11_restore_18 : decode cX11_restore 18 = .ok (.aload_n 0, 1) := by decide +kernel
theorem dX11_restore_19 : decode cX11_restore 19 = .ok (.getfield 10, 3) := by decide +kernel
theorem dX11_restore_22 : decode cX11_restore 22 = .ok (.aload_n 0, 1) := by decide +kernel
theorem dX11_restore_23 : decode cX11_restore 23 = .ok (.getfield 19, 3) := by decide +kernel
theorem dX11_restore_26 : decode cX11_restore 26 = .ok (.invokevirtual 348, 3) := by decide +kernel
theorem dX11_restore_29 : decode cX11_restore 29 = .ok (.aload_n 0, 1) := by decide +kernel
theorem dX11_restore_30 : decode cX11_restore 30 = .ok (.getfield 29, 3) := by decide +kernel
theorem dX11_restore_33 : decode cX11_restore 33 = .ok (.iconst 0, 1) := by decide +kernel
theorem dX11_restore_34 : decode cX11_restore 34 = .ok (.putfield 363, 3) := by decide +kernel
theorem dX11_restore_37 : decode cX11_restore 37 = .ok (.aload_n 0, 1) := by decide +kernel
theorem dX11_restore_38 : decode cX11_restore 38 = .ok (.getfield 10, 3) := by decide +kernel
theorem dX11_restore_41 : decode cX11_restore 41 = .ok (.getfield 87, 3) := by decide +kernel
theorem dX11_restore_44 : decode cX11_restore 44 = .ok (.getfield 123, 3) := by decide +kernel
theorem dX11_restore_47 : decode cX11_restore 47 = .ok (.ireturn, 1) := by decide +kernel
theorem dX11_within_0 : decode cX11_within 0 = .ok (.iload_n 0, 1) := by decide +kernel
theorem dX11_within_1 : decode cX11_within 1 = .ok (.iload_n 1, 1) := by decide +kernel
theorem dX11_within_2 : decode cX11_within 2 = .ok (.if_icmp .lt 12, 3) := by decide +kernel
theorem dX11_within_5 : decode cX11_within 5 = .ok (.iload_n 0, 1) := by decide +kernel
theorem dX11_within_6 : decode cX11_within 6 = .ok (.iload_n 2, 1) := by decide +kernel
theorem dX11_within_7 : decode cX11_within 7 = .ok (.if_icmp .gt 7, 3) := by decide +kernel
theorem dX11_within_10 : decode cX11_within 10 = .ok (.iconst 1, 1) := by decide +kernel
theorem dX11_within_11 : decode cX11_within 11 = .ok (.goto 4, 3) := by decide +kernel
theorem dX11_within_14 : decode cX11_within 14 = .ok (.iconst 0, 1) := by decide +kernel
theorem dX11_within_15 : decode cX11_within 15 = .ok (.ireturn, 1) := by decide +kernel
theorem dX11_raise_0 : decode cX11_raise 0 = .ok (.aload_n 0, 1) := by decide +kernel
theorem dX11_raise_1 : decode cX11_raise 1 = .ok (.getstatic 373, 3) := by decide +kernel
theorem dX11_raise_4 : decode cX11_raise 4 = .ok (.if_acmp .ne 14, 3) := by decide +kernel
theorem dX11_raise_7 : decode cX11_raise 7 = .ok (.new 302, 3) := by decide +kernel
theorem dX11_raise_10 : decode cX11_raise 10 = .ok (.dup, 1) := by decide +kernel
theorem dX11_raise_11 : decode cX11_raise 11 = .ok (.ldc_w 379, 3) := by decide +kernel
theorem dX11_raise_14 : decode cX11_raise 14 = .ok (.invokespecial 306, 3) := by decide +kernel
theorem dX11_raise_17 : decode cX11_raise 17 = .ok (.athrow, 1) := by decide +kernel
theorem dX11_raise_18 : decode cX11_raise 18 = .ok (.aload_n 0, 1) := by decide +kernel
theorem dX11_raise_19 : decode cX11_raise 19 = .ok (.getstatic 381, 3) := by decide +kernel
theorem dX11_raise_22 : decode cX11_raise 22 = .ok (.if_acmp .ne 14, 3) := by decide +kernel
theorem dX11_raise_25 : decode cX11_raise 25 = .ok (.new 262, 3) := by decide +kernel
theorem dX11_raise_28 : decode cX11_raise 28 = .ok (.dup, 1) := by decide +kernel
theorem dX11_raise_29 : decode cX11_raise 29 = .ok (.ldc_w 384, 3) := by decide +kernel
theorem dX11_raise_32 : decode cX11_raise 32 = .ok (.invokespecial 266, 3) := by decide +kernel
theorem dX11_raise_35 : decode cX11_raise 35 = .ok (.athrow, 1) := by decide +kernel
theorem dX11_raise_36 : decode cX11_raise 36 = .ok (.aload_n 0, 1) := by decide +kernel
theorem dX11_raise_37 : decode cX11_raise 37 = .ok (.getstatic 386, 3) := by decide +kernel
theorem dX11_raise_40 : decode cX11_raise 40 = .ok (.if_acmp .ne 14, 3) := by decide +kernel
theorem dX11_raise_43 : decode cX11_raise 43 = .ok (.new 330, 3) := by decide +kernel
theorem dX11_raise_46 : decode cX11_raise 46 = .ok (.dup, 1) := by decide +kernel
theorem dX11_raise_47 : decode cX11_raise 47 = .ok (.ldc_w 389, 3) := by decide +kernel
theorem dX11_raise_50 : decode cX11_raise 50 = .ok (.invokespecial 334, 3) := by decide +kernel
theorem dX11_raise_53 : decode cX11_raise 53 = .ok (.athrow, 1) := by decide +kernel
theorem dX11_raise_54 : decode cX11_raise 54 = .ok (.return_, 1) := by decide +kernel
set_option maxRecDepth 20000 in
theorem ggX11_requireLamp_X5_has : GoodIn wsX11_requireLamp wsX5_has := goodIn_r _ [9, 10, 27, 28, 29, 30, 31, 32, 33, 34] (by decide +kernel) (by decide +kernel)
set_option maxRecDepth 20000 in
theorem gX11_requireLamp_X5_has : GoodIn wsX11_requireLamp (wsV RX11 391 RX5 yX5_has wsX5_has) := goodIn_app (goodIn_of _ (by decide +kernel)) ggX11_requireLamp_X5_has
theorem dX11_requireLamp_0 : decode cX11_requireLamp 0 = .ok (.aload_n 0, 1) := by decide +kernel
theorem dX11_requireLamp_1 : decode cX11_requireLamp 1 = .ok (.getfield 10, 3) := by decide +kernel
theorem dX11_requireLamp_4 : decode cX11_requireLamp 4 = .ok (.getfield 87, 3) := by decide +kernel
theorem dX11_requireLamp_7 : decode cX11_requireLamp 7 = .ok (.iload_n 1, 1) := by decide +kernel
theorem dX11_requireLamp_8 : decode cX11_requireLamp 8 = .ok (.invokevirtual 391, 3) := by decide +kernel
theorem dX11_requireLamp_11 : decode cX11_requireLamp 11 = .ok (.ifCond .ne 14, 3) := by decide +kernel
theorem dX11_requireLamp_14 : decode cX11_requireLamp 14 = .ok (.new 302, 3) := by decide +kernel
theorem dX11_requireLamp_17 : decode cX11_requireLamp 17 = .ok (.dup, 1) := by decide +kernel
theorem dX11_requireLamp_18 : decode cX11_requireLamp 18 = .ok (.ldc_w 379, 3) := by decide +kernel
theorem dX11_requireLamp_21 : decode cX11_requireLamp 21 = .ok (.invokespecial 306, 3) := by decide +kernel
theorem dX11_requireLamp_24 : decode cX11_requireLamp 24 = .ok (.athrow, 1) := by decide +kernel
theorem dX11_requireLamp_25 : decode cX11_requireLamp 25 = .ok (.return_, 1) := by decide +kernel
set_option maxRecDepth 20000 in
theorem ggX11_requireMoth_X6_has : GoodIn wsX11_requireMoth wsX6_has := goodIn_r _ [9, 10, 27, 28, 29, 30] (by decide +kernel) (by decide +kernel)
set_option maxRecDepth 20000 in
theorem gX11_requireMoth_X6_has : GoodIn wsX11_requireMoth (wsV RX11 394 RX6 yX6_has wsX6_has) := goodIn_app (goodIn_of _ (by decide +kernel)) ggX11_requireMoth_X6_has
theorem dX11_requireMoth_0 : decode cX11_requireMoth 0 = .ok (.aload_n 0, 1) := by decide +kernel
theorem dX11_requireMoth_1 : decode cX11_requireMoth 1 = .ok (.getfield 10, 3) := by decide +kernel
theorem dX11_requireMoth_4 : decode cX11_requireMoth 4 = .ok (.getfield 205, 3) := by decide +kernel
theorem dX11_requireMoth_7 : decode cX11_requireMoth 7 = .ok (.iload_n 1, 1) := by decide +kernel
theorem dX11_requireMoth_8 : decode cX11_requireMoth 8 = .ok (.invokevirtual 394, 3) := by decide +kernel
theorem dX11_requireMoth_11 : decode cX11_requireMoth 11 = .ok (.ifCond .ne 14, 3) := by decide +kernel
theorem dX11_requireMoth_14 : decode cX11_requireMoth 14 = .ok (.new 302, 3) := by decide +kernel
theorem dX11_requireMoth_17 : decode cX11_requireMoth 17 = .ok (.dup, 1) := by decide +kernel
theorem dX11_requireMoth_18 : decode cX11_requireMoth 18 = .ok (.ldc_w 395, 3) := by decide +kernel
theorem dX11_requireMoth_21 : decode cX11_requireMoth 21 = .ok (.invokespecial 306, 3) := by decide +kernel
theorem dX11_requireMoth_24 : decode cX11_requireMoth 24 = .ok (.athrow, 1) := by decide +kernel
theorem dX11_requireMoth_25 : decode cX11_requireMoth 25 = .ok (.return_, 1) := by decide +kernel
set_option maxRecDepth 20000 in
theorem ggX11_requireStreet_X11_within : GoodIn wsX11_requireStreet wsX11_within := goodIn_r _ [6] (by decide +kernel) (by decide +kernel)
set_option maxRecDepth 20000 in
theorem gX11_requireStreet_X11_within : GoodIn wsX11_requireStreet (va_wsS RX11 258 yX11_within wsX11_within) := goodIn_app (goodIn_of _ (by decide +kernel)) ggX11_requireStreet_X11_within
theorem dX11_requireStreet_0 : decode cX11_requireStreet 0 = .ok (.iload_n 0, 1) := by decide +kernel
theorem dX11_requireStreet_1 : decode cX11_requireStreet 1 = .ok (.iconst 0, 1) := by decide +kernel
theorem dX11_requireStreet_2 : decode cX11_requireStreet 2 = .ok (.iconst 3, 1) := by decide +kernel
theorem dX11_requireStreet_3 : decode cX11_requireStreet 3 = .ok (.invokestatic 258, 3) := by decide +kernel
theorem dX11_requireStreet_6 : decode cX11_requireStreet 6 = .ok (.ifCond .ne 14, 3) := by decide +kernel
theorem dX11_requireStreet_9 : decode cX11_requireStreet 9 = .ok (.new 302, 3) := by decide +kernel
theorem dX11_requireStreet_12 : decode cX11_requireStreet 12 = .ok (.dup, 1) := by decide +kernel
theorem dX11_requireStreet_13 : decode cX11_requireStreet 13 = .ok (.ldc_w 397, 3) := by decide +kernel
theorem dX11_requireStreet_16 : decode cX11_requireStreet 16 = .ok (.invokespecial 306, 3) := by decide +kernel
theorem dX11_requireStreet_19 : decode cX11_requireStreet 19 = .ok (.athrow, 1) := by decide +kernel
theorem dX11_requireStreet_20 : decode cX11_requireStreet 20 = .ok (.return_, 1) := by decide +kernel
set_option maxRecDepth 20000 in
theorem ggX11_requireRank_X5_has : GoodIn wsX11_requireRank wsX5_has := goodIn_r _ [9, 10, 27, 28, 29, 30, 31, 32, 33, 34] (by decide +kernel) (by decide +kernel)
set_option maxRecDepth 20000 in
theorem gX11_requireRank_X5_has : GoodIn wsX11_requireRank (wsV RX11 391 RX5 yX5_has wsX5_has) := goodIn_app (goodIn_of _ (by decide +kernel)) ggX11_requireRank_X5_has
theorem dX11_requireRank_0 : decode cX11_requireRank 0 = .ok (.aload_n 0, 1) := by decide +kernel
theorem dX11_requireRank_1 : decode cX11_requireRank 1 = .ok (.getfield 10, 3) := by decide +kernel
theorem dX11_requireRank_4 : decode cX11_requireRank 4 = .ok (.getfield 87, 3) := by decide +kernel
theorem dX11_requireRank_7 : decode cX11_requireRank 7 = .ok (.iload_n 1, 1) := by decide +kernel
theorem dX11_requireRank_8 : decode cX11_requireRank 8 = .ok (.invokevirtual 391, 3) := by decide +kernel
theorem dX11_requireRank_11 : decode cX11_requireRank 11 = .ok (.ifCond .ne 14, 3) := by decide +kernel
theorem dX11_requireRank_14 : decode cX11_requireRank 14 = .ok (.new 272, 3) := by decide +kernel
theorem dX11_requireRank_17 : decode cX11_requireRank 17 = .ok (.dup, 1) := by decide +kernel
theorem dX11_requireRank_18 : decode cX11_requireRank 18 = .ok (.ldc_w 399, 3) := by decide +kernel
theorem dX11_requireRank_21 : decode cX11_requireRank 21 = .ok (.invokespecial 276, 3) := by decide +kernel
theorem dX11_requireRank_24 : decode cX11_requireRank 24 = .ok (.athrow, 1) := by decide +kernel
theorem dX11_requireRank_25 : decode cX11_requireRank 25 = .ok (.return_, 1) := by decide +kernel
set_option maxRecDepth 20000 in
theorem ggX11_lampAtRank_X11_lampsAheadOf : GoodIn wsX11_lampAtRank wsX11_lampsAheadOf := goodIn_ca (goodIn_r _ [8, 1, 2, 3, 9, 10, 11, 12, 13, 14, 15, 16, 17, 18, 19, 20, 21, 22, 23, 24, 25, 26, 27, 28, 29, 30, 31, 32, 33] (by decide +kernel) (by decide +kernel)) (goodIn_sub (fun _ h => List.mem_cons_of_mem _ (List.mem_append_right _ h)) (by decide +kernel))
set_option maxRecDepth 20000 in
theorem gX11_lampAtRank_X11_lampsAheadOf : GoodIn wsX11_lampAtRank (wsV RX11 401 RX11 yX11_lampsAheadOf wsX11_lampsAheadOf) := goodIn_app (goodIn_of _ (by decide +kernel)) ggX11_lampAtRank_X11_lampsAheadOf
theorem dX11_lampAtRank_0 : decode cX11_lampAtRank 0 = .ok (.iconst 0, 1) := by decide +kernel
theorem dX11_lampAtRank_1 : decode cX11_lampAtRank 1 = .ok (.istore_n 2, 1) := by decide +kernel
theorem dX11_lampAtRank_2 : decode cX11_lampAtRank 2 = .ok (.iload_n 2, 1) := by decide +kernel
theorem dX11_lampAtRank_3 : decode cX11_lampAtRank 3 = .ok (.aload_n 0, 1) := by decide +kernel
theorem dX11_lampAtRank_4 : decode cX11_lampAtRank 4 = .ok (.getfield 10, 3) := by decide +kernel
theorem dX11_lampAtRank_7 : decode cX11_lampAtRank 7 = .ok (.getfield 87, 3) := by decide +kernel
theorem dX11_lampAtRank_10 : decode cX11_lampAtRank 10 = .ok (.getfield 123, 3) := by decide +kernel
theorem dX11_lampAtRank_13 : decode cX11_lampAtRank 13 = .ok (.if_icmp .ge 20, 3) := by decide +kernel
theorem dX11_lampAtRank_16 : decode cX11_lampAtRank 16 = .ok (.aload_n 0, 1) := by decide +kernel
theorem dX11_lampAtRank_17 : decode cX11_lampAtRank 17 = .ok (.iload_n 2, 1) := by decide +kernel
theorem dX11_lampAtRank_18 : decode cX11_lampAtRank 18 = .ok (.invokevirtual 401, 3) := by decide +kernel
theorem dX11_lampAtRank_21 : decode cX11_lampAtRank 21 = .ok (.iload_n 1, 1) := by decide +kernel
theorem dX11_lampAtRank_22 : decode cX11_lampAtRank 22 = .ok (.if_icmp .ne 5, 3) := by decide +kernel
theorem dX11_lampAtRank_25 : decode cX11_lampAtRank 25 = .ok (.iload_n 2, 1) := by decide +kernel
theorem dX11_lampAtRank_26 : decode cX11_lampAtRank 26 = .ok (.ireturn, 1) := by decide +kernel
theorem dX11_lampAtRank_27 : decode cX11_lampAtRank 27 = .ok (.iinc 2 1, 3) := by decide +kernel
theorem dX11_lampAtRank_30 : decode cX11_lampAtRank 30 = .ok (.goto (-28), 3) := by decide +kernel
theorem dX11_lampAtRank_33 : decode cX11_lampAtRank 33 = .ok (.iconst (-1), 1) := by decide +kernel
theorem dX11_lampAtRank_34 : decode cX11_lampAtRank 34 = .ok (.ireturn, 1) := by decide +kernel
theorem dX11_lampsAheadOf_0 : decode cX11_lampsAheadOf 0 = .ok (.iconst 0, 1) := by decide +kernel
theorem dX11_lampsAheadOf_1 : decode cX11_lampsAheadOf 1 = .ok (.istore_n 2, 1) := by decide +kernel
theorem dX11_lampsAheadOf_2 : decode cX11_lampsAheadOf 2 = .ok (.iconst 0, 1) := by decide +kernel
theorem dX11_lampsAheadOf_3 : decode cX11_lampsAheadOf 3 = .ok (.istore_n 3, 1) := by decide +kernel
theorem dX11_lampsAheadOf_4 : decode cX11_lampsAheadOf 4 = .ok (.iload_n 3, 1) := by decide +kernel
theorem dX11_lampsAheadOf_5 : decode cX11_lampsAheadOf 5 = .ok (.aload_n 0, 1) := by decide +kernel
theorem dX11_lampsAheadOf_6 : decode cX11_lampsAheadOf 6 = .ok (.getfield 10, 3) := by decide +kernel
theorem dX11_lampsAheadOf_9 : decode cX11_lampsAheadOf 9 = .ok (.getfield 87, 3) := by decide +kernel
theorem dX11_lampsAheadOf_12 : decode cX11_lampsAheadOf 12 = .ok (.getfield 123, 3) := by decide +kernel
theorem dX11_lampsAheadOf_15 : decode cX11_lampsAheadOf 15 = .ok (.if_icmp .ge 71, 3) := by decide +kernel
theorem dX11_lampsAheadOf_18 : decode cX11_lampsAheadOf 18 = .ok (.aload_n 0, 1) := by decide +kernel
theorem dX11_lampsAheadOf_19 : decode cX11_lampsAheadOf 19 = .ok (.getfield 50, 3) := by decide +kernel
theorem dX11_lampsAheadOf_22 : decode cX11_lampsAheadOf 22 = .ok (.iload_n 3, 1) := by decide +kernel
theorem dX11_lampsAheadOf_23 : decode cX11_lampsAheadOf 23 = .ok (.iaload, 1) := by decide +kernel
theorem dX11_lampsAheadOf_24 : decode cX11_lampsAheadOf 24 = .ok (.aload_n 0, 1) := by decide +kernel
theorem dX11_lampsAheadOf_25 : decode cX11_lampsAheadOf 25 = .ok (.getfield 50, 3) := by decide +kernel
theorem dX11_lampsAheadOf_28 : decode cX11_lampsAheadOf 28 = .ok (.iload_n 1, 1) := by decide +kernel
theorem dX11_lampsAheadOf_29 : decode cX11_lampsAheadOf 29 = .ok (.iaload, 1) := by decide +kernel
theorem dX11_lampsAheadOf_30 : decode cX11_lampsAheadOf 30 = .ok (.if_icmp .le 7, 3) := by decide +kernel
theorem dX11_lampsAheadOf_33 : decode cX11_lampsAheadOf 33 = .ok (.iconst 1, 1) := by decide +kernel
theorem dX11_lampsAheadOf_34 : decode cX11_lampsAheadOf 34 = .ok (.goto 4, 3) := by decide +kernel
theorem dX11_lampsAheadOf_37 : decode cX11_lampsAheadOf 37 = .ok (.iconst 0, 1) := by decide +kernel
theorem dX11_lampsAheadOf_38 : decode cX11_lampsAheadOf 38 = .ok (.istore 4, 2) := by decide +kernel
theorem dX11_lampsAheadOf_40 : decode cX11_lampsAheadOf 40 = .ok (.aload_n 0, 1) := by decide +kernel
theorem dX11_lampsAheadOf_41 : decode cX11_lampsAheadOf 41 = .ok (.getfield 50, 3) := by decide +kernel
theorem dX11_lampsAheadOf_44 : decode cX11_lampsAheadOf 44 = .ok (.iload_n 3, 1) := by decide +kernel
theorem dX11_lampsAheadOf_45 : decode cX11_lampsAheadOf 45 = .ok (.iaload, 1) := by decide +kernel
theorem dX11_lampsAheadOf_46 : decode cX11_lampsAheadOf 46 = .ok (.aload_n 0, 1) := by decide +kernel
theorem dX11_lampsAheadOf_47 : decode cX11_lampsAheadOf 47 = .ok (.getfield 50, 3) := by decide +kernel
theorem dX11_lampsAheadOf_50 : decode cX11_lampsAheadOf 50 = .ok (.iload_n 1, 1) := by decide +kernel
theorem dX11_lampsAheadOf_51 : decode cX11_lampsAheadOf 51 = .ok (.iaload, 1) := by decide +kernel
theorem dX11_lampsAheadOf_52 : decode cX11_lampsAheadOf 52 = .ok (.if_icmp .ne 12, 3) := by decide +kernel
theorem dX11_lampsAheadOf_55 : decode cX11_lampsAheadOf 55 = .ok (.iload_n 3, 1) := by decide +kernel
theorem dX11_lampsAheadOf_56 : decode cX11_lampsAheadOf 56 = .ok (.iload_n 1, 1) := by decide +kernel
theorem dX11_lampsAheadOf_57 : decode cX11_lampsAheadOf 57 = .ok (.if_icmp .ge 7, 3) := by decide +kernel
theorem dX11_lampsAheadOf_60 : decode cX11_lampsAheadOf 60 = .ok (.iconst 1, 1) := by decide +kernel
theorem dX11_lampsAheadOf_61 : decode cX11_lampsAheadOf 61 = .ok (.goto 4, 3) := by decide +kernel
theorem dX11_lampsAheadOf_64 : decode cX11_lampsAheadOf 64 = .ok (.iconst 0, 1) := by decide +kernel
theorem dX11_lampsAheadOf_65 : decode cX11_lampsAheadOf 65 = .ok (.istore 5, 2) := by decide +kernel
theorem dX11_lampsAheadOf_67 : decode cX11_lampsAheadOf 67 = .ok (.iload 4, 2) := by decide +kernel
theorem dX11_lampsAheadOf_69 : decode cX11_lampsAheadOf 69 = .ok (.ifCond .ne 8, 3) := by decide +kernel
theorem dX11_lampsAheadOf_72 : decode cX11_lampsAheadOf 72 = .ok (.iload 5, 2) := by decide +kernel
theorem dX11_lampsAheadOf_74 : decode cX11_lampsAheadOf 74 = .ok (.ifCond .eq 6, 3) := by decide +kernel
theorem dX11_lampsAheadOf_77 : decode cX11_lampsAheadOf 77 = .ok (.iinc 2 1, 3) := by decide +kernel
theorem dX11_lampsAheadOf_80 : decode cX11_lampsAheadOf 80 = .ok (.iinc 3 1, 3) := by decide +kernel
theorem dX11_lampsAheadOf_83 : decode cX11_lampsAheadOf 83 = .ok (.goto (-79), 3) := by decide +kernel
theorem dX11_lampsAheadOf_86 : decode cX11_lampsAheadOf 86 = .ok (.iload_n 2, 1) := by decide +kernel
theorem dX11_lampsAheadOf_87 : decode cX11_lampsAheadOf 87 = .ok (.ireturn, 1) := by decide +kernel
set_option maxRecDepth 20000 in
theorem ggX11_apportionmentsAgree_X1_divideBySorting : GoodIn wsX11_apportionmentsAgree wsX1_divideBySorting := goodIn_ca (goodIn_r _ [11, 12, 13, 14, 15, 16, 17, 10, 18, 19, 20, 21, 22, 23, 24, 25, 26, 27, 28, 29, 30, 55, 56, 57, 58, 59, 60, 61, 62, 63, 64, 65] (by decide +kernel) (by decide +kernel)) (goodIn_sub (fun _ h => List.mem_cons_of_mem _ (List.mem_append_right _ h)) (by decide +kernel))
set_option maxRecDepth 20000 in
theorem gX11_apportionmentsAgree_X1_divideBySorting : GoodIn wsX11_apportionmentsAgree (wsV RX11 192 RX1 yX1_divideBySorting wsX1_divideBySorting) := goodIn_app (goodIn_of _ (by decide +kernel)) ggX11_apportionmentsAgree_X1_divideBySorting
set_option maxRecDepth 20000 in
theorem ggX11_apportionmentsAgree_X1_divideInRounds : GoodIn wsX11_apportionmentsAgree wsX1_divideInRounds := goodIn_ca (goodIn_r _ [34, 12, 13, 20, 15, 16, 17, 10, 18, 19, 21, 22, 23, 24, 25, 26, 35, 36, 37, 38, 55, 56, 57, 58, 59, 60, 61, 62, 63, 64, 65] (by decide +kernel) (by decide +kernel)) (goodIn_sub (fun _ h => List.mem_cons_of_mem _ (List.mem_append_right _ h)) (by decide +kernel))
set_option maxRecDepth 20000 in
theorem gX11_apportionmentsAgree_X1_divideInRounds : GoodIn wsX11_apportionmentsAgree (wsV RX11 199 RX1 yX1_divideInRounds wsX1_divideInRounds) := goodIn_app (goodIn_of _ (by decide +kernel)) ggX11_apportionmentsAgree_X1_divideInRounds
theorem dX11_apportionmentsAgree_0 : decode cX11_apportionmentsAgree 0 = .ok (.iconst 0, 1) := by decide +kernel
theorem dX11_apportionmentsAgree_1 : decode cX11_apportionmentsAgree 1 = .ok (.istore_n 1, 1) := by decide +kernel
theorem dX11_apportionmentsAgree_2 : decode cX11_apportionmentsAgree 2 = .ok (.iload_n 1, 1) := by decide +kernel
theorem dX11_apportionmentsAgree_3 : decode cX11_apportionmentsAgree 3 = .ok (.bipush 20, 2) := by decide +kernel
theorem dX11_apportionmentsAgree_5 : decode cX11_apportionmentsAgree 5 = .ok (.if_icmp .gt 84, 3) := by decide +kernel
theorem dX11_apportionmentsAgree_8 : decode cX11_apportionmentsAgree 8 = .ok (.aload_n 0, 1) := by decide +kernel
theorem dX11_apportionmentsAgree_9 : decode cX11_apportionmentsAgree 9 = .ok (.getfield 43, 3) := by decide +kernel
theorem dX11_apportionmentsAgree_12 : decode cX11_apportionmentsAgree 12 = .ok (.aload_n 0, 1) := by decide +kernel
theorem dX11_apportionmentsAgree_13 : decode cX11_apportionmentsAgree 13 = .ok (.getfield 10, 3) := by decide +kernel
theorem dX11_apportionmentsAgree_16 : decode cX11_apportionmentsAgree 16 = .ok (.getfield 87, 3) := by decide +kernel
theorem dX11_apportionmentsAgree_19 : decode cX11_apportionmentsAgree 19 = .ok (.iload_n 1, 1) := by decide +kernel
theorem dX11_apportionmentsAgree_20 : decode cX11_apportionmentsAgree 20 = .ok (.invokevirtual 192, 3) := by decide +kernel
theorem dX11_apportionmentsAgree_23 : decode cX11_apportionmentsAgree 23 = .ok (.aload_n 0, 1) := by decide +kernel
theorem dX11_apportionmentsAgree_24 : decode cX11_apportionmentsAgree 24 = .ok (.getfield 47, 3) := by decide +kernel
theorem dX11_apportionmentsAgree_27 : decode cX11_apportionmentsAgree 27 = .ok (.aload_n 0, 1) := by decide +kernel
theorem dX11_apportionmentsAgree_28 : decode cX11_apportionmentsAgree 28 = .ok (.getfield 10, 3) := by decide +kernel
theorem dX11_apportionmentsAgree_31 : decode cX11_apportionmentsAgree 31 = .ok (.getfield 87, 3) := by decide +kernel
theorem dX11_apportionmentsAgree_34 : decode cX11_apportionmentsAgree 34 = .ok (.iload_n 1, 1) := by decide +kernel
theorem dX11_apportionmentsAgree_35 : decode cX11_apportionmentsAgree 35 = .ok (.invokevirtual 199, 3) := by decide +kernel
theorem dX11_apportionmentsAgree_38 : decode cX11_apportionmentsAgree 38 = .ok (.iconst 0, 1) := by decide +kernel
theorem dX11_apportionmentsAgree_39 : decode cX11_apportionmentsAgree 39 = .ok (.istore_n 2, 1) := by decide +kernel
theorem dX11_apportionmentsAgree_40 : decode cX11_apportionmentsAgree 40 = .ok (.iload_n 2, 1) := by decide +kernel
theorem dX11_apportionmentsAgree_41 : decode cX11_apportionmentsAgree 41 = .ok (.aload_n 0, 1) := by decide +kernel
theorem dX11_apportionmentsAgree_42 : decode cX11_apportionmentsAgree 42 = .ok (.getfield 10, 3) := by decide +kernel
theorem dX11_apportionmentsAgree_45 : decode cX11_apportionmentsAgree 45 = .ok (.getfield 87, 3) := by decide +kernel
theorem dX11_apportionmentsAgree_48 : decode cX11_apportionmentsAgree 48 = .ok (.getfield 123, 3) := by decide +kernel
theorem dX11_apportionmentsAgree_51 : decode cX11_apportionmentsAgree 51 = .ok (.if_icmp .ge 32, 3) := by decide +kernel
theorem dX11_apportionmentsAgree_54 : decode cX11_apportionmentsAgree 54 = .ok (.aload_n 0, 1) := by decide +kernel
theorem dX11_apportionmentsAgree_55 : decode cX11_apportionmentsAgree 55 = .ok (.getfield 43, 3) := by decide +kernel
theorem dX11_apportionmentsAgree_58 : decode cX11_apportionmentsAgree 58 = .ok (.getfield 196, 3) := by decide +kernel
theorem dX11_apportionmentsAgree_61 : decode cX11_apportionmentsAgree 61 = .ok (.iload_n 2, 1) := by decide +kernel
theorem dX11_apportionmentsAgree_62 : decode cX11_apportionmentsAgree 62 = .ok (.iaload, 1) := by decide +kernel
theorem dX11_apportionmentsAgree_63 : decode cX11_apportionmentsAgree 63 = .ok (.aload_n 0, 1) := by decide +kernel
theorem dX11_apportionmentsAgree_64 : decode cX11_apportionmentsAgree 64 = .ok (.getfield 47, 3) := by decide +kernel
theorem dX11_apportionmentsAgree_67 : decode cX11_apportionmentsAgree 67 = .ok (.getfield 196, 3) := by decide +kernel
theorem dX11_apportionmentsAgree_70 : decode cX11_apportionmentsAgree 70 = .ok (.iload_n 2, 1) := by decide +kernel
theorem dX11_apportionmentsAgree_71 : decode cX11_apportionmentsAgree 71 = .ok (.iaload, 1) := by decide +kernel
theorem dX11_apportionmentsAgree_72 : decode cX11_apportionmentsAgree 72 = .ok (.if_icmp .eq 5, 3) := by decide +kernel
theorem dX11_apportionmentsAgree_75 : decode cX11_apportionmentsAgree 75 = .ok (.iconst 0, 1) := by decide +kernel
theorem dX11_apportionmentsAgree_76 : decode cX11_apportionmentsAgree 76 = .ok (.ireturn, 1) := by decide +kernel
theorem dX11_apportionmentsAgree_77 : decode cX11_apportionmentsAgree 77 = .ok (.iinc 2 1, 3) := by decide +kernel
theorem dX11_apportionmentsAgree_80 : decode cX11_apportionmentsAgree 80 = .ok (.goto (-40), 3) := by decide +kernel
theorem dX11_apportionmentsAgree_83 : decode cX11_apportionmentsAgree 83 = .ok (.iinc 1 1, 3) := by decide +kernel
theorem dX11_apportionmentsAgree_86 : decode cX11_apportionmentsAgree 86 = .ok (.goto (-84), 3) := by decide +kernel
theorem dX11_apportionmentsAgree_89 : decode cX11_apportionmentsAgree 89 = .ok (.iconst 1, 1) := by decide +kernel
theorem dX11_apportionmentsAgree_90 : decode cX11_apportionmentsAgree 90 = .ok (.ireturn, 1) := by decide +kernel
set_option maxRecDepth 20000 in
theorem ggX11_performCommands_X11_refusalOf : GoodIn wsX11_performCommands wsX11_refusalOf := goodIn_ca (goodIn_r _ [11, 12, 13, 14, 6, 15, 16, 17, 18, 19, 20, 21, 22, 23, 24, 25, 26, 27, 28, 29, 30, 31, 32, 33, 10, 34, 35, 36, 37, 38, 39, 40, 41, 42, 43, 44, 45, 46, 47, 48, 49, 50, 51, 52, 53, 54, 55, 56, 57, 58, 59, 60, 61, 62, 63, 64, 65, 66, 67, 68, 69, 70, 71, 72, 73, 74, 75, 76, 77, 78, 79, 80, 81, 82, 83, 84, 85, 86, 87, 88, 254, 255, 256, 257, 258, 259, 260, 261, 262, 263, 264, 265, 266, 274, 275, 276, 277, 278, 279, 280, 281, 282, 283, 284, 285, 286, 287, 288, 289, 290, 291, 292, 293, 294, 295, 296, 297, 298] (by decide +kernel) (by decide +kernel)) (goodIn_sub (fun _ h => List.mem_cons_of_mem _ (List.mem_append_right _ h)) (by decide +kernel))
set_option maxRecDepth 20000 in
theorem gX11_performCommands_X11_refusalOf : GoodIn wsX11_performCommands (wsV RX11 414 RX11 yX11_refusalOf wsX11_refusalOf) := goodIn_app (goodIn_of _ (by decide +kernel)) ggX11_performCommands_X11_refusalOf
set_option maxRecDepth 20000 in
theorem ggX11_performCommands_X11_perform : GoodIn wsX11_performCommands wsX11_perform := goodIn_ca (goodIn_r _ [92, 12, 13, 14, 93, 94, 95, 96, 97, 16, 17, 18, 19, 20, 21, 22, 98, 99, 100, 46, 101, 48, 102, 103, 104, 105, 106, 107, 108, 109, 110, 111, 26, 112, 40, 86, 29, 87, 41, 42, 81, 88, 71, 30, 113, 114, 115, 116, 117, 118, 119, 120, 121, 122, 123, 124, 125, 126, 127, 128, 129, 130, 131, 132, 133, 134, 135, 136, 137, 138, 139, 140, 141, 142, 143, 144, 145, 146, 147, 148, 149, 150, 151, 152, 153, 154, 155, 156, 157, 158, 159, 160, 161, 162, 163, 164, 165, 166, 167, 168, 169, 170, 171, 172, 173, 174, 175, 176, 177, 178, 179, 180, 181, 182, 183, 184, 185, 186, 187, 188, 189, 190, 191, 192, 193, 194, 195, 196, 197, 198, 199, 200, 201, 202, 203, 204, 205, 206, 207, 208, 209, 210, 211, 212, 213, 214, 215, 216, 217, 218, 219, 220, 221, 222, 223, 224, 225, 226, 44, 45, 47, 227, 228, 229, 230, 231, 232, 233, 234, 235, 236, 237, 238, 239, 240, 241, 242, 243, 244, 245, 246, 247, 248, 249, 250, 251, 252, 253, 254, 255, 256, 257, 258, 259, 260, 261, 262, 263, 264, 265, 266, 274, 275, 276, 277, 278, 279, 280, 281, 282, 283, 284, 285, 286, 287, 288, 289, 290, 291, 292, 293, 294, 295, 296, 297, 298, 299, 300, 301, 302] (by decide +kernel) (by decide +kernel)) (goodIn_sub (fun _ h => List.mem_cons_of_mem _ (List.mem_append_right _ h)) (by decide +kernel))
set_option maxRecDepth 20000 in
theorem gX11_performCommands_X11_perform : GoodIn wsX11_performCommands (wsV RX11 421 RX11 yX11_perform wsX11_perform) := goodIn_app (goodIn_of _ (by decide +kernel)) ggX11_performCommands_X11_perform
theorem dX11_performCommands_0 : decode cX11_performCommands 0 = .ok (.iconst 0, 1) := by decide +kernel
theorem dX11_performCommands_1 : decode cX11_performCommands 1 = .ok (.istore_n 1, 1) := by decide +kernel
theorem dX11_performCommands_2 : decode cX11_performCommands 2 = .ok (.iload_n 1, 1) := by decide +kernel
theorem dX11_performCommands_3 : decode cX11_performCommands 3 = .ok (.aload_n 0, 1) := by decide +kernel
theorem dX11_performCommands_4 : decode cX11_performCommands 4 = .ok (.getfield 57, 3) := by decide +kernel
theorem dX11_performCommands_7 : decode cX11_performCommands 7 = .ok (.getfield 354, 3) := by decide +kernel
theorem dX11_performCommands_10 : decode cX11_performCommands 10 = .ok (.if_icmp .ge 68, 3) := by decide +kernel
theorem dX11_performCommands_13 : decode cX11_performCommands 13 = .ok (.aload_n 0, 1) := by decide +kernel
theorem dX11_performCommands_14 : decode cX11_performCommands 14 = .ok (.getfield 57, 3) := by decide +kernel
theorem dX11_performCommands_17 : decode cX11_performCommands 17 = .ok (.getfield 404, 3) := by decide +kernel
theorem dX11_performCommands_20 : decode cX11_performCommands 20 = .ok (.iload_n 1, 1) := by decide +kernel
theorem dX11_performCommands_21 : decode cX11_performCommands 21 = .ok (.aaload, 1) := by decide +kernel
theorem dX11_performCommands_22 : decode cX11_performCommands 22 = .ok (.astore_n 2, 1) := by decide +kernel
theorem dX11_performCommands_23 : decode cX11_performCommands 23 = .ok (.aload_n 0, 1) := by decide +kernel
theorem dX11_performCommands_24 : decode cX11_performCommands 24 = .ok (.getfield 57, 3) := by decide +kernel
theorem dX11_performCommands_27 : decode cX11_performCommands 27 = .ok (.getfield 408, 3) := by decide +kernel
theorem dX11_performCommands_30 : decode cX11_performCommands 30 = .ok (.iload_n 1, 1) := by decide +kernel
theorem dX11_performCommands_31 : decode cX11_performCommands 31 = .ok (.iaload, 1) := by decide +kernel
theorem dX11_performCommands_32 : decode cX11_performCommands 32 = .ok (.istore_n 3, 1) := by decide +kernel
theorem dX11_performCommands_33 : decode cX11_performCommands 33 = .ok (.aload_n 0, 1) := by decide +kernel
theorem dX11_performCommands_34 : decode cX11_performCommands 34 = .ok (.getfield 57, 3) := by decide +kernel
theorem dX11_performCommands_37 : decode cX11_performCommands 37 = .ok (.getfield 411, 3) := by decide +kernel
theorem dX11_performCommands_40 : decode cX11_performCommands 40 = .ok (.iload_n 1, 1) := by decide +kernel
theorem dX11_performCommands_41 : decode cX11_performCommands 41 = .ok (.iaload, 1) := by decide +kernel
theorem dX11_performCommands_42 : decode cX11_performCommands 42 = .ok (.istore 4, 2) := by decide +kernel
theorem dX11_performCommands_44 : decode cX11_performCommands 44 = .ok (.aload_n 2, 1) := by decide +kernel
theorem dX11_performCommands_45 : decode cX11_performCommands 45 = .ok (.ifnull 17, 3) := by decide +kernel
theorem dX11_performCommands_48 : decode cX11_performCommands 48 = .ok (.aload_n 0, 1) := by decide +kernel
theorem dX11_performCommands_49 : decode cX11_performCommands 49 = .ok (.aload_n 2, 1) := by decide +kernel
theorem dX11_performCommands_50 : decode cX11_performCommands 50 = .ok (.iload_n 3, 1) := by decide +kernel
theorem dX11_performCommands_51 : decode cX11_performCommands 51 = .ok (.iload 4, 2) := by decide +kernel
theorem dX11_performCommands_53 : decode cX11_performCommands 53 = .ok (.invokevirtual 414, 3) := by decide +kernel
theorem dX11_performCommands_56 : decode cX11_performCommands 56 = .ok (.getstatic 418, 3) := by decide +kernel
theorem dX11_performCommands_59 : decode cX11_performCommands 59 = .ok (.if_acmp .eq 5, 3) := by decide +kernel
theorem dX11_performCommands_62 : decode cX11_performCommands 62 = .ok (.iload_n 1, 1) := by decide +kernel
theorem dX11_performCommands_63 : decode cX11_performCommands 63 = .ok (.ireturn, 1) := by decide +kernel
theorem dX11_performCommands_64 : decode cX11_performCommands 64 = .ok (.aload_n 0, 1) := by decide +kernel
theorem dX11_performCommands_65 : decode cX11_performCommands 65 = .ok (.aload_n 2, 1) := by decide +kernel
theorem dX11_performCommands_66 : decode cX11_performCommands 66 = .ok (.iload_n 3, 1) := by decide +kernel
theorem dX11_performCommands_67 : decode cX11_performCommands 67 = .ok (.iload 4, 2) := by decide +kernel
theorem dX11_performCommands_69 : decode cX11_performCommands 69 = .ok (.invokevirtual 421, 3) := by decide +kernel
theorem dX11_performCommands_72 : decode cX11_performCommands 72 = .ok (.iinc 1 1, 3) := by decide +kernel
theorem dX11_performCommands_75 : decode cX11_performCommands 75 = .ok (.goto (-73), 3) := by decide +kernel
theorem dX11_performCommands_78 : decode cX11_performCommands 78 = .ok (.aload_n 0, 1) := by decide +kernel
theorem dX11_performCommands_79 : decode cX11_performCommands 79 = .ok (.getfield 57, 3) := by decide +kernel
theorem dX11_performCommands_82 : decode cX11_performCommands 82 = .ok (.getfield 354, 3) := by decide +kernel
theorem dX11_performCommands_85 : decode cX11_performCommands 85 = .ok (.ireturn, 1) := by decide +kernel
set_option maxRecDepth 20000 in
theorem ggX11_refusalOf_Jx29ce0_ordinal_8abf5 : GoodIn wsX11_refusalOf wsJx29ce0_ordinal_8abf5 := goodIn_r _ [11, 12] (by decide +kernel) (by decide +kernel)
set_option maxRecDepth 20000 in
theorem gX11_refusalOf_Jx29ce0_ordinal_8abf5_u430X10 : GoodIn wsX11_refusalOf (va_wsU RX11 430 RX10 "java/lang/Enum" ⟨"LampCooperative$Verb", "ordinal", "()I"⟩ yJx29ce0_ordinal_8abf5 wsJx29ce0_ordinal_8abf5) := goodIn_app (goodIn_of _ (by decide +kernel)) ggX11_refusalOf_Jx29ce0_ordinal_8abf5
set_option maxRecDepth 20000 in
theorem ggX11_refusalOf_X9_refusalToAddLamp : GoodIn wsX11_refusalOf wsX9_refusalToAddLamp := goodIn_r _ [17, 18, 19, 20, 21, 22, 23, 24, 25, 93, 94, 95, 96, 97, 98, 99, 100, 101, 102, 103] (by decide +kernel) (by decide +kernel)
set_option maxRecDepth 20000 in
theorem gX11_refusalOf_X9_refusalToAddLamp : GoodIn wsX11_refusalOf (wsV RX11 75 RX9 yX9_refusalToAddLamp wsX9_refusalToAddLamp) := goodIn_app (goodIn_of _ (by decide +kernel)) ggX11_refusalOf_X9_refusalToAddLamp
set_option maxRecDepth 20000 in
theorem ggX11_refusalOf_X9_refusalToDropLamp : GoodIn wsX11_refusalOf wsX9_refusalToDropLamp := goodIn_ca (goodIn_r _ [29, 19, 30, 31, 32, 33, 21, 22, 34, 35, 36, 37, 38, 39, 93, 94, 95, 104, 105, 106, 107, 108, 109, 110, 111, 112, 113, 96, 97, 98, 99, 100, 101, 102, 103] (by decide +kernel) (by decide +kernel)) (goodIn_sub (fun _ h => List.mem_cons_of_mem _ (List.mem_append_right _ h)) (by decide +kernel))
set_option maxRecDepth 20000 in
theorem gX11_refusalOf_X9_refusalToDropLamp : GoodIn wsX11_refusalOf (wsV RX11 97 RX9 yX9_refusalToDropLamp wsX9_refusalToDropLamp) := goodIn_app (goodIn_of _ (by decide +kernel)) ggX11_refusalOf_X9_refusalToDropLamp
set_option maxRecDepth 20000 in
theorem ggX11_refusalOf_X9_refusalToDeliver : GoodIn wsX11_refusalOf wsX9_refusalToDeliver := goodIn_r _ [43, 18, 19, 20, 21, 22, 23, 24, 25, 93, 94, 95, 96, 97, 98, 99, 100, 101, 102, 103] (by decide +kernel) (by decide +kernel)
set_option maxRecDepth 20000 in
theorem gX11_refusalOf_X9_refusalToDeliver : GoodIn wsX11_refusalOf (wsV RX11 138 RX9 yX9_refusalToDeliver wsX9_refusalToDeliver) := goodIn_app (goodIn_of _ (by decide +kernel)) ggX11_refusalOf_X9_refusalToDeliver
set_option maxRecDepth 20000 in
theorem ggX11_refusalOf_X9_refusalToDonate : GoodIn wsX11_refusalOf wsX9_refusalToDonate := goodIn_r _ [47, 18, 31, 32, 21, 22, 23, 24, 25, 93, 94, 95, 104, 105, 106, 107, 108, 109, 110, 111, 112, 113] (by decide +kernel) (by decide +kernel)
set_option maxRecDepth 20000 in
theorem gX11_refusalOf_X9_refusalToDonate : GoodIn wsX11_refusalOf (wsV RX11 151 RX9 yX9_refusalToDonate wsX9_refusalToDonate) := goodIn_app (goodIn_of _ (by decide +kernel)) ggX11_refusalOf_X9_refusalToDonate
set_option maxRecDepth 20000 in
theorem ggX11_refusalOf_X9_refusalToGive : GoodIn wsX11_refusalOf wsX9_refusalToGive := goodIn_ca (goodIn_r _ [51, 22, 31, 32, 19, 33, 21, 52, 53, 54, 16, 55, 30, 18, 34, 35, 36, 37, 38, 39, 23, 24, 25, 93, 94, 95, 104, 105, 106, 107, 108, 109, 110, 111, 112, 113, 96, 97, 98, 99, 100, 101, 102, 103] (by decide +kernel) (by decide +kernel)) (goodIn_sub (fun _ h => List.mem_cons_of_mem _ (List.mem_append_right _ h)) (by decide +kernel))
set_option maxRecDepth 20000 in
theorem gX11_refusalOf_X9_refusalToGive : GoodIn wsX11_refusalOf (wsV RX11 157 RX9 yX9_refusalToGive wsX9_refusalToGive) := goodIn_app (goodIn_of _ (by decide +kernel)) ggX11_refusalOf_X9_refusalToGive
set_option maxRecDepth 20000 in
theorem ggX11_refusalOf_X9_refusalOnLamp : GoodIn wsX11_refusalOf wsX9_refusalOnLamp := goodIn_r _ [55, 19, 30, 22, 18, 34, 35, 36, 37, 38, 39, 23, 24, 25, 93, 94, 95, 96, 97, 98, 99, 100, 101, 102, 103] (by decide +kernel) (by decide +kernel)
set_option maxRecDepth 20000 in
theorem gX11_refusalOf_X9_refusalOnLamp : GoodIn wsX11_refusalOf (wsV RX11 105 RX9 yX9_refusalOnLamp wsX9_refusalOnLamp) := goodIn_app (goodIn_of _ (by decide +kernel)) ggX11_refusalOf_X9_refusalOnLamp
set_option maxRecDepth 20000 in
theorem ggX11_refusalOf_X5_has : GoodIn wsX11_refusalOf wsX5_has := goodIn_r _ [38, 39, 96, 97, 98, 99, 100, 101, 102, 103] (by decide +kernel) (by decide +kernel)
set_option maxRecDepth 20000 in
theorem gX11_refusalOf_X5_has : GoodIn wsX11_refusalOf (wsV RX11 391 RX5 yX5_has wsX5_has) := goodIn_app (goodIn_of _ (by decide +kernel)) ggX11_refusalOf_X5_has
set_option maxRecDepth 20000 in
theorem ggX11_refusalOf_X9_refusalToAddMoth : GoodIn wsX11_refusalOf wsX9_refusalToAddMoth := goodIn_r _ [61, 19, 30, 62, 63, 21, 22, 34, 35, 36, 37, 38, 39, 93, 94, 95, 114, 115, 116, 117, 96, 97, 98, 99, 100, 101, 102, 103] (by decide +kernel) (by decide +kernel)
set_option maxRecDepth 20000 in
theorem gX11_refusalOf_X9_refusalToAddMoth : GoodIn wsX11_refusalOf (wsV RX11 202 RX9 yX9_refusalToAddMoth wsX9_refusalToAddMoth) := goodIn_app (goodIn_of _ (by decide +kernel)) ggX11_refusalOf_X9_refusalToAddMoth
set_option maxRecDepth 20000 in
theorem ggX11_refusalOf_X9_refusalToPropose : GoodIn wsX11_refusalOf wsX9_refusalToPropose := goodIn_r _ [67, 18, 19, 20, 21, 22, 23, 24, 25, 93, 94, 95, 96, 97, 98, 99, 100, 101, 102, 103] (by decide +kernel) (by decide +kernel)
set_option maxRecDepth 20000 in
theorem gX11_refusalOf_X9_refusalToPropose : GoodIn wsX11_refusalOf (wsV RX11 252 RX9 yX9_refusalToPropose wsX9_refusalToPropose) := goodIn_app (goodIn_of _ (by decide +kernel)) ggX11_refusalOf_X9_refusalToPropose
set_option maxRecDepth 20000 in
theorem ggX11_refusalOf_X9_refusalToPay : GoodIn wsX11_refusalOf wsX9_refusalToPay := goodIn_r _ [71, 19, 20, 31, 72, 21, 22, 93, 94, 95, 96, 97, 98, 99, 100, 101, 102, 103, 104, 105, 106, 107, 108, 109, 110, 111, 112, 113] (by decide +kernel) (by decide +kernel)
set_option maxRecDepth 20000 in
theorem gX11_refusalOf_X9_refusalToPay : GoodIn wsX11_refusalOf (wsV RX11 166 RX9 yX9_refusalToPay wsX9_refusalToPay) := goodIn_app (goodIn_of _ (by decide +kernel)) ggX11_refusalOf_X9_refusalToPay
set_option maxRecDepth 20000 in
theorem ggX11_refusalOf_X9_refusalToBuy : GoodIn wsX11_refusalOf wsX9_refusalToBuy := goodIn_ca (goodIn_r _ [76, 22, 31, 77, 19, 78, 79, 21, 52, 53, 54, 16, 55, 30, 18, 34, 35, 36, 37, 38, 39, 23, 24, 25, 93, 94, 95, 104, 105, 106, 107, 108, 109, 110, 111, 112, 113, 96, 97, 98, 99, 100, 101, 102, 103] (by decide +kernel) (by decide +kernel)) (goodIn_sub (fun _ h => List.mem_cons_of_mem _ (List.mem_append_right _ h)) (by decide +kernel))
set_option maxRecDepth 20000 in
theorem gX11_refusalOf_X9_refusalToBuy : GoodIn wsX11_refusalOf (wsV RX11 145 RX9 yX9_refusalToBuy wsX9_refusalToBuy) := goodIn_app (goodIn_of _ (by decide +kernel)) ggX11_refusalOf_X9_refusalToBuy
theorem dX11_refusalOf_0 : decode cX11_refusalOf 0 = .ok (.getstatic 425, 3) := by decide +kernel
theorem dX11_refusalOf_3 : decode cX11_refusalOf 3 = .ok (.aload_n 1, 1) := by decide +kernel
theorem dX11_refusalOf_4 : decode cX11_refusalOf 4 = .ok (.invokevirtual 430, 3) := by decide +kernel
theorem dX11_refusalOf_7 : decode cX11_refusalOf 7 = .ok (.iaload, 1) := by decide +kernel
theorem dX11_refusalOf_8 : decode cX11_refusalOf 8 = .ok (.tableswitch 182 1 12 #[64, 74, 83, 92, 101, 111, 122, 122, 146, 155, 164, 172], 64) := by decide +kernel
theorem dX11_refusalOf_72 : decode cX11_refusalOf 72 = .ok (.aload_n 0, 1) := by decide +kernel
theorem dX11_refusalOf_73 : decode cX11_refusalOf 73 = .ok (.getfield 10, 3) := by decide +kernel
theorem dX11_refusalOf_76 : decode cX11_refusalOf 76 = .ok (.iload_n 2, 1) := by decide +kernel
theorem dX11_refusalOf_77 : decode cX11_refusalOf 77 = .ok (.iload_n 3, 1) := by decide +kernel
theorem dX11_refusalOf_78 : decode cX11_refusalOf 78 = .ok (.invokevirtual 75, 3) := by decide +kernel
theorem dX11_refusalOf_81 : decode cX11_refusalOf 81 = .ok (.areturn, 1) := by decide +kernel
theorem dX11_refusalOf_82 : decode cX11_refusalOf 82 = .ok (.aload_n 0, 1) := by decide +kernel
theorem dX11_refusalOf_83 : decode cX11_refusalOf 83 = .ok (.getfield 10, 3) := by decide +kernel
theorem dX11_refusalOf_86 : decode cX11_refusalOf 86 = .ok (.iload_n 2, 1) := by decide +kernel
theorem dX11_refusalOf_87 : decode cX11_refusalOf 87 = .ok (.invokevirtual 97, 3) := by decide +kernel
theorem dX11_refusalOf_90 : decode cX11_refusalOf 90 = .ok (.areturn, 1) := by decide +kernel
theorem dX11_refusalOf_91 : decode cX11_refusalOf 91 = .ok (.aload_n 0, 1) := by decide +kernel
theorem dX11_refusalOf_92 : decode cX11_refusalOf 92 = .ok (.getfield 10, 3) := by decide +kernel
theorem dX11_refusalOf_95 : decode cX11_refusalOf 95 = .ok (.iload_n 2, 1) := by decide +kernel
theorem dX11_refusalOf_96 : decode cX11_refusalOf 96 = .ok (.invokevirtual 138, 3) := by decide +kernel
theorem dX11_refusalOf_99 : decode cX11_refusalOf 99 = .ok (.areturn, 1) := by decide +kernel
theorem dX11_refusalOf_100 : decode cX11_refusalOf 100 = .ok (.aload_n 0, 1) := by decide +kernel
theorem dX11_refusalOf_101 : decode cX11_refusalOf 101 = .ok (.getfield 10, 3) := by decide +kernel
theorem dX11_refusalOf_104 : decode cX11_refusalOf 104 = .ok (.iload_n 2, 1) := by decide +kernel
theorem dX11_refusalOf_105 : decode cX11_refusalOf 105 = .ok (.invokevirtual 151, 3) := by decide +kernel
theorem dX11_refusalOf_108 : decode cX11_refusalOf 108 = .ok (.areturn, 1) := by decide +kernel
theorem dX11_refusalOf_109 : decode cX11_refusalOf 109 = .ok (.aload_n 0, 1) := by decide +kernel
theorem dX11_refusalOf_110 : decode cX11_refusalOf 110 = .ok (.getfield 10, 3) := by decide +kernel
theorem dX11_refusalOf_113 : decode cX11_refusalOf 113 = .ok (.iload_n 2, 1) := by decide +kernel
theorem dX11_refusalOf_114 : decode cX11_refusalOf 114 = .ok (.iload_n 3, 1) := by decide +kernel
theorem dX11_refusalOf_115 : decode cX11_refusalOf 115 = .ok (.invokevirtual 157, 3) := by decide +kernel
theorem dX11_refusalOf_118 : decode cX11_refusalOf 118 = .ok (.areturn, 1) := by decide +kernel
theorem dX11_refusalOf_119 : decode cX11_refusalOf 119 = .ok (.aload_n 0, 1) := by decide +kernel
theorem dX11_refusalOf_120 : decode cX11_refusalOf 120 = .ok (.getfield 10, 3) := by decide +kernel
theorem dX11_refusalOf_123 : decode cX11_refusalOf 123 = .ok (.iload_n 2, 1) := by decide +kernel
theorem dX11_refusalOf_124 : decode cX11_refusalOf 124 = .ok (.iload_n 3, 1) := by decide +kernel
theorem dX11_refusalOf_125 : decode cX11_refusalOf 125 = .ok (.iconst 5, 1) := by decide +kernel
theorem dX11_refusalOf_126 : decode cX11_refusalOf 126 = .ok (.invokevirtual 105, 3) := by decide +kernel
theorem dX11_refusalOf_129 : decode cX11_refusalOf 129 = .ok (.areturn, 1) := by decide +kernel
theorem dX11_refusalOf_130 : decode cX11_refusalOf 130 = .ok (.aload_n 0, 1) := by decide +kernel
theorem dX11_refusalOf_131 : decode cX11_refusalOf 131 = .ok (.getfield 10, 3) := by decide +kernel
theorem dX11_refusalOf_134 : decode cX11_refusalOf 134 = .ok (.getfield 87, 3) := by decide +kernel
theorem dX11_refusalOf_137 : decode cX11_refusalOf 137 = .ok (.iload_n 2, 1) := by decide +kernel
theorem dX11_refusalOf_138 : decode cX11_refusalOf 138 = .ok (.invokevirtual 391, 3) := by decide +kernel
theorem dX11_refusalOf_141 : decode cX11_refusalOf 141 = .ok (.ifCond .eq 9, 3) := by decide +kernel
theorem dX11_refusalOf_144 : decode cX11_refusalOf 144 = .ok (.getstatic 418, 3) := by decide +kernel
theorem dX11_refusalOf_147 : decode cX11_refusalOf 147 = .ok (.goto 6, 3) := by decide +kernel
theorem dX11_refusalOf_150 : decode cX11_refusalOf 150 = .ok (.getstatic 373, 3) := by decide +kernel
theorem dX11_refusalOf_153 : decode cX11_refusalOf 153 = .ok (.areturn, 1) := by decide +kernel
theorem dX11_refusalOf_154 : decode cX11_refusalOf 154 = .ok (.aload_n 0, 1) := by decide +kernel
theorem dX11_refusalOf_155 : decode cX11_refusalOf 155 = .ok (.getfield 10, 3) := by decide +kernel
theorem dX11_refusalOf_158 : decode cX11_refusalOf 158 = .ok (.iload_n 2, 1) := by decide +kernel
theorem dX11_refusalOf_159 : decode cX11_refusalOf 159 = .ok (.invokevirtual 202, 3) := by decide +kernel
theorem dX11_refusalOf_162 : decode cX11_refusalOf 162 = .ok (.areturn, 1) := by decide +kernel
theorem dX11_refusalOf_163 : decode cX11_refusalOf 163 = .ok (.aload_n 0, 1) := by decide +kernel
theorem dX11_refusalOf_164 : decode cX11_refusalOf 164 = .ok (.getfield 10, 3) := by decide +kernel
theorem dX11_refusalOf_167 : decode cX11_refusalOf 167 = .ok (.iload_n 2, 1) := by decide +kernel
theorem dX11_refusalOf_168 : decode cX11_refusalOf 168 = .ok (.invokevirtual 252, 3) := by decide +kernel
theorem dX11_refusalOf_171 : decode cX11_refusalOf 171 = .ok (.areturn, 1) := by decide +kernel
theorem dX11_refusalOf_172 : decode cX11_refusalOf 172 = .ok (.aload_n 0, 1) := by decide +kernel
theorem dX11_refusalOf_173 : decode cX11_refusalOf 173 = .ok (.getfield 10, 3) := by decide +kernel
theorem dX11_refusalOf_176 : decode cX11_refusalOf 176 = .ok (.invokevirtual 166, 3) := by decide +kernel
theorem dX11_refusalOf_179 : decode cX11_refusalOf 179 = .ok (.areturn, 1) := by decide +kernel
theorem dX11_refusalOf_180 : decode cX11_refusalOf 180 = .ok (.aload_n 0, 1) := by decide +kernel
theorem dX11_refusalOf_181 : decode cX11_refusalOf 181 = .ok (.getfield 10, 3) := by decide +kernel
theorem dX11_refusalOf_184 : decode cX11_refusalOf 184 = .ok (.iload_n 2, 1) := by decide +kernel
theorem dX11_refusalOf_185 : decode cX11_refusalOf 185 = .ok (.iload_n 3, 1) := by decide +kernel
theorem dX11_refusalOf_186 : decode cX11_refusalOf 186 = .ok (.invokevirtual 145, 3) := by decide +kernel
theorem dX11_refusalOf_189 : decode cX11_refusalOf 189 = .ok (.areturn, 1) := by decide +kernel
theorem dX11_refusalOf_190 : decode cX11_refusalOf 190 = .ok (.getstatic 418, 3) := by decide +kernel
theorem dX11_refusalOf_193 : decode cX11_refusalOf 193 = .ok (.areturn, 1) := by decide +kernel
set_option maxRecDepth 20000 in
theorem ggX11_perform_Jx29ce0_ordinal_8abf5 : GoodIn wsX11_perform wsJx29ce0_ordinal_8abf5 := goodIn_r _ [14, 15] (by decide +kernel) (by decide +kernel)
set_option maxRecDepth 20000 in
theorem gX11_perform_Jx29ce0_ordinal_8abf5_u430X10 : GoodIn wsX11_perform (va_wsU RX11 430 RX10 "java/lang/Enum" ⟨"LampCooperative$Verb", "ordinal", "()I"⟩ yJx29ce0_ordinal_8abf5 wsJx29ce0_ordinal_8abf5) := goodIn_app (goodIn_of _ (by decide +kernel)) ggX11_perform_Jx29ce0_ordinal_8abf5
set_option maxRecDepth 20000 in
theorem ggX11_perform_X5_append : GoodIn wsX11_perform wsX5_append := goodIn_ca (goodIn_r _ [20, 21, 22, 23, 24, 25, 26, 27, 28, 204, 205, 206, 207, 208, 209, 210, 211] (by decide +kernel) (by decide +kernel)) (goodIn_sub (fun _ h => List.mem_cons_of_mem _ (List.mem_append_right _ h)) (by decide +kernel))
set_option maxRecDepth 20000 in
theorem gX11_perform_X5_append : GoodIn wsX11_perform (wsV RX11 91 RX5 yX5_append wsX5_append) := goodIn_app (goodIn_of _ (by decide +kernel)) ggX11_perform_X5_append
set_option maxRecDepth 20000 in
theorem ggX11_perform_X9_dropLamp : GoodIn wsX11_perform wsX9_dropLamp := goodIn_ca (goodIn_r _ [33, 34, 35, 36, 37, 38, 39, 40, 41, 42, 43, 44, 45, 46, 19, 47, 21, 22, 48, 49, 50, 51, 23, 24, 25, 26, 27, 28, 52, 53, 54, 55, 56, 57, 58, 201, 202, 203, 212, 213, 214, 215, 216, 217, 218, 219, 220, 221, 204, 205, 206, 207, 208, 209, 210, 211, 222, 223, 224, 225] (by decide +kernel) (by decide +kernel)) (goodIn_sub (fun _ h => List.mem_cons_of_mem _ (List.mem_append_right _ h)) (by decide +kernel))
set_option maxRecDepth 20000 in
theorem gX11_perform_X9_dropLamp : GoodIn wsX11_perform (wsV RX11 101 RX9 yX9_dropLamp wsX9_dropLamp) := goodIn_app (goodIn_of _ (by decide +kernel)) ggX11_perform_X9_dropLamp
set_option maxRecDepth 20000 in
theorem ggX11_perform_X9_pourOil : GoodIn wsX11_perform wsX9_pourOil := goodIn_ca (goodIn_r _ [62, 36, 43, 63, 37, 64, 65, 66, 67, 34, 35, 68, 69, 70, 71, 72, 73, 74, 75, 76, 77, 78, 79, 80, 81, 82, 83, 84, 85, 19, 86, 21, 87, 88, 89, 90, 201, 202, 203, 204, 205, 206, 207, 208, 209, 210, 211, 226, 227, 228, 212, 213, 214, 215, 216, 217, 218, 219, 220, 221] (by decide +kernel) (by decide +kernel)) (goodIn_sub (fun _ h => List.mem_cons_of_mem _ (List.mem_append_right _ h)) (by decide +kernel))
set_option maxRecDepth 20000 in
theorem gX11_perform_X9_pourOil : GoodIn wsX11_perform (wsV RX11 141 RX9 yX9_pourOil wsX9_pourOil) := goodIn_app (goodIn_of _ (by decide +kernel)) ggX11_perform_X9_pourOil
set_option maxRecDepth 20000 in
theorem ggX11_perform_X9_takeDonation : GoodIn wsX11_perform wsX9_takeDonation := goodIn_r _ [94, 34, 38, 95, 201, 202, 203, 212, 213, 214, 215, 216, 217, 218, 219, 220, 221] (by decide +kernel) (by decide +kernel)
set_option maxRecDepth 20000 in
theorem gX11_perform_X9_takeDonation : GoodIn wsX11_perform (wsV RX11 154 RX9 yX9_takeDonation wsX9_takeDonation) := goodIn_app (goodIn_of _ (by decide +kernel)) ggX11_perform_X9_takeDonation
set_option maxRecDepth 20000 in
theorem ggX11_perform_X9_moveWickToLamp : GoodIn wsX11_perform wsX9_moveWickToLamp := goodIn_ca (goodIn_r _ [99, 34, 38, 36, 39, 201, 202, 203, 212, 213, 214, 215, 216, 217, 218, 219, 220, 221, 204, 205, 206, 207, 208, 209, 210, 211] (by decide +kernel) (by decide +kernel)) (goodIn_sub (fun _ h => List.mem_cons_of_mem _ (List.mem_append_right _ h)) (by decide +kernel))
set_option maxRecDepth 20000 in
theorem gX11_perform_X9_moveWickToLamp : GoodIn wsX11_perform (wsV RX11 160 RX9 yX9_moveWickToLamp wsX9_moveWickToLamp) := goodIn_app (goodIn_of _ (by decide +kernel)) ggX11_perform_X9_moveWickToLamp
set_option maxRecDepth 20000 in
theorem ggX11_perform_X6_append : GoodIn wsX11_perform wsX6_append := goodIn_ca (goodIn_r _ [103, 57, 58, 104, 105, 222, 223, 224, 225] (by decide +kernel) (by decide +kernel)) (goodIn_sub (fun _ h => List.mem_cons_of_mem _ (List.mem_append_right _ h)) (by decide +kernel))
set_option maxRecDepth 20000 in
theorem gX11_perform_X6_append : GoodIn wsX11_perform (wsV RX11 209 RX6 yX6_append wsX6_append) := goodIn_app (goodIn_of _ (by decide +kernel)) ggX11_perform_X6_append
set_option maxRecDepth 20000 in
theorem ggX11_perform_X5_voteOnCap : GoodIn wsX11_perform wsX5_voteOnCap := goodIn_ca (goodIn_r _ [109, 21, 24, 110, 65, 66, 67, 111, 112, 113, 19, 114, 115, 116, 117, 118, 23, 119, 120, 121, 122, 123, 84, 85, 86, 204, 205, 206, 207, 208, 209, 210, 211] (by decide +kernel) (by decide +kernel)) (goodIn_sub (fun _ h => List.mem_cons_of_mem _ (List.mem_append_right _ h)) (by decide +kernel))
set_option maxRecDepth 20000 in
theorem gX11_perform_X5_voteOnCap : GoodIn wsX11_perform (wsV RX11 255 RX5 yX5_voteOnCap wsX5_voteOnCap) := goodIn_app (goodIn_of _ (by decide +kernel)) ggX11_perform_X5_voteOnCap
set_option maxRecDepth 20000 in
theorem ggX11_perform_X7_pass : GoodIn wsX11_perform wsX7_pass := goodIn_ca (goodIn_r _ [128, 129, 130, 131, 132, 133, 134, 135, 127, 136, 137, 138, 139, 140, 141, 142, 143, 144, 145, 146, 19, 147, 25, 26, 24, 27, 148, 149, 150, 151, 152, 153, 154, 155, 156, 157, 158, 159, 160, 21, 161, 162, 163, 55, 164, 105, 165, 166, 167, 168, 57, 104, 58, 169, 170, 171, 172, 173, 174, 175, 176, 177, 178, 179, 201, 202, 203, 212, 213, 214, 215, 216, 217, 218, 219, 220, 221, 204, 205, 206, 207, 208, 209, 210, 211, 229, 222, 223, 224, 225] (by decide +kernel) (by decide +kernel)) (goodIn_sub (fun _ h => List.mem_cons_of_mem _ (List.mem_append_right _ h)) (by decide +kernel))
set_option maxRecDepth 20000 in
theorem gX11_perform_X7_pass : GoodIn wsX11_perform (wsV RX11 230 RX7 yX7_pass wsX7_pass) := goodIn_app (goodIn_of _ (by decide +kernel)) ggX11_perform_X7_pass
set_option maxRecDepth 20000 in
theorem ggX11_perform_X9_shareTreasury : GoodIn wsX11_perform wsX9_shareTreasury := goodIn_ca (goodIn_r _ [183, 34, 40, 36, 43, 41, 63, 69, 70, 71, 72, 73, 74, 75, 76, 77, 78, 79, 80, 81, 82, 83, 84, 85, 19, 86, 21, 87, 88, 89, 90, 201, 202, 203, 212, 213, 214, 215, 216, 217, 218, 219, 220, 221, 204, 205, 206, 207, 208, 209, 210, 211, 226, 227, 228] (by decide +kernel) (by decide +kernel)) (goodIn_sub (fun _ h => List.mem_cons_of_mem _ (List.mem_append_right _ h)) (by decide +kernel))
set_option maxRecDepth 20000 in
theorem gX11_perform_X9_shareTreasury : GoodIn wsX11_perform (wsV RX11 170 RX9 yX9_shareTreasury wsX9_shareTreasury) := goodIn_app (goodIn_of _ (by decide +kernel)) ggX11_perform_X9_shareTreasury
set_option maxRecDepth 20000 in
theorem ggX11_perform_X9_sellOil : GoodIn wsX11_perform wsX9_sellOil := goodIn_ca (goodIn_r _ [187, 34, 35, 36, 37, 41, 40, 201, 202, 203, 212, 213, 214, 215, 216, 217, 218, 219, 220, 221, 204, 205, 206, 207, 208, 209, 210, 211] (by decide +kernel) (by decide +kernel)) (goodIn_sub (fun _ h => List.mem_cons_of_mem _ (List.mem_append_right _ h)) (by decide +kernel))
set_option maxRecDepth 20000 in
theorem gX11_perform_X9_sellOil : GoodIn wsX11_perform (wsV RX11 148 RX9 yX9_sellOil wsX9_sellOil) := goodIn_app (goodIn_of _ (by decide +kernel)) ggX11_perform_X9_sellOil
theorem dX11_perform_0 : decode cX11_perform 0 = .ok (.getstatic 425, 3) := by decide +kernel
theorem dX11_perform_3 : decode cX11_perform 3 = .ok (.aload_n 1, 1) := by decide +kernel
theorem dX11_perform_4 : decode cX11_perform 4 = .ok (.invokevirtual 430, 3) := by decide +kernel
theorem dX11_perform_7 : decode cX11_perform 7 = .ok (.iaload, 1) := by decide +kernel
theorem dX11_perform_8 : decode cX11_perform 8 = .ok (.tableswitch 258 1 13 #[68, 84, 96, 112, 124, 137, 153, 169, 185, 200, 230, 245, 215], 68) := by decide +kernel
theorem dX11_perform_76 : decode cX11_perform 76 = .ok (.aload_n 0, 1) := by decide +kernel
theorem dX11_perform_77 : decode cX11_perform 77 = .ok (.getfield 10, 3) := by decide +kernel
theorem dX11_perform_80 : decode cX11_perform 80 = .ok (.getfield 87, 3) := by decide +kernel
theorem dX11_perform_83 : decode cX11_perform 83 = .ok (.iload_n 2, 1) := by decide +kernel
theorem dX11_perform_84 : decode cX11_perform 84 = .ok (.iload_n 3, 1) := by decide +kernel
theorem dX11_perform_85 : decode cX11_perform 85 = .ok (.invokevirtual 91, 3) := by decide +kernel
theorem dX11_perform_88 : decode cX11_perform 88 = .ok (.pop, 1) := by decide +kernel
theorem dX11_perform_89 : decode cX11_perform 89 = .ok (.goto 177, 3) := by decide +kernel
theorem dX11_perform_92 : decode cX11_perform 92 = .ok (.aload_n 0, 1) := by decide +kernel
theorem dX11_perform_93 : decode cX11_perform 93 = .ok (.getfield 10, 3) := by decide +kernel
theorem dX11_perform_96 : decode cX11_perform 96 = .ok (.iload_n 2, 1) := by decide +kernel
theorem dX11_perform_97 : decode cX11_perform 97 = .ok (.invokevirtual 101, 3) := by decide +kernel
theorem dX11_perform_100 : decode cX11_perform 100 = .ok (.pop, 1) := by decide +kernel
theorem dX11_perform_101 : decode cX11_perform 101 = .ok (.goto 165, 3) := by decide +kernel
theorem dX11_perform_104 : decode cX11_perform 104 = .ok (.aload_n 0, 1) := by decide +kernel
theorem dX11_perform_105 : decode cX11_perform 105 = .ok (.getfield 10, 3) := by decide +kernel
theorem dX11_perform_108 : decode cX11_perform 108 = .ok (.iload_n 2, 1) := by decide +kernel
theorem dX11_perform_109 : decode cX11_perform 109 = .ok (.aload_n 0, 1) := by decide +kernel
theorem dX11_perform_110 : decode cX11_perform 110 = .ok (.getfield 43, 3) := by decide +kernel
theorem dX11_perform_113 : decode cX11_perform 113 = .ok (.invokevirtual 141, 3) := by decide +kernel
theorem dX11_perform_116 : decode cX11_perform 116 = .ok (.pop, 1) := by decide +kernel
theorem dX11_perform_117 : decode cX11_perform 117 = .ok (.goto 149, 3) := by decide +kernel
theorem dX11_perform_120 : decode cX11_perform 120 = .ok (.aload_n 0, 1) := by decide +kernel
theorem dX11_perform_121 : decode cX11_perform 121 = .ok (.getfield 10, 3) := by decide +kernel
theorem dX11_perform_124 : decode cX11_perform 124 = .ok (.iload_n 2, 1) := by decide +kernel
theorem dX11_perform_125 : decode cX11_perform 125 = .ok (.invokevirtual 154, 3) := by decide +kernel
theorem dX11_perform_128 : decode cX11_perform 128 = .ok (.pop, 1) := by decide +kernel
theorem dX11_perform_129 : decode cX11_perform 129 = .ok (.goto 137, 3) := by decide +kernel
theorem dX11_perform_132 : decode cX11_perform 132 = .ok (.aload_n 0, 1) := by decide +kernel
theorem dX11_perform_133 : decode cX11_perform 133 = .ok (.getfield 10, 3) := by decide +kernel
theorem dX11_perform_136 : decode cX11_perform 136 = .ok (.iload_n 2, 1) := by decide +kernel
theorem dX11_perform_137 : decode cX11_perform 137 = .ok (.iload_n 3, 1) := by decide +kernel
theorem dX11_perform_138 : decode cX11_perform 138 = .ok (.invokevirtual 160, 3) := by decide +kernel
theorem dX11_perform_141 : decode cX11_perform 141 = .ok (.pop, 1) := by decide +kernel
theorem dX11_perform_142 : decode cX11_perform 142 = .ok (.goto 124, 3) := by decide +kernel
theorem dX11_perform_145 : decode cX11_perform 145 = .ok (.aload_n 0, 1) := by decide +kernel
theorem dX11_perform_146 : decode cX11_perform 146 = .ok (.getfield 10, 3) := by decide +kernel
theorem dX11_perform_149 : decode cX11_perform 149 = .ok (.getfield 87, 3) := by decide +kernel
theorem dX11_perform_152 : decode cX11_perform 152 = .ok (.getfield 112, 3) := by decide +kernel
theorem dX11_perform_155 : decode cX11_perform 155 = .ok (.iload_n 2, 1) := by decide +kernel
theorem dX11_perform_156 : decode cX11_perform 156 = .ok (.iload_n 3, 1) := by decide +kernel
theorem dX11_perform_157 : decode cX11_perform 157 = .ok (.iastore, 1) := by decide +kernel
theorem dX11_perform_158 : decode cX11_perform 158 = .ok (.goto 108, 3) := by decide +kernel
theorem dX11_perform_161 : decode cX11_perform 161 = .ok (.aload_n 0, 1) := by decide +kernel
theorem dX11_perform_162 : decode cX11_perform 162 = .ok (.getfield 10, 3) := by decide +kernel
theorem dX11_perform_165 : decode cX11_perform 165 = .ok (.getfield 87, 3) := by decide +kernel
theorem dX11_perform_168 : decode cX11_perform 168 = .ok (.getfield 119, 3) := by decide +kernel
theorem dX11_perform_171 : decode cX11_perform 171 = .ok (.iload_n 2, 1) := by decide +kernel
theorem dX11_perform_172 : decode cX11_perform 172 = .ok (.iconst 1, 1) := by decide +kernel
theorem dX11_perform_173 : decode cX11_perform 173 = .ok (.bastore, 1) := by decide +kernel
theorem dX11_perform_174 : decode cX11_perform 174 = .ok (.goto 92, 3) := by decide +kernel
theorem dX11_perform_177 : decode cX11_perform 177 = .ok (.aload_n 0, 1) := by decide +kernel
theorem dX11_perform_178 : decode cX11_perform 178 = .ok (.getfield 10, 3) := by decide +kernel
theorem dX11_perform_181 : decode cX11_perform 181 = .ok (.getfield 87, 3) := by decide +kernel
theorem dX11_perform_184 : decode cX11_perform 184 = .ok (.getfield 119, 3) := by decide +kernel
theorem dX11_perform_187 : decode cX11_perform 187 = .ok (.iload_n 2, 1) := by decide +kernel
theorem dX11_perform_188 : decode cX11_perform 188 = .ok (.iconst 0, 1) := by decide +kernel
theorem dX11_perform_189 : decode cX11_perform 189 = .ok (.bastore, 1) := by decide +kernel
theorem dX11_perform_190 : decode cX11_perform 190 = .ok (.goto 76, 3) := by decide +kernel
theorem dX11_perform_193 : decode cX11_perform 193 = .ok (.aload_n 0, 1) := by decide +kernel
theorem dX11_perform_194 : decode cX11_perform 194 = .ok (.getfield 10, 3) := by decide +kernel
theorem dX11_perform_197 : decode cX11_perform 197 = .ok (.getfield 205, 3) := by decide +kernel
theorem dX11_perform_200 : decode cX11_perform 200 = .ok (.iload_n 2, 1) := by decide +kernel
theorem dX11_perform_201 : decode cX11_perform 201 = .ok (.invokevirtual 209, 3) := by decide +kernel
theorem dX11_perform_204 : decode cX11_perform 204 = .ok (.pop, 1) := by decide +kernel
theorem dX11_perform_205 : decode cX11_perform 205 = .ok (.goto 61, 3) := by decide +kernel
theorem dX11_perform_208 : decode cX11_perform 208 = .ok (.aload_n 0, 1) := by decide +kernel
theorem dX11_perform_209 : decode cX11_perform 209 = .ok (.getfield 10, 3) := by decide +kernel
theorem dX11_perform_212 : decode cX11_perform 212 = .ok (.getfield 87, 3) := by decide +kernel
theorem dX11_perform_215 : decode cX11_perform 215 = .ok (.iload_n 2, 1) := by decide +kernel
theorem dX11_perform_216 : decode cX11_perform 216 = .ok (.invokevirtual 255, 3) := by decide +kernel
theorem dX11_perform_219 : decode cX11_perform 219 = .ok (.pop, 1) := by decide +kernel
theorem dX11_perform_220 : decode cX11_perform 220 = .ok (.goto 46, 3) := by decide +kernel
theorem dX11_perform_223 : decode cX11_perform 223 = .ok (.aload_n 0, 1) := by decide +kernel
theorem dX11_perform_224 : decode cX11_perform 224 = .ok (.getfield 36, 3) := by decide +kernel
theorem dX11_perform_227 : decode cX11_perform 227 = .ok (.aload_n 0, 1) := by decide +kernel
theorem dX11_perform_228 : decode cX11_perform 228 = .ok (.getfield 10, 3) := by decide +kernel
theorem dX11_perform_231 : decode cX11_perform 231 = .ok (.invokevirtual 230, 3) := by decide +kernel
theorem dX11_perform_234 : decode cX11_perform 234 = .ok (.pop, 1) := by decide +kernel
theorem dX11_perform_235 : decode cX11_perform 235 = .ok (.goto 31, 3) := by decide +kernel
theorem dX11_perform_238 : decode cX11_perform 238 = .ok (.aload_n 0, 1) := by decide +kernel
theorem dX11_perform_239 : decode cX11_perform 239 = .ok (.getfield 10, 3) := by decide +kernel
theorem dX11_perform_242 : decode cX11_perform 242 = .ok (.aload_n 0, 1) := by decide +kernel
theorem dX11_perform_243 : decode cX11_perform 243 = .ok (.getfield 43, 3) := by decide +kernel
theorem dX11_perform_246 : decode cX11_perform 246 = .ok (.invokevirtual 170, 3) := by decide +kernel
theorem dX11_perform_249 : decode cX11_perform 249 = .ok (.pop, 1) := by decide +kernel
theorem dX11_perform_250 : decode cX11_perform 250 = .ok (.goto 16, 3) := by decide +kernel
theorem dX11_perform_253 : decode cX11_perform 253 = .ok (.aload_n 0, 1) := by decide +kernel
theorem dX11_perform_254 : decode cX11_perform 254 = .ok (.getfield 10, 3) := by decide +kernel
theorem dX11_perform_257 : decode cX11_perform 257 = .ok (.iload_n 2, 1) := by decide +kernel
theorem dX11_perform_258 : decode cX11_perform 258 = .ok (.iload_n 3, 1) := by decide +kernel
theorem dX11_perform_259 : decode cX11_perform 259 = .ok (.invokevirtual 148, 3) := by decide +kernel
theorem dX11_perform_262 : decode cX11_perform 262 = .ok (.pop, 1) := by decide +kernel
theorem dX11_perform_263 : decode cX11_perform 263 = .ok (.goto 3, 3) := by decide +kernel
theorem dX11_perform_266 : decode cX11_perform 266 = .ok (.return_, 1) := by decide +kernel
