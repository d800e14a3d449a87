set_option maxRecDepth 20000 in
theorem wl_2 : GoodIn lw_tbl wsL_law0_r2 := goodIn_p wsL_law0_r2 [] (by decide +kernel) (by decide +kernel)
set_option maxRecDepth 20000 in
theorem wl_3 : GoodIn lw_tbl wsL_law0_r3 := goodIn_p wsL_law0_r3 [64, 70] (by decide +kernel) (by decide +kernel)
set_option maxRecDepth 20000 in
theorem wl_4 : GoodIn lw_tbl wsL_law0_r4 := goodIn_p wsL_law0_r4 [122, 150] (by decide +kernel) (by decide +kernel)
set_option maxRecDepth 20000 in
theorem wl_5 : GoodIn lw_tbl wsL_law0_r5 := goodIn_p wsL_law0_r5 [222, 242, 252, 270] (by decide +kernel) (by decide +kernel)
set_option maxRecDepth 20000 in
theorem wl_6 : GoodIn lw_tbl wsL_law0_r6 := goodIn_p wsL_law0_r6 [307, 310, 316] (by decide +kernel) (by decide +kernel)
set_option maxRecDepth 20000 in
theorem wl_7 : GoodIn lw_tbl wsL_law0_r7 := goodIn_p wsL_law0_r7 [319, 1025, 1077, 964] (by decide +kernel) (by decide +kernel)
set_option maxRecDepth 20000 in
theorem wl_8 : GoodIn lw_tbl wsL_law0_r8 := goodIn_p wsL_law0_r8 [548, 393, 502, 525] (by decide +kernel) (by decide +kernel)
set_option maxRecDepth 20000 in
theorem wl_9 : GoodIn lw_tbl wsL_law0_r9 := goodIn_p wsL_law0_r9 [506, 510, 517, 522, 985] (by decide +kernel) (by decide +kernel)
set_option maxRecDepth 20000 in
theorem wl_10 : GoodIn lw_tbl wsL_law0_r10 := goodIn_p wsL_law0_r10 [376, 380, 384, 529] (by decide +kernel) (by decide +kernel)
set_option maxRecDepth 20000 in
theorem wl_11 : GoodIn lw_tbl wsL_law0_r11 := goodIn_p wsL_law0_r11 [533, 537, 1081, 545, 541, 1085] (by decide +kernel) (by decide +kernel)
set_option maxRecDepth 20000 in
theorem wl_12 : GoodIn lw_tbl wsL_law0_r12 := goodIn_p wsL_law0_r12 [557, 1089, 570, 574, 578] (by decide +kernel) (by decide +kernel)
set_option maxRecDepth 20000 in
theorem wl_13 : GoodIn lw_tbl wsL_law0_r13 := goodIn_p wsL_law0_r13 [582, 586, 590, 594, 1093] (by decide +kernel) (by decide +kernel)
set_option maxRecDepth 20000 in
theorem wl_14 : GoodIn lw_tbl wsL_law0_r14 := goodIn_p wsL_law0_r14 [968, 989, 1097, 972, 993, 1101] (by decide +kernel) (by decide +kernel)
set_option maxRecDepth 20000 in
theorem wl_15 : GoodIn lw_tbl wsL_law0_r15 := goodIn_p wsL_law0_r15 [1105, 657, 661, 665, 669] (by decide +kernel) (by decide +kernel)
set_option maxRecDepth 20000 in
theorem wl_16 : GoodIn lw_tbl wsL_law0_r16 := goodIn_p wsL_law0_r16 [673, 677, 1109, 977, 997, 813] (by decide +kernel) (by decide +kernel)
set_option maxRecDepth 20000 in
theorem wl_17 : GoodIn lw_tbl wsL_law0_r17 := goodIn_p wsL_law0_r17 [789, 818, 706, 710] (by decide +kernel) (by decide +kernel)
set_option maxRecDepth 20000 in
theorem wl_18 : GoodIn lw_tbl wsL_law0_r18 := goodIn_p wsL_law0_r18 [714, 718, 722] (by decide +kernel) (by decide +kernel)
set_option maxRecDepth 20000 in
theorem wl_19 : GoodIn lw_tbl wsL_law0_r19 := goodIn_p wsL_law0_r19 [702, 728, 732, 736, 612, 616] (by decide +kernel) (by decide +kernel)
set_option maxRecDepth 20000 in
theorem wl_20 : GoodIn lw_tbl wsL_law0_r20 := goodIn_p wsL_law0_r20 [620, 599, 603, 608, 1113] (by decide +kernel) (by decide +kernel)
set_option maxRecDepth 20000 in
theorem wl_21 : GoodIn lw_tbl wsL_law0_r21 := goodIn_p wsL_law0_r21 [682, 1017, 1117, 1121, 624] (by decide +kernel) (by decide +kernel)
set_option maxRecDepth 20000 in
theorem wl_22 : GoodIn lw_tbl wsL_law0_r22 := goodIn_p wsL_law0_r22 [628, 632, 1124, 1130, 1134, 1138] (by decide +kernel) (by decide +kernel)
set_option maxRecDepth 20000 in
theorem wl_23 : GoodIn lw_tbl wsL_law0_r23 := goodIn_p wsL_law0_r23 [1142, 553, 562, 566, 1145] (by decide +kernel) (by decide +kernel)
set_option maxRecDepth 20000 in
theorem wl_24 : GoodIn lw_tbl wsL_law0_r24 := goodIn_p wsL_law0_r24 [686, 690, 694, 1028, 884] (by decide +kernel) (by decide +kernel)
set_option maxRecDepth 20000 in
theorem wl_25 : GoodIn lw_tbl wsL_law0_r25 := goodIn_p wsL_law0_r25 [888, 893, 897, 900, 903, 908] (by decide +kernel) (by decide +kernel)
set_option maxRecDepth 20000 in
theorem wl_26 : GoodIn lw_tbl wsL_law0_r26 := goodIn_p wsL_law0_r26 [911, 914, 917, 921, 1034, 1039] (by decide +kernel) (by decide +kernel)
set_option maxRecDepth 20000 in
theorem wl_27 : GoodIn lw_tbl wsL_law0_r27 := goodIn_p wsL_law0_r27 [1044, 862, 866, 870] (by decide +kernel) (by decide +kernel)
set_option maxRecDepth 20000 in
theorem wl_28 : GoodIn lw_tbl wsL_law0_r28 := goodIn_p wsL_law0_r28 [874, 880, 934, 938, 942] (by decide +kernel) (by decide +kernel)
set_option maxRecDepth 20000 in
theorem wl_29 : GoodIn lw_tbl wsL_law0_r29 := goodIn_p wsL_law0_r29 [948, 952, 960, 981] (by decide +kernel) (by decide +kernel)
set_option maxRecDepth 20000 in
theorem wl_30 : GoodIn lw_tbl wsL_law0_r30 := goodIn_p wsL_law0_r30 [1008, 1013, 1003, 1151, 1155] (by decide +kernel) (by decide +kernel)
set_option maxRecDepth 20000 in
theorem wl_31 : GoodIn lw_tbl wsL_law0_r31 := goodIn_p wsL_law0_r31 [849, 853, 858, 649] (by decide +kernel) (by decide +kernel)
set_option maxRecDepth 20000 in
theorem wl_32 : GoodIn lw_tbl wsL_law0_r32 := goodIn_p wsL_law0_r32 [653, 823, 780, 771, 776, 765] (by decide +kernel) (by decide +kernel)
set_option maxRecDepth 20000 in
theorem wl_33 : GoodIn lw_tbl wsL_law0_r33 := goodIn_p wsL_law0_r33 [636, 640, 645, 828, 832, 837] (by decide +kernel) (by decide +kernel)
set_option maxRecDepth 20000 in
theorem wl_34 : GoodIn lw_tbl wsL_law0_r34 := goodIn_p wsL_law0_r34 [841, 745, 749, 754, 758, 845] (by decide +kernel) (by decide +kernel)
set_option maxRecDepth 20000 in
theorem wl_35 : GoodIn lw_tbl wsL_law0_r35 := goodIn_p wsL_law0_r35 [762, 784, 793, 698, 740] (by decide +kernel) (by decide +kernel)
set_option maxRecDepth 20000 in
theorem wl_36 : GoodIn lw_tbl wsL_law0_r36 := goodIn_p wsL_law0_r36 [1021] (by decide +kernel) (by decide +kernel)
set_option maxRecDepth 20000 in
theorem wl_wsX110 : GoodIn lw_tbl wsX110 := goodIn_of wsX110 (by decide +kernel)
set_option maxRecDepth 20000 in
theorem wl_wsX90 : GoodIn lw_tbl wsX90 := goodIn_of wsX90 (by decide +kernel)
set_option maxRecDepth 20000 in
theorem wl_wsX40 : GoodIn lw_tbl wsX40 := goodIn_of wsX40 (by decide +kernel)
set_option maxRecDepth 20000 in
theorem wl_wsX70 : GoodIn lw_tbl wsX70 := goodIn_of wsX70 (by decide +kernel)
set_option maxRecDepth 20000 in
theorem wl_wsX10 : GoodIn lw_tbl wsX10 := goodIn_of wsX10 (by decide +kernel)
set_option maxRecDepth 20000 in
theorem wl_wsX30 : GoodIn lw_tbl wsX30 := goodIn_of wsX30 (by decide +kernel)
set_option maxRecDepth 20000 in
theorem wl_wsJ40 : GoodIn lw_tbl wsJ40 := goodIn_of wsJ40 (by decide +kernel)
set_option maxRecDepth 20000 in
theorem wl_wsX50 : GoodIn lw_tbl wsX50 := goodIn_of wsX50 (by decide +kernel)
set_option maxRecDepth 20000 in
theorem wl_wsX60 : GoodIn lw_tbl wsX60 := goodIn_of wsX60 (by decide +kernel)
set_option maxRecDepth 20000 in
theorem wl_wsX20 : GoodIn lw_tbl wsX20 := goodIn_of wsX20 (by decide +kernel)
set_option maxRecDepth 20000 in
theorem wl_wsJ00 : GoodIn lw_tbl wsJ00 := goodIn_of wsJ00 (by decide +kernel)
theorem wsL_law_in0 : ∀ w ∈ wsL_law0, w ∈ lw_tbl := fun w h => (show GoodIn lw_tbl wsL_law0 from goodIn_app (goodIn_app (goodIn_app (goodIn_app (goodIn_app (goodIn_app (goodIn_app (goodIn_app (goodIn_app (goodIn_app (goodIn_app (goodIn_app (goodIn_app wl_1 (goodIn_app wl_2 (goodIn_app wl_3 (goodIn_app wl_4 (goodIn_app wl_5 (goodIn_app wl_6 (goodIn_app wl_7 (goodIn_app wl_8 (goodIn_app wl_9 (goodIn_app wl_10 (goodIn_app wl_11 (goodIn_app wl_12 (goodIn_app wl_13 (goodIn_app wl_14 (goodIn_app wl_15 (goodIn_app wl_16 (goodIn_app wl_17 (goodIn_app wl_18 (goodIn_app wl_19 (goodIn_app wl_20 (goodIn_app wl_21 (goodIn_app wl_22 (goodIn_app wl_23 (goodIn_app wl_24 (goodIn_app wl_25 (goodIn_app wl_26 (goodIn_app wl_27 (goodIn_app wl_28 (goodIn_app wl_29 (goodIn_app wl_30 (goodIn_app wl_31 (goodIn_app wl_32 (goodIn_app wl_33 (goodIn_app wl_34 (goodIn_app wl_35 (wl_36)))))))))))))))))))))))))))))))))))) wl_wsX110) wl_wsX90) wl_wsX40) wl_wsX70) wl_wsX10) wl_wsX30) wl_wsJ40) wl_wsX50) wl_wsX60) wl_wsX20) wl_wsJ00) (fun _ h => absurd h List.not_mem_nil)) w h |>.1
theorem wsL_law_x0 : ∀ w ∈ (vx_atM "java/lang/ArrayIndexOutOfBoundsException" ["java/lang/IndexOutOfBoundsException", "java/lang/RuntimeException", "java/lang/Exception"]).filter goodWord, w ∈ lw_tbl := by decide +kernel
theorem wsL_law_x1 : ∀ w ∈ (vx_atS RX11 306 "java/lang/IndexOutOfBoundsException" ["java/lang/RuntimeException", "java/lang/Exception"]).filter goodWord, w ∈ lw_tbl := by decide +kernel
theorem wsL_law_x2 : ∀ w ∈ (vx_atS RX11 266 "java/lang/IllegalArgumentException" ["java/lang/RuntimeException", "java/lang/Exception"]).filter goodWord, w ∈ lw_tbl := by decide +kernel
theorem wsL_law_x3 : ∀ w ∈ (vx_atS RX11 334 "java/lang/IllegalStateException" ["java/lang/RuntimeException", "java/lang/Exception"]).filter goodWord, w ∈ lw_tbl := by decide +kernel
theorem wsL_law_x4 : ∀ w ∈ (xn_at RX11 276).filter goodWord, w ∈ lw_tbl := by decide +kernel
theorem wsL_law_in : ∀ w ∈ wsL_law, w ∈ lw_tbl := fun w h => (List.mem_append.mp h).elim (fun h => (List.mem_append.mp h).elim (fun h => (List.mem_append.mp h).elim (fun h => (List.mem_append.mp h).elim (fun h => (List.mem_append.mp h).elim (fun h => wsL_law_in0 w h) (fun h => wsL_law_x0 w h)) (fun h => wsL_law_x1 w h)) (fun h => wsL_law_x2 w h)) (fun h => wsL_law_x3 w h)) (fun h => wsL_law_x4 w h)
