set_option maxRecDepth 20000 in
theorem wl_1 : GoodIn lw_tbl wsL_law0_r1 := goodIn_p wsL_law0_r1 [108, 111] (by decide +kernel) (by decide +kernel)
set_option maxRecDepth 20000 in
theorem wl_2 : GoodIn lw_tbl wsL_law0_r2 := goodIn_p wsL_law0_r2 [116] (by decide +kernel) (by decide +kernel)
set_option maxRecDepth 20000 in
theorem wl_3 : GoodIn lw_tbl wsL_law0_r3 := goodIn_p wsL_law0_r3 [122] (by decide +kernel) (by decide +kernel)
set_option maxRecDepth 20000 in
theorem wl_4 : GoodIn lw_tbl wsL_law0_r4 := goodIn_p wsL_law0_r4 [174, 202, 274] (by decide +kernel) (by decide +kernel)
set_option maxRecDepth 20000 in
theorem wl_5 : GoodIn lw_tbl wsL_law0_r5 := goodIn_p wsL_law0_r5 [294, 304, 322] (by decide +kernel) (by decide +kernel)
set_option maxRecDepth 20000 in
theorem wl_6 : GoodIn lw_tbl wsL_law0_r6 := goodIn_p wsL_law0_r6 [359, 362, 368, 371] (by decide +kernel) (by decide +kernel)
set_option maxRecDepth 20000 in
theorem wl_7 : GoodIn lw_tbl wsL_law0_r7 := goodIn_p wsL_law0_r7 [1609, 587] (by decide +kernel) (by decide +kernel)
set_option maxRecDepth 20000 in
theorem wl_8 : GoodIn lw_tbl wsL_law0_r8 := goodIn_p wsL_law0_r8 [591, 594, 603, 455] (by decide +kernel) (by decide +kernel)
set_option maxRecDepth 20000 in
theorem wl_9 : GoodIn lw_tbl wsL_law0_r9 := goodIn_p wsL_law0_r9 [478, 459, 463, 470] (by decide +kernel) (by decide +kernel)
set_option maxRecDepth 20000 in
theorem wl_10 : GoodIn lw_tbl wsL_law0_r10 := goodIn_p wsL_law0_r10 [475, 714, 1667, 1671, 1674, 1678, 1681] (by decide +kernel) (by decide +kernel)
set_option maxRecDepth 20000 in
theorem wl_11 : GoodIn lw_tbl wsL_law0_r11 := goodIn_p wsL_law0_r11 [1685, 1689, 1693, 1663] (by decide +kernel) (by decide +kernel)
set_option maxRecDepth 20000 in
theorem wl_12 : GoodIn lw_tbl wsL_law0_r12 := goodIn_p wsL_law0_r12 [742, 746, 498, 752, 756] (by decide +kernel) (by decide +kernel)
set_option maxRecDepth 20000 in
theorem wl_13 : GoodIn lw_tbl wsL_law0_r13 := goodIn_p wsL_law0_r13 [760, 1697, 1701, 1705, 1709] (by decide +kernel) (by decide +kernel)
set_option maxRecDepth 20000 in
theorem wl_14 : GoodIn lw_tbl wsL_law0_r14 := goodIn_p wsL_law0_r14 [767, 771, 1713, 1717, 778] (by decide +kernel) (by decide +kernel)
set_option maxRecDepth 20000 in
theorem wl_15 : GoodIn lw_tbl wsL_law0_r15 := goodIn_p wsL_law0_r15 [1721, 785, 789, 1725] (by decide +kernel) (by decide +kernel)
set_option maxRecDepth 20000 in
theorem wl_16 : GoodIn lw_tbl wsL_law0_r16 := goodIn_p wsL_law0_r16 [1729, 797, 1733, 431, 1737] (by decide +kernel) (by decide +kernel)
set_option maxRecDepth 20000 in
theorem wl_17 : GoodIn lw_tbl wsL_law0_r17 := goodIn_p wsL_law0_r17 [804, 1741, 1745, 811, 1749] (by decide +kernel) (by decide +kernel)
set_option maxRecDepth 20000 in
theorem wl_18 : GoodIn lw_tbl wsL_law0_r18 := goodIn_p wsL_law0_r18 [818, 1753, 825, 1757] (by decide +kernel) (by decide +kernel)
set_option maxRecDepth 20000 in
theorem wl_19 : GoodIn lw_tbl wsL_law0_r19 := goodIn_p wsL_law0_r19 [832, 1761, 839, 1765] (by decide +kernel) (by decide +kernel)
set_option maxRecDepth 20000 in
theorem wl_20 : GoodIn lw_tbl wsL_law0_r20 := goodIn_p wsL_law0_r20 [846, 1769, 853, 857] (by decide +kernel) (by decide +kernel)
set_option maxRecDepth 20000 in
theorem wl_21 : GoodIn lw_tbl wsL_law0_r21 := goodIn_p wsL_law0_r21 [861, 556, 560, 539, 565] (by decide +kernel) (by decide +kernel)
set_option maxRecDepth 20000 in
theorem wl_22 : GoodIn lw_tbl wsL_law0_r22 := goodIn_p wsL_law0_r22 [1773, 1777, 1781, 1785, 1789, 1793] (by decide +kernel) (by decide +kernel)
set_option maxRecDepth 20000 in
theorem wl_23 : GoodIn lw_tbl wsL_law0_r23 := goodIn_p wsL_law0_r23 [1796, 870, 874, 879, 1800] (by decide +kernel) (by decide +kernel)
set_option maxRecDepth 20000 in
theorem wl_24 : GoodIn lw_tbl wsL_law0_r24 := goodIn_p wsL_law0_r24 [1804, 886, 890, 894, 1808] (by decide +kernel) (by decide +kernel)
set_option maxRecDepth 20000 in
theorem wl_25 : GoodIn lw_tbl wsL_law0_r25 := goodIn_p wsL_law0_r25 [1812, 901, 905, 909, 1816, 1820] (by decide +kernel) (by decide +kernel)
set_option maxRecDepth 20000 in
theorem wl_26 : GoodIn lw_tbl wsL_law0_r26 := goodIn_p wsL_law0_r26 [916, 920, 1824, 927] (by decide +kernel) (by decide +kernel)
set_option maxRecDepth 20000 in
theorem wl_27 : GoodIn lw_tbl wsL_law0_r27 := goodIn_p wsL_law0_r27 [931, 935, 1828, 1832, 435] (by decide +kernel) (by decide +kernel)
set_option maxRecDepth 20000 in
theorem wl_28 : GoodIn lw_tbl wsL_law0_r28 := goodIn_p wsL_law0_r28 [1836, 439, 1840, 443, 1844] (by decide +kernel) (by decide +kernel)
set_option maxRecDepth 20000 in
theorem wl_29 : GoodIn lw_tbl wsL_law0_r29 := goodIn_p wsL_law0_r29 [942, 946, 1848, 953, 569] (by decide +kernel) (by decide +kernel)
set_option maxRecDepth 20000 in
theorem wl_30 : GoodIn lw_tbl wsL_law0_r30 := goodIn_p wsL_law0_r30 [573, 1852, 960, 964] (by decide +kernel) (by decide +kernel)
set_option maxRecDepth 20000 in
theorem wl_31 : GoodIn lw_tbl wsL_law0_r31 := goodIn_p wsL_law0_r31 [968, 1857, 1861, 975, 979] (by decide +kernel) (by decide +kernel)
set_option maxRecDepth 20000 in
theorem wl_32 : GoodIn lw_tbl wsL_law0_r32 := goodIn_p wsL_law0_r32 [983, 1865, 1869, 1873, 447, 1877] (by decide +kernel) (by decide +kernel)
set_option maxRecDepth 20000 in
theorem wl_33 : GoodIn lw_tbl wsL_law0_r33 := goodIn_p wsL_law0_r33 [991, 1881, 998, 1885] (by decide +kernel) (by decide +kernel)
set_option maxRecDepth 20000 in
theorem wl_34 : GoodIn lw_tbl wsL_law0_r34 := goodIn_p wsL_law0_r34 [1005, 1889, 1012, 502, 1893] (by decide +kernel) (by decide +kernel)
set_option maxRecDepth 20000 in
theorem wl_35 : GoodIn lw_tbl wsL_law0_r35 := goodIn_p wsL_law0_r35 [451, 482, 486] (by decide +kernel) (by decide +kernel)
set_option maxRecDepth 20000 in
theorem wl_36 : GoodIn lw_tbl wsL_law0_r36 := goodIn_p wsL_law0_r36 [490, 494, 506, 510] (by decide +kernel) (by decide +kernel)
set_option maxRecDepth 20000 in
theorem wl_37 : GoodIn lw_tbl wsL_law0_r37 := goodIn_p wsL_law0_r37 [514, 1897, 1901, 1905, 1909, 1913] (by decide +kernel) (by decide +kernel)
set_option maxRecDepth 20000 in
theorem wl_38 : GoodIn lw_tbl wsL_law0_r38 := goodIn_p wsL_law0_r38 [1917, 518, 1921, 1020] (by decide +kernel) (by decide +kernel)
set_option maxRecDepth 20000 in
theorem wl_39 : GoodIn lw_tbl wsL_law0_r39 := goodIn_p wsL_law0_r39 [1925, 1028, 1032, 1929, 1933] (by decide +kernel) (by decide +kernel)
set_option maxRecDepth 20000 in
theorem wl_40 : GoodIn lw_tbl wsL_law0_r40 := goodIn_p wsL_law0_r40 [1040, 1044, 1937, 1051, 1054] (by decide +kernel) (by decide +kernel)
set_option maxRecDepth 20000 in
theorem wl_41 : GoodIn lw_tbl wsL_law0_r41 := goodIn_p wsL_law0_r41 [526, 1942, 1946, 1063, 1950] (by decide +kernel) (by decide +kernel)
set_option maxRecDepth 20000 in
theorem wl_42 : GoodIn lw_tbl wsL_law0_r42 := goodIn_p wsL_law0_r42 [522, 1954, 1070, 1074, 1078] (by decide +kernel) (by decide +kernel)
set_option maxRecDepth 20000 in
theorem wl_43 : GoodIn lw_tbl wsL_law0_r43 := goodIn_p wsL_law0_r43 [1082, 1086, 535, 1958, 1962, 1966] (by decide +kernel) (by decide +kernel)
set_option maxRecDepth 20000 in
theorem wl_44 : GoodIn lw_tbl wsL_law0_r44 := goodIn_p wsL_law0_r44 [1970, 1094, 1974, 1104] (by decide +kernel) (by decide +kernel)
set_option maxRecDepth 20000 in
theorem wl_45 : GoodIn lw_tbl wsL_law0_r45 := goodIn_p wsL_law0_r45 [1978, 531, 1982, 1128] (by decide +kernel) (by decide +kernel)
set_option maxRecDepth 20000 in
theorem wl_46 : GoodIn lw_tbl wsL_law0_r46 := goodIn_p wsL_law0_r46 [1132, 1137, 1141, 1986, 1990, 1994] (by decide +kernel) (by decide +kernel)
set_option maxRecDepth 20000 in
theorem wl_47 : GoodIn lw_tbl wsL_law0_r47 := goodIn_p wsL_law0_r47 [1148, 1998, 1155, 1159] (by decide +kernel) (by decide +kernel)
set_option maxRecDepth 20000 in
theorem wl_48 : GoodIn lw_tbl wsL_law0_r48 := goodIn_p wsL_law0_r48 [1162, 1185, 1189, 1192] (by decide +kernel) (by decide +kernel)
set_option maxRecDepth 20000 in
theorem wl_49 : GoodIn lw_tbl wsL_law0_r49 := goodIn_p wsL_law0_r49 [1195, 1199, 1203, 1217] (by decide +kernel) (by decide +kernel)
set_option maxRecDepth 20000 in
theorem wl_50 : GoodIn lw_tbl wsL_law0_r50 := goodIn_p wsL_law0_r50 [1385, 1388, 1391, 1407, 1290, 1293] (by decide +kernel) (by decide +kernel)
set_option maxRecDepth 20000 in
theorem wl_51 : GoodIn lw_tbl wsL_law0_r51 := goodIn_p wsL_law0_r51 [1296, 1299, 1306, 1223, 1226, 1229] (by decide +kernel) (by decide +kernel)
set_option maxRecDepth 20000 in
theorem wl_52 : GoodIn lw_tbl wsL_law0_r52 := goodIn_p wsL_law0_r52 [1234, 1309, 1237, 1413, 1416] (by decide +kernel) (by decide +kernel)
set_option maxRecDepth 20000 in
theorem wl_53 : GoodIn lw_tbl wsL_law0_r53 := goodIn_p wsL_law0_r53 [1419, 1265, 1268, 1271, 1274, 1277, 1280, 1422] (by decide +kernel) (by decide +kernel)
set_option maxRecDepth 20000 in
theorem wl_54 : GoodIn lw_tbl wsL_law0_r54 := goodIn_p wsL_law0_r54 [1425, 1428, 1431, 1334, 1336, 2002] (by decide +kernel) (by decide +kernel)
set_option maxRecDepth 20000 in
theorem wl_55 : GoodIn lw_tbl wsL_law0_r55 := goodIn_p wsL_law0_r55 [2006, 2010, 1439, 1444, 1447] (by decide +kernel) (by decide +kernel)
set_option maxRecDepth 20000 in
theorem wl_56 : GoodIn lw_tbl wsL_law0_r56 := goodIn_p wsL_law0_r56 [1363, 2014, 1471, 2018] (by decide +kernel) (by decide +kernel)
set_option maxRecDepth 20000 in
theorem wl_57 : GoodIn lw_tbl wsL_law0_r57 := goodIn_p wsL_law0_r57 [543, 547, 552, 2022] (by decide +kernel) (by decide +kernel)
set_option maxRecDepth 20000 in
theorem wl_58 : GoodIn lw_tbl wsL_law0_r58 := goodIn_p wsL_law0_r58 [1481, 1486, 1491, 2026, 1498] (by decide +kernel) (by decide +kernel)
set_option maxRecDepth 20000 in
theorem wl_59 : GoodIn lw_tbl wsL_law0_r59 := goodIn_p wsL_law0_r59 [1502, 1506, 1510, 1516] (by decide +kernel) (by decide +kernel)
set_option maxRecDepth 20000 in
theorem wl_60 : GoodIn lw_tbl wsL_law0_r60 := goodIn_p wsL_law0_r60 [1247, 1251, 1521, 1525, 1528, 1532] (by decide +kernel) (by decide +kernel)
set_option maxRecDepth 20000 in
theorem wl_61 : GoodIn lw_tbl wsL_law0_r61 := goodIn_p wsL_law0_r61 [1537, 1541, 1545, 1550] (by decide +kernel) (by decide +kernel)
set_option maxRecDepth 20000 in
theorem wl_62 : GoodIn lw_tbl wsL_law0_r62 := goodIn_p wsL_law0_r62 [1554, 1562, 1567, 2030, 2034] (by decide +kernel) (by decide +kernel)
set_option maxRecDepth 20000 in
theorem wl_63 : GoodIn lw_tbl wsL_law0_r63 := goodIn_p wsL_law0_r63 [2038, 2042, 2046, 2050, 2054, 2058] (by decide +kernel) (by decide +kernel)
set_option maxRecDepth 20000 in
theorem wl_64 : GoodIn lw_tbl wsL_law0_r64 := goodIn_p wsL_law0_r64 [2062, 1575, 2066, 1583] (by decide +kernel) (by decide +kernel)
set_option maxRecDepth 20000 in
theorem wl_65 : GoodIn lw_tbl wsL_law0_r65 := goodIn_p wsL_law0_r65 [2070, 1591, 1596, 2074, 577] (by decide +kernel) (by decide +kernel)
set_option maxRecDepth 20000 in
theorem wl_66 : GoodIn lw_tbl wsL_law0_r66 := goodIn_p wsL_law0_r66 [2078, 1603, 2082] (by decide +kernel) (by decide +kernel)
theorem wsL_law_in0 : ∀ w ∈ wsL_law0, w ∈ lw_tbl := fun w h => (show GoodIn lw_tbl wsL_law0 from goodIn_app wl_1 (goodIn_app wl_2 (goodIn_app wl_3 (goodIn_app wl_4 (goodIn_app wl_5 (goodIn_app wl_6 (goodIn_app wl_7 (goodIn_app wl_8 (goodIn_app wl_9 (goodIn_app wl_10 (goodIn_app wl_11 (goodIn_app wl_12 (goodIn_app wl_13 (goodIn_app wl_14 (goodIn_app wl_15 (goodIn_app wl_16 (goodIn_app wl_17 (goodIn_app wl_18 (goodIn_app wl_19 (goodIn_app wl_20 (goodIn_app wl_21 (goodIn_app wl_22 (goodIn_app wl_23 (goodIn_app wl_24 (goodIn_app wl_25 (goodIn_app wl_26 (goodIn_app wl_27 (goodIn_app wl_28 (goodIn_app wl_29 (goodIn_app wl_30 (goodIn_app wl_31 (goodIn_app wl_32 (goodIn_app wl_33 (goodIn_app wl_34 (goodIn_app wl_35 (goodIn_app wl_36 (goodIn_app wl_37 (goodIn_app wl_38 (goodIn_app wl_39 (goodIn_app wl_40 (goodIn_app wl_41 (goodIn_app wl_42 (goodIn_app wl_43 (goodIn_app wl_44 (goodIn_app wl_45 (goodIn_app wl_46 (goodIn_app wl_47 (goodIn_app wl_48 (goodIn_app wl_49 (goodIn_app wl_50 (goodIn_app wl_51 (goodIn_app wl_52 (goodIn_app wl_53 (goodIn_app wl_54 (goodIn_app wl_55 (goodIn_app wl_56 (goodIn_app wl_57 (goodIn_app wl_58 (goodIn_app wl_59 (goodIn_app wl_60 (goodIn_app wl_61 (goodIn_app wl_62 (goodIn_app wl_63 (goodIn_app wl_64 (goodIn_app wl_65 (wl_66)))))))))))))))))))))))))))))))))))))))))))))))))))))))))))))))))) w h |>.1
theorem wsL_law_x0 : ∀ w ∈ (vx_atM "java/lang/ArrayIndexOutOfBoundsException" ["java/lang/IndexOutOfBoundsException", "java/lang/RuntimeException", "java/lang/Exception"]).filter goodWord, w ∈ lw_tbl := by decide +kernel
theorem wsL_law_x1 : ∀ w ∈ (vx_atS RX11 306 "java/lang/IndexOutOfBoundsException" ["java/lang/RuntimeException", "java/lang/Exception"]).filter goodWord, w ∈ lw_tbl := by decide +kernel
theorem wsL_law_x2 : ∀ w ∈ (vx_atS RX11 266 "java/lang/IllegalArgumentException" ["java/lang/RuntimeException", "java/lang/Exception"]).filter goodWord, w ∈ lw_tbl := by decide +kernel
theorem wsL_law_x3 : ∀ w ∈ (vx_atS RX11 334 "java/lang/IllegalStateException" ["java/lang/RuntimeException", "java/lang/Exception"]).filter goodWord, w ∈ lw_tbl := by decide +kernel
theorem wsL_law_x4 : ∀ w ∈ (vx_atM "java/lang/ArithmeticException" ["java/lang/RuntimeException", "java/lang/Exception"]).filter goodWord, w ∈ lw_tbl := by decide +kernel
theorem wsL_law_x5 : ∀ w ∈ (xn_at RX11 276).filter goodWord, w ∈ lw_tbl := by decide +kernel
theorem wsL_law_x6 : ∀ w ∈ (vx_atS RX11 313 "java/lang/ArithmeticException" ["java/lang/RuntimeException", "java/lang/Exception"]).filter goodWord, w ∈ lw_tbl := by decide +kernel
theorem wsL_law_in : ∀ w ∈ wsL_law, w ∈ lw_tbl := fun w h => (List.mem_append.mp h).elim (fun h => (List.mem_append.mp h).elim (fun h => (List.mem_append.mp h).elim (fun h => (List.mem_append.mp h).elim (fun h => (List.mem_append.mp h).elim (fun h => (List.mem_append.mp h).elim (fun h => (List.mem_append.mp h).elim (fun h => wsL_law_in0 w h) (fun h => wsL_law_x0 w h)) (fun h => wsL_law_x1 w h)) (fun h => wsL_law_x2 w h)) (fun h => wsL_law_x3 w h)) (fun h => wsL_law_x4 w h)) (fun h => wsL_law_x5 w h)) (fun h => wsL_law_x6 w h)
theorem inX0 : ∀ w ∈ wsX00, w ∈ lw_tbl := by decide +kernel
theorem inlX1 : ∀ w ∈ wsX10, w ∈ wsL_law := fun _ h => List.mem_append_left _ (List.mem_append_left _ (List.mem_append_left _ (List.mem_append_left _ (List.mem_append_left _ (List.mem_append_left _ (List.mem_append_left _ (List.mem_append_left _ (List.mem_append_left _ (List.mem_append_left _ (List.mem_append_left _ (List.mem_append_left _ (List.mem_append_left _ (List.mem_append_left _ (List.mem_append_left _ (List.mem_append_left _ (List.mem_append_right _ h))))))))))))))))
theorem inX1 : ∀ w ∈ wsX10, w ∈ lw_tbl := fun w h => wsL_law_in w (inlX1 w h)
theorem inlX2 : ∀ w ∈ wsX20, w ∈ wsL_law := fun _ h => List.mem_append_left _ (List.mem_append_left _ (List.mem_append_left _ (List.mem_append_left _ (List.mem_append_left _ (List.mem_append_left _ (List.mem_append_left _ (List.mem_append_left _ (List.mem_append_left _ (List.mem_append_left _ (List.mem_append_left _ (List.mem_append_right _ h)))))))))))
theorem inX2 : ∀ w ∈ wsX20, w ∈ lw_tbl := fun w h => wsL_law_in w (inlX2 w h)
theorem inlX3 : ∀ w ∈ wsX30, w ∈ wsL_law := fun _ h => List.mem_append_left _ (List.mem_append_left _ (List.mem_append_left _ (List.mem_append_left _ (List.mem_append_left _ (List.mem_append_left _ (List.mem_append_left _ (List.mem_append_left _ (List.mem_append_left _ (List.mem_append_left _ (List.mem_append_left _ (List.mem_append_left _ (List.mem_append_left _ (List.mem_append_left _ (List.mem_append_left _ (List.mem_append_right _ h)))))))))))))))
theorem inX3 : ∀ w ∈ wsX30, w ∈ lw_tbl := fun w h => wsL_law_in w (inlX3 w h)
theorem inlX4 : ∀ w ∈ wsX40, w ∈ wsL_law := fun _ h => List.mem_append_left _ (List.mem_append_left _ (List.mem_append_left _ (List.mem_append_left _ (List.mem_append_left _ (List.mem_append_left _ (List.mem_append_left _ (List.mem_append_left _ (List.mem_append_left _ (List.mem_append_left _ (List.mem_append_left _ (List.mem_append_left _ (List.mem_append_left _ (List.mem_append_left _ (List.mem_append_left _ (List.mem_append_left _ (List.mem_append_left _ (List.mem_append_left _ (List.mem_append_right _ h))))))))))))))))))
theorem inX4 : ∀ w ∈ wsX40, w ∈ lw_tbl := fun w h => wsL_law_in w (inlX4 w h)
theorem inlX5 : ∀ w ∈ wsX50, w ∈ wsL_law := fun _ h => List.mem_append_left _ (List.mem_append_left _ (List.mem_append_left _ (List.mem_append_left _ (List.mem_append_left _ (List.mem_append_left _ (List.mem_append_left _ (List.mem_append_left _ (List.mem_append_left _ (List.mem_append_left _ (List.mem_append_left _ (List.mem_append_left _ (List.mem_append_left _ (List.mem_append_right _ h)))))))))))))
theorem inX5 : ∀ w ∈ wsX50, w ∈ lw_tbl := fun w h => wsL_law_in w (inlX5 w h)
theorem inlX6 : ∀ w ∈ wsX60, w ∈ wsL_law := fun _ h => List.mem_append_left _ (List.mem_append_left _ (List.mem_append_left _ (List.mem_append_left _ (List.mem_append_left _ (List.mem_append_left _ (List.mem_append_left _ (List.mem_append_left _ (List.mem_append_left _ (List.mem_append_left _ (List.mem_append_left _ (List.mem_append_left _ (List.mem_append_right _ h))))))))))))
theorem inX6 : ∀ w ∈ wsX60, w ∈ lw_tbl := fun w h => wsL_law_in w (inlX6 w h)
theorem inlX7 : ∀ w ∈ wsX70, w ∈ wsL_law := fun _ h => List.mem_append_left _ (List.mem_append_left _ (List.mem_append_left _ (List.mem_append_left _ (List.mem_append_left _ (List.mem_append_left _ (List.mem_append_left _ (List.mem_append_left _ (List.mem_append_left _ (List.mem_append_left _ (List.mem_append_left _ (List.mem_append_left _ (List.mem_append_left _ (List.mem_append_left _ (List.mem_append_left _ (List.mem_append_left _ (List.mem_append_left _ (List.mem_append_right _ h)))))))))))))))))
theorem inX7 : ∀ w ∈ wsX70, w ∈ lw_tbl := fun w h => wsL_law_in w (inlX7 w h)
theorem inX8 : ∀ w ∈ wsX80, w ∈ lw_tbl := by decide +kernel
theorem inlX9 : ∀ w ∈ wsX90, w ∈ wsL_law := fun _ h => List.mem_append_left _ (List.mem_append_left _ (List.mem_append_left _ (List.mem_append_left _ (List.mem_append_left _ (List.mem_append_left _ (List.mem_append_left _ (List.mem_append_left _ (List.mem_append_left _ (List.mem_append_left _ (List.mem_append_left _ (List.mem_append_left _ (List.mem_append_left _ (List.mem_append_left _ (List.mem_append_left _ (List.mem_append_left _ (List.mem_append_left _ (List.mem_append_left _ (List.mem_append_left _ (List.mem_append_right _ h)))))))))))))))))))
theorem inX9 : ∀ w ∈ wsX90, w ∈ lw_tbl := fun w h => wsL_law_in w (inlX9 w h)
theorem inX10 : ∀ w ∈ wsX100, w ∈ lw_tbl := by decide +kernel
theorem inlX11 : ∀ w ∈ wsX110, w ∈ wsL_law := fun _ h => List.mem_append_left _ (List.mem_append_left _ (List.mem_append_left _ (List.mem_append_left _ (List.mem_append_left _ (List.mem_append_left _ (List.mem_append_left _ (List.mem_append_left _ (List.mem_append_left _ (List.mem_append_left _ (List.mem_append_left _ (List.mem_append_left _ (List.mem_append_left _ (List.mem_append_left _ (List.mem_append_left _ (List.mem_append_left _ (List.mem_append_left _ (List.mem_append_left _ (List.mem_append_left _ (List.mem_append_left _ (List.mem_append_left _ (List.mem_append_right _ h)))))))))))))))))))))
theorem inX11 : ∀ w ∈ wsX110, w ∈ lw_tbl := fun w h => wsL_law_in w (inlX11 w h)
theorem inlX12 : ∀ w ∈ wsX120, w ∈ wsL_law := fun _ h => List.mem_append_left _ (List.mem_append_left _ (List.mem_append_left _ (List.mem_append_left _ (List.mem_append_left _ (List.mem_append_left _ (List.mem_append_left _ (List.mem_append_left _ (List.mem_append_left _ (List.mem_append_left _ (List.mem_append_left _ (List.mem_append_left _ (List.mem_append_left _ (List.mem_append_left _ (List.mem_append_left _ (List.mem_append_left _ (List.mem_append_left _ (List.mem_append_left _ (List.mem_append_left _ (List.mem_append_left _ (List.mem_append_right _ h))))))))))))))))))))
theorem inX12 : ∀ w ∈ wsX120, w ∈ lw_tbl := fun w h => wsL_law_in w (inlX12 w h)
theorem inJx145de : ∀ w ∈ wsJx145de0, w ∈ lw_tbl := by decide +kernel
theorem inJ5 : ∀ w ∈ wsJ50, w ∈ lw_tbl := by decide +kernel
theorem inJx2cfe8 : ∀ w ∈ wsJx2cfe80, w ∈ lw_tbl := by decide +kernel
theorem inlJx00060 : ∀ w ∈ wsJx000600, w ∈ wsL_law := fun _ h => List.mem_append_left _ (List.mem_append_left _ (List.mem_append_left _ (List.mem_append_left _ (List.mem_append_left _ (List.mem_append_left _ (List.mem_append_left _ (List.mem_append_left _ (List.mem_append_left _ (List.mem_append_right _ h)))))))))
theorem inJx00060 : ∀ w ∈ wsJx000600, w ∈ lw_tbl := fun w h => wsL_law_in w (inlJx00060 w h)
theorem inJx9f9b0 : ∀ w ∈ wsJx9f9b00, w ∈ lw_tbl := by decide +kernel
theorem inJx8e188 : ∀ w ∈ wsJx8e1880, w ∈ lw_tbl := by decide +kernel
theorem inJxb160c : ∀ w ∈ wsJxb160c0, w ∈ lw_tbl := by decide +kernel
theorem inJx29ce0 : ∀ w ∈ wsJx29ce00, w ∈ lw_tbl := by decide +kernel
theorem inJ6 : ∀ w ∈ wsJ60, w ∈ lw_tbl := by decide +kernel
theorem inJ9 : ∀ w ∈ wsJ90, w ∈ lw_tbl := by decide +kernel
theorem inJxd2413 : ∀ w ∈ wsJxd24130, w ∈ lw_tbl := by decide +kernel
theorem inlJ0 : ∀ w ∈ wsJ00, w ∈ wsL_law := fun _ h => List.mem_append_left _ (List.mem_append_left _ (List.mem_append_left _ (List.mem_append_left _ (List.mem_append_left _ (List.mem_append_left _ (List.mem_append_left _ (List.mem_append_left _ (List.mem_append_right _ h))))))))
theorem inJ0 : ∀ w ∈ wsJ00, w ∈ lw_tbl := fun w h => wsL_law_in w (inlJ0 w h)
theorem inlJ4 : ∀ w ∈ wsJ40, w ∈ wsL_law := fun _ h => List.mem_append_left _ (List.mem_append_left _ (List.mem_append_left _ (List.mem_append_left _ (List.mem_append_left _ (List.mem_append_left _ (List.mem_append_left _ (List.mem_append_left _ (List.mem_append_left _ (List.mem_append_left _ (List.mem_append_left _ (List.mem_append_left _ (List.mem_append_left _ (List.mem_append_left _ (List.mem_append_right _ h))))))))))))))
theorem inJ4 : ∀ w ∈ wsJ40, w ∈ lw_tbl := fun w h => wsL_law_in w (inlJ4 w h)
theorem inlJx7c733 : ∀ w ∈ wsJx7c7330, w ∈ wsL_law := fun _ h => List.mem_append_left _ (List.mem_append_left _ (List.mem_append_left _ (List.mem_append_left _ (List.mem_append_left _ (List.mem_append_left _ (List.mem_append_left _ (List.mem_append_left _ (List.mem_append_left _ (List.mem_append_left _ (List.mem_append_right _ h))))))))))
theorem inJx7c733 : ∀ w ∈ wsJx7c7330, w ∈ lw_tbl := fun w h => wsL_law_in w (inlJx7c733 w h)
theorem inJ1 : ∀ w ∈ wsJ10, w ∈ lw_tbl := by decide +kernel
theorem inJ2 : ∀ w ∈ wsJ20, w ∈ lw_tbl := by decide +kernel
theorem inJ10 : ∀ w ∈ wsJ100, w ∈ lw_tbl := by decide +kernel
theorem inJxfd54e : ∀ w ∈ wsJxfd54e0, w ∈ lw_tbl := by decide +kernel
theorem inJx3cf43 : ∀ w ∈ wsJx3cf430, w ∈ lw_tbl := by decide +kernel
theorem inJ7 : ∀ w ∈ wsJ70, w ∈ lw_tbl := by decide +kernel
theorem inJ8 : ∀ w ∈ wsJ80, w ∈ lw_tbl := by decide +kernel
theorem inJ3 : ∀ w ∈ wsJ30, w ∈ lw_tbl := by decide +kernel

