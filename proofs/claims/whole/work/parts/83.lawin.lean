def lw_six : List MethodName := [⟨"java/lang/AbstractStringBuilder", "appendNull", "()Ljava/lang/AbstractStringBuilder;"⟩, ⟨"java/lang/AbstractStringBuilder", "ensureCapacityInternal", "(I)V"⟩, ⟨"java/lang/AbstractStringBuilder", "newCapacity", "(I)I"⟩, ⟨"java/lang/AbstractStringBuilder", "putStringAt", "(ILjava/lang/String;)V"⟩, ⟨"java/lang/AbstractStringBuilder", "inflateIfNeededFor", "(Ljava/lang/String;)V"⟩, ⟨"java/lang/AbstractStringBuilder", "inflate", "()V"⟩]
def lw_tbl2 : List Cond := lw_six.map (fun y => Cond.selects "java/lang/StringBuilder" y y) ++ lw_tbl
theorem lw_sel {C : String} {y : MethodName} {s : State} {args : Array Value} {n : Nat} (hy : y.cls ≠ "java/lang/invoke/MethodHandle" ∧ y.cls ≠ "java/lang/invoke/VarHandle")
    (hins : (Cond.instantiable C n).before args s = true) (hpriv : (Cond.privateMethod y).before args s = true) (hinst : (Cond.instanceMethod y).before args s = true) (hsame : (Cond.sameMethod y.cls y.cls y.name y.desc).before args s = true) :
    (Cond.selects C y y).before args s = true := by
  obtain ⟨ci, kl, hc, -, -, -, -, -⟩ := Cond.instantiable_spec hins
  obtain ⟨mk, methM, hnamed, hmethM, -, -⟩ := Cond.instanceMethod_spec hinst
  have hfound : s.methodFound? y.cls y.name y.desc = some mk := State.methodFound?_of_named hnamed hy
  obtain ⟨-, k2, hk2, hni⟩ := Cond.sameMethod_spec (findClass_of_methodNamed hnamed) hfound hsame
  have hsel : selectMethod {} s.vm ci mk = .method mk := selectMethod_private hmethM (Cond.privateMethod_at hpriv mk methM hnamed hmethM)
  simp only [Cond.before, Cond.holds, Cond.value, hc, hfound, hnamed, hsel, hk2]
  simp; exact hni
theorem lw_six_ok : ∀ y ∈ lw_six, (y.cls ≠ "java/lang/invoke/MethodHandle" ∧ y.cls ≠ "java/lang/invoke/VarHandle") ∧ Cond.privateMethod y ∈ lw_tbl ∧ Cond.instanceMethod y ∈ lw_tbl ∧ Cond.sameMethod y.cls y.cls y.name y.desc ∈ lw_tbl := by decide +kernel
theorem lw_ins4 : Cond.instantiable "java/lang/StringBuilder" 4 ∈ lw_tbl := by decide +kernel
theorem lw_hts2 {s : State} {args : Array Value} (h : ∀ w ∈ lw_tbl, w.before args s = true) : ∀ w ∈ lw_tbl2, w.before args s = true := by
  intro w hw
  rcases List.mem_append.mp hw with hw | hw
  · obtain ⟨y, hy, rfl⟩ := List.mem_map.mp hw
    obtain ⟨h0, h1, h2, h3⟩ := lw_six_ok y hy
    exact lw_sel h0 (h _ lw_ins4) (h _ h1) (h _ h2) (h _ h3)
  · exact h w hw
set_option maxRecDepth 20000 in
theorem wl_1 : GoodIn lw_tbl2 wsL_law0_r1 := goodIn_p wsL_law0_r1 [114, 117] (by decide +kernel) (by decide +kernel)
set_option maxRecDepth 20000 in
theorem wl_2 : GoodIn lw_tbl2 wsL_law0_r2 := goodIn_p wsL_law0_r2 [122] (by decide +kernel) (by decide +kernel)
set_option maxRecDepth 20000 in
theorem wl_3 : GoodIn lw_tbl2 wsL_law0_r3 := goodIn_p wsL_law0_r3 [128] (by decide +kernel) (by decide +kernel)
set_option maxRecDepth 20000 in
theorem wl_4 : GoodIn lw_tbl2 wsL_law0_r4 := goodIn_p wsL_law0_r4 [180, 208, 280] (by decide +kernel) (by decide +kernel)
set_option maxRecDepth 20000 in
theorem wl_5 : GoodIn lw_tbl2 wsL_law0_r5 := goodIn_p wsL_law0_r5 [300, 310, 328] (by decide +kernel) (by decide +kernel)
set_option maxRecDepth 20000 in
theorem wl_6 : GoodIn lw_tbl2 wsL_law0_r6 := goodIn_p wsL_law0_r6 [365, 368, 374, 377] (by decide +kernel) (by decide +kernel)
set_option maxRecDepth 20000 in
theorem wl_7 : GoodIn lw_tbl2 wsL_law0_r7 := goodIn_p wsL_law0_r7 [1615, 593] (by decide +kernel) (by decide +kernel)
set_option maxRecDepth 20000 in
theorem wl_8 : GoodIn lw_tbl2 wsL_law0_r8 := goodIn_p wsL_law0_r8 [597, 600, 609, 461] (by decide +kernel) (by decide +kernel)
set_option maxRecDepth 20000 in
theorem wl_9 : GoodIn lw_tbl2 wsL_law0_r9 := goodIn_p wsL_law0_r9 [484, 465, 469, 476] (by decide +kernel) (by decide +kernel)
set_option maxRecDepth 20000 in
theorem wl_10 : GoodIn lw_tbl2 wsL_law0_r10 := goodIn_p wsL_law0_r10 [481, 720, 1673, 1677, 1680, 1684, 1687] (by decide +kernel) (by decide +kernel)
set_option maxRecDepth 20000 in
theorem wl_11 : GoodIn lw_tbl2 wsL_law0_r11 := goodIn_p wsL_law0_r11 [1691, 1695, 1699, 1669] (by decide +kernel) (by decide +kernel)
set_option maxRecDepth 20000 in
theorem wl_12 : GoodIn lw_tbl2 wsL_law0_r12 := goodIn_p wsL_law0_r12 [748, 752, 504, 758, 762] (by decide +kernel) (by decide +kernel)
set_option maxRecDepth 20000 in
theorem wl_13 : GoodIn lw_tbl2 wsL_law0_r13 := goodIn_p wsL_law0_r13 [766, 1703, 1707, 1711, 1715] (by decide +kernel) (by decide +kernel)
set_option maxRecDepth 20000 in
theorem wl_14 : GoodIn lw_tbl2 wsL_law0_r14 := goodIn_p wsL_law0_r14 [773, 777, 1719, 1723, 784] (by decide +kernel) (by decide +kernel)
set_option maxRecDepth 20000 in
theorem wl_15 : GoodIn lw_tbl2 wsL_law0_r15 := goodIn_p wsL_law0_r15 [1727, 791, 795, 1731] (by decide +kernel) (by decide +kernel)
set_option maxRecDepth 20000 in
theorem wl_16 : GoodIn lw_tbl2 wsL_law0_r16 := goodIn_p wsL_law0_r16 [1735, 803, 1739, 437, 1743] (by decide +kernel) (by decide +kernel)
set_option maxRecDepth 20000 in
theorem wl_17 : GoodIn lw_tbl2 wsL_law0_r17 := goodIn_p wsL_law0_r17 [810, 1747, 1751, 817, 1755] (by decide +kernel) (by decide +kernel)
set_option maxRecDepth 20000 in
theorem wl_18 : GoodIn lw_tbl2 wsL_law0_r18 := goodIn_p wsL_law0_r18 [824, 1759, 831, 1763] (by decide +kernel) (by decide +kernel)
set_option maxRecDepth 20000 in
theorem wl_19 : GoodIn lw_tbl2 wsL_law0_r19 := goodIn_p wsL_law0_r19 [838, 1767, 845, 1771] (by decide +kernel) (by decide +kernel)
set_option maxRecDepth 20000 in
theorem wl_20 : GoodIn lw_tbl2 wsL_law0_r20 := goodIn_p wsL_law0_r20 [852, 1775, 859, 863] (by decide +kernel) (by decide +kernel)
set_option maxRecDepth 20000 in
theorem wl_21 : GoodIn lw_tbl2 wsL_law0_r21 := goodIn_p wsL_law0_r21 [867, 562, 566, 545, 571] (by decide +kernel) (by decide +kernel)
set_option maxRecDepth 20000 in
theorem wl_22 : GoodIn lw_tbl2 wsL_law0_r22 := goodIn_p wsL_law0_r22 [1779, 1783, 1787, 1791, 1795, 1799] (by decide +kernel) (by decide +kernel)
set_option maxRecDepth 20000 in
theorem wl_23 : GoodIn lw_tbl2 wsL_law0_r23 := goodIn_p wsL_law0_r23 [1802, 876, 880, 885, 1806] (by decide +kernel) (by decide +kernel)
set_option maxRecDepth 20000 in
theorem wl_24 : GoodIn lw_tbl2 wsL_law0_r24 := goodIn_p wsL_law0_r24 [1810, 892, 896, 900, 1814] (by decide +kernel) (by decide +kernel)
set_option maxRecDepth 20000 in
theorem wl_25 : GoodIn lw_tbl2 wsL_law0_r25 := goodIn_p wsL_law0_r25 [1818, 907, 911, 915, 1822, 1826] (by decide +kernel) (by decide +kernel)
set_option maxRecDepth 20000 in
theorem wl_26 : GoodIn lw_tbl2 wsL_law0_r26 := goodIn_p wsL_law0_r26 [922, 926, 1830, 933] (by decide +kernel) (by decide +kernel)
set_option maxRecDepth 20000 in
theorem wl_27 : GoodIn lw_tbl2 wsL_law0_r27 := goodIn_p wsL_law0_r27 [937, 941, 1834, 1838, 441] (by decide +kernel) (by decide +kernel)
set_option maxRecDepth 20000 in
theorem wl_28 : GoodIn lw_tbl2 wsL_law0_r28 := goodIn_p wsL_law0_r28 [1842, 445, 1846, 449, 1850] (by decide +kernel) (by decide +kernel)
set_option maxRecDepth 20000 in
theorem wl_29 : GoodIn lw_tbl2 wsL_law0_r29 := goodIn_p wsL_law0_r29 [948, 952, 1854, 959, 575] (by decide +kernel) (by decide +kernel)
set_option maxRecDepth 20000 in
theorem wl_30 : GoodIn lw_tbl2 wsL_law0_r30 := goodIn_p wsL_law0_r30 [579, 1858, 966, 970] (by decide +kernel) (by decide +kernel)
set_option maxRecDepth 20000 in
theorem wl_31 : GoodIn lw_tbl2 wsL_law0_r31 := goodIn_p wsL_law0_r31 [974, 1863, 1867, 981, 985] (by decide +kernel) (by decide +kernel)
set_option maxRecDepth 20000 in
theorem wl_32 : GoodIn lw_tbl2 wsL_law0_r32 := goodIn_p wsL_law0_r32 [989, 1871, 1875, 1879, 453, 1883] (by decide +kernel) (by decide +kernel)
set_option maxRecDepth 20000 in
theorem wl_33 : GoodIn lw_tbl2 wsL_law0_r33 := goodIn_p wsL_law0_r33 [997, 1887, 1004, 1891] (by decide +kernel) (by decide +kernel)
set_option maxRecDepth 20000 in
theorem wl_34 : GoodIn lw_tbl2 wsL_law0_r34 := goodIn_p wsL_law0_r34 [1011, 1895, 1018, 508, 1899] (by decide +kernel) (by decide +kernel)
set_option maxRecDepth 20000 in
theorem wl_35 : GoodIn lw_tbl2 wsL_law0_r35 := goodIn_p wsL_law0_r35 [457, 488, 492] (by decide +kernel) (by decide +kernel)
set_option maxRecDepth 20000 in
theorem wl_36 : GoodIn lw_tbl2 wsL_law0_r36 := goodIn_p wsL_law0_r36 [496, 500, 512, 516] (by decide +kernel) (by decide +kernel)
set_option maxRecDepth 20000 in
theorem wl_37 : GoodIn lw_tbl2 wsL_law0_r37 := goodIn_p wsL_law0_r37 [520, 1903, 1907, 1911, 1915, 1919] (by decide +kernel) (by decide +kernel)
set_option maxRecDepth 20000 in
theorem wl_38 : GoodIn lw_tbl2 wsL_law0_r38 := goodIn_p wsL_law0_r38 [1923, 524, 1927, 1026] (by decide +kernel) (by decide +kernel)
set_option maxRecDepth 20000 in
theorem wl_39 : GoodIn lw_tbl2 wsL_law0_r39 := goodIn_p wsL_law0_r39 [1931, 1034, 1038, 1935, 1939] (by decide +kernel) (by decide +kernel)
set_option maxRecDepth 20000 in
theorem wl_40 : GoodIn lw_tbl2 wsL_law0_r40 := goodIn_p wsL_law0_r40 [1046, 1050, 1943, 1057, 1060] (by decide +kernel) (by decide +kernel)
set_option maxRecDepth 20000 in
theorem wl_41 : GoodIn lw_tbl2 wsL_law0_r41 := goodIn_p wsL_law0_r41 [532, 1948, 1952, 1069, 1956] (by decide +kernel) (by decide +kernel)
set_option maxRecDepth 20000 in
theorem wl_42 : GoodIn lw_tbl2 wsL_law0_r42 := goodIn_p wsL_law0_r42 [528, 1960, 1076, 1080, 1084] (by decide +kernel) (by decide +kernel)
set_option maxRecDepth 20000 in
theorem wl_43 : GoodIn lw_tbl2 wsL_law0_r43 := goodIn_p wsL_law0_r43 [1088, 1092, 541, 1964, 1968, 1972] (by decide +kernel) (by decide +kernel)
set_option maxRecDepth 20000 in
theorem wl_44 : GoodIn lw_tbl2 wsL_law0_r44 := goodIn_p wsL_law0_r44 [1976, 1100, 1980, 1110] (by decide +kernel) (by decide +kernel)
set_option maxRecDepth 20000 in
theorem wl_45 : GoodIn lw_tbl2 wsL_law0_r45 := goodIn_p wsL_law0_r45 [1984, 537, 1988, 1134] (by decide +kernel) (by decide +kernel)
set_option maxRecDepth 20000 in
theorem wl_46 : GoodIn lw_tbl2 wsL_law0_r46 := goodIn_p wsL_law0_r46 [1138, 1143, 1147, 1992, 1996, 2000] (by decide +kernel) (by decide +kernel)
set_option maxRecDepth 20000 in
theorem wl_47 : GoodIn lw_tbl2 wsL_law0_r47 := goodIn_p wsL_law0_r47 [1154, 2004, 1161, 1165] (by decide +kernel) (by decide +kernel)
set_option maxRecDepth 20000 in
theorem wl_48 : GoodIn lw_tbl2 wsL_law0_r48 := goodIn_p wsL_law0_r48 [1168, 1191, 1195, 1198] (by decide +kernel) (by decide +kernel)
set_option maxRecDepth 20000 in
theorem wl_49 : GoodIn lw_tbl2 wsL_law0_r49 := goodIn_p wsL_law0_r49 [1201, 1205, 1209, 1223] (by decide +kernel) (by decide +kernel)
set_option maxRecDepth 20000 in
theorem wl_50 : GoodIn lw_tbl2 wsL_law0_r50 := goodIn_p wsL_law0_r50 [1391, 1394, 1397, 1413, 1296, 1299] (by decide +kernel) (by decide +kernel)
set_option maxRecDepth 20000 in
theorem wl_51 : GoodIn lw_tbl2 wsL_law0_r51 := goodIn_p wsL_law0_r51 [1302, 1305, 1312, 1229, 1232, 1235] (by decide +kernel) (by decide +kernel)
set_option maxRecDepth 20000 in
theorem wl_52 : GoodIn lw_tbl2 wsL_law0_r52 := goodIn_p wsL_law0_r52 [1240, 1315, 1243, 1419, 1422] (by decide +kernel) (by decide +kernel)
set_option maxRecDepth 20000 in
theorem wl_53 : GoodIn lw_tbl2 wsL_law0_r53 := goodIn_p wsL_law0_r53 [1425, 1271, 1274, 1277, 1280, 1283, 1286, 1428] (by decide +kernel) (by decide +kernel)
set_option maxRecDepth 20000 in
theorem wl_54 : GoodIn lw_tbl2 wsL_law0_r54 := goodIn_p wsL_law0_r54 [1431, 1434, 1437, 1340, 1342, 2008] (by decide +kernel) (by decide +kernel)
set_option maxRecDepth 20000 in
theorem wl_55 : GoodIn lw_tbl2 wsL_law0_r55 := goodIn_p wsL_law0_r55 [2012, 2016, 1445, 1450, 1453] (by decide +kernel) (by decide +kernel)
set_option maxRecDepth 20000 in
theorem wl_56 : GoodIn lw_tbl2 wsL_law0_r56 := goodIn_p wsL_law0_r56 [1369, 2020, 1477, 2024] (by decide +kernel) (by decide +kernel)
set_option maxRecDepth 20000 in
theorem wl_57 : GoodIn lw_tbl2 wsL_law0_r57 := goodIn_p wsL_law0_r57 [549, 553, 558, 2028] (by decide +kernel) (by decide +kernel)
set_option maxRecDepth 20000 in
theorem wl_58 : GoodIn lw_tbl2 wsL_law0_r58 := goodIn_p wsL_law0_r58 [1487, 1492, 1497, 2032, 1504] (by decide +kernel) (by decide +kernel)
set_option maxRecDepth 20000 in
theorem wl_59 : GoodIn lw_tbl2 wsL_law0_r59 := goodIn_p wsL_law0_r59 [1508, 1512, 1516, 1522] (by decide +kernel) (by decide +kernel)
set_option maxRecDepth 20000 in
theorem wl_60 : GoodIn lw_tbl2 wsL_law0_r60 := goodIn_p wsL_law0_r60 [1253, 1257, 1527, 1531, 1534, 1538] (by decide +kernel) (by decide +kernel)
set_option maxRecDepth 20000 in
theorem wl_61 : GoodIn lw_tbl2 wsL_law0_r61 := goodIn_p wsL_law0_r61 [1543, 1547, 1551, 1556] (by decide +kernel) (by decide +kernel)
set_option maxRecDepth 20000 in
theorem wl_62 : GoodIn lw_tbl2 wsL_law0_r62 := goodIn_p wsL_law0_r62 [1560, 1568, 1573, 2036, 2040] (by decide +kernel) (by decide +kernel)
set_option maxRecDepth 20000 in
theorem wl_63 : GoodIn lw_tbl2 wsL_law0_r63 := goodIn_p wsL_law0_r63 [2044, 2048, 2052, 2056, 2060, 2064] (by decide +kernel) (by decide +kernel)
set_option maxRecDepth 20000 in
theorem wl_64 : GoodIn lw_tbl2 wsL_law0_r64 := goodIn_p wsL_law0_r64 [2068, 1581, 2072, 1589] (by decide +kernel) (by decide +kernel)
set_option maxRecDepth 20000 in
theorem wl_65 : GoodIn lw_tbl2 wsL_law0_r65 := goodIn_p wsL_law0_r65 [2076, 1597, 1602, 2080, 583] (by decide +kernel) (by decide +kernel)
set_option maxRecDepth 20000 in
theorem wl_66 : GoodIn lw_tbl2 wsL_law0_r66 := goodIn_p wsL_law0_r66 [2084, 1609, 2088] (by decide +kernel) (by decide +kernel)
set_option maxRecDepth 20000 in
theorem wl_wsX110 : GoodIn lw_tbl2 wsX110 := goodIn_of wsX110 (by decide +kernel)
set_option maxRecDepth 20000 in
theorem wl_wsX120 : GoodIn lw_tbl2 wsX120 := goodIn_of wsX120 (by decide +kernel)
set_option maxRecDepth 20000 in
theorem wl_wsX90 : GoodIn lw_tbl2 wsX90 := goodIn_of wsX90 (by decide +kernel)
set_option maxRecDepth 20000 in
theorem wl_wsX40 : GoodIn lw_tbl2 wsX40 := goodIn_of wsX40 (by decide +kernel)
set_option maxRecDepth 20000 in
theorem wl_wsX70 : GoodIn lw_tbl2 wsX70 := goodIn_of wsX70 (by decide +kernel)
set_option maxRecDepth 20000 in
theorem wl_wsX10 : GoodIn lw_tbl2 wsX10 := goodIn_of wsX10 (by decide +kernel)
set_option maxRecDepth 20000 in
theorem wl_wsX30 : GoodIn lw_tbl2 wsX30 := goodIn_of wsX30 (by decide +kernel)
set_option maxRecDepth 20000 in
theorem wl_wsJ40 : GoodIn lw_tbl2 wsJ40 := goodIn_of wsJ40 (by decide +kernel)
set_option maxRecDepth 20000 in
theorem wl_wsX50 : GoodIn lw_tbl2 wsX50 := goodIn_of wsX50 (by decide +kernel)
set_option maxRecDepth 20000 in
theorem wl_wsX60 : GoodIn lw_tbl2 wsX60 := goodIn_of wsX60 (by decide +kernel)
set_option maxRecDepth 20000 in
theorem wl_wsX20 : GoodIn lw_tbl2 wsX20 := goodIn_of wsX20 (by decide +kernel)
set_option maxRecDepth 20000 in
theorem wl_wsJx7c7330 : GoodIn lw_tbl2 wsJx7c7330 := goodIn_of wsJx7c7330 (by decide +kernel)
set_option maxRecDepth 20000 in
theorem wl_wsJx000600 : GoodIn lw_tbl2 wsJx000600 := goodIn_of wsJx000600 (by decide +kernel)
set_option maxRecDepth 20000 in
theorem wl_wsJ00 : GoodIn lw_tbl2 wsJ00 := goodIn_of wsJ00 (by decide +kernel)
theorem wsL_law_in0 : ∀ w ∈ wsL_law0, w ∈ lw_tbl2 := fun w h => (show GoodIn lw_tbl2 wsL_law0 from goodIn_app (goodIn_app (goodIn_app (goodIn_app (goodIn_app (goodIn_app (goodIn_app (goodIn_app (goodIn_app (goodIn_app (goodIn_app (goodIn_app (goodIn_app (goodIn_app (goodIn_app (goodIn_app wl_1 (goodIn_app wl_2 (goodIn_app wl_3 (goodIn_app wl_4 (goodIn_app wl_5 (goodIn_app wl_6 (goodIn_app wl_7 (goodIn_app wl_8 (goodIn_app wl_9 (goodIn_app wl_10 (goodIn_app wl_11 (goodIn_app wl_12 (goodIn_app wl_13 (goodIn_app wl_14 (goodIn_app wl_15 (goodIn_app wl_16 (goodIn_app wl_17 (goodIn_app wl_18 (goodIn_app wl_19 (goodIn_app wl_20 (goodIn_app wl_21 (goodIn_app wl_22 (goodIn_app wl_23 (goodIn_app wl_24 (goodIn_app wl_25 (goodIn_app wl_26 (goodIn_app wl_27 (goodIn_app wl_28 (goodIn_app wl_29 (goodIn_app wl_30 (goodIn_app wl_31 (goodIn_app wl_32 (goodIn_app wl_33 (goodIn_app wl_34 (goodIn_app wl_35 (goodIn_app wl_36 (goodIn_app wl_37 (goodIn_app wl_38 (goodIn_app wl_39 (goodIn_app wl_40 (goodIn_app wl_41 (goodIn_app wl_42 (goodIn_app wl_43 (goodIn_app wl_44 (goodIn_app wl_45 (goodIn_app wl_46 (goodIn_app wl_47 (goodIn_app wl_48 (goodIn_app wl_49 (goodIn_app wl_50 (goodIn_app wl_51 (goodIn_app wl_52 (goodIn_app wl_53 (goodIn_app wl_54 (goodIn_app wl_55 (goodIn_app wl_56 (goodIn_app wl_57 (goodIn_app wl_58 (goodIn_app wl_59 (goodIn_app wl_60 (goodIn_app wl_61 (goodIn_app wl_62 (goodIn_app wl_63 (goodIn_app wl_64 (goodIn_app wl_65 (wl_66)))))))))))))))))))))))))))))))))))))))))))))))))))))))))))))))))) wl_wsX110) wl_wsX120) wl_wsX90) wl_wsX40) wl_wsX70) wl_wsX10) wl_wsX30) wl_wsJ40) wl_wsX50) wl_wsX60) wl_wsX20) wl_wsJx7c7330) wl_wsJx000600) wl_wsJ00) (fun _ h => absurd h List.not_mem_nil)) w h |>.1
theorem wsL_law_x0 : ∀ w ∈ (vx_atM "java/lang/ArrayIndexOutOfBoundsException" ["java/lang/IndexOutOfBoundsException", "java/lang/RuntimeException", "java/lang/Exception"]).filter goodWord, w ∈ lw_tbl2 := by decide +kernel
theorem wsL_law_x1 : ∀ w ∈ (vx_atS RX11 306 "java/lang/IndexOutOfBoundsException" ["java/lang/RuntimeException", "java/lang/Exception"]).filter goodWord, w ∈ lw_tbl2 := by decide +kernel
theorem wsL_law_x2 : ∀ w ∈ (vx_atS RX11 266 "java/lang/IllegalArgumentException" ["java/lang/RuntimeException", "java/lang/Exception"]).filter goodWord, w ∈ lw_tbl2 := by decide +kernel
theorem wsL_law_x3 : ∀ w ∈ (vx_atS RX11 334 "java/lang/IllegalStateException" ["java/lang/RuntimeException", "java/lang/Exception"]).filter goodWord, w ∈ lw_tbl2 := by decide +kernel
theorem wsL_law_x4 : ∀ w ∈ (vx_atM "java/lang/ArithmeticException" ["java/lang/RuntimeException", "java/lang/Exception"]).filter goodWord, w ∈ lw_tbl2 := by decide +kernel
theorem wsL_law_x5 : ∀ w ∈ (xn_at RX11 276).filter goodWord, w ∈ lw_tbl2 := by decide +kernel
theorem wsL_law_x6 : ∀ w ∈ (vx_atS RX11 313 "java/lang/ArithmeticException" ["java/lang/RuntimeException", "java/lang/Exception"]).filter goodWord, w ∈ lw_tbl2 := by decide +kernel
theorem wsL_law_in : ∀ w ∈ wsL_law, w ∈ lw_tbl2 := fun w h => (List.mem_append.mp h).elim (fun h => (List.mem_append.mp h).elim (fun h => (List.mem_append.mp h).elim (fun h => (List.mem_append.mp h).elim (fun h => (List.mem_append.mp h).elim (fun h => (List.mem_append.mp h).elim (fun h => (List.mem_append.mp h).elim (fun h => wsL_law_in0 w h) (fun h => wsL_law_x0 w h)) (fun h => wsL_law_x1 w h)) (fun h => wsL_law_x2 w h)) (fun h => wsL_law_x3 w h)) (fun h => wsL_law_x4 w h)) (fun h => wsL_law_x5 w h)) (fun h => wsL_law_x6 w h)
