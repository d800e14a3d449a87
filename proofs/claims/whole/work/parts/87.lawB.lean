section LCASES
variable {G : xG} {p : Program} {l : Launch} {e : Env} {s : State} {m : MethodId} {args : Array Value} {below : List Frame} {meth : Method} {c : Code} {cells slots B b L i : Nat} {Q : State → Prop} {d : xd} {xs : Nat → Int32}
set_option maxHeartbeats 1000000 in
set_option maxRecDepth 100000 in
theorem law_19 (C : Cx G p s m args c code (wsL_law ++ ws_cl) RL 9) (hfl : l.stackTraces = false) (h : y_Z B d) (hB : B + 180 < 100000) (hX : va_X b L xs s s.heap) (hbl : b < s.heap.size) (hbA : ¬ x_A G b) (hL : L < 2000) (hi : i + 3 ≤ L) (hc : cells + 1 ≤ 603072) (hs : slots + 6 ≤ 7170154) (K : ∀ (G2 : xG) (d2 : xd), x_b G2 = x_b G → Cx G2 p s m args c code (wsL_law ++ ws_cl) RL 9 → y_Z (B + 180) d2 → Ab G2 p l e room_1 s m args below meth c 9 (cells + 1) (slots + 6) Q 3091 [(5, .int (nI i)), (0, .ref b), (1, .ref (x_b G2 + 0)), (2, .ref (x_b G2 + 175)), (3, .ref (x_b G2 + 183)), (4, .ref (x_b G2 + 184))] [] d2) : Ab G p l e room_1 s m args below meth c 9 cells slots Q 1402 [(5, .int (nI i)), (0, .ref b), (1, .ref (x_b G + 0)), (2, .ref (x_b G + 175)), (3, .ref (x_b G + 183)), (4, .ref (x_b G + 184))] [] d := by
  obtain ⟨k, r, d1, hk3, hcl, hm⟩ := y_S.two (s_payDividend (l := l) hfl h hB)
  refine a_aload_n C dL_law_1402 2 rfl ?_
  refine a_aload_n C dL_law_1403 4 rfl ?_
  refine a_callL (G2 := (if k = 0 then x_sl G r.toInt64 else G)) (g2_sl_b _ _ _) C (As := [.ref (x_b G + 0), .ref (x_b G + 183)]) (rest := []) (w_payDividend l G d d1  k r hcl) (vx_cwSW 2 C.1.2.2.2.2 (gl_law gL_law_L_payDividend) rfl rfl rfl (by decide +kernel) ⟨Nat.le_of_ble_eq_true rfl, Nat.le_of_ble_eq_true rfl⟩) rfl rfl (Nat.le_of_ble_eq_true rfl) dL_law_1404 ⟨hc, hs⟩ (g2_sl_D _ _ _) ?_
  have C2 := C.sl_if k r.toInt64
  have hb2 := g2_sl_b G r.toInt64 k
  have hl2 := g2_sl_v G r.toInt64 k
  generalize (if k = 0 then x_sl G r.toInt64 else G) = G2 at C2 hb2 hl2 ⊢
  have hbA2 : ¬ x_A G2 b := by
    unfold x_A
    rw [hb2]
    exact hbA
  rw [← hb2]
  obtain ⟨b0, d2, lv, hlv, hm2, h12, hrb, hz⟩ := hm G2
  refine a_istore C2 dL_law_1407 (by decide) (lst2 := [(6, .int (nI k)), (5, .int (nI i)), (0, .ref b), (1, .ref (x_b G2 + 0)), (2, .ref (x_b G2 + 175)), (3, .ref (x_b G2 + 183)), (4, .ref (x_b G2 + 184))]) rfl ?_
  refine a_aload_n C2 dL_law_1409 4 rfl ?_
  refine a_callV C2 (k := 175) (As := []) (rest := []) hm2 (cwV 0 C2.1.2.2.2.2 (gl_up gL_law_X12_payDividend) rfl rfl rfl (by decide +kernel) ⟨by dsimp only [x_rm, room_1]; omega, by dsimp only [x_rm, room_1]; omega⟩) x_k175 (q := (RX12, TX12, 16)) rfl rfl rfl rfl (Nat.le_of_ble_eq_true rfl) dL_law_1410 ⟨hc, hs⟩ ?_
  refine a_istore C2 dL_law_1413 (by decide) (lst2 := [(7, .int b0), (6, .int (nI k)), (5, .int (nI i)), (0, .ref b), (1, .ref (x_b G2 + 0)), (2, .ref (x_b G2 + 175)), (3, .ref (x_b G2 + 183)), (4, .ref (x_b G2 + 184))]) rfl ?_
  refine a_aload_n C2 dL_law_1415 5 rfl ?_
  refine a_callV C2 (k := 175) (As := []) (rest := []) (c_M_thrown l G2 d2) (cwV 0 C2.1.2.2.2.2 (gl_up gL_law_X12_thrown) rfl rfl rfl (by decide +kernel) ⟨Nat.le_of_ble_eq_true rfl, Nat.le_of_ble_eq_true rfl⟩) x_k175 (q := (RX12, TX12, 16)) rfl rfl rfl rfl (Nat.le_of_ble_eq_true rfl) dL_law_1416 ⟨hc, hs⟩ ?_
  refine a_iload C2 dL_law_1419 1 rfl ?_
  refine a_icmp_eq C2 dL_law_1421 (tgt := 1426) (by decide) (fun _ => ?_) (fun hn => absurd h12 hn)
  refine a_iload C2 dL_law_1426 1 rfl ?_
  have FIN : Ab G2 p l e room_1 s m args below meth c 9 (cells + 1) (slots + 6) Q 1443 [(7, .int b0), (6, .int (nI k)), (5, .int (nI i)), (0, .ref b), (1, .ref (x_b G2 + 0)), (2, .ref (x_b G2 + 175)), (3, .ref (x_b G2 + 183)), (4, .ref (x_b G2 + 184))] [] d2 := a_goto C2 dL_law_1443 (tgt := 3091) (by decide) (a_sub (lst2 := [(5, .int (nI i)), (0, .ref b), (1, .ref (x_b G2 + 0)), (2, .ref (x_b G2 + 175)), (3, .ref (x_b G2 + 183)), (4, .ref (x_b G2 + 184))]) [2, 3, 4, 5, 6, 7] rfl (K G2 d2 hb2 C2 hz))
  refine a_if_ne C2 dL_law_1428 (tgt := 1443) (by decide) (fun _ => FIN) (fun hk0 => ?_)
  have hk : k = 0 := by
    rcases Nat.eq_zero_or_pos k with y | y
    · exact y
    · exact absurd hk0 (nI_ne0 (by omega) (by omega))
  refine a_aload_n C2 dL_law_1431 6 rfl ?_
  refine a_iconst C2 dL_law_1432 (v := 0) (by decide) ?_
  refine a_lald C2 dL_law_1433 ?_
  refine a_iload C2 dL_law_1434 0 rfl ?_
  refine a_i2l C2 dL_law_1436 ?_
  refine a_lcmp C2 dL_law_1437 ?_
  exact a_if_eq C2 dL_law_1438 (tgt := 1443) (by decide) (fun _ => FIN) (fun hn => absurd ((lg_cmp_eq _ _).mpr (by rw [hl2 hk, hrb hk])) hn)
set_option maxHeartbeats 1000000 in
set_option maxRecDepth 100000 in
theorem law_20 (C : Cx G p s m args c code (wsL_law ++ ws_cl) RL 9) (hfl : l.stackTraces = false) (h : y_Z B d) (hB : B + 180 < 100000) (hX : va_X b L xs s s.heap) (hbl : b < s.heap.size) (hbA : ¬ x_A G b) (hL : L < 2000) (hi : i + 3 ≤ L) (hc : cells + 1 ≤ 603072) (hs : slots + 6 ≤ 7170154) (K : ∀ (G2 : xG) (d2 : xd), x_b G2 = x_b G → Cx G2 p s m args c code (wsL_law ++ ws_cl) RL 9 → y_Z (B + 180) d2 → Ab G2 p l e room_1 s m args below meth c 9 (cells + 1) (slots + 6) Q 3091 [(5, .int (nI i)), (0, .ref b), (1, .ref (x_b G2 + 0)), (2, .ref (x_b G2 + 175)), (3, .ref (x_b G2 + 183)), (4, .ref (x_b G2 + 184))] [] d2) : Ab G p l e room_1 s m args below meth c 9 cells slots Q 1446 [(5, .int (nI i)), (0, .ref b), (1, .ref (x_b G + 0)), (2, .ref (x_b G + 175)), (3, .ref (x_b G + 183)), (4, .ref (x_b G + 184))] [] d := by
  obtain ⟨r, d1, d2, ⟨lv, hlv, hc1⟩, ⟨lv2, hlv2, hc2⟩, hz⟩ := s_reserve (l := l) h hB
  refine a_aload_n C dL_law_1446 2 rfl ?_
  refine a_callV C (k := 0) (As := []) (rest := []) (hc1 G) (cwV 0 C.1.2.2.2.2 (gl_up gL_law_X11_reserve) rfl rfl rfl (by decide +kernel) ⟨by dsimp only [x_rm, room_1]; omega, by dsimp only [x_rm, room_1]; omega⟩) x_k0 (q := (RX11, TX11, 13)) rfl rfl rfl rfl (Nat.le_of_ble_eq_true rfl) dL_law_1447 ⟨by show cells ≤ 603072; omega, by show slots ≤ 7170154; omega⟩ ?_
  refine a_aload_n C dL_law_1450 3 rfl ?_
  refine a_callV C (k := 175) (As := []) (rest := [.int r]) (hc2 G) (cwV 0 C.1.2.2.2.2 (gl_up gL_law_X12_reserve) rfl rfl rfl (by decide +kernel) ⟨by dsimp only [x_rm, room_1]; omega, by dsimp only [x_rm, room_1]; omega⟩) x_k175 (q := (RX12, TX12, 16)) rfl rfl rfl rfl (Nat.le_of_ble_eq_true rfl) dL_law_1451 ⟨by show cells ≤ 603072; omega, by show slots ≤ 7170154; omega⟩ ?_
  refine a_icmp_eq C dL_law_1454 (tgt := 3091) (by decide) (fun _ => ?_) (fun hn => absurd rfl hn)
  refine a_widen (k := cells + 1) (n := slots + 6) (by omega) (by omega) ?_
  exact K G d2 rfl C hz
set_option maxHeartbeats 1000000 in
set_option maxRecDepth 100000 in
theorem law_21 (C : Cx G p s m args c code (wsL_law ++ ws_cl) RL 9) (hfl : l.stackTraces = false) (h : y_Z B d) (hB : B + 180 < 100000) (hX : va_X b L xs s s.heap) (hbl : b < s.heap.size) (hbA : ¬ x_A G b) (hL : L < 2000) (hi : i + 3 ≤ L) (hc : cells + 1 ≤ 603072) (hs : slots + 6 ≤ 7170154) (K : ∀ (G2 : xG) (d2 : xd), x_b G2 = x_b G → Cx G2 p s m args c code (wsL_law ++ ws_cl) RL 9 → y_Z (B + 180) d2 → Ab G2 p l e room_1 s m args below meth c 9 (cells + 1) (slots + 6) Q 3091 [(5, .int (nI i)), (0, .ref b), (1, .ref (x_b G2 + 0)), (2, .ref (x_b G2 + 175)), (3, .ref (x_b G2 + 183)), (4, .ref (x_b G2 + 184))] [] d2) : Ab G p l e room_1 s m args below meth c 9 cells slots Q 1459 [(5, .int (nI i)), (0, .ref b), (1, .ref (x_b G + 0)), (2, .ref (x_b G + 175)), (3, .ref (x_b G + 183)), (4, .ref (x_b G + 184))] [] d := by
  obtain ⟨r, d1, d2, ⟨lv, hlv, hc1⟩, ⟨lv2, hlv2, hc2⟩, hz⟩ := s_pool (l := l) h hB
  refine a_aload_n C dL_law_1459 2 rfl ?_
  refine a_callV C (k := 0) (As := []) (rest := []) (hc1 G) (cwV 0 C.1.2.2.2.2 (gl_up gL_law_X11_pool) rfl rfl rfl (by decide +kernel) ⟨by dsimp only [x_rm, room_1]; omega, by dsimp only [x_rm, room_1]; omega⟩) x_k0 (q := (RX11, TX11, 13)) rfl rfl rfl rfl (Nat.le_of_ble_eq_true rfl) dL_law_1460 ⟨by show cells ≤ 603072; omega, by show slots ≤ 7170154; omega⟩ ?_
  refine a_aload_n C dL_law_1463 3 rfl ?_
  refine a_callV C (k := 175) (As := []) (rest := [.int r]) (hc2 G) (cwV 0 C.1.2.2.2.2 (gl_up gL_law_X12_pool) rfl rfl rfl (by decide +kernel) ⟨by dsimp only [x_rm, room_1]; omega, by dsimp only [x_rm, room_1]; omega⟩) x_k175 (q := (RX12, TX12, 16)) rfl rfl rfl rfl (Nat.le_of_ble_eq_true rfl) dL_law_1464 ⟨by show cells ≤ 603072; omega, by show slots ≤ 7170154; omega⟩ ?_
  refine a_icmp_eq C dL_law_1467 (tgt := 3091) (by decide) (fun _ => ?_) (fun hn => absurd rfl hn)
  refine a_widen (k := cells + 1) (n := slots + 6) (by omega) (by omega) ?_
  exact K G d2 rfl C hz
set_option maxHeartbeats 1000000 in
set_option maxRecDepth 100000 in
theorem law_22 (C : Cx G p s m args c code (wsL_law ++ ws_cl) RL 9) (hfl : l.stackTraces = false) (h : y_Z B d) (hB : B + 180 < 100000) (hX : va_X b L xs s s.heap) (hbl : b < s.heap.size) (hbA : ¬ x_A G b) (hL : L < 2000) (hi : i + 3 ≤ L) (hc : cells + 1 ≤ 603072) (hs : slots + 6 ≤ 7170154) (K : ∀ (G2 : xG) (d2 : xd), x_b G2 = x_b G → Cx G2 p s m args c code (wsL_law ++ ws_cl) RL 9 → y_Z (B + 180) d2 → Ab G2 p l e room_1 s m args below meth c 9 (cells + 1) (slots + 6) Q 3091 [(5, .int (nI i)), (0, .ref b), (1, .ref (x_b G2 + 0)), (2, .ref (x_b G2 + 175)), (3, .ref (x_b G2 + 183)), (4, .ref (x_b G2 + 184))] [] d2) : Ab G p l e room_1 s m args below meth c 9 cells slots Q 1472 [(5, .int (nI i)), (0, .ref b), (1, .ref (x_b G + 0)), (2, .ref (x_b G + 175)), (3, .ref (x_b G + 183)), (4, .ref (x_b G + 184))] [] d := by
  obtain ⟨r, d1, d2, ⟨lv, hlv, hc1⟩, ⟨lv2, hlv2, hc2⟩, hz⟩ := s_treasury (l := l) h hB
  refine a_aload_n C dL_law_1472 2 rfl ?_
  refine a_callV C (k := 0) (As := []) (rest := []) (hc1 G) (cwV 0 C.1.2.2.2.2 (gl_up gL_law_X11_treasury) rfl rfl rfl (by decide +kernel) ⟨by dsimp only [x_rm, room_1]; omega, by dsimp only [x_rm, room_1]; omega⟩) x_k0 (q := (RX11, TX11, 13)) rfl rfl rfl rfl (Nat.le_of_ble_eq_true rfl) dL_law_1473 ⟨by show cells ≤ 603072; omega, by show slots ≤ 7170154; omega⟩ ?_
  refine a_aload_n C dL_law_1476 3 rfl ?_
  refine a_callV C (k := 175) (As := []) (rest := [.int r]) (hc2 G) (cwV 0 C.1.2.2.2.2 (gl_up gL_law_X12_treasury) rfl rfl rfl (by decide +kernel) ⟨by dsimp only [x_rm, room_1]; omega, by dsimp only [x_rm, room_1]; omega⟩) x_k175 (q := (RX12, TX12, 16)) rfl rfl rfl rfl (Nat.le_of_ble_eq_true rfl) dL_law_1477 ⟨by show cells ≤ 603072; omega, by show slots ≤ 7170154; omega⟩ ?_
  refine a_icmp_eq C dL_law_1480 (tgt := 3091) (by decide) (fun _ => ?_) (fun hn => absurd rfl hn)
  refine a_widen (k := cells + 1) (n := slots + 6) (by omega) (by omega) ?_
  exact K G d2 rfl C hz
set_option maxHeartbeats 1000000 in
set_option maxRecDepth 100000 in
theorem law_23 (C : Cx G p s m args c code (wsL_law ++ ws_cl) RL 9) (hfl : l.stackTraces = false) (h : y_Z B d) (hB : B + 180 < 100000) (hX : va_X b L xs s s.heap) (hbl : b < s.heap.size) (hbA : ¬ x_A G b) (hL : L < 2000) (hi : i + 3 ≤ L) (hc : cells + 1 ≤ 603072) (hs : slots + 6 ≤ 7170154) (K : ∀ (G2 : xG) (d2 : xd), x_b G2 = x_b G → Cx G2 p s m args c code (wsL_law ++ ws_cl) RL 9 → y_Z (B + 180) d2 → Ab G2 p l e room_1 s m args below meth c 9 (cells + 1) (slots + 6) Q 3091 [(5, .int (nI i)), (0, .ref b), (1, .ref (x_b G2 + 0)), (2, .ref (x_b G2 + 175)), (3, .ref (x_b G2 + 183)), (4, .ref (x_b G2 + 184))] [] d2) : Ab G p l e room_1 s m args below meth c 9 cells slots Q 1485 [(5, .int (nI i)), (0, .ref b), (1, .ref (x_b G + 0)), (2, .ref (x_b G + 175)), (3, .ref (x_b G + 183)), (4, .ref (x_b G + 184))] [] d := by
  obtain ⟨k, r, d1, hk3, hcl, hm⟩ := y_S.two (s_portionOf (l := l) hfl h hB (xs (i + 1)) (xs (i + 2)))
  refine a_aload_n C dL_law_1485 2 rfl ?_
  refine a_aload_n C dL_law_1486 1 rfl ?_
  refine a_iload C dL_law_1487 0 rfl ?_
  refine a_iconst C dL_law_1489 (v := 1) (by decide) ?_
  refine a_iadd C dL_law_1490 ?_
  refine a_sld C hX hbl hbA (i := i + 1) (nI_add i 1) (by omega) (by omega) dL_law_1491 ?_
  refine a_aload_n C dL_law_1492 1 rfl ?_
  refine a_iload C dL_law_1493 0 rfl ?_
  refine a_iconst C dL_law_1495 (v := 2) (by decide) ?_
  refine a_iadd C dL_law_1496 ?_
  refine a_sld C hX hbl hbA (i := i + 2) (nI_add i 2) (by omega) (by omega) dL_law_1497 ?_
  refine a_aload_n C dL_law_1498 4 rfl ?_
  refine a_callL (G2 := (if k = 0 then x_sl G r.toInt64 else G)) (g2_sl_b _ _ _) C (As := [.ref (x_b G + 0), .int (xs (i + 1)), .int (xs (i + 2)), .ref (x_b G + 183)]) (rest := []) (w_portionOf l G d d1 _ _ k r hcl) (vx_cwSW 4 C.1.2.2.2.2 (gl_law gL_law_L_portionOf) rfl rfl rfl (by decide +kernel) ⟨Nat.le_of_ble_eq_true rfl, Nat.le_of_ble_eq_true rfl⟩) rfl rfl (Nat.le_of_ble_eq_true rfl) dL_law_1499 ⟨hc, hs⟩ (g2_sl_D _ _ _) ?_
  have C2 := C.sl_if k r.toInt64
  have hb2 := g2_sl_b G r.toInt64 k
  have hl2 := g2_sl_v G r.toInt64 k
  generalize (if k = 0 then x_sl G r.toInt64 else G) = G2 at C2 hb2 hl2 ⊢
  have hbA2 : ¬ x_A G2 b := by
    unfold x_A
    rw [hb2]
    exact hbA
  rw [← hb2]
  obtain ⟨b0, d2, lv, hlv, hm2, h12, hrb, hz⟩ := hm G2
  refine a_istore C2 dL_law_1502 (by decide) (lst2 := [(6, .int (nI k)), (5, .int (nI i)), (0, .ref b), (1, .ref (x_b G2 + 0)), (2, .ref (x_b G2 + 175)), (3, .ref (x_b G2 + 183)), (4, .ref (x_b G2 + 184))]) rfl ?_
  refine a_aload_n C2 dL_law_1504 4 rfl ?_
  refine a_aload_n C2 dL_law_1505 2 rfl ?_
  refine a_iload C2 dL_law_1506 1 rfl ?_
  refine a_iconst C2 dL_law_1508 (v := 1) (by decide) ?_
  refine a_iadd C2 dL_law_1509 ?_
  refine a_sld C2 hX hbl hbA2 (i := i + 1) (nI_add i 1) (by omega) (by omega) dL_law_1510 ?_
  refine a_aload_n C2 dL_law_1511 2 rfl ?_
  refine a_iload C2 dL_law_1512 1 rfl ?_
  refine a_iconst C2 dL_law_1514 (v := 2) (by decide) ?_
  refine a_iadd C2 dL_law_1515 ?_
  refine a_sld C2 hX hbl hbA2 (i := i + 2) (nI_add i 2) (by omega) (by omega) dL_law_1516 ?_
  refine a_callV C2 (k := 175) (As := [.int (xs (i + 1)), .int (xs (i + 2))]) (rest := []) hm2 (cwV 2 C2.1.2.2.2.2 (gl_up gL_law_X12_portionOf) rfl rfl rfl (by decide +kernel) ⟨by dsimp only [x_rm, room_1]; omega, by dsimp only [x_rm, room_1]; omega⟩) x_k175 (q := (RX12, TX12, 16)) rfl rfl rfl rfl (Nat.le_of_ble_eq_true rfl) dL_law_1517 ⟨hc, hs⟩ ?_
  refine a_istore C2 dL_law_1520 (by decide) (lst2 := [(7, .int b0), (6, .int (nI k)), (5, .int (nI i)), (0, .ref b), (1, .ref (x_b G2 + 0)), (2, .ref (x_b G2 + 175)), (3, .ref (x_b G2 + 183)), (4, .ref (x_b G2 + 184))]) rfl ?_
  refine a_aload_n C2 dL_law_1522 5 rfl ?_
  refine a_callV C2 (k := 175) (As := []) (rest := []) (c_M_thrown l G2 d2) (cwV 0 C2.1.2.2.2.2 (gl_up gL_law_X12_thrown) rfl rfl rfl (by decide +kernel) ⟨Nat.le_of_ble_eq_true rfl, Nat.le_of_ble_eq_true rfl⟩) x_k175 (q := (RX12, TX12, 16)) rfl rfl rfl rfl (Nat.le_of_ble_eq_true rfl) dL_law_1523 ⟨hc, hs⟩ ?_
  refine a_iload C2 dL_law_1526 1 rfl ?_
  refine a_icmp_eq C2 dL_law_1528 (tgt := 1533) (by decide) (fun _ => ?_) (fun hn => absurd h12 hn)
  refine a_iload C2 dL_law_1533 1 rfl ?_
  have FIN : Ab G2 p l e room_1 s m args below meth c 9 (cells + 1) (slots + 6) Q 1550 [(7, .int b0), (6, .int (nI k)), (5, .int (nI i)), (0, .ref b), (1, .ref (x_b G2 + 0)), (2, .ref (x_b G2 + 175)), (3, .ref (x_b G2 + 183)), (4, .ref (x_b G2 + 184))] [] d2 := a_goto C2 dL_law_1550 (tgt := 3091) (by decide) (a_sub (lst2 := [(5, .int (nI i)), (0, .ref b), (1, .ref (x_b G2 + 0)), (2, .ref (x_b G2 + 175)), (3, .ref (x_b G2 + 183)), (4, .ref (x_b G2 + 184))]) [2, 3, 4, 5, 6, 7] rfl (K G2 d2 hb2 C2 hz))
  refine a_if_ne C2 dL_law_1535 (tgt := 1550) (by decide) (fun _ => FIN) (fun hk0 => ?_)
  have hk : k = 0 := by
    rcases Nat.eq_zero_or_pos k with y | y
    · exact y
    · exact absurd hk0 (nI_ne0 (by omega) (by omega))
  refine a_aload_n C2 dL_law_1538 6 rfl ?_
  refine a_iconst C2 dL_law_1539 (v := 0) (by decide) ?_
  refine a_lald C2 dL_law_1540 ?_
  refine a_iload C2 dL_law_1541 0 rfl ?_
  refine a_i2l C2 dL_law_1543 ?_
  refine a_lcmp C2 dL_law_1544 ?_
  exact a_if_eq C2 dL_law_1545 (tgt := 1550) (by decide) (fun _ => FIN) (fun hn => absurd ((lg_cmp_eq _ _).mpr (by rw [hl2 hk, hrb hk])) hn)
set_option maxHeartbeats 1000000 in
set_option maxRecDepth 100000 in
theorem law_24 (C : Cx G p s m args c code (wsL_law ++ ws_cl) RL 9) (hfl : l.stackTraces = false) (h : y_Z B d) (hB : B + 180 < 100000) (hX : va_X b L xs s s.heap) (hbl : b < s.heap.size) (hbA : ¬ x_A G b) (hL : L < 2000) (hi : i + 3 ≤ L) (hc : cells + 1 ≤ 603072) (hs : slots + 6 ≤ 7170154) (K : ∀ (G2 : xG) (d2 : xd), x_b G2 = x_b G → Cx G2 p s m args c code (wsL_law ++ ws_cl) RL 9 → y_Z (B + 180) d2 → Ab G2 p l e room_1 s m args below meth c 9 (cells + 1) (slots + 6) Q 3091 [(5, .int (nI i)), (0, .ref b), (1, .ref (x_b G2 + 0)), (2, .ref (x_b G2 + 175)), (3, .ref (x_b G2 + 183)), (4, .ref (x_b G2 + 184))] [] d2) : Ab G p l e room_1 s m args below meth c 9 cells slots Q 1553 [(5, .int (nI i)), (0, .ref b), (1, .ref (x_b G + 0)), (2, .ref (x_b G + 175)), (3, .ref (x_b G + 183)), (4, .ref (x_b G + 184))] [] d := by
  obtain ⟨k, r, d1, hk3, hcl, hm⟩ := y_S.two (s_portionByRounds (l := l) hfl h hB (xs (i + 1)) (xs (i + 2)))
  refine a_aload_n C dL_law_1553 2 rfl ?_
  refine a_aload_n C dL_law_1554 1 rfl ?_
  refine a_iload C dL_law_1555 0 rfl ?_
  refine a_iconst C dL_law_1557 (v := 1) (by decide) ?_
  refine a_iadd C dL_law_1558 ?_
  refine a_sld C hX hbl hbA (i := i + 1) (nI_add i 1) (by omega) (by omega) dL_law_1559 ?_
  refine a_aload_n C dL_law_1560 1 rfl ?_
  refine a_iload C dL_law_1561 0 rfl ?_
  refine a_iconst C dL_law_1563 (v := 2) (by decide) ?_
  refine a_iadd C dL_law_1564 ?_
  refine a_sld C hX hbl hbA (i := i + 2) (nI_add i 2) (by omega) (by omega) dL_law_1565 ?_
  refine a_aload_n C dL_law_1566 4 rfl ?_
  refine a_callL (G2 := (if k = 0 then x_sl G r.toInt64 else G)) (g2_sl_b _ _ _) C (As := [.ref (x_b G + 0), .int (xs (i + 1)), .int (xs (i + 2)), .ref (x_b G + 183)]) (rest := []) (w_portionByRounds l G d d1 _ _ k r hcl) (vx_cwSW 4 C.1.2.2.2.2 (gl_law gL_law_L_portionByRounds) rfl rfl rfl (by decide +kernel) ⟨Nat.le_of_ble_eq_true rfl, Nat.le_of_ble_eq_true rfl⟩) rfl rfl (Nat.le_of_ble_eq_true rfl) dL_law_1567 ⟨hc, hs⟩ (g2_sl_D _ _ _) ?_
  have C2 := C.sl_if k r.toInt64
  have hb2 := g2_sl_b G r.toInt64 k
  have hl2 := g2_sl_v G r.toInt64 k
  generalize (if k = 0 then x_sl G r.toInt64 else G) = G2 at C2 hb2 hl2 ⊢
  have hbA2 : ¬ x_A G2 b := by
    unfold x_A
    rw [hb2]
    exact hbA
  rw [← hb2]
  obtain ⟨b0, d2, lv, hlv, hm2, h12, hrb, hz⟩ := hm G2
  refine a_istore C2 dL_law_1570 (by decide) (lst2 := [(6, .int (nI k)), (5, .int (nI i)), (0, .ref b), (1, .ref (x_b G2 + 0)), (2, .ref (x_b G2 + 175)), (3, .ref (x_b G2 + 183)), (4, .ref (x_b G2 + 184))]) rfl ?_
  refine a_aload_n C2 dL_law_1572 4 rfl ?_
  refine a_aload_n C2 dL_law_1573 2 rfl ?_
  refine a_iload C2 dL_law_1574 1 rfl ?_
  refine a_iconst C2 dL_law_1576 (v := 1) (by decide) ?_
  refine a_iadd C2 dL_law_1577 ?_
  refine a_sld C2 hX hbl hbA2 (i := i + 1) (nI_add i 1) (by omega) (by omega) dL_law_1578 ?_
  refine a_aload_n C2 dL_law_1579 2 rfl ?_
  refine a_iload C2 dL_law_1580 1 rfl ?_
  refine a_iconst C2 dL_law_1582 (v := 2) (by decide) ?_
  refine a_iadd C2 dL_law_1583 ?_
  refine a_sld C2 hX hbl hbA2 (i := i + 2) (nI_add i 2) (by omega) (by omega) dL_law_1584 ?_
  refine a_callV C2 (k := 175) (As := [.int (xs (i + 1)), .int (xs (i + 2))]) (rest := []) hm2 (cwV 2 C2.1.2.2.2.2 (gl_up gL_law_X12_portionByRounds) rfl rfl rfl (by decide +kernel) ⟨by dsimp only [x_rm, room_1]; omega, by dsimp only [x_rm, room_1]; omega⟩) x_k175 (q := (RX12, TX12, 16)) rfl rfl rfl rfl (Nat.le_of_ble_eq_true rfl) dL_law_1585 ⟨hc, hs⟩ ?_
  refine a_istore C2 dL_law_1588 (by decide) (lst2 := [(7, .int b0), (6, .int (nI k)), (5, .int (nI i)), (0, .ref b), (1, .ref (x_b G2 + 0)), (2, .ref (x_b G2 + 175)), (3, .ref (x_b G2 + 183)), (4, .ref (x_b G2 + 184))]) rfl ?_
  refine a_aload_n C2 dL_law_1590 5 rfl ?_
  refine a_callV C2 (k := 175) (As := []) (rest := []) (c_M_thrown l G2 d2) (cwV 0 C2.1.2.2.2.2 (gl_up gL_law_X12_thrown) rfl rfl rfl (by decide +kernel) ⟨Nat.le_of_ble_eq_true rfl, Nat.le_of_ble_eq_true rfl⟩) x_k175 (q := (RX12, TX12, 16)) rfl rfl rfl rfl (Nat.le_of_ble_eq_true rfl) dL_law_1591 ⟨hc, hs⟩ ?_
  refine a_iload C2 dL_law_1594 1 rfl ?_
  refine a_icmp_eq C2 dL_law_1596 (tgt := 1601) (by decide) (fun _ => ?_) (fun hn => absurd h12 hn)
  refine a_iload C2 dL_law_1601 1 rfl ?_
  have FIN : Ab G2 p l e room_1 s m args below meth c 9 (cells + 1) (slots + 6) Q 1618 [(7, .int b0), (6, .int (nI k)), (5, .int (nI i)), (0, .ref b), (1, .ref (x_b G2 + 0)), (2, .ref (x_b G2 + 175)), (3, .ref (x_b G2 + 183)), (4, .ref (x_b G2 + 184))] [] d2 := a_goto C2 dL_law_1618 (tgt := 3091) (by decide) (a_sub (lst2 := [(5, .int (nI i)), (0, .ref b), (1, .ref (x_b G2 + 0)), (2, .ref (x_b G2 + 175)), (3, .ref (x_b G2 + 183)), (4, .ref (x_b G2 + 184))]) [2, 3, 4, 5, 6, 7] rfl (K G2 d2 hb2 C2 hz))
  refine a_if_ne C2 dL_law_1603 (tgt := 1618) (by decide) (fun _ => FIN) (fun hk0 => ?_)
  have hk : k = 0 := by
    rcases Nat.eq_zero_or_pos k with y | y
    · exact y
    · exact absurd hk0 (nI_ne0 (by omega) (by omega))
  refine a_aload_n C2 dL_law_1606 6 rfl ?_
  refine a_iconst C2 dL_law_1607 (v := 0) (by decide) ?_
  refine a_lald C2 dL_law_1608 ?_
  refine a_iload C2 dL_law_1609 0 rfl ?_
  refine a_i2l C2 dL_law_1611 ?_
  refine a_lcmp C2 dL_law_1612 ?_
  exact a_if_eq C2 dL_law_1613 (tgt := 1618) (by decide) (fun _ => FIN) (fun hn => absurd ((lg_cmp_eq _ _).mpr (by rw [hl2 hk, hrb hk])) hn)
set_option maxHeartbeats 1000000 in
set_option maxRecDepth 100000 in
theorem law_25 (C : Cx G p s m args c code (wsL_law ++ ws_cl) RL 9) (hfl : l.stackTraces = false) (h : y_Z B d) (hB : B + 180 < 100000) (hX : va_X b L xs s s.heap) (hbl : b < s.heap.size) (hbA : ¬ x_A G b) (hL : L < 2000) (hi : i + 3 ≤ L) (hc : cells + 1 ≤ 603072) (hs : slots + 6 ≤ 7170154) (K : ∀ (G2 : xG) (d2 : xd), x_b G2 = x_b G → Cx G2 p s m args c code (wsL_law ++ ws_cl) RL 9 → y_Z (B + 180) d2 → Ab G2 p l e room_1 s m args below meth c 9 (cells + 1) (slots + 6) Q 3091 [(5, .int (nI i)), (0, .ref b), (1, .ref (x_b G2 + 0)), (2, .ref (x_b G2 + 175)), (3, .ref (x_b G2 + 183)), (4, .ref (x_b G2 + 184))] [] d2) : Ab G p l e room_1 s m args below meth c 9 cells slots Q 1621 [(5, .int (nI i)), (0, .ref b), (1, .ref (x_b G + 0)), (2, .ref (x_b G + 175)), (3, .ref (x_b G + 183)), (4, .ref (x_b G + 184))] [] d := by
  obtain ⟨k, r, d1, hk3, hcl, hm⟩ := y_S.two (s_addMoth (l := l) hfl h hB (xs (i + 1)))
  refine a_aload_n C dL_law_1621 2 rfl ?_
  refine a_aload_n C dL_law_1622 1 rfl ?_
  refine a_iload C dL_law_1623 0 rfl ?_
  refine a_iconst C dL_law_1625 (v := 1) (by decide) ?_
  refine a_iadd C dL_law_1626 ?_
  refine a_sld C hX hbl hbA (i := i + 1) (nI_add i 1) (by omega) (by omega) dL_law_1627 ?_
  refine a_aload_n C dL_law_1628 4 rfl ?_
  refine a_callL (G2 := (if k = 0 then x_sl G r.toInt64 else G)) (g2_sl_b _ _ _) C (As := [.ref (x_b G + 0), .int (xs (i + 1)), .ref (x_b G + 183)]) (rest := []) (w_addMoth l G d d1 _ k r hcl) (vx_cwSW 3 C.1.2.2.2.2 (gl_law gL_law_L_addMoth) rfl rfl rfl (by decide +kernel) ⟨Nat.le_of_ble_eq_true rfl, Nat.le_of_ble_eq_true rfl⟩) rfl rfl (Nat.le_of_ble_eq_true rfl) dL_law_1629 ⟨hc, hs⟩ (g2_sl_D _ _ _) ?_
  have C2 := C.sl_if k r.toInt64
  have hb2 := g2_sl_b G r.toInt64 k
  have hl2 := g2_sl_v G r.toInt64 k
  generalize (if k = 0 then x_sl G r.toInt64 else G) = G2 at C2 hb2 hl2 ⊢
  have hbA2 : ¬ x_A G2 b := by
    unfold x_A
    rw [hb2]
    exact hbA
  rw [← hb2]
  obtain ⟨b0, d2, lv, hlv, hm2, h12, hrb, hz⟩ := hm G2
  refine a_istore C2 dL_law_1632 (by decide) (lst2 := [(6, .int (nI k)), (5, .int (nI i)), (0, .ref b), (1, .ref (x_b G2 + 0)), (2, .ref (x_b G2 + 175)), (3, .ref (x_b G2 + 183)), (4, .ref (x_b G2 + 184))]) rfl ?_
  refine a_aload_n C2 dL_law_1634 4 rfl ?_
  refine a_aload_n C2 dL_law_1635 2 rfl ?_
  refine a_iload C2 dL_law_1636 1 rfl ?_
  refine a_iconst C2 dL_law_1638 (v := 1) (by decide) ?_
  refine a_iadd C2 dL_law_1639 ?_
  refine a_sld C2 hX hbl hbA2 (i := i + 1) (nI_add i 1) (by omega) (by omega) dL_law_1640 ?_
  refine a_callV C2 (k := 175) (As := [.int (xs (i + 1))]) (rest := []) hm2 (cwV 1 C2.1.2.2.2.2 (gl_up gL_law_X12_addMoth) rfl rfl rfl (by decide +kernel) ⟨by dsimp only [x_rm, room_1]; omega, by dsimp only [x_rm, room_1]; omega⟩) x_k175 (q := (RX12, TX12, 16)) rfl rfl rfl rfl (Nat.le_of_ble_eq_true rfl) dL_law_1641 ⟨hc, hs⟩ ?_
  refine a_istore C2 dL_law_1644 (by decide) (lst2 := [(7, .int b0), (6, .int (nI k)), (5, .int (nI i)), (0, .ref b), (1, .ref (x_b G2 + 0)), (2, .ref (x_b G2 + 175)), (3, .ref (x_b G2 + 183)), (4, .ref (x_b G2 + 184))]) rfl ?_
  refine a_aload_n C2 dL_law_1646 5 rfl ?_
  refine a_callV C2 (k := 175) (As := []) (rest := []) (c_M_thrown l G2 d2) (cwV 0 C2.1.2.2.2.2 (gl_up gL_law_X12_thrown) rfl rfl rfl (by decide +kernel) ⟨Nat.le_of_ble_eq_true rfl, Nat.le_of_ble_eq_true rfl⟩) x_k175 (q := (RX12, TX12, 16)) rfl rfl rfl rfl (Nat.le_of_ble_eq_true rfl) dL_law_1647 ⟨hc, hs⟩ ?_
  refine a_iload C2 dL_law_1650 1 rfl ?_
  refine a_icmp_eq C2 dL_law_1652 (tgt := 1657) (by decide) (fun _ => ?_) (fun hn => absurd h12 hn)
  refine a_iload C2 dL_law_1657 1 rfl ?_
  have FIN : Ab G2 p l e room_1 s m args below meth c 9 (cells + 1) (slots + 6) Q 1674 [(7, .int b0), (6, .int (nI k)), (5, .int (nI i)), (0, .ref b), (1, .ref (x_b G2 + 0)), (2, .ref (x_b G2 + 175)), (3, .ref (x_b G2 + 183)), (4, .ref (x_b G2 + 184))] [] d2 := a_goto C2 dL_law_1674 (tgt := 3091) (by decide) (a_sub (lst2 := [(5, .int (nI i)), (0, .ref b), (1, .ref (x_b G2 + 0)), (2, .ref (x_b G2 + 175)), (3, .ref (x_b G2 + 183)), (4, .ref (x_b G2 + 184))]) [2, 3, 4, 5, 6, 7] rfl (K G2 d2 hb2 C2 hz))
  refine a_if_ne C2 dL_law_1659 (tgt := 1674) (by decide) (fun _ => FIN) (fun hk0 => ?_)
  have hk : k = 0 := by
    rcases Nat.eq_zero_or_pos k with y | y
    · exact y
    · exact absurd hk0 (nI_ne0 (by omega) (by omega))
  refine a_aload_n C2 dL_law_1662 6 rfl ?_
  refine a_iconst C2 dL_law_1663 (v := 0) (by decide) ?_
  refine a_lald C2 dL_law_1664 ?_
  refine a_iload C2 dL_law_1665 0 rfl ?_
  refine a_i2l C2 dL_law_1667 ?_
  refine a_lcmp C2 dL_law_1668 ?_
  exact a_if_eq C2 dL_law_1669 (tgt := 1674) (by decide) (fun _ => FIN) (fun hn => absurd ((lg_cmp_eq _ _).mpr (by rw [hl2 hk, hrb hk])) hn)
set_option maxHeartbeats 1000000 in
set_option maxRecDepth 100000 in
theorem law_26 (C : Cx G p s m args c code (wsL_law ++ ws_cl) RL 9) (hfl : l.stackTraces = false) (h : y_Z B d) (hB : B + 180 < 100000) (hX : va_X b L xs s s.heap) (hbl : b < s.heap.size) (hbA : ¬ x_A G b) (hL : L < 2000) (hi : i + 3 ≤ L) (hc : cells + 1 ≤ 603072) (hs : slots + 6 ≤ 7170154) (K : ∀ (G2 : xG) (d2 : xd), x_b G2 = x_b G → Cx G2 p s m args c code (wsL_law ++ ws_cl) RL 9 → y_Z (B + 180) d2 → Ab G2 p l e room_1 s m args below meth c 9 (cells + 1) (slots + 6) Q 3091 [(5, .int (nI i)), (0, .ref b), (1, .ref (x_b G2 + 0)), (2, .ref (x_b G2 + 175)), (3, .ref (x_b G2 + 183)), (4, .ref (x_b G2 + 184))] [] d2) : Ab G p l e room_1 s m args below meth c 9 cells slots Q 1677 [(5, .int (nI i)), (0, .ref b), (1, .ref (x_b G + 0)), (2, .ref (x_b G + 175)), (3, .ref (x_b G + 183)), (4, .ref (x_b G + 184))] [] d := by
  obtain ⟨k, r, d1, hk3, hcl, hm⟩ := y_S.two (s_moveMoth (l := l) hfl h hB (xs (i + 1)) (xs (i + 2)))
  refine a_aload_n C dL_law_1677 2 rfl ?_
  refine a_aload_n C dL_law_1678 1 rfl ?_
  refine a_iload C dL_law_1679 0 rfl ?_
  refine a_iconst C dL_law_1681 (v := 1) (by decide) ?_
  refine a_iadd C dL_law_1682 ?_
  refine a_sld C hX hbl hbA (i := i + 1) (nI_add i 1) (by omega) (by omega) dL_law_1683 ?_
  refine a_aload_n C dL_law_1684 1 rfl ?_
  refine a_iload C dL_law_1685 0 rfl ?_
  refine a_iconst C dL_law_1687 (v := 2) (by decide) ?_
  refine a_iadd C dL_law_1688 ?_
  refine a_sld C hX hbl hbA (i := i + 2) (nI_add i 2) (by omega) (by omega) dL_law_1689 ?_
  refine a_aload_n C dL_law_1690 4 rfl ?_
  refine a_callL (G2 := (if k = 0 then x_sl G r.toInt64 else G)) (g2_sl_b _ _ _) C (As := [.ref (x_b G + 0), .int (xs (i + 1)), .int (xs (i + 2)), .ref (x_b G + 183)]) (rest := []) (w_moveMoth l G d d1 _ _ k r hcl) (vx_cwSW 4 C.1.2.2.2.2 (gl_law gL_law_L_moveMoth) rfl rfl rfl (by decide +kernel) ⟨Nat.le_of_ble_eq_true rfl, Nat.le_of_ble_eq_true rfl⟩) rfl rfl (Nat.le_of_ble_eq_true rfl) dL_law_1691 ⟨hc, hs⟩ (g2_sl_D _ _ _) ?_
  have C2 := C.sl_if k r.toInt64
  have hb2 := g2_sl_b G r.toInt64 k
  have hl2 := g2_sl_v G r.toInt64 k
  generalize (if k = 0 then x_sl G r.toInt64 else G) = G2 at C2 hb2 hl2 ⊢
  have hbA2 : ¬ x_A G2 b := by
    unfold x_A
    rw [hb2]
    exact hbA
  rw [← hb2]
  obtain ⟨b0, d2, lv, hlv, hm2, h12, hrb, hz⟩ := hm G2
  refine a_istore C2 dL_law_1694 (by decide) (lst2 := [(6, .int (nI k)), (5, .int (nI i)), (0, .ref b), (1, .ref (x_b G2 + 0)), (2, .ref (x_b G2 + 175)), (3, .ref (x_b G2 + 183)), (4, .ref (x_b G2 + 184))]) rfl ?_
  refine a_aload_n C2 dL_law_1696 4 rfl ?_
  refine a_aload_n C2 dL_law_1697 2 rfl ?_
  refine a_iload C2 dL_law_1698 1 rfl ?_
  refine a_iconst C2 dL_law_1700 (v := 1) (by decide) ?_
  refine a_iadd C2 dL_law_1701 ?_
  refine a_sld C2 hX hbl hbA2 (i := i + 1) (nI_add i 1) (by omega) (by omega) dL_law_1702 ?_
  refine a_aload_n C2 dL_law_1703 2 rfl ?_
  refine a_iload C2 dL_law_1704 1 rfl ?_
  refine a_iconst C2 dL_law_1706 (v := 2) (by decide) ?_
  refine a_iadd C2 dL_law_1707 ?_
  refine a_sld C2 hX hbl hbA2 (i := i + 2) (nI_add i 2) (by omega) (by omega) dL_law_1708 ?_
  refine a_callV C2 (k := 175) (As := [.int (xs (i + 1)), .int (xs (i + 2))]) (rest := []) hm2 (cwV 2 C2.1.2.2.2.2 (gl_up gL_law_X12_moveMoth) rfl rfl rfl (by decide +kernel) ⟨by dsimp only [x_rm, room_1]; omega, by dsimp only [x_rm, room_1]; omega⟩) x_k175 (q := (RX12, TX12, 16)) rfl rfl rfl rfl (Nat.le_of_ble_eq_true rfl) dL_law_1709 ⟨hc, hs⟩ ?_
  refine a_istore C2 dL_law_1712 (by decide) (lst2 := [(7, .int b0), (6, .int (nI k)), (5, .int (nI i)), (0, .ref b), (1, .ref (x_b G2 + 0)), (2, .ref (x_b G2 + 175)), (3, .ref (x_b G2 + 183)), (4, .ref (x_b G2 + 184))]) rfl ?_
  refine a_aload_n C2 dL_law_1714 5 rfl ?_
  refine a_callV C2 (k := 175) (As := []) (rest := []) (c_M_thrown l G2 d2) (cwV 0 C2.1.2.2.2.2 (gl_up gL_law_X12_thrown) rfl rfl rfl (by decide +kernel) ⟨Nat.le_of_ble_eq_true rfl, Nat.le_of_ble_eq_true rfl⟩) x_k175 (q := (RX12, TX12, 16)) rfl rfl rfl rfl (Nat.le_of_ble_eq_true rfl) dL_law_1715 ⟨hc, hs⟩ ?_
  refine a_iload C2 dL_law_1718 1 rfl ?_
  refine a_icmp_eq C2 dL_law_1720 (tgt := 1725) (by decide) (fun _ => ?_) (fun hn => absurd h12 hn)
  refine a_iload C2 dL_law_1725 1 rfl ?_
  have FIN : Ab G2 p l e room_1 s m args below meth c 9 (cells + 1) (slots + 6) Q 1742 [(7, .int b0), (6, .int (nI k)), (5, .int (nI i)), (0, .ref b), (1, .ref (x_b G2 + 0)), (2, .ref (x_b G2 + 175)), (3, .ref (x_b G2 + 183)), (4, .ref (x_b G2 + 184))] [] d2 := a_goto C2 dL_law_1742 (tgt := 3091) (by decide) (a_sub (lst2 := [(5, .int (nI i)), (0, .ref b), (1, .ref (x_b G2 + 0)), (2, .ref (x_b G2 + 175)), (3, .ref (x_b G2 + 183)), (4, .ref (x_b G2 + 184))]) [2, 3, 4, 5, 6, 7] rfl (K G2 d2 hb2 C2 hz))
  refine a_if_ne C2 dL_law_1727 (tgt := 1742) (by decide) (fun _ => FIN) (fun hk0 => ?_)
  have hk : k = 0 := by
    rcases Nat.eq_zero_or_pos k with y | y
    · exact y
    · exact absurd hk0 (nI_ne0 (by omega) (by omega))
  refine a_aload_n C2 dL_law_1730 6 rfl ?_
  refine a_iconst C2 dL_law_1731 (v := 0) (by decide) ?_
  refine a_lald C2 dL_law_1732 ?_
  refine a_iload C2 dL_law_1733 0 rfl ?_
  refine a_i2l C2 dL_law_1735 ?_
  refine a_lcmp C2 dL_law_1736 ?_
  exact a_if_eq C2 dL_law_1737 (tgt := 1742) (by decide) (fun _ => FIN) (fun hn => absurd ((lg_cmp_eq _ _).mpr (by rw [hl2 hk, hrb hk])) hn)
set_option maxHeartbeats 1000000 in
set_option maxRecDepth 100000 in
theorem law_27 (C : Cx G p s m args c code (wsL_law ++ ws_cl) RL 9) (hfl : l.stackTraces = false) (h : y_Z B d) (hB : B + 180 < 100000) (hX : va_X b L xs s s.heap) (hbl : b < s.heap.size) (hbA : ¬ x_A G b) (hL : L < 2000) (hi : i + 3 ≤ L) (hc : cells + 1 ≤ 603072) (hs : slots + 6 ≤ 7170154) (K : ∀ (G2 : xG) (d2 : xd), x_b G2 = x_b G → Cx G2 p s m args c code (wsL_law ++ ws_cl) RL 9 → y_Z (B + 180) d2 → Ab G2 p l e room_1 s m args below meth c 9 (cells + 1) (slots + 6) Q 3091 [(5, .int (nI i)), (0, .ref b), (1, .ref (x_b G2 + 0)), (2, .ref (x_b G2 + 175)), (3, .ref (x_b G2 + 183)), (4, .ref (x_b G2 + 184))] [] d2) : Ab G p l e room_1 s m args below meth c 9 cells slots Q 1745 [(5, .int (nI i)), (0, .ref b), (1, .ref (x_b G + 0)), (2, .ref (x_b G + 175)), (3, .ref (x_b G + 183)), (4, .ref (x_b G + 184))] [] d := by
  obtain ⟨r, d1, d2, ⟨lv, hlv, hc1⟩, ⟨lv2, hlv2, hc2⟩, hz⟩ := s_mothCount (l := l) h hB
  refine a_aload_n C dL_law_1745 2 rfl ?_
  refine a_callV C (k := 0) (As := []) (rest := []) (hc1 G) (cwV 0 C.1.2.2.2.2 (gl_up gL_law_X11_mothCount) rfl rfl rfl (by decide +kernel) ⟨by dsimp only [x_rm, room_1]; omega, by dsimp only [x_rm, room_1]; omega⟩) x_k0 (q := (RX11, TX11, 13)) rfl rfl rfl rfl (Nat.le_of_ble_eq_true rfl) dL_law_1746 ⟨by show cells ≤ 603072; omega, by show slots ≤ 7170154; omega⟩ ?_
  refine a_aload_n C dL_law_1749 3 rfl ?_
  refine a_callV C (k := 175) (As := []) (rest := [.int r]) (hc2 G) (cwV 0 C.1.2.2.2.2 (gl_up gL_law_X12_mothCount) rfl rfl rfl (by decide +kernel) ⟨by dsimp only [x_rm, room_1]; omega, by dsimp only [x_rm, room_1]; omega⟩) x_k175 (q := (RX12, TX12, 16)) rfl rfl rfl rfl (Nat.le_of_ble_eq_true rfl) dL_law_1750 ⟨by show cells ≤ 603072; omega, by show slots ≤ 7170154; omega⟩ ?_
  refine a_icmp_eq C dL_law_1753 (tgt := 3091) (by decide) (fun _ => ?_) (fun hn => absurd rfl hn)
  refine a_widen (k := cells + 1) (n := slots + 6) (by omega) (by omega) ?_
  exact K G d2 rfl C hz
set_option maxHeartbeats 1000000 in
set_option maxRecDepth 100000 in
theorem law_28 (C : Cx G p s m args c code (wsL_law ++ ws_cl) RL 9) (hfl : l.stackTraces = false) (h : y_Z B d) (hB : B + 180 < 100000) (hX : va_X b L xs s s.heap) (hbl : b < s.heap.size) (hbA : ¬ x_A G b) (hL : L < 2000) (hi : i + 3 ≤ L) (hc : cells + 1 ≤ 603072) (hs : slots + 6 ≤ 7170154) (K : ∀ (G2 : xG) (d2 : xd), x_b G2 = x_b G → Cx G2 p s m args c code (wsL_law ++ ws_cl) RL 9 → y_Z (B + 180) d2 → Ab G2 p l e room_1 s m args below meth c 9 (cells + 1) (slots + 6) Q 3091 [(5, .int (nI i)), (0, .ref b), (1, .ref (x_b G2 + 0)), (2, .ref (x_b G2 + 175)), (3, .ref (x_b G2 + 183)), (4, .ref (x_b G2 + 184))] [] d2) : Ab G p l e room_1 s m args below meth c 9 cells slots Q 1758 [(5, .int (nI i)), (0, .ref b), (1, .ref (x_b G + 0)), (2, .ref (x_b G + 175)), (3, .ref (x_b G + 183)), (4, .ref (x_b G + 184))] [] d := by
  obtain ⟨k, r, d1, hk3, hcl, hm⟩ := y_S.two (s_lampOfMoth (l := l) hfl h hB (xs (i + 1)))
  refine a_aload_n C dL_law_1758 2 rfl ?_
  refine a_aload_n C dL_law_1759 1 rfl ?_
  refine a_iload C dL_law_1760 0 rfl ?_
  refine a_iconst C dL_law_1762 (v := 1) (by decide) ?_
  refine a_iadd C dL_law_1763 ?_
  refine a_sld C hX hbl hbA (i := i + 1) (nI_add i 1) (by omega) (by omega) dL_law_1764 ?_
  refine a_aload_n C dL_law_1765 4 rfl ?_
  refine a_callL (G2 := (if k = 0 then x_sl G r.toInt64 else G)) (g2_sl_b _ _ _) C (As := [.ref (x_b G + 0), .int (xs (i + 1)), .ref (x_b G + 183)]) (rest := []) (w_lampOfMoth l G d d1 _ k r hcl) (vx_cwSW 3 C.1.2.2.2.2 (gl_law gL_law_L_lampOfMoth) rfl rfl rfl (by decide +kernel) ⟨Nat.le_of_ble_eq_true rfl, Nat.le_of_ble_eq_true rfl⟩) rfl rfl (Nat.le_of_ble_eq_true rfl) dL_law_1766 ⟨hc, hs⟩ (g2_sl_D _ _ _) ?_
  have C2 := C.sl_if k r.toInt64
  have hb2 := g2_sl_b G r.toInt64 k
  have hl2 := g2_sl_v G r.toInt64 k
  generalize (if k = 0 then x_sl G r.toInt64 else G) = G2 at C2 hb2 hl2 ⊢
  have hbA2 : ¬ x_A G2 b := by
    unfold x_A
    rw [hb2]
    exact hbA
  rw [← hb2]
  obtain ⟨b0, d2, lv, hlv, hm2, h12, hrb, hz⟩ := hm G2
  refine a_istore C2 dL_law_1769 (by decide) (lst2 := [(6, .int (nI k)), (5, .int (nI i)), (0, .ref b), (1, .ref (x_b G2 + 0)), (2, .ref (x_b G2 + 175)), (3, .ref (x_b G2 + 183)), (4, .ref (x_b G2 + 184))]) rfl ?_
  refine a_aload_n C2 dL_law_1771 4 rfl ?_
  refine a_aload_n C2 dL_law_1772 2 rfl ?_
  refine a_iload C2 dL_law_1773 1 rfl ?_
  refine a_iconst C2 dL_law_1775 (v := 1) (by decide) ?_
  refine a_iadd C2 dL_law_1776 ?_
  refine a_sld C2 hX hbl hbA2 (i := i + 1) (nI_add i 1) (by omega) (by omega) dL_law_1777 ?_
  refine a_callV C2 (k := 175) (As := [.int (xs (i + 1))]) (rest := []) hm2 (cwV 1 C2.1.2.2.2.2 (gl_up gL_law_X12_lampOfMoth) rfl rfl rfl (by decide +kernel) ⟨by dsimp only [x_rm, room_1]; omega, by dsimp only [x_rm, room_1]; omega⟩) x_k175 (q := (RX12, TX12, 16)) rfl rfl rfl rfl (Nat.le_of_ble_eq_true rfl) dL_law_1778 ⟨hc, hs⟩ ?_
  refine a_istore C2 dL_law_1781 (by decide) (lst2 := [(7, .int b0), (6, .int (nI k)), (5, .int (nI i)), (0, .ref b), (1, .ref (x_b G2 + 0)), (2, .ref (x_b G2 + 175)), (3, .ref (x_b G2 + 183)), (4, .ref (x_b G2 + 184))]) rfl ?_
  refine a_aload_n C2 dL_law_1783 5 rfl ?_
  refine a_callV C2 (k := 175) (As := []) (rest := []) (c_M_thrown l G2 d2) (cwV 0 C2.1.2.2.2.2 (gl_up gL_law_X12_thrown) rfl rfl rfl (by decide +kernel) ⟨Nat.le_of_ble_eq_true rfl, Nat.le_of_ble_eq_true rfl⟩) x_k175 (q := (RX12, TX12, 16)) rfl rfl rfl rfl (Nat.le_of_ble_eq_true rfl) dL_law_1784 ⟨hc, hs⟩ ?_
  refine a_iload C2 dL_law_1787 1 rfl ?_
  refine a_icmp_eq C2 dL_law_1789 (tgt := 1794) (by decide) (fun _ => ?_) (fun hn => absurd h12 hn)
  refine a_iload C2 dL_law_1794 1 rfl ?_
  have FIN : Ab G2 p l e room_1 s m args below meth c 9 (cells + 1) (slots + 6) Q 1811 [(7, .int b0), (6, .int (nI k)), (5, .int (nI i)), (0, .ref b), (1, .ref (x_b G2 + 0)), (2, .ref (x_b G2 + 175)), (3, .ref (x_b G2 + 183)), (4, .ref (x_b G2 + 184))] [] d2 := a_goto C2 dL_law_1811 (tgt := 3091) (by decide) (a_sub (lst2 := [(5, .int (nI i)), (0, .ref b), (1, .ref (x_b G2 + 0)), (2, .ref (x_b G2 + 175)), (3, .ref (x_b G2 + 183)), (4, .ref (x_b G2 + 184))]) [2, 3, 4, 5, 6, 7] rfl (K G2 d2 hb2 C2 hz))
  refine a_if_ne C2 dL_law_1796 (tgt := 1811) (by decide) (fun _ => FIN) (fun hk0 => ?_)
  have hk : k = 0 := by
    rcases Nat.eq_zero_or_pos k with y | y
    · exact y
    · exact absurd hk0 (nI_ne0 (by omega) (by omega))
  refine a_aload_n C2 dL_law_1799 6 rfl ?_
  refine a_iconst C2 dL_law_1800 (v := 0) (by decide) ?_
  refine a_lald C2 dL_law_1801 ?_
  refine a_iload C2 dL_law_1802 0 rfl ?_
  refine a_i2l C2 dL_law_1804 ?_
  refine a_lcmp C2 dL_law_1805 ?_
  exact a_if_eq C2 dL_law_1806 (tgt := 1811) (by decide) (fun _ => FIN) (fun hn => absurd ((lg_cmp_eq _ _).mpr (by rw [hl2 hk, hrb hk])) hn)
set_option maxHeartbeats 1000000 in
set_option maxRecDepth 100000 in
theorem law_29 (C : Cx G p s m args c code (wsL_law ++ ws_cl) RL 9) (hfl : l.stackTraces = false) (h : y_Z B d) (hB : B + 180 < 100000) (hX : va_X b L xs s s.heap) (hbl : b < s.heap.size) (hbA : ¬ x_A G b) (hL : L < 2000) (hi : i + 3 ≤ L) (hc : cells + 1 ≤ 603072) (hs : slots + 6 ≤ 7170154) (K : ∀ (G2 : xG) (d2 : xd), x_b G2 = x_b G → Cx G2 p s m args c code (wsL_law ++ ws_cl) RL 9 → y_Z (B + 180) d2 → Ab G2 p l e room_1 s m args below meth c 9 (cells + 1) (slots + 6) Q 3091 [(5, .int (nI i)), (0, .ref b), (1, .ref (x_b G2 + 0)), (2, .ref (x_b G2 + 175)), (3, .ref (x_b G2 + 183)), (4, .ref (x_b G2 + 184))] [] d2) : Ab G p l e room_1 s m args below meth c 9 cells slots Q 1814 [(5, .int (nI i)), (0, .ref b), (1, .ref (x_b G + 0)), (2, .ref (x_b G + 175)), (3, .ref (x_b G + 183)), (4, .ref (x_b G + 184))] [] d := by
  obtain ⟨k, r, d1, hk3, hcl, hm⟩ := y_S.two (s_strikesOf (l := l) hfl h hB (xs (i + 1)))
  refine a_aload_n C dL_law_1814 2 rfl ?_
  refine a_aload_n C dL_law_1815 1 rfl ?_
  refine a_iload C dL_law_1816 0 rfl ?_
  refine a_iconst C dL_law_1818 (v := 1) (by decide) ?_
  refine a_iadd C dL_law_1819 ?_
  refine a_sld C hX hbl hbA (i := i + 1) (nI_add i 1) (by omega) (by omega) dL_law_1820 ?_
  refine a_aload_n C dL_law_1821 4 rfl ?_
  refine a_callL (G2 := (if k = 0 then x_sl G r.toInt64 else G)) (g2_sl_b _ _ _) C (As := [.ref (x_b G + 0), .int (xs (i + 1)), .ref (x_b G + 183)]) (rest := []) (w_strikesOf l G d d1 _ k r hcl) (vx_cwSW 3 C.1.2.2.2.2 (gl_law gL_law_L_strikesOf) rfl rfl rfl (by decide +kernel) ⟨Nat.le_of_ble_eq_true rfl, Nat.le_of_ble_eq_true rfl⟩) rfl rfl (Nat.le_of_ble_eq_true rfl) dL_law_1822 ⟨hc, hs⟩ (g2_sl_D _ _ _) ?_
  have C2 := C.sl_if k r.toInt64
  have hb2 := g2_sl_b G r.toInt64 k
  have hl2 := g2_sl_v G r.toInt64 k
  generalize (if k = 0 then x_sl G r.toInt64 else G) = G2 at C2 hb2 hl2 ⊢
  have hbA2 : ¬ x_A G2 b := by
    unfold x_A
    rw [hb2]
    exact hbA
  rw [← hb2]
  obtain ⟨b0, d2, lv, hlv, hm2, h12, hrb, hz⟩ := hm G2
  refine a_istore C2 dL_law_1825 (by decide) (lst2 := [(6, .int (nI k)), (5, .int (nI i)), (0, .ref b), (1, .ref (x_b G2 + 0)), (2, .ref (x_b G2 + 175)), (3, .ref (x_b G2 + 183)), (4, .ref (x_b G2 + 184))]) rfl ?_
  refine a_aload_n C2 dL_law_1827 4 rfl ?_
  refine a_aload_n C2 dL_law_1828 2 rfl ?_
  refine a_iload C2 dL_law_1829 1 rfl ?_
  refine a_iconst C2 dL_law_1831 (v := 1) (by decide) ?_
  refine a_iadd C2 dL_law_1832 ?_
  refine a_sld C2 hX hbl hbA2 (i := i + 1) (nI_add i 1) (by omega) (by omega) dL_law_1833 ?_
  refine a_callV C2 (k := 175) (As := [.int (xs (i + 1))]) (rest := []) hm2 (cwV 1 C2.1.2.2.2.2 (gl_up gL_law_X12_strikesOf) rfl rfl rfl (by decide +kernel) ⟨by dsimp only [x_rm, room_1]; omega, by dsimp only [x_rm, room_1]; omega⟩) x_k175 (q := (RX12, TX12, 16)) rfl rfl rfl rfl (Nat.le_of_ble_eq_true rfl) dL_law_1834 ⟨hc, hs⟩ ?_
  refine a_istore C2 dL_law_1837 (by decide) (lst2 := [(7, .int b0), (6, .int (nI k)), (5, .int (nI i)), (0, .ref b), (1, .ref (x_b G2 + 0)), (2, .ref (x_b G2 + 175)), (3, .ref (x_b G2 + 183)), (4, .ref (x_b G2 + 184))]) rfl ?_
  refine a_aload_n C2 dL_law_1839 5 rfl ?_
  refine a_callV C2 (k := 175) (As := []) (rest := []) (c_M_thrown l G2 d2) (cwV 0 C2.1.2.2.2.2 (gl_up gL_law_X12_thrown) rfl rfl rfl (by decide +kernel) ⟨Nat.le_of_ble_eq_true rfl, Nat.le_of_ble_eq_true rfl⟩) x_k175 (q := (RX12, TX12, 16)) rfl rfl rfl rfl (Nat.le_of_ble_eq_true rfl) dL_law_1840 ⟨hc, hs⟩ ?_
  refine a_iload C2 dL_law_1843 1 rfl ?_
  refine a_icmp_eq C2 dL_law_1845 (tgt := 1850) (by decide) (fun _ => ?_) (fun hn => absurd h12 hn)
  refine a_iload C2 dL_law_1850 1 rfl ?_
  have FIN : Ab G2 p l e room_1 s m args below meth c 9 (cells + 1) (slots + 6) Q 1867 [(7, .int b0), (6, .int (nI k)), (5, .int (nI i)), (0, .ref b), (1, .ref (x_b G2 + 0)), (2, .ref (x_b G2 + 175)), (3, .ref (x_b G2 + 183)), (4, .ref (x_b G2 + 184))] [] d2 := a_goto C2 dL_law_1867 (tgt := 3091) (by decide) (a_sub (lst2 := [(5, .int (nI i)), (0, .ref b), (1, .ref (x_b G2 + 0)), (2, .ref (x_b G2 + 175)), (3, .ref (x_b G2 + 183)), (4, .ref (x_b G2 + 184))]) [2, 3, 4, 5, 6, 7] rfl (K G2 d2 hb2 C2 hz))
  refine a_if_ne C2 dL_law_1852 (tgt := 1867) (by decide) (fun _ => FIN) (fun hk0 => ?_)
  have hk : k = 0 := by
    rcases Nat.eq_zero_or_pos k with y | y
    · exact y
    · exact absurd hk0 (nI_ne0 (by omega) (by omega))
  refine a_aload_n C2 dL_law_1855 6 rfl ?_
  refine a_iconst C2 dL_law_1856 (v := 0) (by decide) ?_
  refine a_lald C2 dL_law_1857 ?_
  refine a_iload C2 dL_law_1858 0 rfl ?_
  refine a_i2l C2 dL_law_1860 ?_
  refine a_lcmp C2 dL_law_1861 ?_
  exact a_if_eq C2 dL_law_1862 (tgt := 1867) (by decide) (fun _ => FIN) (fun hn => absurd ((lg_cmp_eq _ _).mpr (by rw [hl2 hk, hrb hk])) hn)
set_option maxHeartbeats 1000000 in
set_option maxRecDepth 100000 in
theorem law_30 (C : Cx G p s m args c code (wsL_law ++ ws_cl) RL 9) (hfl : l.stackTraces = false) (h : y_Z B d) (hB : B + 180 < 100000) (hX : va_X b L xs s s.heap) (hbl : b < s.heap.size) (hbA : ¬ x_A G b) (hL : L < 2000) (hi : i + 3 ≤ L) (hc : cells + 1 ≤ 603072) (hs : slots + 6 ≤ 7170154) (K : ∀ (G2 : xG) (d2 : xd), x_b G2 = x_b G → Cx G2 p s m args c code (wsL_law ++ ws_cl) RL 9 → y_Z (B + 180) d2 → Ab G2 p l e room_1 s m args below meth c 9 (cells + 1) (slots + 6) Q 3091 [(5, .int (nI i)), (0, .ref b), (1, .ref (x_b G2 + 0)), (2, .ref (x_b G2 + 175)), (3, .ref (x_b G2 + 183)), (4, .ref (x_b G2 + 184))] [] d2) : Ab G p l e room_1 s m args below meth c 9 cells slots Q 1870 [(5, .int (nI i)), (0, .ref b), (1, .ref (x_b G + 0)), (2, .ref (x_b G + 175)), (3, .ref (x_b G + 183)), (4, .ref (x_b G + 184))] [] d := by
  obtain ⟨k, r, d1, hk3, hcl, hm⟩ := y_S.two (s_probationOf (l := l) hfl h hB (xs (i + 1)))
  refine a_aload_n C dL_law_1870 2 rfl ?_
  refine a_aload_n C dL_law_1871 1 rfl ?_
  refine a_iload C dL_law_1872 0 rfl ?_
  refine a_iconst C dL_law_1874 (v := 1) (by decide) ?_
  refine a_iadd C dL_law_1875 ?_
  refine a_sld C hX hbl hbA (i := i + 1) (nI_add i 1) (by omega) (by omega) dL_law_1876 ?_
  refine a_aload_n C dL_law_1877 4 rfl ?_
  refine a_callL (G2 := (if k = 0 then x_sl G r.toInt64 else G)) (g2_sl_b _ _ _) C (As := [.ref (x_b G + 0), .int (xs (i + 1)), .ref (x_b G + 183)]) (rest := []) (w_probationOf l G d d1 _ k r hcl) (vx_cwSW 3 C.1.2.2.2.2 (gl_law gL_law_L_probationOf) rfl rfl rfl (by decide +kernel) ⟨Nat.le_of_ble_eq_true rfl, Nat.le_of_ble_eq_true rfl⟩) rfl rfl (Nat.le_of_ble_eq_true rfl) dL_law_1878 ⟨hc, hs⟩ (g2_sl_D _ _ _) ?_
  have C2 := C.sl_if k r.toInt64
  have hb2 := g2_sl_b G r.toInt64 k
  have hl2 := g2_sl_v G r.toInt64 k
  generalize (if k = 0 then x_sl G r.toInt64 else G) = G2 at C2 hb2 hl2 ⊢
  have hbA2 : ¬ x_A G2 b := by
    unfold x_A
    rw [hb2]
    exact hbA
  rw [← hb2]
  obtain ⟨b0, d2, lv, hlv, hm2, h12, hrb, hz⟩ := hm G2
  refine a_istore C2 dL_law_1881 (by decide) (lst2 := [(6, .int (nI k)), (5, .int (nI i)), (0, .ref b), (1, .ref (x_b G2 + 0)), (2, .ref (x_b G2 + 175)), (3, .ref (x_b G2 + 183)), (4, .ref (x_b G2 + 184))]) rfl ?_
  refine a_aload_n C2 dL_law_1883 4 rfl ?_
  refine a_aload_n C2 dL_law_1884 2 rfl ?_
  refine a_iload C2 dL_law_1885 1 rfl ?_
  refine a_iconst C2 dL_law_1887 (v := 1) (by decide) ?_
  refine a_iadd C2 dL_law_1888 ?_
  refine a_sld C2 hX hbl hbA2 (i := i + 1) (nI_add i 1) (by omega) (by omega) dL_law_1889 ?_
  refine a_callV C2 (k := 175) (As := [.int (xs (i + 1))]) (rest := []) hm2 (cwV 1 C2.1.2.2.2.2 (gl_up gL_law_X12_probationOf) rfl rfl rfl (by decide +kernel) ⟨by dsimp only [x_rm, room_1]; omega, by dsimp only [x_rm, room_1]; omega⟩) x_k175 (q := (RX12, TX12, 16)) rfl rfl rfl rfl (Nat.le_of_ble_eq_true rfl) dL_law_1890 ⟨hc, hs⟩ ?_
  refine a_istore C2 dL_law_1893 (by decide) (lst2 := [(7, .int b0), (6, .int (nI k)), (5, .int (nI i)), (0, .ref b), (1, .ref (x_b G2 + 0)), (2, .ref (x_b G2 + 175)), (3, .ref (x_b G2 + 183)), (4, .ref (x_b G2 + 184))]) rfl ?_
  refine a_aload_n C2 dL_law_1895 5 rfl ?_
  refine a_callV C2 (k := 175) (As := []) (rest := []) (c_M_thrown l G2 d2) (cwV 0 C2.1.2.2.2.2 (gl_up gL_law_X12_thrown) rfl rfl rfl (by decide +kernel) ⟨Nat.le_of_ble_eq_true rfl, Nat.le_of_ble_eq_true rfl⟩) x_k175 (q := (RX12, TX12, 16)) rfl rfl rfl rfl (Nat.le_of_ble_eq_true rfl) dL_law_1896 ⟨hc, hs⟩ ?_
  refine a_iload C2 dL_law_1899 1 rfl ?_
  refine a_icmp_eq C2 dL_law_1901 (tgt := 1906) (by decide) (fun _ => ?_) (fun hn => absurd h12 hn)
  refine a_iload C2 dL_law_1906 1 rfl ?_
  have FIN : Ab G2 p l e room_1 s m args below meth c 9 (cells + 1) (slots + 6) Q 1923 [(7, .int b0), (6, .int (nI k)), (5, .int (nI i)), (0, .ref b), (1, .ref (x_b G2 + 0)), (2, .ref (x_b G2 + 175)), (3, .ref (x_b G2 + 183)), (4, .ref (x_b G2 + 184))] [] d2 := a_goto C2 dL_law_1923 (tgt := 3091) (by decide) (a_sub (lst2 := [(5, .int (nI i)), (0, .ref b), (1, .ref (x_b G2 + 0)), (2, .ref (x_b G2 + 175)), (3, .ref (x_b G2 + 183)), (4, .ref (x_b G2 + 184))]) [2, 3, 4, 5, 6, 7] rfl (K G2 d2 hb2 C2 hz))
  refine a_if_ne C2 dL_law_1908 (tgt := 1923) (by decide) (fun _ => FIN) (fun hk0 => ?_)
  have hk : k = 0 := by
    rcases Nat.eq_zero_or_pos k with y | y
    · exact y
    · exact absurd hk0 (nI_ne0 (by omega) (by omega))
  refine a_aload_n C2 dL_law_1911 6 rfl ?_
  refine a_iconst C2 dL_law_1912 (v := 0) (by decide) ?_
  refine a_lald C2 dL_law_1913 ?_
  refine a_iload C2 dL_law_1914 0 rfl ?_
  refine a_i2l C2 dL_law_1916 ?_
  refine a_lcmp C2 dL_law_1917 ?_
  exact a_if_eq C2 dL_law_1918 (tgt := 1923) (by decide) (fun _ => FIN) (fun hn => absurd ((lg_cmp_eq _ _).mpr (by rw [hl2 hk, hrb hk])) hn)
set_option maxHeartbeats 1000000 in
set_option maxRecDepth 100000 in
theorem law_31 (C : Cx G p s m args c code (wsL_law ++ ws_cl) RL 9) (hfl : l.stackTraces = false) (h : y_Z B d) (hB : B + 180 < 100000) (hX : va_X b L xs s s.heap) (hbl : b < s.heap.size) (hbA : ¬ x_A G b) (hL : L < 2000) (hi : i + 3 ≤ L) (hc : cells + 1 ≤ 603072) (hs : slots + 6 ≤ 7170154) (K : ∀ (G2 : xG) (d2 : xd), x_b G2 = x_b G → Cx G2 p s m args c code (wsL_law ++ ws_cl) RL 9 → y_Z (B + 180) d2 → Ab G2 p l e room_1 s m args below meth c 9 (cells + 1) (slots + 6) Q 3091 [(5, .int (nI i)), (0, .ref b), (1, .ref (x_b G2 + 0)), (2, .ref (x_b G2 + 175)), (3, .ref (x_b G2 + 183)), (4, .ref (x_b G2 + 184))] [] d2) : Ab G p l e room_1 s m args below meth c 9 cells slots Q 1926 [(5, .int (nI i)), (0, .ref b), (1, .ref (x_b G + 0)), (2, .ref (x_b G + 175)), (3, .ref (x_b G + 183)), (4, .ref (x_b G + 184))] [] d := by
  obtain ⟨k, r, d1, hk3, hcl, hm⟩ := y_S.two (s_isMember (l := l) hfl h hB (xs (i + 1)))
  refine a_aload_n C dL_law_1926 2 rfl ?_
  refine a_aload_n C dL_law_1927 1 rfl ?_
  refine a_iload C dL_law_1928 0 rfl ?_
  refine a_iconst C dL_law_1930 (v := 1) (by decide) ?_
  refine a_iadd C dL_law_1931 ?_
  refine a_sld C hX hbl hbA (i := i + 1) (nI_add i 1) (by omega) (by omega) dL_law_1932 ?_
  refine a_aload_n C dL_law_1933 4 rfl ?_
  refine a_callL (G2 := (if k = 0 then x_sl G (x_lz r) else G)) (g2_sl_b _ _ _) C (As := [.ref (x_b G + 0), .int (xs (i + 1)), .ref (x_b G + 183)]) (rest := []) (w_isMember l G d d1 _ k r hcl) (vx_cwSW 3 C.1.2.2.2.2 (gl_law gL_law_L_isMember) rfl rfl rfl (by decide +kernel) ⟨Nat.le_of_ble_eq_true rfl, Nat.le_of_ble_eq_true rfl⟩) rfl rfl (Nat.le_of_ble_eq_true rfl) dL_law_1934 ⟨hc, hs⟩ (g2_sl_D _ _ _) ?_
  have C2 := C.sl_if k (x_lz r)
  have hb2 := g2_sl_b G (x_lz r) k
  have hl2 := g2_sl_v G (x_lz r) k
  generalize (if k = 0 then x_sl G (x_lz r) else G) = G2 at C2 hb2 hl2 ⊢
  have hbA2 : ¬ x_A G2 b := by
    unfold x_A
    rw [hb2]
    exact hbA
  rw [← hb2]
  obtain ⟨b0, d2, lv, hlv, hm2, h12, hrb, hz⟩ := hm G2
  refine a_istore C2 dL_law_1937 (by decide) (lst2 := [(6, .int (nI k)), (5, .int (nI i)), (0, .ref b), (1, .ref (x_b G2 + 0)), (2, .ref (x_b G2 + 175)), (3, .ref (x_b G2 + 183)), (4, .ref (x_b G2 + 184))]) rfl ?_
  refine a_aload_n C2 dL_law_1939 4 rfl ?_
  refine a_aload_n C2 dL_law_1940 2 rfl ?_
  refine a_iload C2 dL_law_1941 1 rfl ?_
  refine a_iconst C2 dL_law_1943 (v := 1) (by decide) ?_
  refine a_iadd C2 dL_law_1944 ?_
  refine a_sld C2 hX hbl hbA2 (i := i + 1) (nI_add i 1) (by omega) (by omega) dL_law_1945 ?_
  refine a_callV C2 (k := 175) (As := [.int (xs (i + 1))]) (rest := []) hm2 (cwV 1 C2.1.2.2.2.2 (gl_up gL_law_X12_isMember) rfl rfl rfl (by decide +kernel) ⟨by dsimp only [x_rm, room_1]; omega, by dsimp only [x_rm, room_1]; omega⟩) x_k175 (q := (RX12, TX12, 16)) rfl rfl rfl rfl (Nat.le_of_ble_eq_true rfl) dL_law_1946 ⟨hc, hs⟩ ?_
  refine a_istore C2 dL_law_1949 (by decide) (lst2 := [(7, .int b0), (6, .int (nI k)), (5, .int (nI i)), (0, .ref b), (1, .ref (x_b G2 + 0)), (2, .ref (x_b G2 + 175)), (3, .ref (x_b G2 + 183)), (4, .ref (x_b G2 + 184))]) rfl ?_
  refine a_aload_n C2 dL_law_1951 5 rfl ?_
  refine a_callV C2 (k := 175) (As := []) (rest := []) (c_M_thrown l G2 d2) (cwV 0 C2.1.2.2.2.2 (gl_up gL_law_X12_thrown) rfl rfl rfl (by decide +kernel) ⟨Nat.le_of_ble_eq_true rfl, Nat.le_of_ble_eq_true rfl⟩) x_k175 (q := (RX12, TX12, 16)) rfl rfl rfl rfl (Nat.le_of_ble_eq_true rfl) dL_law_1952 ⟨hc, hs⟩ ?_
  refine a_iload C2 dL_law_1955 1 rfl ?_
  refine a_icmp_eq C2 dL_law_1957 (tgt := 1962) (by decide) (fun _ => ?_) (fun hn => absurd h12 hn)
  refine a_iload C2 dL_law_1962 1 rfl ?_
  have FIN : Ab G2 p l e room_1 s m args below meth c 9 (cells + 1) (slots + 6) Q 1986 [(7, .int b0), (6, .int (nI k)), (5, .int (nI i)), (0, .ref b), (1, .ref (x_b G2 + 0)), (2, .ref (x_b G2 + 175)), (3, .ref (x_b G2 + 183)), (4, .ref (x_b G2 + 184))] [] d2 := a_goto C2 dL_law_1986 (tgt := 3091) (by decide) (a_sub (lst2 := [(5, .int (nI i)), (0, .ref b), (1, .ref (x_b G2 + 0)), (2, .ref (x_b G2 + 175)), (3, .ref (x_b G2 + 183)), (4, .ref (x_b G2 + 184))]) [2, 3, 4, 5, 6, 7] rfl (K G2 d2 hb2 C2 hz))
  refine a_if_ne C2 dL_law_1964 (tgt := 1986) (by decide) (fun _ => FIN) (fun hk0 => ?_)
  have hk : k = 0 := by
    rcases Nat.eq_zero_or_pos k with y | y
    · exact y
    · exact absurd hk0 (nI_ne0 (by omega) (by omega))
  refine a_aload_n C2 dL_law_1967 6 rfl ?_
  refine a_iconst C2 dL_law_1968 (v := 0) (by decide) ?_
  refine a_lald C2 dL_law_1969 ?_
  refine a_iload C2 dL_law_1970 0 rfl ?_
  refine a_if_eq C2 dL_law_1972 (tgt := 1979) (by decide) (fun hz0 => ?_) (fun hz0 => ?_)
  · refine a_lconst C2 dL_law_1979 rfl ?_
    refine a_lcmp C2 dL_law_1980 ?_
    exact a_if_eq C2 dL_law_1981 (tgt := 1986) (by decide) (fun _ => FIN) (fun hn => absurd ((lg_cmp_eq _ _).mpr (by rw [hl2 hk, hrb hk]; exact if_pos hz0)) hn)
  · refine a_lconst C2 dL_law_1975 rfl ?_
    refine a_goto C2 dL_law_1976 (tgt := 1980) (by decide) ?_
    refine a_lcmp C2 dL_law_1980 ?_
    exact a_if_eq C2 dL_law_1981 (tgt := 1986) (by decide) (fun _ => FIN) (fun hn => absurd ((lg_cmp_eq _ _).mpr (by rw [hl2 hk, hrb hk]; exact if_neg hz0)) hn)
set_option maxHeartbeats 1000000 in
set_option maxRecDepth 100000 in
theorem law_32 (C : Cx G p s m args c code (wsL_law ++ ws_cl) RL 9) (hfl : l.stackTraces = false) (h : y_Z B d) (hB : B + 180 < 100000) (hX : va_X b L xs s s.heap) (hbl : b < s.heap.size) (hbA : ¬ x_A G b) (hL : L < 2000) (hi : i + 3 ≤ L) (hc : cells + 1 ≤ 603072) (hs : slots + 6 ≤ 7170154) (K : ∀ (G2 : xG) (d2 : xd), x_b G2 = x_b G → Cx G2 p s m args c code (wsL_law ++ ws_cl) RL 9 → y_Z (B + 180) d2 → Ab G2 p l e room_1 s m args below meth c 9 (cells + 1) (slots + 6) Q 3091 [(5, .int (nI i)), (0, .ref b), (1, .ref (x_b G2 + 0)), (2, .ref (x_b G2 + 175)), (3, .ref (x_b G2 + 183)), (4, .ref (x_b G2 + 184))] [] d2) : Ab G p l e room_1 s m args below meth c 9 cells slots Q 1989 [(5, .int (nI i)), (0, .ref b), (1, .ref (x_b G + 0)), (2, .ref (x_b G + 175)), (3, .ref (x_b G + 183)), (4, .ref (x_b G + 184))] [] d := by
  obtain ⟨r, d1, d2, ⟨lv, hlv, hc1⟩, ⟨lv2, hlv2, hc2⟩, hz⟩ := s_burnNight (l := l) h hB
  refine a_aload_n C dL_law_1989 2 rfl ?_
  refine a_callV C (k := 0) (As := []) (rest := []) (hc1 G) (cwV 0 C.1.2.2.2.2 (gl_up gL_law_X11_burnNight) rfl rfl rfl (by decide +kernel) ⟨by dsimp only [x_rm, room_1]; omega, by dsimp only [x_rm, room_1]; omega⟩) x_k0 (q := (RX11, TX11, 13)) rfl rfl rfl rfl (Nat.le_of_ble_eq_true rfl) dL_law_1990 ⟨by show cells ≤ 603072; omega, by show slots ≤ 7170154; omega⟩ ?_
  refine a_aload_n C dL_law_1993 3 rfl ?_
  refine a_callV C (k := 175) (As := []) (rest := [.int r]) (hc2 G) (cwV 0 C.1.2.2.2.2 (gl_up gL_law_X12_burnNight) rfl rfl rfl (by decide +kernel) ⟨by dsimp only [x_rm, room_1]; omega, by dsimp only [x_rm, room_1]; omega⟩) x_k175 (q := (RX12, TX12, 16)) rfl rfl rfl rfl (Nat.le_of_ble_eq_true rfl) dL_law_1994 ⟨by show cells ≤ 603072; omega, by show slots ≤ 7170154; omega⟩ ?_
  refine a_icmp_eq C dL_law_1997 (tgt := 3091) (by decide) (fun _ => ?_) (fun hn => absurd rfl hn)
  refine a_widen (k := cells + 1) (n := slots + 6) (by omega) (by omega) ?_
  exact K G d2 rfl C hz
set_option maxHeartbeats 1000000 in
set_option maxRecDepth 100000 in
theorem law_33 (C : Cx G p s m args c code (wsL_law ++ ws_cl) RL 9) (hfl : l.stackTraces = false) (h : y_Z B d) (hB : B + 180 < 100000) (hX : va_X b L xs s s.heap) (hbl : b < s.heap.size) (hbA : ¬ x_A G b) (hL : L < 2000) (hi : i + 3 ≤ L) (hc : cells + 1 ≤ 603072) (hs : slots + 6 ≤ 7170154) (K : ∀ (G2 : xG) (d2 : xd), x_b G2 = x_b G → Cx G2 p s m args c code (wsL_law ++ ws_cl) RL 9 → y_Z (B + 180) d2 → Ab G2 p l e room_1 s m args below meth c 9 (cells + 1) (slots + 6) Q 3091 [(5, .int (nI i)), (0, .ref b), (1, .ref (x_b G2 + 0)), (2, .ref (x_b G2 + 175)), (3, .ref (x_b G2 + 183)), (4, .ref (x_b G2 + 184))] [] d2) : Ab G p l e room_1 s m args below meth c 9 cells slots Q 2002 [(5, .int (nI i)), (0, .ref b), (1, .ref (x_b G + 0)), (2, .ref (x_b G + 175)), (3, .ref (x_b G + 183)), (4, .ref (x_b G + 184))] [] d := by
  obtain ⟨r, d1, d2, ⟨lv, hlv, hc1⟩, ⟨lv2, hlv2, hc2⟩, hz⟩ := s_nightCount (l := l) h hB
  refine a_aload_n C dL_law_2002 2 rfl ?_
  refine a_callV C (k := 0) (As := []) (rest := []) (hc1 G) (cwV 0 C.1.2.2.2.2 (gl_up gL_law_X11_nightCount) rfl rfl rfl (by decide +kernel) ⟨by dsimp only [x_rm, room_1]; omega, by dsimp only [x_rm, room_1]; omega⟩) x_k0 (q := (RX11, TX11, 13)) rfl rfl rfl rfl (Nat.le_of_ble_eq_true rfl) dL_law_2003 ⟨by show cells ≤ 603072; omega, by show slots ≤ 7170154; omega⟩ ?_
  refine a_aload_n C dL_law_2006 3 rfl ?_
  refine a_callV C (k := 175) (As := []) (rest := [.int r]) (hc2 G) (cwV 0 C.1.2.2.2.2 (gl_up gL_law_X12_nightCount) rfl rfl rfl (by decide +kernel) ⟨by dsimp only [x_rm, room_1]; omega, by dsimp only [x_rm, room_1]; omega⟩) x_k175 (q := (RX12, TX12, 16)) rfl rfl rfl rfl (Nat.le_of_ble_eq_true rfl) dL_law_2007 ⟨by show cells ≤ 603072; omega, by show slots ≤ 7170154; omega⟩ ?_
  refine a_icmp_eq C dL_law_2010 (tgt := 3091) (by decide) (fun _ => ?_) (fun hn => absurd rfl hn)
  refine a_widen (k := cells + 1) (n := slots + 6) (by omega) (by omega) ?_
  exact K G d2 rfl C hz
set_option maxHeartbeats 1000000 in
set_option maxRecDepth 100000 in
theorem law_34 (C : Cx G p s m args c code (wsL_law ++ ws_cl) RL 9) (hfl : l.stackTraces = false) (h : y_Z B d) (hB : B + 180 < 100000) (hX : va_X b L xs s s.heap) (hbl : b < s.heap.size) (hbA : ¬ x_A G b) (hL : L < 2000) (hi : i + 3 ≤ L) (hc : cells + 1 ≤ 603072) (hs : slots + 6 ≤ 7170154) (K : ∀ (G2 : xG) (d2 : xd), x_b G2 = x_b G → Cx G2 p s m args c code (wsL_law ++ ws_cl) RL 9 → y_Z (B + 180) d2 → Ab G2 p l e room_1 s m args below meth c 9 (cells + 1) (slots + 6) Q 3091 [(5, .int (nI i)), (0, .ref b), (1, .ref (x_b G2 + 0)), (2, .ref (x_b G2 + 175)), (3, .ref (x_b G2 + 183)), (4, .ref (x_b G2 + 184))] [] d2) : Ab G p l e room_1 s m args below meth c 9 cells slots Q 2015 [(5, .int (nI i)), (0, .ref b), (1, .ref (x_b G + 0)), (2, .ref (x_b G + 175)), (3, .ref (x_b G + 183)), (4, .ref (x_b G + 184))] [] d := by
  obtain ⟨k, r, d1, hk3, hcl, hm⟩ := y_S.two (s_canBurn (l := l) hfl h hB (xs (i + 1)))
  refine a_aload_n C dL_law_2015 2 rfl ?_
  refine a_aload_n C dL_law_2016 1 rfl ?_
  refine a_iload C dL_law_2017 0 rfl ?_
  refine a_iconst C dL_law_2019 (v := 1) (by decide) ?_
  refine a_iadd C dL_law_2020 ?_
  refine a_sld C hX hbl hbA (i := i + 1) (nI_add i 1) (by omega) (by omega) dL_law_2021 ?_
  refine a_aload_n C dL_law_2022 4 rfl ?_
  refine a_callL (G2 := (if k = 0 then x_sl G (x_lz r) else G)) (g2_sl_b _ _ _) C (As := [.ref (x_b G + 0), .int (xs (i + 1)), .ref (x_b G + 183)]) (rest := []) (w_canBurn l G d d1 _ k r hcl) (vx_cwSW 3 C.1.2.2.2.2 (gl_law gL_law_L_canBurn) rfl rfl rfl (by decide +kernel) ⟨Nat.le_of_ble_eq_true rfl, Nat.le_of_ble_eq_true rfl⟩) rfl rfl (Nat.le_of_ble_eq_true rfl) dL_law_2023 ⟨hc, hs⟩ (g2_sl_D _ _ _) ?_
  have C2 := C.sl_if k (x_lz r)
  have hb2 := g2_sl_b G (x_lz r) k
  have hl2 := g2_sl_v G (x_lz r) k
  generalize (if k = 0 then x_sl G (x_lz r) else G) = G2 at C2 hb2 hl2 ⊢
  have hbA2 : ¬ x_A G2 b := by
    unfold x_A
    rw [hb2]
    exact hbA
  rw [← hb2]
  obtain ⟨b0, d2, lv, hlv, hm2, h12, hrb, hz⟩ := hm G2
  refine a_istore C2 dL_law_2026 (by decide) (lst2 := [(6, .int (nI k)), (5, .int (nI i)), (0, .ref b), (1, .ref (x_b G2 + 0)), (2, .ref (x_b G2 + 175)), (3, .ref (x_b G2 + 183)), (4, .ref (x_b G2 + 184))]) rfl ?_
  refine a_aload_n C2 dL_law_2028 4 rfl ?_
  refine a_aload_n C2 dL_law_2029 2 rfl ?_
  refine a_iload C2 dL_law_2030 1 rfl ?_
  refine a_iconst C2 dL_law_2032 (v := 1) (by decide) ?_
  refine a_iadd C2 dL_law_2033 ?_
  refine a_sld C2 hX hbl hbA2 (i := i + 1) (nI_add i 1) (by omega) (by omega) dL_law_2034 ?_
  refine a_callV C2 (k := 175) (As := [.int (xs (i + 1))]) (rest := []) hm2 (cwV 1 C2.1.2.2.2.2 (gl_up gL_law_X12_canBurn) rfl rfl rfl (by decide +kernel) ⟨by dsimp only [x_rm, room_1]; omega, by dsimp only [x_rm, room_1]; omega⟩) x_k175 (q := (RX12, TX12, 16)) rfl rfl rfl rfl (Nat.le_of_ble_eq_true rfl) dL_law_2035 ⟨hc, hs⟩ ?_
  refine a_istore C2 dL_law_2038 (by decide) (lst2 := [(7, .int b0), (6, .int (nI k)), (5, .int (nI i)), (0, .ref b), (1, .ref (x_b G2 + 0)), (2, .ref (x_b G2 + 175)), (3, .ref (x_b G2 + 183)), (4, .ref (x_b G2 + 184))]) rfl ?_
  refine a_aload_n C2 dL_law_2040 5 rfl ?_
  refine a_callV C2 (k := 175) (As := []) (rest := []) (c_M_thrown l G2 d2) (cwV 0 C2.1.2.2.2.2 (gl_up gL_law_X12_thrown) rfl rfl rfl (by decide +kernel) ⟨Nat.le_of_ble_eq_true rfl, Nat.le_of_ble_eq_true rfl⟩) x_k175 (q := (RX12, TX12, 16)) rfl rfl rfl rfl (Nat.le_of_ble_eq_true rfl) dL_law_2041 ⟨hc, hs⟩ ?_
  refine a_iload C2 dL_law_2044 1 rfl ?_
  refine a_icmp_eq C2 dL_law_2046 (tgt := 2051) (by decide) (fun _ => ?_) (fun hn => absurd h12 hn)
  refine a_iload C2 dL_law_2051 1 rfl ?_
  have FIN : Ab G2 p l e room_1 s m args below meth c 9 (cells + 1) (slots + 6) Q 2075 [(7, .int b0), (6, .int (nI k)), (5, .int (nI i)), (0, .ref b), (1, .ref (x_b G2 + 0)), (2, .ref (x_b G2 + 175)), (3, .ref (x_b G2 + 183)), (4, .ref (x_b G2 + 184))] [] d2 := a_goto C2 dL_law_2075 (tgt := 3091) (by decide) (a_sub (lst2 := [(5, .int (nI i)), (0, .ref b), (1, .ref (x_b G2 + 0)), (2, .ref (x_b G2 + 175)), (3, .ref (x_b G2 + 183)), (4, .ref (x_b G2 + 184))]) [2, 3, 4, 5, 6, 7] rfl (K G2 d2 hb2 C2 hz))
  refine a_if_ne C2 dL_law_2053 (tgt := 2075) (by decide) (fun _ => FIN) (fun hk0 => ?_)
  have hk : k = 0 := by
    rcases Nat.eq_zero_or_pos k with y | y
    · exact y
    · exact absurd hk0 (nI_ne0 (by omega) (by omega))
  refine a_aload_n C2 dL_law_2056 6 rfl ?_
  refine a_iconst C2 dL_law_2057 (v := 0) (by decide) ?_
  refine a_lald C2 dL_law_2058 ?_
  refine a_iload C2 dL_law_2059 0 rfl ?_
  refine a_if_eq C2 dL_law_2061 (tgt := 2068) (by decide) (fun hz0 => ?_) (fun hz0 => ?_)
  · refine a_lconst C2 dL_law_2068 rfl ?_
    refine a_lcmp C2 dL_law_2069 ?_
    exact a_if_eq C2 dL_law_2070 (tgt := 2075) (by decide) (fun _ => FIN) (fun hn => absurd ((lg_cmp_eq _ _).mpr (by rw [hl2 hk, hrb hk]; exact if_pos hz0)) hn)
  · refine a_lconst C2 dL_law_2064 rfl ?_
    refine a_goto C2 dL_law_2065 (tgt := 2069) (by decide) ?_
    refine a_lcmp C2 dL_law_2069 ?_
    exact a_if_eq C2 dL_law_2070 (tgt := 2075) (by decide) (fun _ => FIN) (fun hn => absurd ((lg_cmp_eq _ _).mpr (by rw [hl2 hk, hrb hk]; exact if_neg hz0)) hn)
set_option maxHeartbeats 1000000 in
set_option maxRecDepth 100000 in
theorem law_35 (C : Cx G p s m args c code (wsL_law ++ ws_cl) RL 9) (hfl : l.stackTraces = false) (h : y_Z B d) (hB : B + 180 < 100000) (hX : va_X b L xs s s.heap) (hbl : b < s.heap.size) (hbA : ¬ x_A G b) (hL : L < 2000) (hi : i + 3 ≤ L) (hc : cells + 1 ≤ 603072) (hs : slots + 6 ≤ 7170154) (K : ∀ (G2 : xG) (d2 : xd), x_b G2 = x_b G → Cx G2 p s m args c code (wsL_law ++ ws_cl) RL 9 → y_Z (B + 180) d2 → Ab G2 p l e room_1 s m args below meth c 9 (cells + 1) (slots + 6) Q 3091 [(5, .int (nI i)), (0, .ref b), (1, .ref (x_b G2 + 0)), (2, .ref (x_b G2 + 175)), (3, .ref (x_b G2 + 183)), (4, .ref (x_b G2 + 184))] [] d2) : Ab G p l e room_1 s m args below meth c 9 cells slots Q 2078 [(5, .int (nI i)), (0, .ref b), (1, .ref (x_b G + 0)), (2, .ref (x_b G + 175)), (3, .ref (x_b G + 183)), (4, .ref (x_b G + 184))] [] d := by
  obtain ⟨k, r, d1, hk3, hcl, hm⟩ := y_S.two (s_nightsOf (l := l) hfl h hB (xs (i + 1)))
  refine a_aload_n C dL_law_2078 2 rfl ?_
  refine a_aload_n C dL_law_2079 1 rfl ?_
  refine a_iload C dL_law_2080 0 rfl ?_
  refine a_iconst C dL_law_2082 (v := 1) (by decide) ?_
  refine a_iadd C dL_law_2083 ?_
  refine a_sld C hX hbl hbA (i := i + 1) (nI_add i 1) (by omega) (by omega) dL_law_2084 ?_
  refine a_aload_n C dL_law_2085 4 rfl ?_
  refine a_callL (G2 := (if k = 0 then x_sl G r.toInt64 else G)) (g2_sl_b _ _ _) C (As := [.ref (x_b G + 0), .int (xs (i + 1)), .ref (x_b G + 183)]) (rest := []) (w_nightsOf l G d d1 _ k r hcl) (vx_cwSW 3 C.1.2.2.2.2 (gl_law gL_law_L_nightsOf) rfl rfl rfl (by decide +kernel) ⟨Nat.le_of_ble_eq_true rfl, Nat.le_of_ble_eq_true rfl⟩) rfl rfl (Nat.le_of_ble_eq_true rfl) dL_law_2086 ⟨hc, hs⟩ (g2_sl_D _ _ _) ?_
  have C2 := C.sl_if k r.toInt64
  have hb2 := g2_sl_b G r.toInt64 k
  have hl2 := g2_sl_v G r.toInt64 k
  generalize (if k = 0 then x_sl G r.toInt64 else G) = G2 at C2 hb2 hl2 ⊢
  have hbA2 : ¬ x_A G2 b := by
    unfold x_A
    rw [hb2]
    exact hbA
  rw [← hb2]
  obtain ⟨b0, d2, lv, hlv, hm2, h12, hrb, hz⟩ := hm G2
  refine a_istore C2 dL_law_2089 (by decide) (lst2 := [(6, .int (nI k)), (5, .int (nI i)), (0, .ref b), (1, .ref (x_b G2 + 0)), (2, .ref (x_b G2 + 175)), (3, .ref (x_b G2 + 183)), (4, .ref (x_b G2 + 184))]) rfl ?_
  refine a_aload_n C2 dL_law_2091 4 rfl ?_
  refine a_aload_n C2 dL_law_2092 2 rfl ?_
  refine a_iload C2 dL_law_2093 1 rfl ?_
  refine a_iconst C2 dL_law_2095 (v := 1) (by decide) ?_
  refine a_iadd C2 dL_law_2096 ?_
  refine a_sld C2 hX hbl hbA2 (i := i + 1) (nI_add i 1) (by omega) (by omega) dL_law_2097 ?_
  refine a_callV C2 (k := 175) (As := [.int (xs (i + 1))]) (rest := []) hm2 (cwV 1 C2.1.2.2.2.2 (gl_up gL_law_X12_nightsOf) rfl rfl rfl (by decide +kernel) ⟨by dsimp only [x_rm, room_1]; omega, by dsimp only [x_rm, room_1]; omega⟩) x_k175 (q := (RX12, TX12, 16)) rfl rfl rfl rfl (Nat.le_of_ble_eq_true rfl) dL_law_2098 ⟨hc, hs⟩ ?_
  refine a_istore C2 dL_law_2101 (by decide) (lst2 := [(7, .int b0), (6, .int (nI k)), (5, .int (nI i)), (0, .ref b), (1, .ref (x_b G2 + 0)), (2, .ref (x_b G2 + 175)), (3, .ref (x_b G2 + 183)), (4, .ref (x_b G2 + 184))]) rfl ?_
  refine a_aload_n C2 dL_law_2103 5 rfl ?_
  refine a_callV C2 (k := 175) (As := []) (rest := []) (c_M_thrown l G2 d2) (cwV 0 C2.1.2.2.2.2 (gl_up gL_law_X12_thrown) rfl rfl rfl (by decide +kernel) ⟨Nat.le_of_ble_eq_true rfl, Nat.le_of_ble_eq_true rfl⟩) x_k175 (q := (RX12, TX12, 16)) rfl rfl rfl rfl (Nat.le_of_ble_eq_true rfl) dL_law_2104 ⟨hc, hs⟩ ?_
  refine a_iload C2 dL_law_2107 1 rfl ?_
  refine a_icmp_eq C2 dL_law_2109 (tgt := 2114) (by decide) (fun _ => ?_) (fun hn => absurd h12 hn)
  refine a_iload C2 dL_law_2114 1 rfl ?_
  have FIN : Ab G2 p l e room_1 s m args below meth c 9 (cells + 1) (slots + 6) Q 2131 [(7, .int b0), (6, .int (nI k)), (5, .int (nI i)), (0, .ref b), (1, .ref (x_b G2 + 0)), (2, .ref (x_b G2 + 175)), (3, .ref (x_b G2 + 183)), (4, .ref (x_b G2 + 184))] [] d2 := a_goto C2 dL_law_2131 (tgt := 3091) (by decide) (a_sub (lst2 := [(5, .int (nI i)), (0, .ref b), (1, .ref (x_b G2 + 0)), (2, .ref (x_b G2 + 175)), (3, .ref (x_b G2 + 183)), (4, .ref (x_b G2 + 184))]) [2, 3, 4, 5, 6, 7] rfl (K G2 d2 hb2 C2 hz))
  refine a_if_ne C2 dL_law_2116 (tgt := 2131) (by decide) (fun _ => FIN) (fun hk0 => ?_)
  have hk : k = 0 := by
    rcases Nat.eq_zero_or_pos k with y | y
    · exact y
    · exact absurd hk0 (nI_ne0 (by omega) (by omega))
  refine a_aload_n C2 dL_law_2119 6 rfl ?_
  refine a_iconst C2 dL_law_2120 (v := 0) (by decide) ?_
  refine a_lald C2 dL_law_2121 ?_
  refine a_iload C2 dL_law_2122 0 rfl ?_
  refine a_i2l C2 dL_law_2124 ?_
  refine a_lcmp C2 dL_law_2125 ?_
  exact a_if_eq C2 dL_law_2126 (tgt := 2131) (by decide) (fun _ => FIN) (fun hn => absurd ((lg_cmp_eq _ _).mpr (by rw [hl2 hk, hrb hk])) hn)
set_option maxHeartbeats 1000000 in
set_option maxRecDepth 100000 in
theorem law_36 (C : Cx G p s m args c code (wsL_law ++ ws_cl) RL 9) (hfl : l.stackTraces = false) (h : y_Z B d) (hB : B + 180 < 100000) (hX : va_X b L xs s s.heap) (hbl : b < s.heap.size) (hbA : ¬ x_A G b) (hL : L < 2000) (hi : i + 3 ≤ L) (hc : cells + 1 ≤ 603072) (hs : slots + 6 ≤ 7170154) (K : ∀ (G2 : xG) (d2 : xd), x_b G2 = x_b G → Cx G2 p s m args c code (wsL_law ++ ws_cl) RL 9 → y_Z (B + 180) d2 → Ab G2 p l e room_1 s m args below meth c 9 (cells + 1) (slots + 6) Q 3091 [(5, .int (nI i)), (0, .ref b), (1, .ref (x_b G2 + 0)), (2, .ref (x_b G2 + 175)), (3, .ref (x_b G2 + 183)), (4, .ref (x_b G2 + 184))] [] d2) : Ab G p l e room_1 s m args below meth c 9 cells slots Q 2134 [(5, .int (nI i)), (0, .ref b), (1, .ref (x_b G + 0)), (2, .ref (x_b G + 175)), (3, .ref (x_b G + 183)), (4, .ref (x_b G + 184))] [] d := by
  obtain ⟨k, r, d1, hk3, hcl, hm⟩ := y_S.two (s_nightsBySimulation (l := l) hfl h hB (xs (i + 1)))
  refine a_aload_n C dL_law_2134 2 rfl ?_
  refine a_aload_n C dL_law_2135 1 rfl ?_
  refine a_iload C dL_law_2136 0 rfl ?_
  refine a_iconst C dL_law_2138 (v := 1) (by decide) ?_
  refine a_iadd C dL_law_2139 ?_
  refine a_sld C hX hbl hbA (i := i + 1) (nI_add i 1) (by omega) (by omega) dL_law_2140 ?_
  refine a_aload_n C dL_law_2141 4 rfl ?_
  refine a_callL (G2 := (if k = 0 then x_sl G r.toInt64 else G)) (g2_sl_b _ _ _) C (As := [.ref (x_b G + 0), .int (xs (i + 1)), .ref (x_b G + 183)]) (rest := []) (w_nightsBySimulation l G d d1 _ k r hcl) (vx_cwSW 3 C.1.2.2.2.2 (gl_law gL_law_L_nightsBySimulation) rfl rfl rfl (by decide +kernel) ⟨Nat.le_of_ble_eq_true rfl, Nat.le_of_ble_eq_true rfl⟩) rfl rfl (Nat.le_of_ble_eq_true rfl) dL_law_2142 ⟨hc, hs⟩ (g2_sl_D _ _ _) ?_
  have C2 := C.sl_if k r.toInt64
  have hb2 := g2_sl_b G r.toInt64 k
  have hl2 := g2_sl_v G r.toInt64 k
  generalize (if k = 0 then x_sl G r.toInt64 else G) = G2 at C2 hb2 hl2 ⊢
  have hbA2 : ¬ x_A G2 b := by
    unfold x_A
    rw [hb2]
    exact hbA
  rw [← hb2]
  obtain ⟨b0, d2, lv, hlv, hm2, h12, hrb, hz⟩ := hm G2
  refine a_istore C2 dL_law_2145 (by decide) (lst2 := [(6, .int (nI k)), (5, .int (nI i)), (0, .ref b), (1, .ref (x_b G2 + 0)), (2, .ref (x_b G2 + 175)), (3, .ref (x_b G2 + 183)), (4, .ref (x_b G2 + 184))]) rfl ?_
  refine a_aload_n C2 dL_law_2147 4 rfl ?_
  refine a_aload_n C2 dL_law_2148 2 rfl ?_
  refine a_iload C2 dL_law_2149 1 rfl ?_
  refine a_iconst C2 dL_law_2151 (v := 1) (by decide) ?_
  refine a_iadd C2 dL_law_2152 ?_
  refine a_sld C2 hX hbl hbA2 (i := i + 1) (nI_add i 1) (by omega) (by omega) dL_law_2153 ?_
  refine a_callV C2 (k := 175) (As := [.int (xs (i + 1))]) (rest := []) hm2 (cwV 1 C2.1.2.2.2.2 (gl_up gL_law_X12_nightsBySimulation) rfl rfl rfl (by decide +kernel) ⟨by dsimp only [x_rm, room_1]; omega, by dsimp only [x_rm, room_1]; omega⟩) x_k175 (q := (RX12, TX12, 16)) rfl rfl rfl rfl (Nat.le_of_ble_eq_true rfl) dL_law_2154 ⟨hc, hs⟩ ?_
  refine a_istore C2 dL_law_2157 (by decide) (lst2 := [(7, .int b0), (6, .int (nI k)), (5, .int (nI i)), (0, .ref b), (1, .ref (x_b G2 + 0)), (2, .ref (x_b G2 + 175)), (3, .ref (x_b G2 + 183)), (4, .ref (x_b G2 + 184))]) rfl ?_
  refine a_aload_n C2 dL_law_2159 5 rfl ?_
  refine a_callV C2 (k := 175) (As := []) (rest := []) (c_M_thrown l G2 d2) (cwV 0 C2.1.2.2.2.2 (gl_up gL_law_X12_thrown) rfl rfl rfl (by decide +kernel) ⟨Nat.le_of_ble_eq_true rfl, Nat.le_of_ble_eq_true rfl⟩) x_k175 (q := (RX12, TX12, 16)) rfl rfl rfl rfl (Nat.le_of_ble_eq_true rfl) dL_law_2160 ⟨hc, hs⟩ ?_
  refine a_iload C2 dL_law_2163 1 rfl ?_
  refine a_icmp_eq C2 dL_law_2165 (tgt := 2170) (by decide) (fun _ => ?_) (fun hn => absurd h12 hn)
  refine a_iload C2 dL_law_2170 1 rfl ?_
  have FIN : Ab G2 p l e room_1 s m args below meth c 9 (cells + 1) (slots + 6) Q 2187 [(7, .int b0), (6, .int (nI k)), (5, .int (nI i)), (0, .ref b), (1, .ref (x_b G2 + 0)), (2, .ref (x_b G2 + 175)), (3, .ref (x_b G2 + 183)), (4, .ref (x_b G2 + 184))] [] d2 := a_goto C2 dL_law_2187 (tgt := 3091) (by decide) (a_sub (lst2 := [(5, .int (nI i)), (0, .ref b), (1, .ref (x_b G2 + 0)), (2, .ref (x_b G2 + 175)), (3, .ref (x_b G2 + 183)), (4, .ref (x_b G2 + 184))]) [2, 3, 4, 5, 6, 7] rfl (K G2 d2 hb2 C2 hz))
  refine a_if_ne C2 dL_law_2172 (tgt := 2187) (by decide) (fun _ => FIN) (fun hk0 => ?_)
  have hk : k = 0 := by
    rcases Nat.eq_zero_or_pos k with y | y
    · exact y
    · exact absurd hk0 (nI_ne0 (by omega) (by omega))
  refine a_aload_n C2 dL_law_2175 6 rfl ?_
  refine a_iconst C2 dL_law_2176 (v := 0) (by decide) ?_
  refine a_lald C2 dL_law_2177 ?_
  refine a_iload C2 dL_law_2178 0 rfl ?_
  refine a_i2l C2 dL_law_2180 ?_
  refine a_lcmp C2 dL_law_2181 ?_
  exact a_if_eq C2 dL_law_2182 (tgt := 2187) (by decide) (fun _ => FIN) (fun hn => absurd ((lg_cmp_eq _ _).mpr (by rw [hl2 hk, hrb hk])) hn)
set_option maxHeartbeats 1000000 in
set_option maxRecDepth 100000 in
theorem law_37 (C : Cx G p s m args c code (wsL_law ++ ws_cl) RL 9) (hfl : l.stackTraces = false) (h : y_Z B d) (hB : B + 180 < 100000) (hX : va_X b L xs s s.heap) (hbl : b < s.heap.size) (hbA : ¬ x_A G b) (hL : L < 2000) (hi : i + 3 ≤ L) (hc : cells + 1 ≤ 603072) (hs : slots + 6 ≤ 7170154) (K : ∀ (G2 : xG) (d2 : xd), x_b G2 = x_b G → Cx G2 p s m args c code (wsL_law ++ ws_cl) RL 9 → y_Z (B + 180) d2 → Ab G2 p l e room_1 s m args below meth c 9 (cells + 1) (slots + 6) Q 3091 [(5, .int (nI i)), (0, .ref b), (1, .ref (x_b G2 + 0)), (2, .ref (x_b G2 + 175)), (3, .ref (x_b G2 + 183)), (4, .ref (x_b G2 + 184))] [] d2) : Ab G p l e room_1 s m args below meth c 9 cells slots Q 2190 [(5, .int (nI i)), (0, .ref b), (1, .ref (x_b G + 0)), (2, .ref (x_b G + 175)), (3, .ref (x_b G + 183)), (4, .ref (x_b G + 184))] [] d := by
  obtain ⟨k, r, d1, hk3, hcl, hm⟩ := y_S.two (s_glowOf (l := l) hfl h hB (xs (i + 1)))
  refine a_aload_n C dL_law_2190 2 rfl ?_
  refine a_aload_n C dL_law_2191 1 rfl ?_
  refine a_iload C dL_law_2192 0 rfl ?_
  refine a_iconst C dL_law_2194 (v := 1) (by decide) ?_
  refine a_iadd C dL_law_2195 ?_
  refine a_sld C hX hbl hbA (i := i + 1) (nI_add i 1) (by omega) (by omega) dL_law_2196 ?_
  refine a_aload_n C dL_law_2197 4 rfl ?_
  refine a_callL (G2 := (if k = 0 then x_sl G r.toInt64 else G)) (g2_sl_b _ _ _) C (As := [.ref (x_b G + 0), .int (xs (i + 1)), .ref (x_b G + 183)]) (rest := []) (w_glowOf l G d d1 _ k r hcl) (vx_cwSW 3 C.1.2.2.2.2 (gl_law gL_law_L_glowOf) rfl rfl rfl (by decide +kernel) ⟨Nat.le_of_ble_eq_true rfl, Nat.le_of_ble_eq_true rfl⟩) rfl rfl (Nat.le_of_ble_eq_true rfl) dL_law_2198 ⟨hc, hs⟩ (g2_sl_D _ _ _) ?_
  have C2 := C.sl_if k r.toInt64
  have hb2 := g2_sl_b G r.toInt64 k
  have hl2 := g2_sl_v G r.toInt64 k
  generalize (if k = 0 then x_sl G r.toInt64 else G) = G2 at C2 hb2 hl2 ⊢
  have hbA2 : ¬ x_A G2 b := by
    unfold x_A
    rw [hb2]
    exact hbA
  rw [← hb2]
  obtain ⟨b0, d2, lv, hlv, hm2, h12, hrb, hz⟩ := hm G2
  refine a_istore C2 dL_law_2201 (by decide) (lst2 := [(6, .int (nI k)), (5, .int (nI i)), (0, .ref b), (1, .ref (x_b G2 + 0)), (2, .ref (x_b G2 + 175)), (3, .ref (x_b G2 + 183)), (4, .ref (x_b G2 + 184))]) rfl ?_
  refine a_aload_n C2 dL_law_2203 4 rfl ?_
  refine a_aload_n C2 dL_law_2204 2 rfl ?_
  refine a_iload C2 dL_law_2205 1 rfl ?_
  refine a_iconst C2 dL_law_2207 (v := 1) (by decide) ?_
  refine a_iadd C2 dL_law_2208 ?_
  refine a_sld C2 hX hbl hbA2 (i := i + 1) (nI_add i 1) (by omega) (by omega) dL_law_2209 ?_
  refine a_callV C2 (k := 175) (As := [.int (xs (i + 1))]) (rest := []) hm2 (cwV 1 C2.1.2.2.2.2 (gl_up gL_law_X12_glowOf) rfl rfl rfl (by decide +kernel) ⟨by dsimp only [x_rm, room_1]; omega, by dsimp only [x_rm, room_1]; omega⟩) x_k175 (q := (RX12, TX12, 16)) rfl rfl rfl rfl (Nat.le_of_ble_eq_true rfl) dL_law_2210 ⟨hc, hs⟩ ?_
  refine a_istore C2 dL_law_2213 (by decide) (lst2 := [(7, .int b0), (6, .int (nI k)), (5, .int (nI i)), (0, .ref b), (1, .ref (x_b G2 + 0)), (2, .ref (x_b G2 + 175)), (3, .ref (x_b G2 + 183)), (4, .ref (x_b G2 + 184))]) rfl ?_
  refine a_aload_n C2 dL_law_2215 5 rfl ?_
  refine a_callV C2 (k := 175) (As := []) (rest := []) (c_M_thrown l G2 d2) (cwV 0 C2.1.2.2.2.2 (gl_up gL_law_X12_thrown) rfl rfl rfl (by decide +kernel) ⟨Nat.le_of_ble_eq_true rfl, Nat.le_of_ble_eq_true rfl⟩) x_k175 (q := (RX12, TX12, 16)) rfl rfl rfl rfl (Nat.le_of_ble_eq_true rfl) dL_law_2216 ⟨hc, hs⟩ ?_
  refine a_iload C2 dL_law_2219 1 rfl ?_
  refine a_icmp_eq C2 dL_law_2221 (tgt := 2226) (by decide) (fun _ => ?_) (fun hn => absurd h12 hn)
  refine a_iload C2 dL_law_2226 1 rfl ?_
  have FIN : Ab G2 p l e room_1 s m args below meth c 9 (cells + 1) (slots + 6) Q 2243 [(7, .int b0), (6, .int (nI k)), (5, .int (nI i)), (0, .ref b), (1, .ref (x_b G2 + 0)), (2, .ref (x_b G2 + 175)), (3, .ref (x_b G2 + 183)), (4, .ref (x_b G2 + 184))] [] d2 := a_goto C2 dL_law_2243 (tgt := 3091) (by decide) (a_sub (lst2 := [(5, .int (nI i)), (0, .ref b), (1, .ref (x_b G2 + 0)), (2, .ref (x_b G2 + 175)), (3, .ref (x_b G2 + 183)), (4, .ref (x_b G2 + 184))]) [2, 3, 4, 5, 6, 7] rfl (K G2 d2 hb2 C2 hz))
  refine a_if_ne C2 dL_law_2228 (tgt := 2243) (by decide) (fun _ => FIN) (fun hk0 => ?_)
  have hk : k = 0 := by
    rcases Nat.eq_zero_or_pos k with y | y
    · exact y
    · exact absurd hk0 (nI_ne0 (by omega) (by omega))
  refine a_aload_n C2 dL_law_2231 6 rfl ?_
  refine a_iconst C2 dL_law_2232 (v := 0) (by decide) ?_
  refine a_lald C2 dL_law_2233 ?_
  refine a_iload C2 dL_law_2234 0 rfl ?_
  refine a_i2l C2 dL_law_2236 ?_
  refine a_lcmp C2 dL_law_2237 ?_
  exact a_if_eq C2 dL_law_2238 (tgt := 2243) (by decide) (fun _ => FIN) (fun hn => absurd ((lg_cmp_eq _ _).mpr (by rw [hl2 hk, hrb hk])) hn)
end LCASES
