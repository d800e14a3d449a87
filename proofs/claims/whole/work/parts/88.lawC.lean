section LCASES
variable {G : xG} {p : Program} {l : Launch} {e : Env} {s : State} {m : MethodId} {args : Array Value} {below : List Frame} {meth : Method} {c : Code} {cells slots B b L i : Nat} {Q : State → Prop} {d : xd} {xs : Nat → Int32}
set_option maxHeartbeats 1000000 in
set_option maxRecDepth 100000 in
theorem law_38 (C : Cx G p s m args c code (wsL_law ++ ws_cl) RL 9) (hfl : l.stackTraces = false) (h : y_Z B d) (hB : B + 180 < 100000) (hX : va_X b L xs s s.heap) (hbl : b < s.heap.size) (hbA : ¬ x_A G b) (hL : L < 2000) (hi : i + 3 ≤ L) (hc : cells + 1 ≤ 603072) (hs : slots + 6 ≤ 7170154) (K : ∀ (G2 : xG) (d2 : xd), x_b G2 = x_b G → Cx G2 p s m args c code (wsL_law ++ ws_cl) RL 9 → y_Z (B + 180) d2 → Ab G2 p l e room_1 s m args below meth c 9 (cells + 1) (slots + 6) Q 3091 [(5, .int (nI i)), (0, .ref b), (1, .ref (x_b G2 + 0)), (2, .ref (x_b G2 + 175)), (3, .ref (x_b G2 + 183)), (4, .ref (x_b G2 + 184))] [] d2) : Ab G p l e room_1 s m args below meth c 9 cells slots Q 2246 [(5, .int (nI i)), (0, .ref b), (1, .ref (x_b G + 0)), (2, .ref (x_b G + 175)), (3, .ref (x_b G + 183)), (4, .ref (x_b G + 184))] [] d := by
  obtain ⟨k, r, d1, hk3, hcl, hm⟩ := y_S.two (s_isDark (l := l) hfl h hB (xs (i + 1)))
  refine a_aload_n C dL_law_2246 2 rfl ?_
  refine a_aload_n C dL_law_2247 1 rfl ?_
  refine a_iload C dL_law_2248 0 rfl ?_
  refine a_iconst C dL_law_2250 (v := 1) (by decide) ?_
  refine a_iadd C dL_law_2251 ?_
  refine a_sld C hX hbl hbA (i := i + 1) (nI_add i 1) (by omega) (by omega) dL_law_2252 ?_
  refine a_aload_n C dL_law_2253 4 rfl ?_
  refine a_callL (G2 := (if k = 0 then x_sl G (x_lz r) else G)) (g2_sl_b _ _ _) C (As := [.ref (x_b G + 0), .int (xs (i + 1)), .ref (x_b G + 183)]) (rest := []) (w_isDark l G d d1 _ k r hcl) (vx_cwSW 3 C.1.2.2.2.2 (gl_law gL_law_L_isDark) rfl rfl rfl (by decide +kernel) ⟨Nat.le_of_ble_eq_true rfl, Nat.le_of_ble_eq_true rfl⟩) rfl rfl (Nat.le_of_ble_eq_true rfl) dL_law_2254 ⟨hc, hs⟩ (g2_sl_D _ _ _) ?_
  have C2 := C.sl_if k (x_lz r)
  have hb2 := g2_sl_b G (x_lz r) k
  have hl2 := g2_sl_v G (x_lz r) k
  generalize (if k = 0 then x_sl G (x_lz r) else G) = G2 at C2 hb2 hl2 ⊢
  have hbA2 : ¬ x_A G2 b := by
    unfold x_A
    rw [hb2]
    exact hbA
  rw [← hb2]
  obtain ⟨b0, d2, lv, hlv, hm2, h12, hrb, hz⟩ := hm G2
  refine a_istore C2 dL_law_2257 (by decide) (lst2 := [(6, .int (nI k)), (5, .int (nI i)), (0, .ref b), (1, .ref (x_b G2 + 0)), (2, .ref (x_b G2 + 175)), (3, .ref (x_b G2 + 183)), (4, .ref (x_b G2 + 184))]) rfl ?_
  refine a_aload_n C2 dL_law_2259 4 rfl ?_
  refine a_aload_n C2 dL_law_2260 2 rfl ?_
  refine a_iload C2 dL_law_2261 1 rfl ?_
  refine a_iconst C2 dL_law_2263 (v := 1) (by decide) ?_
  refine a_iadd C2 dL_law_2264 ?_
  refine a_sld C2 hX hbl hbA2 (i := i + 1) (nI_add i 1) (by omega) (by omega) dL_law_2265 ?_
  refine a_callV C2 (k := 175) (As := [.int (xs (i + 1))]) (rest := []) hm2 (cwV 1 C2.1.2.2.2.2 (gl_up gL_law_X12_isDark) rfl rfl rfl (by decide +kernel) ⟨by dsimp only [x_rm, room_1]; omega, by dsimp only [x_rm, room_1]; omega⟩) x_k175 (q := (RX12, TX12, 16)) rfl rfl rfl rfl (Nat.le_of_ble_eq_true rfl) dL_law_2266 ⟨hc, hs⟩ ?_
  refine a_istore C2 dL_law_2269 (by decide) (lst2 := [(7, .int b0), (6, .int (nI k)), (5, .int (nI i)), (0, .ref b), (1, .ref (x_b G2 + 0)), (2, .ref (x_b G2 + 175)), (3, .ref (x_b G2 + 183)), (4, .ref (x_b G2 + 184))]) rfl ?_
  refine a_aload_n C2 dL_law_2271 5 rfl ?_
  refine a_callV C2 (k := 175) (As := []) (rest := []) (c_M_thrown l G2 d2) (cwV 0 C2.1.2.2.2.2 (gl_up gL_law_X12_thrown) rfl rfl rfl (by decide +kernel) ⟨Nat.le_of_ble_eq_true rfl, Nat.le_of_ble_eq_true rfl⟩) x_k175 (q := (RX12, TX12, 16)) rfl rfl rfl rfl (Nat.le_of_ble_eq_true rfl) dL_law_2272 ⟨hc, hs⟩ ?_
  refine a_iload C2 dL_law_2275 1 rfl ?_
  refine a_icmp_eq C2 dL_law_2277 (tgt := 2282) (by decide) (fun _ => ?_) (fun hn => absurd h12 hn)
  refine a_iload C2 dL_law_2282 1 rfl ?_
  have FIN : Ab G2 p l e room_1 s m args below meth c 9 (cells + 1) (slots + 6) Q 2306 [(7, .int b0), (6, .int (nI k)), (5, .int (nI i)), (0, .ref b), (1, .ref (x_b G2 + 0)), (2, .ref (x_b G2 + 175)), (3, .ref (x_b G2 + 183)), (4, .ref (x_b G2 + 184))] [] d2 := a_goto C2 dL_law_2306 (tgt := 3091) (by decide) (a_sub (lst2 := [(5, .int (nI i)), (0, .ref b), (1, .ref (x_b G2 + 0)), (2, .ref (x_b G2 + 175)), (3, .ref (x_b G2 + 183)), (4, .ref (x_b G2 + 184))]) [2, 3, 4, 5, 6, 7] rfl (K G2 d2 hb2 C2 hz))
  refine a_if_ne C2 dL_law_2284 (tgt := 2306) (by decide) (fun _ => FIN) (fun hk0 => ?_)
  have hk : k = 0 := by
    rcases Nat.eq_zero_or_pos k with y | y
    · exact y
    · exact absurd hk0 (nI_ne0 (by omega) (by omega))
  refine a_aload_n C2 dL_law_2287 6 rfl ?_
  refine a_iconst C2 dL_law_2288 (v := 0) (by decide) ?_
  refine a_lald C2 dL_law_2289 ?_
  refine a_iload C2 dL_law_2290 0 rfl ?_
  refine a_if_eq C2 dL_law_2292 (tgt := 2299) (by decide) (fun hz0 => ?_) (fun hz0 => ?_)
  · refine a_lconst C2 dL_law_2299 rfl ?_
    refine a_lcmp C2 dL_law_2300 ?_
    exact a_if_eq C2 dL_law_2301 (tgt := 2306) (by decide) (fun _ => FIN) (fun hn => absurd ((lg_cmp_eq _ _).mpr (by rw [hl2 hk, hrb hk]; exact if_pos hz0)) hn)
  · refine a_lconst C2 dL_law_2295 rfl ?_
    refine a_goto C2 dL_law_2296 (tgt := 2300) (by decide) ?_
    refine a_lcmp C2 dL_law_2300 ?_
    exact a_if_eq C2 dL_law_2301 (tgt := 2306) (by decide) (fun _ => FIN) (fun hn => absurd ((lg_cmp_eq _ _).mpr (by rw [hl2 hk, hrb hk]; exact if_neg hz0)) hn)
set_option maxHeartbeats 1000000 in
set_option maxRecDepth 100000 in
theorem law_39 (C : Cx G p s m args c code (wsL_law ++ ws_cl) RL 9) (hfl : l.stackTraces = false) (h : y_Z B d) (hB : B + 180 < 100000) (hX : va_X b L xs s s.heap) (hbl : b < s.heap.size) (hbA : ¬ x_A G b) (hL : L < 2000) (hi : i + 3 ≤ L) (hc : cells + 1 ≤ 603072) (hs : slots + 6 ≤ 7170154) (K : ∀ (G2 : xG) (d2 : xd), x_b G2 = x_b G → Cx G2 p s m args c code (wsL_law ++ ws_cl) RL 9 → y_Z (B + 180) d2 → Ab G2 p l e room_1 s m args below meth c 9 (cells + 1) (slots + 6) Q 3091 [(5, .int (nI i)), (0, .ref b), (1, .ref (x_b G2 + 0)), (2, .ref (x_b G2 + 175)), (3, .ref (x_b G2 + 183)), (4, .ref (x_b G2 + 184))] [] d2) : Ab G p l e room_1 s m args below meth c 9 cells slots Q 2309 [(5, .int (nI i)), (0, .ref b), (1, .ref (x_b G + 0)), (2, .ref (x_b G + 175)), (3, .ref (x_b G + 183)), (4, .ref (x_b G + 184))] [] d := by
  obtain ⟨r, d1, d2, ⟨lv, hlv, hc1⟩, ⟨lv2, hlv2, hc2⟩, hz⟩ := s_brightestStreet (l := l) h hB
  refine a_aload_n C dL_law_2309 2 rfl ?_
  refine a_callV C (k := 0) (As := []) (rest := []) (hc1 G) (cwV 0 C.1.2.2.2.2 (gl_up gL_law_X11_brightestStreet) rfl rfl rfl (by decide +kernel) ⟨by dsimp only [x_rm, room_1]; omega, by dsimp only [x_rm, room_1]; omega⟩) x_k0 (q := (RX11, TX11, 13)) rfl rfl rfl rfl (Nat.le_of_ble_eq_true rfl) dL_law_2310 ⟨by show cells ≤ 603072; omega, by show slots ≤ 7170154; omega⟩ ?_
  refine a_aload_n C dL_law_2313 3 rfl ?_
  refine a_callV C (k := 175) (As := []) (rest := [.int r]) (hc2 G) (cwV 0 C.1.2.2.2.2 (gl_up gL_law_X12_brightestStreet) rfl rfl rfl (by decide +kernel) ⟨by dsimp only [x_rm, room_1]; omega, by dsimp only [x_rm, room_1]; omega⟩) x_k175 (q := (RX12, TX12, 16)) rfl rfl rfl rfl (Nat.le_of_ble_eq_true rfl) dL_law_2314 ⟨by show cells ≤ 603072; omega, by show slots ≤ 7170154; omega⟩ ?_
  refine a_icmp_eq C dL_law_2317 (tgt := 3091) (by decide) (fun _ => ?_) (fun hn => absurd rfl hn)
  refine a_widen (k := cells + 1) (n := slots + 6) (by omega) (by omega) ?_
  exact K G d2 rfl C hz
set_option maxHeartbeats 1000000 in
set_option maxRecDepth 100000 in
theorem law_40 (C : Cx G p s m args c code (wsL_law ++ ws_cl) RL 9) (hfl : l.stackTraces = false) (h : y_Z B d) (hB : B + 180 < 100000) (hX : va_X b L xs s s.heap) (hbl : b < s.heap.size) (hbA : ¬ x_A G b) (hL : L < 2000) (hi : i + 3 ≤ L) (hc : cells + 1 ≤ 603072) (hs : slots + 6 ≤ 7170154) (K : ∀ (G2 : xG) (d2 : xd), x_b G2 = x_b G → Cx G2 p s m args c code (wsL_law ++ ws_cl) RL 9 → y_Z (B + 180) d2 → Ab G2 p l e room_1 s m args below meth c 9 (cells + 1) (slots + 6) Q 3091 [(5, .int (nI i)), (0, .ref b), (1, .ref (x_b G2 + 0)), (2, .ref (x_b G2 + 175)), (3, .ref (x_b G2 + 183)), (4, .ref (x_b G2 + 184))] [] d2) : Ab G p l e room_1 s m args below meth c 9 cells slots Q 2322 [(5, .int (nI i)), (0, .ref b), (1, .ref (x_b G + 0)), (2, .ref (x_b G + 175)), (3, .ref (x_b G + 183)), (4, .ref (x_b G + 184))] [] d := by
  obtain ⟨k, r, d1, hk3, hcl, hm⟩ := y_S.two (s_proposeCap (l := l) hfl h hB (xs (i + 1)))
  refine a_aload_n C dL_law_2322 2 rfl ?_
  refine a_aload_n C dL_law_2323 1 rfl ?_
  refine a_iload C dL_law_2324 0 rfl ?_
  refine a_iconst C dL_law_2326 (v := 1) (by decide) ?_
  refine a_iadd C dL_law_2327 ?_
  refine a_sld C hX hbl hbA (i := i + 1) (nI_add i 1) (by omega) (by omega) dL_law_2328 ?_
  refine a_aload_n C dL_law_2329 4 rfl ?_
  refine a_callL (G2 := (if k = 0 then x_sl G (x_lz r) else G)) (g2_sl_b _ _ _) C (As := [.ref (x_b G + 0), .int (xs (i + 1)), .ref (x_b G + 183)]) (rest := []) (w_proposeCap l G d d1 _ k r hcl) (vx_cwSW 3 C.1.2.2.2.2 (gl_law gL_law_L_proposeCap) rfl rfl rfl (by decide +kernel) ⟨Nat.le_of_ble_eq_true rfl, Nat.le_of_ble_eq_true rfl⟩) rfl rfl (Nat.le_of_ble_eq_true rfl) dL_law_2330 ⟨hc, hs⟩ (g2_sl_D _ _ _) ?_
  have C2 := C.sl_if k (x_lz r)
  have hb2 := g2_sl_b G (x_lz r) k
  have hl2 := g2_sl_v G (x_lz r) k
  generalize (if k = 0 then x_sl G (x_lz r) else G) = G2 at C2 hb2 hl2 ⊢
  have hbA2 : ¬ x_A G2 b := by
    unfold x_A
    rw [hb2]
    exact hbA
  rw [← hb2]
  obtain ⟨b0, d2, lv, hlv, hm2, h12, hrb, hz⟩ := hm G2
  refine a_istore C2 dL_law_2333 (by decide) (lst2 := [(6, .int (nI k)), (5, .int (nI i)), (0, .ref b), (1, .ref (x_b G2 + 0)), (2, .ref (x_b G2 + 175)), (3, .ref (x_b G2 + 183)), (4, .ref (x_b G2 + 184))]) rfl ?_
  refine a_aload_n C2 dL_law_2335 4 rfl ?_
  refine a_aload_n C2 dL_law_2336 2 rfl ?_
  refine a_iload C2 dL_law_2337 1 rfl ?_
  refine a_iconst C2 dL_law_2339 (v := 1) (by decide) ?_
  refine a_iadd C2 dL_law_2340 ?_
  refine a_sld C2 hX hbl hbA2 (i := i + 1) (nI_add i 1) (by omega) (by omega) dL_law_2341 ?_
  refine a_callV C2 (k := 175) (As := [.int (xs (i + 1))]) (rest := []) hm2 (cwV 1 C2.1.2.2.2.2 (gl_up gL_law_X12_proposeCap) rfl rfl rfl (by decide +kernel) ⟨by dsimp only [x_rm, room_1]; omega, by dsimp only [x_rm, room_1]; omega⟩) x_k175 (q := (RX12, TX12, 16)) rfl rfl rfl rfl (Nat.le_of_ble_eq_true rfl) dL_law_2342 ⟨hc, hs⟩ ?_
  refine a_istore C2 dL_law_2345 (by decide) (lst2 := [(7, .int b0), (6, .int (nI k)), (5, .int (nI i)), (0, .ref b), (1, .ref (x_b G2 + 0)), (2, .ref (x_b G2 + 175)), (3, .ref (x_b G2 + 183)), (4, .ref (x_b G2 + 184))]) rfl ?_
  refine a_aload_n C2 dL_law_2347 5 rfl ?_
  refine a_callV C2 (k := 175) (As := []) (rest := []) (c_M_thrown l G2 d2) (cwV 0 C2.1.2.2.2.2 (gl_up gL_law_X12_thrown) rfl rfl rfl (by decide +kernel) ⟨Nat.le_of_ble_eq_true rfl, Nat.le_of_ble_eq_true rfl⟩) x_k175 (q := (RX12, TX12, 16)) rfl rfl rfl rfl (Nat.le_of_ble_eq_true rfl) dL_law_2348 ⟨hc, hs⟩ ?_
  refine a_iload C2 dL_law_2351 1 rfl ?_
  refine a_icmp_eq C2 dL_law_2353 (tgt := 2358) (by decide) (fun _ => ?_) (fun hn => absurd h12 hn)
  refine a_iload C2 dL_law_2358 1 rfl ?_
  have FIN : Ab G2 p l e room_1 s m args below meth c 9 (cells + 1) (slots + 6) Q 2382 [(7, .int b0), (6, .int (nI k)), (5, .int (nI i)), (0, .ref b), (1, .ref (x_b G2 + 0)), (2, .ref (x_b G2 + 175)), (3, .ref (x_b G2 + 183)), (4, .ref (x_b G2 + 184))] [] d2 := a_goto C2 dL_law_2382 (tgt := 3091) (by decide) (a_sub (lst2 := [(5, .int (nI i)), (0, .ref b), (1, .ref (x_b G2 + 0)), (2, .ref (x_b G2 + 175)), (3, .ref (x_b G2 + 183)), (4, .ref (x_b G2 + 184))]) [2, 3, 4, 5, 6, 7] rfl (K G2 d2 hb2 C2 hz))
  refine a_if_ne C2 dL_law_2360 (tgt := 2382) (by decide) (fun _ => FIN) (fun hk0 => ?_)
  have hk : k = 0 := by
    rcases Nat.eq_zero_or_pos k with y | y
    · exact y
    · exact absurd hk0 (nI_ne0 (by omega) (by omega))
  refine a_aload_n C2 dL_law_2363 6 rfl ?_
  refine a_iconst C2 dL_law_2364 (v := 0) (by decide) ?_
  refine a_lald C2 dL_law_2365 ?_
  refine a_iload C2 dL_law_2366 0 rfl ?_
  refine a_if_eq C2 dL_law_2368 (tgt := 2375) (by decide) (fun hz0 => ?_) (fun hz0 => ?_)
  · refine a_lconst C2 dL_law_2375 rfl ?_
    refine a_lcmp C2 dL_law_2376 ?_
    exact a_if_eq C2 dL_law_2377 (tgt := 2382) (by decide) (fun _ => FIN) (fun hn => absurd ((lg_cmp_eq _ _).mpr (by rw [hl2 hk, hrb hk]; exact if_pos hz0)) hn)
  · refine a_lconst C2 dL_law_2371 rfl ?_
    refine a_goto C2 dL_law_2372 (tgt := 2376) (by decide) ?_
    refine a_lcmp C2 dL_law_2376 ?_
    exact a_if_eq C2 dL_law_2377 (tgt := 2382) (by decide) (fun _ => FIN) (fun hn => absurd ((lg_cmp_eq _ _).mpr (by rw [hl2 hk, hrb hk]; exact if_neg hz0)) hn)
set_option maxHeartbeats 1000000 in
set_option maxRecDepth 100000 in
theorem law_41 (C : Cx G p s m args c code (wsL_law ++ ws_cl) RL 9) (hfl : l.stackTraces = false) (h : y_Z B d) (hB : B + 180 < 100000) (hX : va_X b L xs s s.heap) (hbl : b < s.heap.size) (hbA : ¬ x_A G b) (hL : L < 2000) (hi : i + 3 ≤ L) (hc : cells + 1 ≤ 603072) (hs : slots + 6 ≤ 7170154) (K : ∀ (G2 : xG) (d2 : xd), x_b G2 = x_b G → Cx G2 p s m args c code (wsL_law ++ ws_cl) RL 9 → y_Z (B + 180) d2 → Ab G2 p l e room_1 s m args below meth c 9 (cells + 1) (slots + 6) Q 3091 [(5, .int (nI i)), (0, .ref b), (1, .ref (x_b G2 + 0)), (2, .ref (x_b G2 + 175)), (3, .ref (x_b G2 + 183)), (4, .ref (x_b G2 + 184))] [] d2) : Ab G p l e room_1 s m args below meth c 9 cells slots Q 2385 [(5, .int (nI i)), (0, .ref b), (1, .ref (x_b G + 0)), (2, .ref (x_b G + 175)), (3, .ref (x_b G + 183)), (4, .ref (x_b G + 184))] [] d := by
  obtain ⟨k, r, d1, hk3, hcl, hm⟩ := y_S.two (s_votesFor (l := l) hfl h hB (xs (i + 1)))
  refine a_aload_n C dL_law_2385 2 rfl ?_
  refine a_aload_n C dL_law_2386 1 rfl ?_
  refine a_iload C dL_law_2387 0 rfl ?_
  refine a_iconst C dL_law_2389 (v := 1) (by decide) ?_
  refine a_iadd C dL_law_2390 ?_
  refine a_sld C hX hbl hbA (i := i + 1) (nI_add i 1) (by omega) (by omega) dL_law_2391 ?_
  refine a_aload_n C dL_law_2392 4 rfl ?_
  refine a_callL (G2 := (if k = 0 then x_sl G r.toInt64 else G)) (g2_sl_b _ _ _) C (As := [.ref (x_b G + 0), .int (xs (i + 1)), .ref (x_b G + 183)]) (rest := []) (w_votesFor l G d d1 _ k r hcl) (vx_cwSW 3 C.1.2.2.2.2 (gl_law gL_law_L_votesFor) rfl rfl rfl (by decide +kernel) ⟨Nat.le_of_ble_eq_true rfl, Nat.le_of_ble_eq_true rfl⟩) rfl rfl (Nat.le_of_ble_eq_true rfl) dL_law_2393 ⟨hc, hs⟩ (g2_sl_D _ _ _) ?_
  have C2 := C.sl_if k r.toInt64
  have hb2 := g2_sl_b G r.toInt64 k
  have hl2 := g2_sl_v G r.toInt64 k
  generalize (if k = 0 then x_sl G r.toInt64 else G) = G2 at C2 hb2 hl2 ⊢
  have hbA2 : ¬ x_A G2 b := by
    unfold x_A
    rw [hb2]
    exact hbA
  rw [← hb2]
  obtain ⟨b0, d2, lv, hlv, hm2, h12, hrb, hz⟩ := hm G2
  refine a_istore C2 dL_law_2396 (by decide) (lst2 := [(6, .int (nI k)), (5, .int (nI i)), (0, .ref b), (1, .ref (x_b G2 + 0)), (2, .ref (x_b G2 + 175)), (3, .ref (x_b G2 + 183)), (4, .ref (x_b G2 + 184))]) rfl ?_
  refine a_aload_n C2 dL_law_2398 4 rfl ?_
  refine a_aload_n C2 dL_law_2399 2 rfl ?_
  refine a_iload C2 dL_law_2400 1 rfl ?_
  refine a_iconst C2 dL_law_2402 (v := 1) (by decide) ?_
  refine a_iadd C2 dL_law_2403 ?_
  refine a_sld C2 hX hbl hbA2 (i := i + 1) (nI_add i 1) (by omega) (by omega) dL_law_2404 ?_
  refine a_callV C2 (k := 175) (As := [.int (xs (i + 1))]) (rest := []) hm2 (cwV 1 C2.1.2.2.2.2 (gl_up gL_law_X12_votesFor) rfl rfl rfl (by decide +kernel) ⟨by dsimp only [x_rm, room_1]; omega, by dsimp only [x_rm, room_1]; omega⟩) x_k175 (q := (RX12, TX12, 16)) rfl rfl rfl rfl (Nat.le_of_ble_eq_true rfl) dL_law_2405 ⟨hc, hs⟩ ?_
  refine a_istore C2 dL_law_2408 (by decide) (lst2 := [(7, .int b0), (6, .int (nI k)), (5, .int (nI i)), (0, .ref b), (1, .ref (x_b G2 + 0)), (2, .ref (x_b G2 + 175)), (3, .ref (x_b G2 + 183)), (4, .ref (x_b G2 + 184))]) rfl ?_
  refine a_aload_n C2 dL_law_2410 5 rfl ?_
  refine a_callV C2 (k := 175) (As := []) (rest := []) (c_M_thrown l G2 d2) (cwV 0 C2.1.2.2.2.2 (gl_up gL_law_X12_thrown) rfl rfl rfl (by decide +kernel) ⟨Nat.le_of_ble_eq_true rfl, Nat.le_of_ble_eq_true rfl⟩) x_k175 (q := (RX12, TX12, 16)) rfl rfl rfl rfl (Nat.le_of_ble_eq_true rfl) dL_law_2411 ⟨hc, hs⟩ ?_
  refine a_iload C2 dL_law_2414 1 rfl ?_
  refine a_icmp_eq C2 dL_law_2416 (tgt := 2421) (by decide) (fun _ => ?_) (fun hn => absurd h12 hn)
  refine a_iload C2 dL_law_2421 1 rfl ?_
  have FIN : Ab G2 p l e room_1 s m args below meth c 9 (cells + 1) (slots + 6) Q 2438 [(7, .int b0), (6, .int (nI k)), (5, .int (nI i)), (0, .ref b), (1, .ref (x_b G2 + 0)), (2, .ref (x_b G2 + 175)), (3, .ref (x_b G2 + 183)), (4, .ref (x_b G2 + 184))] [] d2 := a_goto C2 dL_law_2438 (tgt := 3091) (by decide) (a_sub (lst2 := [(5, .int (nI i)), (0, .ref b), (1, .ref (x_b G2 + 0)), (2, .ref (x_b G2 + 175)), (3, .ref (x_b G2 + 183)), (4, .ref (x_b G2 + 184))]) [2, 3, 4, 5, 6, 7] rfl (K G2 d2 hb2 C2 hz))
  refine a_if_ne C2 dL_law_2423 (tgt := 2438) (by decide) (fun _ => FIN) (fun hk0 => ?_)
  have hk : k = 0 := by
    rcases Nat.eq_zero_or_pos k with y | y
    · exact y
    · exact absurd hk0 (nI_ne0 (by omega) (by omega))
  refine a_aload_n C2 dL_law_2426 6 rfl ?_
  refine a_iconst C2 dL_law_2427 (v := 0) (by decide) ?_
  refine a_lald C2 dL_law_2428 ?_
  refine a_iload C2 dL_law_2429 0 rfl ?_
  refine a_i2l C2 dL_law_2431 ?_
  refine a_lcmp C2 dL_law_2432 ?_
  exact a_if_eq C2 dL_law_2433 (tgt := 2438) (by decide) (fun _ => FIN) (fun hn => absurd ((lg_cmp_eq _ _).mpr (by rw [hl2 hk, hrb hk])) hn)
set_option maxHeartbeats 1000000 in
set_option maxRecDepth 100000 in
theorem law_42 (C : Cx G p s m args c code (wsL_law ++ ws_cl) RL 9) (hfl : l.stackTraces = false) (h : y_Z B d) (hB : B + 180 < 100000) (hX : va_X b L xs s s.heap) (hbl : b < s.heap.size) (hbA : ¬ x_A G b) (hL : L < 2000) (hi : i + 3 ≤ L) (hc : cells + 1 ≤ 603072) (hs : slots + 6 ≤ 7170154) (K : ∀ (G2 : xG) (d2 : xd), x_b G2 = x_b G → Cx G2 p s m args c code (wsL_law ++ ws_cl) RL 9 → y_Z (B + 180) d2 → Ab G2 p l e room_1 s m args below meth c 9 (cells + 1) (slots + 6) Q 3091 [(5, .int (nI i)), (0, .ref b), (1, .ref (x_b G2 + 0)), (2, .ref (x_b G2 + 175)), (3, .ref (x_b G2 + 183)), (4, .ref (x_b G2 + 184))] [] d2) : Ab G p l e room_1 s m args below meth c 9 cells slots Q 2441 [(5, .int (nI i)), (0, .ref b), (1, .ref (x_b G + 0)), (2, .ref (x_b G + 175)), (3, .ref (x_b G + 183)), (4, .ref (x_b G + 184))] [] d := by
  obtain ⟨k, r, d1, hk3, hcl, hm⟩ := y_S.two (s_lowestCap (l := l) hfl h hB)
  refine a_aload_n C dL_law_2441 2 rfl ?_
  refine a_aload_n C dL_law_2442 4 rfl ?_
  refine a_callL (G2 := (if k = 0 then x_sl G r.toInt64 else G)) (g2_sl_b _ _ _) C (As := [.ref (x_b G + 0), .ref (x_b G + 183)]) (rest := []) (w_lowestCap l G d d1  k r hcl) (vx_cwSW 2 C.1.2.2.2.2 (gl_law gL_law_L_lowestCap) rfl rfl rfl (by decide +kernel) ⟨Nat.le_of_ble_eq_true rfl, Nat.le_of_ble_eq_true rfl⟩) rfl rfl (Nat.le_of_ble_eq_true rfl) dL_law_2443 ⟨hc, hs⟩ (g2_sl_D _ _ _) ?_
  have C2 := C.sl_if k r.toInt64
  have hb2 := g2_sl_b G r.toInt64 k
  have hl2 := g2_sl_v G r.toInt64 k
  generalize (if k = 0 then x_sl G r.toInt64 else G) = G2 at C2 hb2 hl2 ⊢
  have hbA2 : ¬ x_A G2 b := by
    unfold x_A
    rw [hb2]
    exact hbA
  rw [← hb2]
  obtain ⟨b0, d2, lv, hlv, hm2, h12, hrb, hz⟩ := hm G2
  refine a_istore C2 dL_law_2446 (by decide) (lst2 := [(6, .int (nI k)), (5, .int (nI i)), (0, .ref b), (1, .ref (x_b G2 + 0)), (2, .ref (x_b G2 + 175)), (3, .ref (x_b G2 + 183)), (4, .ref (x_b G2 + 184))]) rfl ?_
  refine a_aload_n C2 dL_law_2448 4 rfl ?_
  refine a_callV C2 (k := 175) (As := []) (rest := []) hm2 (cwV 0 C2.1.2.2.2.2 (gl_up gL_law_X12_lowestCap) rfl rfl rfl (by decide +kernel) ⟨by dsimp only [x_rm, room_1]; omega, by dsimp only [x_rm, room_1]; omega⟩) x_k175 (q := (RX12, TX12, 16)) rfl rfl rfl rfl (Nat.le_of_ble_eq_true rfl) dL_law_2449 ⟨hc, hs⟩ ?_
  refine a_istore C2 dL_law_2452 (by decide) (lst2 := [(7, .int b0), (6, .int (nI k)), (5, .int (nI i)), (0, .ref b), (1, .ref (x_b G2 + 0)), (2, .ref (x_b G2 + 175)), (3, .ref (x_b G2 + 183)), (4, .ref (x_b G2 + 184))]) rfl ?_
  refine a_aload_n C2 dL_law_2454 5 rfl ?_
  refine a_callV C2 (k := 175) (As := []) (rest := []) (c_M_thrown l G2 d2) (cwV 0 C2.1.2.2.2.2 (gl_up gL_law_X12_thrown) rfl rfl rfl (by decide +kernel) ⟨Nat.le_of_ble_eq_true rfl, Nat.le_of_ble_eq_true rfl⟩) x_k175 (q := (RX12, TX12, 16)) rfl rfl rfl rfl (Nat.le_of_ble_eq_true rfl) dL_law_2455 ⟨hc, hs⟩ ?_
  refine a_iload C2 dL_law_2458 1 rfl ?_
  refine a_icmp_eq C2 dL_law_2460 (tgt := 2465) (by decide) (fun _ => ?_) (fun hn => absurd h12 hn)
  refine a_iload C2 dL_law_2465 1 rfl ?_
  have FIN : Ab G2 p l e room_1 s m args below meth c 9 (cells + 1) (slots + 6) Q 2482 [(7, .int b0), (6, .int (nI k)), (5, .int (nI i)), (0, .ref b), (1, .ref (x_b G2 + 0)), (2, .ref (x_b G2 + 175)), (3, .ref (x_b G2 + 183)), (4, .ref (x_b G2 + 184))] [] d2 := a_goto C2 dL_law_2482 (tgt := 3091) (by decide) (a_sub (lst2 := [(5, .int (nI i)), (0, .ref b), (1, .ref (x_b G2 + 0)), (2, .ref (x_b G2 + 175)), (3, .ref (x_b G2 + 183)), (4, .ref (x_b G2 + 184))]) [2, 3, 4, 5, 6, 7] rfl (K G2 d2 hb2 C2 hz))
  refine a_if_ne C2 dL_law_2467 (tgt := 2482) (by decide) (fun _ => FIN) (fun hk0 => ?_)
  have hk : k = 0 := by
    rcases Nat.eq_zero_or_pos k with y | y
    · exact y
    · exact absurd hk0 (nI_ne0 (by omega) (by omega))
  refine a_aload_n C2 dL_law_2470 6 rfl ?_
  refine a_iconst C2 dL_law_2471 (v := 0) (by decide) ?_
  refine a_lald C2 dL_law_2472 ?_
  refine a_iload C2 dL_law_2473 0 rfl ?_
  refine a_i2l C2 dL_law_2475 ?_
  refine a_lcmp C2 dL_law_2476 ?_
  exact a_if_eq C2 dL_law_2477 (tgt := 2482) (by decide) (fun _ => FIN) (fun hn => absurd ((lg_cmp_eq _ _).mpr (by rw [hl2 hk, hrb hk])) hn)
set_option maxHeartbeats 1000000 in
set_option maxRecDepth 100000 in
theorem law_43 (C : Cx G p s m args c code (wsL_law ++ ws_cl) RL 9) (hfl : l.stackTraces = false) (h : y_Z B d) (hB : B + 180 < 100000) (hX : va_X b L xs s s.heap) (hbl : b < s.heap.size) (hbA : ¬ x_A G b) (hL : L < 2000) (hi : i + 3 ≤ L) (hc : cells + 1 ≤ 603072) (hs : slots + 6 ≤ 7170154) (K : ∀ (G2 : xG) (d2 : xd), x_b G2 = x_b G → Cx G2 p s m args c code (wsL_law ++ ws_cl) RL 9 → y_Z (B + 180) d2 → Ab G2 p l e room_1 s m args below meth c 9 (cells + 1) (slots + 6) Q 3091 [(5, .int (nI i)), (0, .ref b), (1, .ref (x_b G2 + 0)), (2, .ref (x_b G2 + 175)), (3, .ref (x_b G2 + 183)), (4, .ref (x_b G2 + 184))] [] d2) : Ab G p l e room_1 s m args below meth c 9 cells slots Q 2485 [(5, .int (nI i)), (0, .ref b), (1, .ref (x_b G + 0)), (2, .ref (x_b G + 175)), (3, .ref (x_b G + 183)), (4, .ref (x_b G + 184))] [] d := by
  obtain ⟨r, d1, d2, ⟨lv, hlv, hc1⟩, ⟨lv2, hlv2, hc2⟩, hz⟩ := s_totalShares (l := l) h hB
  refine a_aload_n C dL_law_2485 2 rfl ?_
  refine a_callV C (k := 0) (As := []) (rest := []) (hc1 G) (cwV 0 C.1.2.2.2.2 (gl_up gL_law_X11_totalShares) rfl rfl rfl (by decide +kernel) ⟨by dsimp only [x_rm, room_1]; omega, by dsimp only [x_rm, room_1]; omega⟩) x_k0 (q := (RX11, TX11, 13)) rfl rfl rfl rfl (Nat.le_of_ble_eq_true rfl) dL_law_2486 ⟨by show cells ≤ 603072; omega, by show slots ≤ 7170154; omega⟩ ?_
  refine a_aload_n C dL_law_2489 3 rfl ?_
  refine a_callV C (k := 175) (As := []) (rest := [.int r]) (hc2 G) (cwV 0 C.1.2.2.2.2 (gl_up gL_law_X12_totalShares) rfl rfl rfl (by decide +kernel) ⟨by dsimp only [x_rm, room_1]; omega, by dsimp only [x_rm, room_1]; omega⟩) x_k175 (q := (RX12, TX12, 16)) rfl rfl rfl rfl (Nat.le_of_ble_eq_true rfl) dL_law_2490 ⟨by show cells ≤ 603072; omega, by show slots ≤ 7170154; omega⟩ ?_
  refine a_icmp_eq C dL_law_2493 (tgt := 3091) (by decide) (fun _ => ?_) (fun hn => absurd rfl hn)
  refine a_widen (k := cells + 1) (n := slots + 6) (by omega) (by omega) ?_
  exact K G d2 rfl C hz
set_option maxHeartbeats 1000000 in
set_option maxRecDepth 100000 in
theorem law_44 (C : Cx G p s m args c code (wsL_law ++ ws_cl) RL 9) (hfl : l.stackTraces = false) (h : y_Z B d) (hB : B + 180 < 100000) (hX : va_X b L xs s s.heap) (hbl : b < s.heap.size) (hbA : ¬ x_A G b) (hL : L < 2000) (hi : i + 3 ≤ L) (hc : cells + 1 ≤ 603072) (hs : slots + 6 ≤ 7170154) (K : ∀ (G2 : xG) (d2 : xd), x_b G2 = x_b G → Cx G2 p s m args c code (wsL_law ++ ws_cl) RL 9 → y_Z (B + 180) d2 → Ab G2 p l e room_1 s m args below meth c 9 (cells + 1) (slots + 6) Q 3091 [(5, .int (nI i)), (0, .ref b), (1, .ref (x_b G2 + 0)), (2, .ref (x_b G2 + 175)), (3, .ref (x_b G2 + 183)), (4, .ref (x_b G2 + 184))] [] d2) : Ab G p l e room_1 s m args below meth c 9 cells slots Q 2498 [(5, .int (nI i)), (0, .ref b), (1, .ref (x_b G + 0)), (2, .ref (x_b G + 175)), (3, .ref (x_b G + 183)), (4, .ref (x_b G + 184))] [] d := by
  obtain ⟨k, r, d1, hk3, hcl, hm⟩ := y_S.two (s_richestLamp (l := l) hfl h hB (xs (i + 1)))
  refine a_aload_n C dL_law_2498 2 rfl ?_
  refine a_aload_n C dL_law_2499 1 rfl ?_
  refine a_iload C dL_law_2500 0 rfl ?_
  refine a_iconst C dL_law_2502 (v := 1) (by decide) ?_
  refine a_iadd C dL_law_2503 ?_
  refine a_sld C hX hbl hbA (i := i + 1) (nI_add i 1) (by omega) (by omega) dL_law_2504 ?_
  refine a_aload_n C dL_law_2505 4 rfl ?_
  refine a_callL (G2 := (if k = 0 then x_sl G r.toInt64 else G)) (g2_sl_b _ _ _) C (As := [.ref (x_b G + 0), .int (xs (i + 1)), .ref (x_b G + 183)]) (rest := []) (w_richestLamp l G d d1 _ k r hcl) (vx_cwSW 3 C.1.2.2.2.2 (gl_law gL_law_L_richestLamp) rfl rfl rfl (by decide +kernel) ⟨Nat.le_of_ble_eq_true rfl, Nat.le_of_ble_eq_true rfl⟩) rfl rfl (Nat.le_of_ble_eq_true rfl) dL_law_2506 ⟨hc, hs⟩ (g2_sl_D _ _ _) ?_
  have C2 := C.sl_if k r.toInt64
  have hb2 := g2_sl_b G r.toInt64 k
  have hl2 := g2_sl_v G r.toInt64 k
  generalize (if k = 0 then x_sl G r.toInt64 else G) = G2 at C2 hb2 hl2 ⊢
  have hbA2 : ¬ x_A G2 b := by
    unfold x_A
    rw [hb2]
    exact hbA
  rw [← hb2]
  obtain ⟨b0, d2, lv, hlv, hm2, h12, hrb, hz⟩ := hm G2
  refine a_istore C2 dL_law_2509 (by decide) (lst2 := [(6, .int (nI k)), (5, .int (nI i)), (0, .ref b), (1, .ref (x_b G2 + 0)), (2, .ref (x_b G2 + 175)), (3, .ref (x_b G2 + 183)), (4, .ref (x_b G2 + 184))]) rfl ?_
  refine a_aload_n C2 dL_law_2511 4 rfl ?_
  refine a_aload_n C2 dL_law_2512 2 rfl ?_
  refine a_iload C2 dL_law_2513 1 rfl ?_
  refine a_iconst C2 dL_law_2515 (v := 1) (by decide) ?_
  refine a_iadd C2 dL_law_2516 ?_
  refine a_sld C2 hX hbl hbA2 (i := i + 1) (nI_add i 1) (by omega) (by omega) dL_law_2517 ?_
  refine a_callV C2 (k := 175) (As := [.int (xs (i + 1))]) (rest := []) hm2 (cwV 1 C2.1.2.2.2.2 (gl_up gL_law_X12_richestLamp) rfl rfl rfl (by decide +kernel) ⟨by dsimp only [x_rm, room_1]; omega, by dsimp only [x_rm, room_1]; omega⟩) x_k175 (q := (RX12, TX12, 16)) rfl rfl rfl rfl (Nat.le_of_ble_eq_true rfl) dL_law_2518 ⟨hc, hs⟩ ?_
  refine a_istore C2 dL_law_2521 (by decide) (lst2 := [(7, .int b0), (6, .int (nI k)), (5, .int (nI i)), (0, .ref b), (1, .ref (x_b G2 + 0)), (2, .ref (x_b G2 + 175)), (3, .ref (x_b G2 + 183)), (4, .ref (x_b G2 + 184))]) rfl ?_
  refine a_aload_n C2 dL_law_2523 5 rfl ?_
  refine a_callV C2 (k := 175) (As := []) (rest := []) (c_M_thrown l G2 d2) (cwV 0 C2.1.2.2.2.2 (gl_up gL_law_X12_thrown) rfl rfl rfl (by decide +kernel) ⟨Nat.le_of_ble_eq_true rfl, Nat.le_of_ble_eq_true rfl⟩) x_k175 (q := (RX12, TX12, 16)) rfl rfl rfl rfl (Nat.le_of_ble_eq_true rfl) dL_law_2524 ⟨hc, hs⟩ ?_
  refine a_iload C2 dL_law_2527 1 rfl ?_
  refine a_icmp_eq C2 dL_law_2529 (tgt := 2534) (by decide) (fun _ => ?_) (fun hn => absurd h12 hn)
  refine a_iload C2 dL_law_2534 1 rfl ?_
  have FIN : Ab G2 p l e room_1 s m args below meth c 9 (cells + 1) (slots + 6) Q 2551 [(7, .int b0), (6, .int (nI k)), (5, .int (nI i)), (0, .ref b), (1, .ref (x_b G2 + 0)), (2, .ref (x_b G2 + 175)), (3, .ref (x_b G2 + 183)), (4, .ref (x_b G2 + 184))] [] d2 := a_goto C2 dL_law_2551 (tgt := 3091) (by decide) (a_sub (lst2 := [(5, .int (nI i)), (0, .ref b), (1, .ref (x_b G2 + 0)), (2, .ref (x_b G2 + 175)), (3, .ref (x_b G2 + 183)), (4, .ref (x_b G2 + 184))]) [2, 3, 4, 5, 6, 7] rfl (K G2 d2 hb2 C2 hz))
  refine a_if_ne C2 dL_law_2536 (tgt := 2551) (by decide) (fun _ => FIN) (fun hk0 => ?_)
  have hk : k = 0 := by
    rcases Nat.eq_zero_or_pos k with y | y
    · exact y
    · exact absurd hk0 (nI_ne0 (by omega) (by omega))
  refine a_aload_n C2 dL_law_2539 6 rfl ?_
  refine a_iconst C2 dL_law_2540 (v := 0) (by decide) ?_
  refine a_lald C2 dL_law_2541 ?_
  refine a_iload C2 dL_law_2542 0 rfl ?_
  refine a_i2l C2 dL_law_2544 ?_
  refine a_lcmp C2 dL_law_2545 ?_
  exact a_if_eq C2 dL_law_2546 (tgt := 2551) (by decide) (fun _ => FIN) (fun hn => absurd ((lg_cmp_eq _ _).mpr (by rw [hl2 hk, hrb hk])) hn)
set_option maxHeartbeats 1000000 in
set_option maxRecDepth 100000 in
theorem law_45 (C : Cx G p s m args c code (wsL_law ++ ws_cl) RL 9) (hfl : l.stackTraces = false) (h : y_Z B d) (hB : B + 180 < 100000) (hX : va_X b L xs s s.heap) (hbl : b < s.heap.size) (hbA : ¬ x_A G b) (hL : L < 2000) (hi : i + 3 ≤ L) (hc : cells + 1 ≤ 603072) (hs : slots + 6 ≤ 7170154) (K : ∀ (G2 : xG) (d2 : xd), x_b G2 = x_b G → Cx G2 p s m args c code (wsL_law ++ ws_cl) RL 9 → y_Z (B + 180) d2 → Ab G2 p l e room_1 s m args below meth c 9 (cells + 1) (slots + 6) Q 3091 [(5, .int (nI i)), (0, .ref b), (1, .ref (x_b G2 + 0)), (2, .ref (x_b G2 + 175)), (3, .ref (x_b G2 + 183)), (4, .ref (x_b G2 + 184))] [] d2) : Ab G p l e room_1 s m args below meth c 9 cells slots Q 2554 [(5, .int (nI i)), (0, .ref b), (1, .ref (x_b G + 0)), (2, .ref (x_b G + 175)), (3, .ref (x_b G + 183)), (4, .ref (x_b G + 184))] [] d := by
  obtain ⟨k, r, d1, hk3, hcl, hm⟩ := y_S.two (s_longestLamp (l := l) hfl h hB (xs (i + 1)))
  refine a_aload_n C dL_law_2554 2 rfl ?_
  refine a_aload_n C dL_law_2555 1 rfl ?_
  refine a_iload C dL_law_2556 0 rfl ?_
  refine a_iconst C dL_law_2558 (v := 1) (by decide) ?_
  refine a_iadd C dL_law_2559 ?_
  refine a_sld C hX hbl hbA (i := i + 1) (nI_add i 1) (by omega) (by omega) dL_law_2560 ?_
  refine a_aload_n C dL_law_2561 4 rfl ?_
  refine a_callL (G2 := (if k = 0 then x_sl G r.toInt64 else G)) (g2_sl_b _ _ _) C (As := [.ref (x_b G + 0), .int (xs (i + 1)), .ref (x_b G + 183)]) (rest := []) (w_longestLamp l G d d1 _ k r hcl) (vx_cwSW 3 C.1.2.2.2.2 (gl_law gL_law_L_longestLamp) rfl rfl rfl (by decide +kernel) ⟨Nat.le_of_ble_eq_true rfl, Nat.le_of_ble_eq_true rfl⟩) rfl rfl (Nat.le_of_ble_eq_true rfl) dL_law_2562 ⟨hc, hs⟩ (g2_sl_D _ _ _) ?_
  have C2 := C.sl_if k r.toInt64
  have hb2 := g2_sl_b G r.toInt64 k
  have hl2 := g2_sl_v G r.toInt64 k
  generalize (if k = 0 then x_sl G r.toInt64 else G) = G2 at C2 hb2 hl2 ⊢
  have hbA2 : ¬ x_A G2 b := by
    unfold x_A
    rw [hb2]
    exact hbA
  rw [← hb2]
  obtain ⟨b0, d2, lv, hlv, hm2, h12, hrb, hz⟩ := hm G2
  refine a_istore C2 dL_law_2565 (by decide) (lst2 := [(6, .int (nI k)), (5, .int (nI i)), (0, .ref b), (1, .ref (x_b G2 + 0)), (2, .ref (x_b G2 + 175)), (3, .ref (x_b G2 + 183)), (4, .ref (x_b G2 + 184))]) rfl ?_
  refine a_aload_n C2 dL_law_2567 4 rfl ?_
  refine a_aload_n C2 dL_law_2568 2 rfl ?_
  refine a_iload C2 dL_law_2569 1 rfl ?_
  refine a_iconst C2 dL_law_2571 (v := 1) (by decide) ?_
  refine a_iadd C2 dL_law_2572 ?_
  refine a_sld C2 hX hbl hbA2 (i := i + 1) (nI_add i 1) (by omega) (by omega) dL_law_2573 ?_
  refine a_callV C2 (k := 175) (As := [.int (xs (i + 1))]) (rest := []) hm2 (cwV 1 C2.1.2.2.2.2 (gl_up gL_law_X12_longestLamp) rfl rfl rfl (by decide +kernel) ⟨by dsimp only [x_rm, room_1]; omega, by dsimp only [x_rm, room_1]; omega⟩) x_k175 (q := (RX12, TX12, 16)) rfl rfl rfl rfl (Nat.le_of_ble_eq_true rfl) dL_law_2574 ⟨hc, hs⟩ ?_
  refine a_istore C2 dL_law_2577 (by decide) (lst2 := [(7, .int b0), (6, .int (nI k)), (5, .int (nI i)), (0, .ref b), (1, .ref (x_b G2 + 0)), (2, .ref (x_b G2 + 175)), (3, .ref (x_b G2 + 183)), (4, .ref (x_b G2 + 184))]) rfl ?_
  refine a_aload_n C2 dL_law_2579 5 rfl ?_
  refine a_callV C2 (k := 175) (As := []) (rest := []) (c_M_thrown l G2 d2) (cwV 0 C2.1.2.2.2.2 (gl_up gL_law_X12_thrown) rfl rfl rfl (by decide +kernel) ⟨Nat.le_of_ble_eq_true rfl, Nat.le_of_ble_eq_true rfl⟩) x_k175 (q := (RX12, TX12, 16)) rfl rfl rfl rfl (Nat.le_of_ble_eq_true rfl) dL_law_2580 ⟨hc, hs⟩ ?_
  refine a_iload C2 dL_law_2583 1 rfl ?_
  refine a_icmp_eq C2 dL_law_2585 (tgt := 2590) (by decide) (fun _ => ?_) (fun hn => absurd h12 hn)
  refine a_iload C2 dL_law_2590 1 rfl ?_
  have FIN : Ab G2 p l e room_1 s m args below meth c 9 (cells + 1) (slots + 6) Q 2607 [(7, .int b0), (6, .int (nI k)), (5, .int (nI i)), (0, .ref b), (1, .ref (x_b G2 + 0)), (2, .ref (x_b G2 + 175)), (3, .ref (x_b G2 + 183)), (4, .ref (x_b G2 + 184))] [] d2 := a_goto C2 dL_law_2607 (tgt := 3091) (by decide) (a_sub (lst2 := [(5, .int (nI i)), (0, .ref b), (1, .ref (x_b G2 + 0)), (2, .ref (x_b G2 + 175)), (3, .ref (x_b G2 + 183)), (4, .ref (x_b G2 + 184))]) [2, 3, 4, 5, 6, 7] rfl (K G2 d2 hb2 C2 hz))
  refine a_if_ne C2 dL_law_2592 (tgt := 2607) (by decide) (fun _ => FIN) (fun hk0 => ?_)
  have hk : k = 0 := by
    rcases Nat.eq_zero_or_pos k with y | y
    · exact y
    · exact absurd hk0 (nI_ne0 (by omega) (by omega))
  refine a_aload_n C2 dL_law_2595 6 rfl ?_
  refine a_iconst C2 dL_law_2596 (v := 0) (by decide) ?_
  refine a_lald C2 dL_law_2597 ?_
  refine a_iload C2 dL_law_2598 0 rfl ?_
  refine a_i2l C2 dL_law_2600 ?_
  refine a_lcmp C2 dL_law_2601 ?_
  exact a_if_eq C2 dL_law_2602 (tgt := 2607) (by decide) (fun _ => FIN) (fun hn => absurd ((lg_cmp_eq _ _).mpr (by rw [hl2 hk, hrb hk])) hn)
set_option maxHeartbeats 1000000 in
set_option maxRecDepth 100000 in
theorem law_46 (C : Cx G p s m args c code (wsL_law ++ ws_cl) RL 9) (hfl : l.stackTraces = false) (h : y_Z B d) (hB : B + 180 < 100000) (hX : va_X b L xs s s.heap) (hbl : b < s.heap.size) (hbA : ¬ x_A G b) (hL : L < 2000) (hi : i + 3 ≤ L) (hc : cells + 1 ≤ 603072) (hs : slots + 6 ≤ 7170154) (K : ∀ (G2 : xG) (d2 : xd), x_b G2 = x_b G → Cx G2 p s m args c code (wsL_law ++ ws_cl) RL 9 → y_Z (B + 180) d2 → Ab G2 p l e room_1 s m args below meth c 9 (cells + 1) (slots + 6) Q 3091 [(5, .int (nI i)), (0, .ref b), (1, .ref (x_b G2 + 0)), (2, .ref (x_b G2 + 175)), (3, .ref (x_b G2 + 183)), (4, .ref (x_b G2 + 184))] [] d2) : Ab G p l e room_1 s m args below meth c 9 cells slots Q 2610 [(5, .int (nI i)), (0, .ref b), (1, .ref (x_b G + 0)), (2, .ref (x_b G + 175)), (3, .ref (x_b G + 183)), (4, .ref (x_b G + 184))] [] d := by
  obtain ⟨k, r, d1, hk3, hcl, hm⟩ := y_S.two (s_writeLamp (l := l) hfl h hB (xs (i + 1)))
  refine a_aload_n C dL_law_2610 2 rfl ?_
  refine a_aload_n C dL_law_2611 1 rfl ?_
  refine a_iload C dL_law_2612 0 rfl ?_
  refine a_iconst C dL_law_2614 (v := 1) (by decide) ?_
  refine a_iadd C dL_law_2615 ?_
  refine a_sld C hX hbl hbA (i := i + 1) (nI_add i 1) (by omega) (by omega) dL_law_2616 ?_
  refine a_aload_n C dL_law_2617 4 rfl ?_
  refine a_callL (G2 := (if k = 0 then x_sl G r.toInt64 else G)) (g2_sl_b _ _ _) C (As := [.ref (x_b G + 0), .int (xs (i + 1)), .ref (x_b G + 183)]) (rest := []) (w_writeLamp l G d d1 _ k r hcl) (vx_cwSW 3 C.1.2.2.2.2 (gl_law gL_law_L_writeLamp) rfl rfl rfl (by decide +kernel) ⟨Nat.le_of_ble_eq_true rfl, Nat.le_of_ble_eq_true rfl⟩) rfl rfl (Nat.le_of_ble_eq_true rfl) dL_law_2618 ⟨hc, hs⟩ (g2_sl_D _ _ _) ?_
  have C2 := C.sl_if k r.toInt64
  have hb2 := g2_sl_b G r.toInt64 k
  have hl2 := g2_sl_v G r.toInt64 k
  generalize (if k = 0 then x_sl G r.toInt64 else G) = G2 at C2 hb2 hl2 ⊢
  have hbA2 : ¬ x_A G2 b := by
    unfold x_A
    rw [hb2]
    exact hbA
  rw [← hb2]
  obtain ⟨b0, d2, lv, hlv, hm2, h12, hrb, hz⟩ := hm G2
  refine a_istore C2 dL_law_2621 (by decide) (lst2 := [(6, .int (nI k)), (5, .int (nI i)), (0, .ref b), (1, .ref (x_b G2 + 0)), (2, .ref (x_b G2 + 175)), (3, .ref (x_b G2 + 183)), (4, .ref (x_b G2 + 184))]) rfl ?_
  refine a_aload_n C2 dL_law_2623 4 rfl ?_
  refine a_aload_n C2 dL_law_2624 2 rfl ?_
  refine a_iload C2 dL_law_2625 1 rfl ?_
  refine a_iconst C2 dL_law_2627 (v := 1) (by decide) ?_
  refine a_iadd C2 dL_law_2628 ?_
  refine a_sld C2 hX hbl hbA2 (i := i + 1) (nI_add i 1) (by omega) (by omega) dL_law_2629 ?_
  refine a_callV C2 (k := 175) (As := [.int (xs (i + 1))]) (rest := []) hm2 (cwV 1 C2.1.2.2.2.2 (gl_up gL_law_X12_writeLamp) rfl rfl rfl (by decide +kernel) ⟨by dsimp only [x_rm, room_1]; omega, by dsimp only [x_rm, room_1]; omega⟩) x_k175 (q := (RX12, TX12, 16)) rfl rfl rfl rfl (Nat.le_of_ble_eq_true rfl) dL_law_2630 ⟨hc, hs⟩ ?_
  refine a_istore C2 dL_law_2633 (by decide) (lst2 := [(7, .int b0), (6, .int (nI k)), (5, .int (nI i)), (0, .ref b), (1, .ref (x_b G2 + 0)), (2, .ref (x_b G2 + 175)), (3, .ref (x_b G2 + 183)), (4, .ref (x_b G2 + 184))]) rfl ?_
  refine a_aload_n C2 dL_law_2635 5 rfl ?_
  refine a_callV C2 (k := 175) (As := []) (rest := []) (c_M_thrown l G2 d2) (cwV 0 C2.1.2.2.2.2 (gl_up gL_law_X12_thrown) rfl rfl rfl (by decide +kernel) ⟨Nat.le_of_ble_eq_true rfl, Nat.le_of_ble_eq_true rfl⟩) x_k175 (q := (RX12, TX12, 16)) rfl rfl rfl rfl (Nat.le_of_ble_eq_true rfl) dL_law_2636 ⟨hc, hs⟩ ?_
  refine a_iload C2 dL_law_2639 1 rfl ?_
  refine a_icmp_eq C2 dL_law_2641 (tgt := 2646) (by decide) (fun _ => ?_) (fun hn => absurd h12 hn)
  refine a_iload C2 dL_law_2646 1 rfl ?_
  have FIN : Ab G2 p l e room_1 s m args below meth c 9 (cells + 1) (slots + 6) Q 2663 [(7, .int b0), (6, .int (nI k)), (5, .int (nI i)), (0, .ref b), (1, .ref (x_b G2 + 0)), (2, .ref (x_b G2 + 175)), (3, .ref (x_b G2 + 183)), (4, .ref (x_b G2 + 184))] [] d2 := a_goto C2 dL_law_2663 (tgt := 3091) (by decide) (a_sub (lst2 := [(5, .int (nI i)), (0, .ref b), (1, .ref (x_b G2 + 0)), (2, .ref (x_b G2 + 175)), (3, .ref (x_b G2 + 183)), (4, .ref (x_b G2 + 184))]) [2, 3, 4, 5, 6, 7] rfl (K G2 d2 hb2 C2 hz))
  refine a_if_ne C2 dL_law_2648 (tgt := 2663) (by decide) (fun _ => FIN) (fun hk0 => ?_)
  have hk : k = 0 := by
    rcases Nat.eq_zero_or_pos k with y | y
    · exact y
    · exact absurd hk0 (nI_ne0 (by omega) (by omega))
  refine a_aload_n C2 dL_law_2651 6 rfl ?_
  refine a_iconst C2 dL_law_2652 (v := 0) (by decide) ?_
  refine a_lald C2 dL_law_2653 ?_
  refine a_iload C2 dL_law_2654 0 rfl ?_
  refine a_i2l C2 dL_law_2656 ?_
  refine a_lcmp C2 dL_law_2657 ?_
  exact a_if_eq C2 dL_law_2658 (tgt := 2663) (by decide) (fun _ => FIN) (fun hn => absurd ((lg_cmp_eq _ _).mpr (by rw [hl2 hk, hrb hk])) hn)
set_option maxHeartbeats 1000000 in
set_option maxRecDepth 100000 in
theorem law_47 (C : Cx G p s m args c code (wsL_law ++ ws_cl) RL 9) (hfl : l.stackTraces = false) (h : y_Z B d) (hB : B + 180 < 100000) (hX : va_X b L xs s s.heap) (hbl : b < s.heap.size) (hbA : ¬ x_A G b) (hL : L < 2000) (hi : i + 3 ≤ L) (hc : cells + 1 ≤ 603072) (hs : slots + 6 ≤ 7170154) (K : ∀ (G2 : xG) (d2 : xd), x_b G2 = x_b G → Cx G2 p s m args c code (wsL_law ++ ws_cl) RL 9 → y_Z (B + 180) d2 → Ab G2 p l e room_1 s m args below meth c 9 (cells + 1) (slots + 6) Q 3091 [(5, .int (nI i)), (0, .ref b), (1, .ref (x_b G2 + 0)), (2, .ref (x_b G2 + 175)), (3, .ref (x_b G2 + 183)), (4, .ref (x_b G2 + 184))] [] d2) : Ab G p l e room_1 s m args below meth c 9 cells slots Q 2666 [(5, .int (nI i)), (0, .ref b), (1, .ref (x_b G + 0)), (2, .ref (x_b G + 175)), (3, .ref (x_b G + 183)), (4, .ref (x_b G + 184))] [] d := by
  obtain ⟨k, r, d1, hk3, hcl, hm⟩ := y_S.two (s_lineAt (l := l) hfl h hB (xs (i + 1)))
  refine a_aload_n C dL_law_2666 2 rfl ?_
  refine a_aload_n C dL_law_2667 1 rfl ?_
  refine a_iload C dL_law_2668 0 rfl ?_
  refine a_iconst C dL_law_2670 (v := 1) (by decide) ?_
  refine a_iadd C dL_law_2671 ?_
  refine a_sld C hX hbl hbA (i := i + 1) (nI_add i 1) (by omega) (by omega) dL_law_2672 ?_
  refine a_aload_n C dL_law_2673 4 rfl ?_
  refine a_callL (G2 := (if k = 0 then x_sl G r.toInt64 else G)) (g2_sl_b _ _ _) C (As := [.ref (x_b G + 0), .int (xs (i + 1)), .ref (x_b G + 183)]) (rest := []) (w_lineAt l G d d1 _ k r hcl) (vx_cwSW 3 C.1.2.2.2.2 (gl_law gL_law_L_lineAt) rfl rfl rfl (by decide +kernel) ⟨Nat.le_of_ble_eq_true rfl, Nat.le_of_ble_eq_true rfl⟩) rfl rfl (Nat.le_of_ble_eq_true rfl) dL_law_2674 ⟨hc, hs⟩ (g2_sl_D _ _ _) ?_
  have C2 := C.sl_if k r.toInt64
  have hb2 := g2_sl_b G r.toInt64 k
  have hl2 := g2_sl_v G r.toInt64 k
  generalize (if k = 0 then x_sl G r.toInt64 else G) = G2 at C2 hb2 hl2 ⊢
  have hbA2 : ¬ x_A G2 b := by
    unfold x_A
    rw [hb2]
    exact hbA
  rw [← hb2]
  obtain ⟨b0, d2, lv, hlv, hm2, h12, hrb, hz⟩ := hm G2
  refine a_istore C2 dL_law_2677 (by decide) (lst2 := [(6, .int (nI k)), (5, .int (nI i)), (0, .ref b), (1, .ref (x_b G2 + 0)), (2, .ref (x_b G2 + 175)), (3, .ref (x_b G2 + 183)), (4, .ref (x_b G2 + 184))]) rfl ?_
  refine a_aload_n C2 dL_law_2679 4 rfl ?_
  refine a_aload_n C2 dL_law_2680 2 rfl ?_
  refine a_iload C2 dL_law_2681 1 rfl ?_
  refine a_iconst C2 dL_law_2683 (v := 1) (by decide) ?_
  refine a_iadd C2 dL_law_2684 ?_
  refine a_sld C2 hX hbl hbA2 (i := i + 1) (nI_add i 1) (by omega) (by omega) dL_law_2685 ?_
  refine a_callV C2 (k := 175) (As := [.int (xs (i + 1))]) (rest := []) hm2 (cwV 1 C2.1.2.2.2.2 (gl_up gL_law_X12_lineAt) rfl rfl rfl (by decide +kernel) ⟨by dsimp only [x_rm, room_1]; omega, by dsimp only [x_rm, room_1]; omega⟩) x_k175 (q := (RX12, TX12, 16)) rfl rfl rfl rfl (Nat.le_of_ble_eq_true rfl) dL_law_2686 ⟨hc, hs⟩ ?_
  refine a_istore C2 dL_law_2689 (by decide) (lst2 := [(7, .int b0), (6, .int (nI k)), (5, .int (nI i)), (0, .ref b), (1, .ref (x_b G2 + 0)), (2, .ref (x_b G2 + 175)), (3, .ref (x_b G2 + 183)), (4, .ref (x_b G2 + 184))]) rfl ?_
  refine a_aload_n C2 dL_law_2691 5 rfl ?_
  refine a_callV C2 (k := 175) (As := []) (rest := []) (c_M_thrown l G2 d2) (cwV 0 C2.1.2.2.2.2 (gl_up gL_law_X12_thrown) rfl rfl rfl (by decide +kernel) ⟨Nat.le_of_ble_eq_true rfl, Nat.le_of_ble_eq_true rfl⟩) x_k175 (q := (RX12, TX12, 16)) rfl rfl rfl rfl (Nat.le_of_ble_eq_true rfl) dL_law_2692 ⟨hc, hs⟩ ?_
  refine a_iload C2 dL_law_2695 1 rfl ?_
  refine a_icmp_eq C2 dL_law_2697 (tgt := 2702) (by decide) (fun _ => ?_) (fun hn => absurd h12 hn)
  refine a_iload C2 dL_law_2702 1 rfl ?_
  have FIN : Ab G2 p l e room_1 s m args below meth c 9 (cells + 1) (slots + 6) Q 2719 [(7, .int b0), (6, .int (nI k)), (5, .int (nI i)), (0, .ref b), (1, .ref (x_b G2 + 0)), (2, .ref (x_b G2 + 175)), (3, .ref (x_b G2 + 183)), (4, .ref (x_b G2 + 184))] [] d2 := a_goto C2 dL_law_2719 (tgt := 3091) (by decide) (a_sub (lst2 := [(5, .int (nI i)), (0, .ref b), (1, .ref (x_b G2 + 0)), (2, .ref (x_b G2 + 175)), (3, .ref (x_b G2 + 183)), (4, .ref (x_b G2 + 184))]) [2, 3, 4, 5, 6, 7] rfl (K G2 d2 hb2 C2 hz))
  refine a_if_ne C2 dL_law_2704 (tgt := 2719) (by decide) (fun _ => FIN) (fun hk0 => ?_)
  have hk : k = 0 := by
    rcases Nat.eq_zero_or_pos k with y | y
    · exact y
    · exact absurd hk0 (nI_ne0 (by omega) (by omega))
  refine a_aload_n C2 dL_law_2707 6 rfl ?_
  refine a_iconst C2 dL_law_2708 (v := 0) (by decide) ?_
  refine a_lald C2 dL_law_2709 ?_
  refine a_iload C2 dL_law_2710 0 rfl ?_
  refine a_i2l C2 dL_law_2712 ?_
  refine a_lcmp C2 dL_law_2713 ?_
  exact a_if_eq C2 dL_law_2714 (tgt := 2719) (by decide) (fun _ => FIN) (fun hn => absurd ((lg_cmp_eq _ _).mpr (by rw [hl2 hk, hrb hk])) hn)
set_option maxHeartbeats 1000000 in
set_option maxRecDepth 100000 in
theorem law_48 (C : Cx G p s m args c code (wsL_law ++ ws_cl) RL 9) (hfl : l.stackTraces = false) (h : y_Z B d) (hB : B + 180 < 100000) (hX : va_X b L xs s s.heap) (hbl : b < s.heap.size) (hbA : ¬ x_A G b) (hL : L < 2000) (hi : i + 3 ≤ L) (hc : cells + 1 ≤ 603072) (hs : slots + 6 ≤ 7170154) (K : ∀ (G2 : xG) (d2 : xd), x_b G2 = x_b G → Cx G2 p s m args c code (wsL_law ++ ws_cl) RL 9 → y_Z (B + 180) d2 → Ab G2 p l e room_1 s m args below meth c 9 (cells + 1) (slots + 6) Q 3091 [(5, .int (nI i)), (0, .ref b), (1, .ref (x_b G2 + 0)), (2, .ref (x_b G2 + 175)), (3, .ref (x_b G2 + 183)), (4, .ref (x_b G2 + 184))] [] d2) : Ab G p l e room_1 s m args below meth c 9 cells slots Q 2722 [(5, .int (nI i)), (0, .ref b), (1, .ref (x_b G + 0)), (2, .ref (x_b G + 175)), (3, .ref (x_b G + 183)), (4, .ref (x_b G + 184))] [] d := by
  obtain ⟨k, r, b0, d1, d2, hk3, hcl, ⟨lv, hlv, hm⟩, h12, hrb, hz⟩ := s_meanOil (l := l) hfl h hB
  refine a_aload_n C dL_law_2722 2 rfl ?_
  refine a_aload C dL_law_2723 5 rfl ?_
  refine a_callL (G2 := (if k = 0 then x_su G r else G)) (g2_su_b _ _ _) C (As := [.ref (x_b G + 0), .ref (x_b G + 184)]) (rest := []) (w_meanOil l G d d1  k r hcl) (vx_cwSW 2 C.1.2.2.2.2 (gl_law gL_law_L_meanOil) rfl rfl rfl (by decide +kernel) ⟨Nat.le_of_ble_eq_true rfl, Nat.le_of_ble_eq_true rfl⟩) rfl rfl (Nat.le_of_ble_eq_true rfl) dL_law_2725 ⟨hc, hs⟩ (g2_su_D _ _ _) ?_
  have C2 := C.su_if k r
  have hb2 := g2_su_b G r k
  have hl2 := g2_su_v G r k
  generalize (if k = 0 then x_su G r else G) = G2 at C2 hb2 hl2 ⊢
  have hbA2 : ¬ x_A G2 b := by
    unfold x_A
    rw [hb2]
    exact hbA
  rw [← hb2]
  have hm2 := hm G2
  refine a_istore C2 dL_law_2728 (by decide) (lst2 := [(6, .int (nI k)), (5, .int (nI i)), (0, .ref b), (1, .ref (x_b G2 + 0)), (2, .ref (x_b G2 + 175)), (3, .ref (x_b G2 + 183)), (4, .ref (x_b G2 + 184))]) rfl ?_
  refine a_aload_n C2 dL_law_2730 4 rfl ?_
  refine a_callV C2 (k := 175) (As := []) (rest := []) hm2 (cwV 0 C2.1.2.2.2.2 (gl_up gL_law_X12_meanOil) rfl rfl rfl (by decide +kernel) ⟨by dsimp only [x_rm, room_1]; omega, by dsimp only [x_rm, room_1]; omega⟩) x_k175 (q := (RX12, TX12, 16)) rfl rfl rfl rfl (Nat.le_of_ble_eq_true rfl) dL_law_2731 ⟨hc, hs⟩ ?_
  refine a_dstore C2 dL_law_2734 (by decide) (lst2 := [(7, .double b0), (6, .int (nI k)), (5, .int (nI i)), (0, .ref b), (1, .ref (x_b G2 + 0)), (2, .ref (x_b G2 + 175)), (3, .ref (x_b G2 + 183)), (4, .ref (x_b G2 + 184))]) rfl ?_
  refine a_aload_n C2 dL_law_2736 5 rfl ?_
  refine a_callV C2 (k := 175) (As := []) (rest := []) (c_M_thrown l G2 d2) (cwV 0 C2.1.2.2.2.2 (gl_up gL_law_X12_thrown) rfl rfl rfl (by decide +kernel) ⟨Nat.le_of_ble_eq_true rfl, Nat.le_of_ble_eq_true rfl⟩) x_k175 (q := (RX12, TX12, 16)) rfl rfl rfl rfl (Nat.le_of_ble_eq_true rfl) dL_law_2737 ⟨hc, hs⟩ ?_
  refine a_iload C2 dL_law_2740 1 rfl ?_
  refine a_icmp_eq C2 dL_law_2742 (tgt := 2747) (by decide) (fun _ => ?_) (fun hn => absurd h12 hn)
  refine a_iload C2 dL_law_2747 1 rfl ?_
  have FIN : Ab G2 p l e room_1 s m args below meth c 9 (cells + 1) (slots + 6) Q 2784 [(7, .double b0), (6, .int (nI k)), (5, .int (nI i)), (0, .ref b), (1, .ref (x_b G2 + 0)), (2, .ref (x_b G2 + 175)), (3, .ref (x_b G2 + 183)), (4, .ref (x_b G2 + 184))] [] d2 := a_goto C2 dL_law_2784 (tgt := 3091) (by decide) (a_sub (lst2 := [(5, .int (nI i)), (0, .ref b), (1, .ref (x_b G2 + 0)), (2, .ref (x_b G2 + 175)), (3, .ref (x_b G2 + 183)), (4, .ref (x_b G2 + 184))]) [2, 3, 4, 5, 6, 7] rfl (K G2 d2 hb2 C2 hz))
  refine a_if_ne C2 dL_law_2749 (tgt := 2784) (by decide) (fun _ => FIN) (fun hk0 => ?_)
  have hk : k = 0 := by
    rcases Nat.eq_zero_or_pos k with y | y
    · exact y
    · exact absurd hk0 (nI_ne0 (by omega) (by omega))
  have hv : x_u G2 0 = b0 := (hl2 hk).trans (hrb hk).1
  refine a_aload C2 dL_law_2752 7 rfl ?_
  refine a_iconst C2 dL_law_2754 (v := 0) (by decide) ?_
  refine a_dald C2 dL_law_2755 ?_
  rw [hv]
  refine a_dload C2 dL_law_2756 0 rfl ?_
  refine a_dcmp C2 dL_law_2758 ?_
  refine a_if_eq C2 dL_law_2759 (tgt := 2784) (by decide) (fun _ => FIN) (fun hn => ?_)
  refine a_aload C2 dL_law_2762 7 rfl ?_
  refine a_iconst C2 dL_law_2764 (v := 0) (by decide) ?_
  refine a_dald C2 dL_law_2765 ?_
  rw [hv]
  refine a_aload C2 dL_law_2766 7 rfl ?_
  refine a_iconst C2 dL_law_2768 (v := 0) (by decide) ?_
  refine a_dald C2 dL_law_2769 ?_
  rw [hv]
  refine a_dcmp C2 dL_law_2770 ?_
  refine a_if_eq C2 dL_law_2771 (tgt := 2782) (by decide) (fun hy => absurd hy hn) (fun _ => ?_)
  refine a_dload C2 dL_law_2774 0 rfl ?_
  refine a_dload C2 dL_law_2776 0 rfl ?_
  refine a_dcmp C2 dL_law_2778 ?_
  exact a_if_ne C2 dL_law_2779 (tgt := 2784) (by decide) (fun _ => FIN) (fun hy => absurd hy hn)
set_option maxHeartbeats 1000000 in
set_option maxRecDepth 100000 in
theorem law_49 (C : Cx G p s m args c code (wsL_law ++ ws_cl) RL 9) (hfl : l.stackTraces = false) (h : y_Z B d) (hB : B + 180 < 100000) (hX : va_X b L xs s s.heap) (hbl : b < s.heap.size) (hbA : ¬ x_A G b) (hL : L < 2000) (hi : i + 3 ≤ L) (hc : cells + 1 ≤ 603072) (hs : slots + 6 ≤ 7170154) (K : ∀ (G2 : xG) (d2 : xd), x_b G2 = x_b G → Cx G2 p s m args c code (wsL_law ++ ws_cl) RL 9 → y_Z (B + 180) d2 → Ab G2 p l e room_1 s m args below meth c 9 (cells + 1) (slots + 6) Q 3091 [(5, .int (nI i)), (0, .ref b), (1, .ref (x_b G2 + 0)), (2, .ref (x_b G2 + 175)), (3, .ref (x_b G2 + 183)), (4, .ref (x_b G2 + 184))] [] d2) : Ab G p l e room_1 s m args below meth c 9 cells slots Q 2787 [(5, .int (nI i)), (0, .ref b), (1, .ref (x_b G + 0)), (2, .ref (x_b G + 175)), (3, .ref (x_b G + 183)), (4, .ref (x_b G + 184))] [] d := by
  obtain ⟨r, d1, d2, ⟨lv, hlv, hc1⟩, ⟨lv2, hlv2, hc2⟩, hz⟩ := s_isBalanced (l := l) h hB
  refine a_aload_n C dL_law_2787 2 rfl ?_
  refine a_callV C (k := 0) (As := []) (rest := []) (hc1 G) (cwV 0 C.1.2.2.2.2 (gl_up gL_law_X11_isBalanced) rfl rfl rfl (by decide +kernel) ⟨by dsimp only [x_rm, room_1]; omega, by dsimp only [x_rm, room_1]; omega⟩) x_k0 (q := (RX11, TX11, 13)) rfl rfl rfl rfl (Nat.le_of_ble_eq_true rfl) dL_law_2788 ⟨by show cells ≤ 603072; omega, by show slots ≤ 7170154; omega⟩ ?_
  refine a_aload_n C dL_law_2791 3 rfl ?_
  refine a_callV C (k := 175) (As := []) (rest := [.int r]) (hc2 G) (cwV 0 C.1.2.2.2.2 (gl_up gL_law_X12_isBalanced) rfl rfl rfl (by decide +kernel) ⟨by dsimp only [x_rm, room_1]; omega, by dsimp only [x_rm, room_1]; omega⟩) x_k175 (q := (RX12, TX12, 16)) rfl rfl rfl rfl (Nat.le_of_ble_eq_true rfl) dL_law_2792 ⟨by show cells ≤ 603072; omega, by show slots ≤ 7170154; omega⟩ ?_
  refine a_icmp_eq C dL_law_2795 (tgt := 3091) (by decide) (fun _ => ?_) (fun hn => absurd rfl hn)
  refine a_widen (k := cells + 1) (n := slots + 6) (by omega) (by omega) ?_
  exact K G d2 rfl C hz
set_option maxHeartbeats 1000000 in
set_option maxRecDepth 100000 in
theorem law_50 (C : Cx G p s m args c code (wsL_law ++ ws_cl) RL 9) (hfl : l.stackTraces = false) (h : y_Z B d) (hB : B + 180 < 100000) (hX : va_X b L xs s s.heap) (hbl : b < s.heap.size) (hbA : ¬ x_A G b) (hL : L < 2000) (hi : i + 3 ≤ L) (hc : cells + 1 ≤ 603072) (hs : slots + 6 ≤ 7170154) (K : ∀ (G2 : xG) (d2 : xd), x_b G2 = x_b G → Cx G2 p s m args c code (wsL_law ++ ws_cl) RL 9 → y_Z (B + 180) d2 → Ab G2 p l e room_1 s m args below meth c 9 (cells + 1) (slots + 6) Q 3091 [(5, .int (nI i)), (0, .ref b), (1, .ref (x_b G2 + 0)), (2, .ref (x_b G2 + 175)), (3, .ref (x_b G2 + 183)), (4, .ref (x_b G2 + 184))] [] d2) : Ab G p l e room_1 s m args below meth c 9 cells slots Q 2800 [(5, .int (nI i)), (0, .ref b), (1, .ref (x_b G + 0)), (2, .ref (x_b G + 175)), (3, .ref (x_b G + 183)), (4, .ref (x_b G + 184))] [] d := by
  obtain ⟨ch, hch, ech⟩ := x_i2c (xs (i + 1))
  obtain ⟨k, r, d1, hk3, hcl, hm⟩ := y_S.two (s_type (l := l) hfl h hB ch hch)
  refine a_aload_n C dL_law_2800 2 rfl ?_
  refine a_aload_n C dL_law_2801 1 rfl ?_
  refine a_iload C dL_law_2802 0 rfl ?_
  refine a_iconst C dL_law_2804 (v := 1) (by decide) ?_
  refine a_iadd C dL_law_2805 ?_
  refine a_sld C hX hbl hbA (i := i + 1) (nI_add i 1) (by omega) (by omega) dL_law_2806 ?_
  refine a_i2c C dL_law_2807 (v := nI ch) ech ?_
  refine a_aload_n C dL_law_2808 4 rfl ?_
  refine a_callL (G2 := (if k = 0 then x_sl G r.toInt64 else G)) (g2_sl_b _ _ _) C (As := [.ref (x_b G + 0), .int (nI ch), .ref (x_b G + 183)]) (rest := []) (w_type l G d d1 _ k r hcl) (vx_cwSW 3 C.1.2.2.2.2 (gl_law gL_law_L_type) rfl rfl rfl (by decide +kernel) ⟨Nat.le_of_ble_eq_true rfl, Nat.le_of_ble_eq_true rfl⟩) rfl rfl (Nat.le_of_ble_eq_true rfl) dL_law_2809 ⟨hc, hs⟩ (g2_sl_D _ _ _) ?_
  have C2 := C.sl_if k r.toInt64
  have hb2 := g2_sl_b G r.toInt64 k
  have hl2 := g2_sl_v G r.toInt64 k
  generalize (if k = 0 then x_sl G r.toInt64 else G) = G2 at C2 hb2 hl2 ⊢
  have hbA2 : ¬ x_A G2 b := by
    unfold x_A
    rw [hb2]
    exact hbA
  rw [← hb2]
  obtain ⟨b0, d2, lv, hlv, hm2, h12, hrb, hz⟩ := hm G2
  refine a_istore C2 dL_law_2812 (by decide) (lst2 := [(6, .int (nI k)), (5, .int (nI i)), (0, .ref b), (1, .ref (x_b G2 + 0)), (2, .ref (x_b G2 + 175)), (3, .ref (x_b G2 + 183)), (4, .ref (x_b G2 + 184))]) rfl ?_
  refine a_aload_n C2 dL_law_2814 4 rfl ?_
  refine a_aload_n C2 dL_law_2815 2 rfl ?_
  refine a_iload C2 dL_law_2816 1 rfl ?_
  refine a_iconst C2 dL_law_2818 (v := 1) (by decide) ?_
  refine a_iadd C2 dL_law_2819 ?_
  refine a_sld C2 hX hbl hbA2 (i := i + 1) (nI_add i 1) (by omega) (by omega) dL_law_2820 ?_
  refine a_i2c C2 dL_law_2821 (v := nI ch) ech ?_
  refine a_callV C2 (k := 175) (As := [.int (nI ch)]) (rest := []) hm2 (cwV 1 C2.1.2.2.2.2 (gl_up gL_law_X12_type) rfl rfl rfl (by decide +kernel) ⟨by dsimp only [x_rm, room_1]; omega, by dsimp only [x_rm, room_1]; omega⟩) x_k175 (q := (RX12, TX12, 16)) rfl rfl rfl rfl (Nat.le_of_ble_eq_true rfl) dL_law_2822 ⟨hc, hs⟩ ?_
  refine a_istore C2 dL_law_2825 (by decide) (lst2 := [(7, .int b0), (6, .int (nI k)), (5, .int (nI i)), (0, .ref b), (1, .ref (x_b G2 + 0)), (2, .ref (x_b G2 + 175)), (3, .ref (x_b G2 + 183)), (4, .ref (x_b G2 + 184))]) rfl ?_
  refine a_aload_n C2 dL_law_2827 5 rfl ?_
  refine a_callV C2 (k := 175) (As := []) (rest := []) (c_M_thrown l G2 d2) (cwV 0 C2.1.2.2.2.2 (gl_up gL_law_X12_thrown) rfl rfl rfl (by decide +kernel) ⟨Nat.le_of_ble_eq_true rfl, Nat.le_of_ble_eq_true rfl⟩) x_k175 (q := (RX12, TX12, 16)) rfl rfl rfl rfl (Nat.le_of_ble_eq_true rfl) dL_law_2828 ⟨hc, hs⟩ ?_
  refine a_iload C2 dL_law_2831 1 rfl ?_
  refine a_icmp_eq C2 dL_law_2833 (tgt := 2838) (by decide) (fun _ => ?_) (fun hn => absurd h12 hn)
  refine a_iload C2 dL_law_2838 1 rfl ?_
  have FIN : Ab G2 p l e room_1 s m args below meth c 9 (cells + 1) (slots + 6) Q 2855 [(7, .int b0), (6, .int (nI k)), (5, .int (nI i)), (0, .ref b), (1, .ref (x_b G2 + 0)), (2, .ref (x_b G2 + 175)), (3, .ref (x_b G2 + 183)), (4, .ref (x_b G2 + 184))] [] d2 := a_goto C2 dL_law_2855 (tgt := 3091) (by decide) (a_sub (lst2 := [(5, .int (nI i)), (0, .ref b), (1, .ref (x_b G2 + 0)), (2, .ref (x_b G2 + 175)), (3, .ref (x_b G2 + 183)), (4, .ref (x_b G2 + 184))]) [2, 3, 4, 5, 6, 7] rfl (K G2 d2 hb2 C2 hz))
  refine a_if_ne C2 dL_law_2840 (tgt := 2855) (by decide) (fun _ => FIN) (fun hk0 => ?_)
  have hk : k = 0 := by
    rcases Nat.eq_zero_or_pos k with y | y
    · exact y
    · exact absurd hk0 (nI_ne0 (by omega) (by omega))
  refine a_aload_n C2 dL_law_2843 6 rfl ?_
  refine a_iconst C2 dL_law_2844 (v := 0) (by decide) ?_
  refine a_lald C2 dL_law_2845 ?_
  refine a_iload C2 dL_law_2846 0 rfl ?_
  refine a_i2l C2 dL_law_2848 ?_
  refine a_lcmp C2 dL_law_2849 ?_
  exact a_if_eq C2 dL_law_2850 (tgt := 2855) (by decide) (fun _ => FIN) (fun hn => absurd ((lg_cmp_eq _ _).mpr (by rw [hl2 hk, hrb hk])) hn)
set_option maxHeartbeats 1000000 in
set_option maxRecDepth 100000 in
theorem law_51 (C : Cx G p s m args c code (wsL_law ++ ws_cl) RL 9) (hfl : l.stackTraces = false) (h : y_Z B d) (hB : B + 180 < 100000) (hX : va_X b L xs s s.heap) (hbl : b < s.heap.size) (hbA : ¬ x_A G b) (hL : L < 2000) (hi : i + 3 ≤ L) (hc : cells + 1 ≤ 603072) (hs : slots + 6 ≤ 7170154) (K : ∀ (G2 : xG) (d2 : xd), x_b G2 = x_b G → Cx G2 p s m args c code (wsL_law ++ ws_cl) RL 9 → y_Z (B + 180) d2 → Ab G2 p l e room_1 s m args below meth c 9 (cells + 1) (slots + 6) Q 3091 [(5, .int (nI i)), (0, .ref b), (1, .ref (x_b G2 + 0)), (2, .ref (x_b G2 + 175)), (3, .ref (x_b G2 + 183)), (4, .ref (x_b G2 + 184))] [] d2) : Ab G p l e room_1 s m args below meth c 9 cells slots Q 2858 [(5, .int (nI i)), (0, .ref b), (1, .ref (x_b G + 0)), (2, .ref (x_b G + 175)), (3, .ref (x_b G + 183)), (4, .ref (x_b G + 184))] [] d := by
  obtain ⟨k, r, d1, hk3, hcl, hm⟩ := s_execute (l := l) hfl h hB
  refine a_aload_n C dL_law_2858 2 rfl ?_
  refine a_aload_n C dL_law_2859 4 rfl ?_
  refine a_callL (G2 := (if k = 0 then x_sl G r.toInt64 else G)) (g2_sl_b _ _ _) C (As := [.ref (x_b G + 0), .ref (x_b G + 183)]) (rest := []) (w_execute l G d d1  k r hcl) (vx_cwSW 2 C.1.2.2.2.2 (gl_law gL_law_L_execute) rfl rfl rfl (by decide +kernel) ⟨Nat.le_of_ble_eq_true rfl, Nat.le_of_ble_eq_true rfl⟩) rfl rfl (Nat.le_of_ble_eq_true rfl) dL_law_2860 ⟨hc, hs⟩ (g2_sl_D _ _ _) ?_
  have C2 := C.sl_if k r.toInt64
  have hb2 := g2_sl_b G r.toInt64 k
  have hl2 := g2_sl_v G r.toInt64 k
  generalize (if k = 0 then x_sl G r.toInt64 else G) = G2 at C2 hb2 hl2 ⊢
  have hbA2 : ¬ x_A G2 b := by
    unfold x_A
    rw [hb2]
    exact hbA
  rw [← hb2]
  obtain ⟨b0, d2, lv, hlv, hm2, h12, hrb, hz⟩ := hm G2
  refine a_istore C2 dL_law_2863 (by decide) (lst2 := [(6, .int (nI k)), (5, .int (nI i)), (0, .ref b), (1, .ref (x_b G2 + 0)), (2, .ref (x_b G2 + 175)), (3, .ref (x_b G2 + 183)), (4, .ref (x_b G2 + 184))]) rfl ?_
  refine a_aload_n C2 dL_law_2865 4 rfl ?_
  refine a_callV C2 (k := 175) (As := []) (rest := []) hm2 (cwV 0 C2.1.2.2.2.2 (gl_up gL_law_X12_execute) rfl rfl rfl (by decide +kernel) ⟨by dsimp only [x_rm, room_1]; omega, by dsimp only [x_rm, room_1]; omega⟩) x_k175 (q := (RX12, TX12, 16)) rfl rfl rfl rfl (Nat.le_of_ble_eq_true rfl) dL_law_2866 ⟨hc, hs⟩ ?_
  refine a_istore C2 dL_law_2869 (by decide) (lst2 := [(7, .int b0), (6, .int (nI k)), (5, .int (nI i)), (0, .ref b), (1, .ref (x_b G2 + 0)), (2, .ref (x_b G2 + 175)), (3, .ref (x_b G2 + 183)), (4, .ref (x_b G2 + 184))]) rfl ?_
  refine a_aload_n C2 dL_law_2871 5 rfl ?_
  refine a_callV C2 (k := 175) (As := []) (rest := []) (c_M_thrown l G2 d2) (cwV 0 C2.1.2.2.2.2 (gl_up gL_law_X12_thrown) rfl rfl rfl (by decide +kernel) ⟨Nat.le_of_ble_eq_true rfl, Nat.le_of_ble_eq_true rfl⟩) x_k175 (q := (RX12, TX12, 16)) rfl rfl rfl rfl (Nat.le_of_ble_eq_true rfl) dL_law_2872 ⟨hc, hs⟩ ?_
  refine a_iload C2 dL_law_2875 1 rfl ?_
  refine a_icmp_eq C2 dL_law_2877 (tgt := 2882) (by decide) (fun _ => ?_) (fun hn => absurd h12 hn)
  refine a_iload C2 dL_law_2882 1 rfl ?_
  have FIN : Ab G2 p l e room_1 s m args below meth c 9 (cells + 1) (slots + 6) Q 2899 [(7, .int b0), (6, .int (nI k)), (5, .int (nI i)), (0, .ref b), (1, .ref (x_b G2 + 0)), (2, .ref (x_b G2 + 175)), (3, .ref (x_b G2 + 183)), (4, .ref (x_b G2 + 184))] [] d2 := a_goto C2 dL_law_2899 (tgt := 3091) (by decide) (a_sub (lst2 := [(5, .int (nI i)), (0, .ref b), (1, .ref (x_b G2 + 0)), (2, .ref (x_b G2 + 175)), (3, .ref (x_b G2 + 183)), (4, .ref (x_b G2 + 184))]) [2, 3, 4, 5, 6, 7] rfl (K G2 d2 hb2 C2 hz))
  refine a_if_ne C2 dL_law_2884 (tgt := 2899) (by decide) (fun _ => FIN) (fun hk0 => ?_)
  have hk : k = 0 := by
    rcases Nat.eq_zero_or_pos k with y | y
    · exact y
    · exact absurd hk0 (nI_ne0 (by omega) (by omega))
  refine a_aload_n C2 dL_law_2887 6 rfl ?_
  refine a_iconst C2 dL_law_2888 (v := 0) (by decide) ?_
  refine a_lald C2 dL_law_2889 ?_
  refine a_iload C2 dL_law_2890 0 rfl ?_
  refine a_i2l C2 dL_law_2892 ?_
  refine a_lcmp C2 dL_law_2893 ?_
  exact a_if_eq C2 dL_law_2894 (tgt := 2899) (by decide) (fun _ => FIN) (fun hn => absurd ((lg_cmp_eq _ _).mpr (by rw [hl2 hk, hrb hk])) hn)
set_option maxHeartbeats 1000000 in
set_option maxRecDepth 100000 in
theorem law_52 (C : Cx G p s m args c code (wsL_law ++ ws_cl) RL 9) (hfl : l.stackTraces = false) (h : y_Z B d) (hB : B + 180 < 100000) (hX : va_X b L xs s s.heap) (hbl : b < s.heap.size) (hbA : ¬ x_A G b) (hL : L < 2000) (hi : i + 3 ≤ L) (hc : cells + 1 ≤ 603072) (hs : slots + 6 ≤ 7170154) (K : ∀ (G2 : xG) (d2 : xd), x_b G2 = x_b G → Cx G2 p s m args c code (wsL_law ++ ws_cl) RL 9 → y_Z (B + 180) d2 → Ab G2 p l e room_1 s m args below meth c 9 (cells + 1) (slots + 6) Q 3091 [(5, .int (nI i)), (0, .ref b), (1, .ref (x_b G2 + 0)), (2, .ref (x_b G2 + 175)), (3, .ref (x_b G2 + 183)), (4, .ref (x_b G2 + 184))] [] d2) : Ab G p l e room_1 s m args below meth c 9 cells slots Q 2902 [(5, .int (nI i)), (0, .ref b), (1, .ref (x_b G + 0)), (2, .ref (x_b G + 175)), (3, .ref (x_b G + 183)), (4, .ref (x_b G + 184))] [] d := by
  obtain ⟨k, r, d1, hk3, hcl, hm⟩ := y_S.two (s_errorPosition (l := l) hfl h hB)
  refine a_aload_n C dL_law_2902 2 rfl ?_
  refine a_aload_n C dL_law_2903 4 rfl ?_
  refine a_callL (G2 := (if k = 0 then x_sl G r.toInt64 else G)) (g2_sl_b _ _ _) C (As := [.ref (x_b G + 0), .ref (x_b G + 183)]) (rest := []) (w_errorPosition l G d d1  k r hcl) (vx_cwSW 2 C.1.2.2.2.2 (gl_law gL_law_L_errorPosition) rfl rfl rfl (by decide +kernel) ⟨Nat.le_of_ble_eq_true rfl, Nat.le_of_ble_eq_true rfl⟩) rfl rfl (Nat.le_of_ble_eq_true rfl) dL_law_2904 ⟨hc, hs⟩ (g2_sl_D _ _ _) ?_
  have C2 := C.sl_if k r.toInt64
  have hb2 := g2_sl_b G r.toInt64 k
  have hl2 := g2_sl_v G r.toInt64 k
  generalize (if k = 0 then x_sl G r.toInt64 else G) = G2 at C2 hb2 hl2 ⊢
  have hbA2 : ¬ x_A G2 b := by
    unfold x_A
    rw [hb2]
    exact hbA
  rw [← hb2]
  obtain ⟨b0, d2, lv, hlv, hm2, h12, hrb, hz⟩ := hm G2
  refine a_istore C2 dL_law_2907 (by decide) (lst2 := [(6, .int (nI k)), (5, .int (nI i)), (0, .ref b), (1, .ref (x_b G2 + 0)), (2, .ref (x_b G2 + 175)), (3, .ref (x_b G2 + 183)), (4, .ref (x_b G2 + 184))]) rfl ?_
  refine a_aload_n C2 dL_law_2909 4 rfl ?_
  refine a_callV C2 (k := 175) (As := []) (rest := []) hm2 (cwV 0 C2.1.2.2.2.2 (gl_up gL_law_X12_errorPosition) rfl rfl rfl (by decide +kernel) ⟨by dsimp only [x_rm, room_1]; omega, by dsimp only [x_rm, room_1]; omega⟩) x_k175 (q := (RX12, TX12, 16)) rfl rfl rfl rfl (Nat.le_of_ble_eq_true rfl) dL_law_2910 ⟨hc, hs⟩ ?_
  refine a_istore C2 dL_law_2913 (by decide) (lst2 := [(7, .int b0), (6, .int (nI k)), (5, .int (nI i)), (0, .ref b), (1, .ref (x_b G2 + 0)), (2, .ref (x_b G2 + 175)), (3, .ref (x_b G2 + 183)), (4, .ref (x_b G2 + 184))]) rfl ?_
  refine a_aload_n C2 dL_law_2915 5 rfl ?_
  refine a_callV C2 (k := 175) (As := []) (rest := []) (c_M_thrown l G2 d2) (cwV 0 C2.1.2.2.2.2 (gl_up gL_law_X12_thrown) rfl rfl rfl (by decide +kernel) ⟨Nat.le_of_ble_eq_true rfl, Nat.le_of_ble_eq_true rfl⟩) x_k175 (q := (RX12, TX12, 16)) rfl rfl rfl rfl (Nat.le_of_ble_eq_true rfl) dL_law_2916 ⟨hc, hs⟩ ?_
  refine a_iload C2 dL_law_2919 1 rfl ?_
  refine a_icmp_eq C2 dL_law_2921 (tgt := 2926) (by decide) (fun _ => ?_) (fun hn => absurd h12 hn)
  refine a_iload C2 dL_law_2926 1 rfl ?_
  have FIN : Ab G2 p l e room_1 s m args below meth c 9 (cells + 1) (slots + 6) Q 2943 [(7, .int b0), (6, .int (nI k)), (5, .int (nI i)), (0, .ref b), (1, .ref (x_b G2 + 0)), (2, .ref (x_b G2 + 175)), (3, .ref (x_b G2 + 183)), (4, .ref (x_b G2 + 184))] [] d2 := a_goto C2 dL_law_2943 (tgt := 3091) (by decide) (a_sub (lst2 := [(5, .int (nI i)), (0, .ref b), (1, .ref (x_b G2 + 0)), (2, .ref (x_b G2 + 175)), (3, .ref (x_b G2 + 183)), (4, .ref (x_b G2 + 184))]) [2, 3, 4, 5, 6, 7] rfl (K G2 d2 hb2 C2 hz))
  refine a_if_ne C2 dL_law_2928 (tgt := 2943) (by decide) (fun _ => FIN) (fun hk0 => ?_)
  have hk : k = 0 := by
    rcases Nat.eq_zero_or_pos k with y | y
    · exact y
    · exact absurd hk0 (nI_ne0 (by omega) (by omega))
  refine a_aload_n C2 dL_law_2931 6 rfl ?_
  refine a_iconst C2 dL_law_2932 (v := 0) (by decide) ?_
  refine a_lald C2 dL_law_2933 ?_
  refine a_iload C2 dL_law_2934 0 rfl ?_
  refine a_i2l C2 dL_law_2936 ?_
  refine a_lcmp C2 dL_law_2937 ?_
  exact a_if_eq C2 dL_law_2938 (tgt := 2943) (by decide) (fun _ => FIN) (fun hn => absurd ((lg_cmp_eq _ _).mpr (by rw [hl2 hk, hrb hk])) hn)
set_option maxHeartbeats 1000000 in
set_option maxRecDepth 100000 in
theorem law_53 (C : Cx G p s m args c code (wsL_law ++ ws_cl) RL 9) (hfl : l.stackTraces = false) (h : y_Z B d) (hB : B + 180 < 100000) (hX : va_X b L xs s s.heap) (hbl : b < s.heap.size) (hbA : ¬ x_A G b) (hL : L < 2000) (hi : i + 3 ≤ L) (hc : cells + 1 ≤ 603072) (hs : slots + 6 ≤ 7170154) (K : ∀ (G2 : xG) (d2 : xd), x_b G2 = x_b G → Cx G2 p s m args c code (wsL_law ++ ws_cl) RL 9 → y_Z (B + 180) d2 → Ab G2 p l e room_1 s m args below meth c 9 (cells + 1) (slots + 6) Q 3091 [(5, .int (nI i)), (0, .ref b), (1, .ref (x_b G2 + 0)), (2, .ref (x_b G2 + 175)), (3, .ref (x_b G2 + 183)), (4, .ref (x_b G2 + 184))] [] d2) : Ab G p l e room_1 s m args below meth c 9 cells slots Q 2946 [(5, .int (nI i)), (0, .ref b), (1, .ref (x_b G + 0)), (2, .ref (x_b G + 175)), (3, .ref (x_b G + 183)), (4, .ref (x_b G + 184))] [] d := by
  obtain ⟨k, r, d1, hk3, hcl, hm⟩ := y_S.two (s_failedCommand (l := l) hfl h hB)
  refine a_aload_n C dL_law_2946 2 rfl ?_
  refine a_aload_n C dL_law_2947 4 rfl ?_
  refine a_callL (G2 := (if k = 0 then x_sl G r.toInt64 else G)) (g2_sl_b _ _ _) C (As := [.ref (x_b G + 0), .ref (x_b G + 183)]) (rest := []) (w_failedCommand l G d d1  k r hcl) (vx_cwSW 2 C.1.2.2.2.2 (gl_law gL_law_L_failedCommand) rfl rfl rfl (by decide +kernel) ⟨Nat.le_of_ble_eq_true rfl, Nat.le_of_ble_eq_true rfl⟩) rfl rfl (Nat.le_of_ble_eq_true rfl) dL_law_2948 ⟨hc, hs⟩ (g2_sl_D _ _ _) ?_
  have C2 := C.sl_if k r.toInt64
  have hb2 := g2_sl_b G r.toInt64 k
  have hl2 := g2_sl_v G r.toInt64 k
  generalize (if k = 0 then x_sl G r.toInt64 else G) = G2 at C2 hb2 hl2 ⊢
  have hbA2 : ¬ x_A G2 b := by
    unfold x_A
    rw [hb2]
    exact hbA
  rw [← hb2]
  obtain ⟨b0, d2, lv, hlv, hm2, h12, hrb, hz⟩ := hm G2
  refine a_istore C2 dL_law_2951 (by decide) (lst2 := [(6, .int (nI k)), (5, .int (nI i)), (0, .ref b), (1, .ref (x_b G2 + 0)), (2, .ref (x_b G2 + 175)), (3, .ref (x_b G2 + 183)), (4, .ref (x_b G2 + 184))]) rfl ?_
  refine a_aload_n C2 dL_law_2953 4 rfl ?_
  refine a_callV C2 (k := 175) (As := []) (rest := []) hm2 (cwV 0 C2.1.2.2.2.2 (gl_up gL_law_X12_failedCommand) rfl rfl rfl (by decide +kernel) ⟨by dsimp only [x_rm, room_1]; omega, by dsimp only [x_rm, room_1]; omega⟩) x_k175 (q := (RX12, TX12, 16)) rfl rfl rfl rfl (Nat.le_of_ble_eq_true rfl) dL_law_2954 ⟨hc, hs⟩ ?_
  refine a_istore C2 dL_law_2957 (by decide) (lst2 := [(7, .int b0), (6, .int (nI k)), (5, .int (nI i)), (0, .ref b), (1, .ref (x_b G2 + 0)), (2, .ref (x_b G2 + 175)), (3, .ref (x_b G2 + 183)), (4, .ref (x_b G2 + 184))]) rfl ?_
  refine a_aload_n C2 dL_law_2959 5 rfl ?_
  refine a_callV C2 (k := 175) (As := []) (rest := []) (c_M_thrown l G2 d2) (cwV 0 C2.1.2.2.2.2 (gl_up gL_law_X12_thrown) rfl rfl rfl (by decide +kernel) ⟨Nat.le_of_ble_eq_true rfl, Nat.le_of_ble_eq_true rfl⟩) x_k175 (q := (RX12, TX12, 16)) rfl rfl rfl rfl (Nat.le_of_ble_eq_true rfl) dL_law_2960 ⟨hc, hs⟩ ?_
  refine a_iload C2 dL_law_2963 1 rfl ?_
  refine a_icmp_eq C2 dL_law_2965 (tgt := 2970) (by decide) (fun _ => ?_) (fun hn => absurd h12 hn)
  refine a_iload C2 dL_law_2970 1 rfl ?_
  have FIN : Ab G2 p l e room_1 s m args below meth c 9 (cells + 1) (slots + 6) Q 2987 [(7, .int b0), (6, .int (nI k)), (5, .int (nI i)), (0, .ref b), (1, .ref (x_b G2 + 0)), (2, .ref (x_b G2 + 175)), (3, .ref (x_b G2 + 183)), (4, .ref (x_b G2 + 184))] [] d2 := a_goto C2 dL_law_2987 (tgt := 3091) (by decide) (a_sub (lst2 := [(5, .int (nI i)), (0, .ref b), (1, .ref (x_b G2 + 0)), (2, .ref (x_b G2 + 175)), (3, .ref (x_b G2 + 183)), (4, .ref (x_b G2 + 184))]) [2, 3, 4, 5, 6, 7] rfl (K G2 d2 hb2 C2 hz))
  refine a_if_ne C2 dL_law_2972 (tgt := 2987) (by decide) (fun _ => FIN) (fun hk0 => ?_)
  have hk : k = 0 := by
    rcases Nat.eq_zero_or_pos k with y | y
    · exact y
    · exact absurd hk0 (nI_ne0 (by omega) (by omega))
  refine a_aload_n C2 dL_law_2975 6 rfl ?_
  refine a_iconst C2 dL_law_2976 (v := 0) (by decide) ?_
  refine a_lald C2 dL_law_2977 ?_
  refine a_iload C2 dL_law_2978 0 rfl ?_
  refine a_i2l C2 dL_law_2980 ?_
  refine a_lcmp C2 dL_law_2981 ?_
  exact a_if_eq C2 dL_law_2982 (tgt := 2987) (by decide) (fun _ => FIN) (fun hn => absurd ((lg_cmp_eq _ _).mpr (by rw [hl2 hk, hrb hk])) hn)
set_option maxHeartbeats 1000000 in
set_option maxRecDepth 100000 in
theorem law_54 (C : Cx G p s m args c code (wsL_law ++ ws_cl) RL 9) (hfl : l.stackTraces = false) (h : y_Z B d) (hB : B + 180 < 100000) (hX : va_X b L xs s s.heap) (hbl : b < s.heap.size) (hbA : ¬ x_A G b) (hL : L < 2000) (hi : i + 3 ≤ L) (hc : cells + 1 ≤ 603072) (hs : slots + 6 ≤ 7170154) (K : ∀ (G2 : xG) (d2 : xd), x_b G2 = x_b G → Cx G2 p s m args c code (wsL_law ++ ws_cl) RL 9 → y_Z (B + 180) d2 → Ab G2 p l e room_1 s m args below meth c 9 (cells + 1) (slots + 6) Q 3091 [(5, .int (nI i)), (0, .ref b), (1, .ref (x_b G2 + 0)), (2, .ref (x_b G2 + 175)), (3, .ref (x_b G2 + 183)), (4, .ref (x_b G2 + 184))] [] d2) : Ab G p l e room_1 s m args below meth c 9 cells slots Q 2990 [(5, .int (nI i)), (0, .ref b), (1, .ref (x_b G + 0)), (2, .ref (x_b G + 175)), (3, .ref (x_b G + 183)), (4, .ref (x_b G + 184))] [] d := by
  obtain ⟨k, r, d1, hk3, hcl, hm⟩ := y_S.two (s_undo (l := l) hfl h hB)
  refine a_aload_n C dL_law_2990 2 rfl ?_
  refine a_aload_n C dL_law_2991 4 rfl ?_
  refine a_callL (G2 := (if k = 0 then x_sl G r.toInt64 else G)) (g2_sl_b _ _ _) C (As := [.ref (x_b G + 0), .ref (x_b G + 183)]) (rest := []) (w_undo l G d d1  k r hcl) (vx_cwSW 2 C.1.2.2.2.2 (gl_law gL_law_L_undo) rfl rfl rfl (by decide +kernel) ⟨Nat.le_of_ble_eq_true rfl, Nat.le_of_ble_eq_true rfl⟩) rfl rfl (Nat.le_of_ble_eq_true rfl) dL_law_2992 ⟨hc, hs⟩ (g2_sl_D _ _ _) ?_
  have C2 := C.sl_if k r.toInt64
  have hb2 := g2_sl_b G r.toInt64 k
  have hl2 := g2_sl_v G r.toInt64 k
  generalize (if k = 0 then x_sl G r.toInt64 else G) = G2 at C2 hb2 hl2 ⊢
  have hbA2 : ¬ x_A G2 b := by
    unfold x_A
    rw [hb2]
    exact hbA
  rw [← hb2]
  obtain ⟨b0, d2, lv, hlv, hm2, h12, hrb, hz⟩ := hm G2
  refine a_istore C2 dL_law_2995 (by decide) (lst2 := [(6, .int (nI k)), (5, .int (nI i)), (0, .ref b), (1, .ref (x_b G2 + 0)), (2, .ref (x_b G2 + 175)), (3, .ref (x_b G2 + 183)), (4, .ref (x_b G2 + 184))]) rfl ?_
  refine a_aload_n C2 dL_law_2997 4 rfl ?_
  refine a_callV C2 (k := 175) (As := []) (rest := []) hm2 (cwV 0 C2.1.2.2.2.2 (gl_up gL_law_X12_undo) rfl rfl rfl (by decide +kernel) ⟨by dsimp only [x_rm, room_1]; omega, by dsimp only [x_rm, room_1]; omega⟩) x_k175 (q := (RX12, TX12, 16)) rfl rfl rfl rfl (Nat.le_of_ble_eq_true rfl) dL_law_2998 ⟨hc, hs⟩ ?_
  refine a_istore C2 dL_law_3001 (by decide) (lst2 := [(7, .int b0), (6, .int (nI k)), (5, .int (nI i)), (0, .ref b), (1, .ref (x_b G2 + 0)), (2, .ref (x_b G2 + 175)), (3, .ref (x_b G2 + 183)), (4, .ref (x_b G2 + 184))]) rfl ?_
  refine a_aload_n C2 dL_law_3003 5 rfl ?_
  refine a_callV C2 (k := 175) (As := []) (rest := []) (c_M_thrown l G2 d2) (cwV 0 C2.1.2.2.2.2 (gl_up gL_law_X12_thrown) rfl rfl rfl (by decide +kernel) ⟨Nat.le_of_ble_eq_true rfl, Nat.le_of_ble_eq_true rfl⟩) x_k175 (q := (RX12, TX12, 16)) rfl rfl rfl rfl (Nat.le_of_ble_eq_true rfl) dL_law_3004 ⟨hc, hs⟩ ?_
  refine a_iload C2 dL_law_3007 1 rfl ?_
  refine a_icmp_eq C2 dL_law_3009 (tgt := 3014) (by decide) (fun _ => ?_) (fun hn => absurd h12 hn)
  refine a_iload C2 dL_law_3014 1 rfl ?_
  have FIN : Ab G2 p l e room_1 s m args below meth c 9 (cells + 1) (slots + 6) Q 3031 [(7, .int b0), (6, .int (nI k)), (5, .int (nI i)), (0, .ref b), (1, .ref (x_b G2 + 0)), (2, .ref (x_b G2 + 175)), (3, .ref (x_b G2 + 183)), (4, .ref (x_b G2 + 184))] [] d2 := a_goto C2 dL_law_3031 (tgt := 3091) (by decide) (a_sub (lst2 := [(5, .int (nI i)), (0, .ref b), (1, .ref (x_b G2 + 0)), (2, .ref (x_b G2 + 175)), (3, .ref (x_b G2 + 183)), (4, .ref (x_b G2 + 184))]) [2, 3, 4, 5, 6, 7] rfl (K G2 d2 hb2 C2 hz))
  refine a_if_ne C2 dL_law_3016 (tgt := 3031) (by decide) (fun _ => FIN) (fun hk0 => ?_)
  have hk : k = 0 := by
    rcases Nat.eq_zero_or_pos k with y | y
    · exact y
    · exact absurd hk0 (nI_ne0 (by omega) (by omega))
  refine a_aload_n C2 dL_law_3019 6 rfl ?_
  refine a_iconst C2 dL_law_3020 (v := 0) (by decide) ?_
  refine a_lald C2 dL_law_3021 ?_
  refine a_iload C2 dL_law_3022 0 rfl ?_
  refine a_i2l C2 dL_law_3024 ?_
  refine a_lcmp C2 dL_law_3025 ?_
  exact a_if_eq C2 dL_law_3026 (tgt := 3031) (by decide) (fun _ => FIN) (fun hn => absurd ((lg_cmp_eq _ _).mpr (by rw [hl2 hk, hrb hk])) hn)
set_option maxHeartbeats 1000000 in
set_option maxRecDepth 100000 in
theorem law_55 (C : Cx G p s m args c code (wsL_law ++ ws_cl) RL 9) (hfl : l.stackTraces = false) (h : y_Z B d) (hB : B + 180 < 100000) (hX : va_X b L xs s s.heap) (hbl : b < s.heap.size) (hbA : ¬ x_A G b) (hL : L < 2000) (hi : i + 3 ≤ L) (hc : cells + 1 ≤ 603072) (hs : slots + 6 ≤ 7170154) (K : ∀ (G2 : xG) (d2 : xd), x_b G2 = x_b G → Cx G2 p s m args c code (wsL_law ++ ws_cl) RL 9 → y_Z (B + 180) d2 → Ab G2 p l e room_1 s m args below meth c 9 (cells + 1) (slots + 6) Q 3091 [(5, .int (nI i)), (0, .ref b), (1, .ref (x_b G2 + 0)), (2, .ref (x_b G2 + 175)), (3, .ref (x_b G2 + 183)), (4, .ref (x_b G2 + 184))] [] d2) : Ab G p l e room_1 s m args below meth c 9 cells slots Q 3034 [(5, .int (nI i)), (0, .ref b), (1, .ref (x_b G + 0)), (2, .ref (x_b G + 175)), (3, .ref (x_b G + 183)), (4, .ref (x_b G + 184))] [] d := by
  obtain ⟨r, d1, d2, ⟨lv, hlv, hc1⟩, ⟨lv2, hlv2, hc2⟩, hz⟩ := s_save (l := l) h hB
  refine a_aload_n C dL_law_3034 2 rfl ?_
  refine a_callV C (k := 0) (As := []) (rest := []) (hc1 G) (cwV 0 C.1.2.2.2.2 (gl_up gL_law_X11_save) rfl rfl rfl (by decide +kernel) ⟨by dsimp only [x_rm, room_1]; omega, by dsimp only [x_rm, room_1]; omega⟩) x_k0 (q := (RX11, TX11, 13)) rfl rfl rfl rfl (Nat.le_of_ble_eq_true rfl) dL_law_3035 ⟨by show cells ≤ 603072; omega, by show slots ≤ 7170154; omega⟩ ?_
  refine a_aload_n C dL_law_3038 3 rfl ?_
  refine a_callV C (k := 175) (As := []) (rest := [.int r]) (hc2 G) (cwV 0 C.1.2.2.2.2 (gl_up gL_law_X12_save) rfl rfl rfl (by decide +kernel) ⟨by dsimp only [x_rm, room_1]; omega, by dsimp only [x_rm, room_1]; omega⟩) x_k175 (q := (RX12, TX12, 16)) rfl rfl rfl rfl (Nat.le_of_ble_eq_true rfl) dL_law_3039 ⟨by show cells ≤ 603072; omega, by show slots ≤ 7170154; omega⟩ ?_
  refine a_icmp_eq C dL_law_3042 (tgt := 3091) (by decide) (fun _ => ?_) (fun hn => absurd rfl hn)
  refine a_widen (k := cells + 1) (n := slots + 6) (by omega) (by omega) ?_
  exact K G d2 rfl C hz
set_option maxHeartbeats 1000000 in
set_option maxRecDepth 100000 in
theorem law_56 (C : Cx G p s m args c code (wsL_law ++ ws_cl) RL 9) (hfl : l.stackTraces = false) (h : y_Z B d) (hB : B + 180 < 100000) (hX : va_X b L xs s s.heap) (hbl : b < s.heap.size) (hbA : ¬ x_A G b) (hL : L < 2000) (hi : i + 3 ≤ L) (hc : cells + 1 ≤ 603072) (hs : slots + 6 ≤ 7170154) (K : ∀ (G2 : xG) (d2 : xd), x_b G2 = x_b G → Cx G2 p s m args c code (wsL_law ++ ws_cl) RL 9 → y_Z (B + 180) d2 → Ab G2 p l e room_1 s m args below meth c 9 (cells + 1) (slots + 6) Q 3091 [(5, .int (nI i)), (0, .ref b), (1, .ref (x_b G2 + 0)), (2, .ref (x_b G2 + 175)), (3, .ref (x_b G2 + 183)), (4, .ref (x_b G2 + 184))] [] d2) : Ab G p l e room_1 s m args below meth c 9 cells slots Q 3047 [(5, .int (nI i)), (0, .ref b), (1, .ref (x_b G + 0)), (2, .ref (x_b G + 175)), (3, .ref (x_b G + 183)), (4, .ref (x_b G + 184))] [] d := by
  obtain ⟨k, r, d1, hk3, hcl, hm⟩ := y_S.two (s_restore (l := l) hfl h hB)
  refine a_aload_n C dL_law_3047 2 rfl ?_
  refine a_aload_n C dL_law_3048 4 rfl ?_
  refine a_callL (G2 := (if k = 0 then x_sl G r.toInt64 else G)) (g2_sl_b _ _ _) C (As := [.ref (x_b G + 0), .ref (x_b G + 183)]) (rest := []) (w_restore l G d d1  k r hcl) (vx_cwSW 2 C.1.2.2.2.2 (gl_law gL_law_L_restore) rfl rfl rfl (by decide +kernel) ⟨Nat.le_of_ble_eq_true rfl, Nat.le_of_ble_eq_true rfl⟩) rfl rfl (Nat.le_of_ble_eq_true rfl) dL_law_3049 ⟨hc, hs⟩ (g2_sl_D _ _ _) ?_
  have C2 := C.sl_if k r.toInt64
  have hb2 := g2_sl_b G r.toInt64 k
  have hl2 := g2_sl_v G r.toInt64 k
  generalize (if k = 0 then x_sl G r.toInt64 else G) = G2 at C2 hb2 hl2 ⊢
  have hbA2 : ¬ x_A G2 b := by
    unfold x_A
    rw [hb2]
    exact hbA
  rw [← hb2]
  obtain ⟨b0, d2, lv, hlv, hm2, h12, hrb, hz⟩ := hm G2
  refine a_istore C2 dL_law_3052 (by decide) (lst2 := [(6, .int (nI k)), (5, .int (nI i)), (0, .ref b), (1, .ref (x_b G2 + 0)), (2, .ref (x_b G2 + 175)), (3, .ref (x_b G2 + 183)), (4, .ref (x_b G2 + 184))]) rfl ?_
  refine a_aload_n C2 dL_law_3054 4 rfl ?_
  refine a_callV C2 (k := 175) (As := []) (rest := []) hm2 (cwV 0 C2.1.2.2.2.2 (gl_up gL_law_X12_restore) rfl rfl rfl (by decide +kernel) ⟨by dsimp only [x_rm, room_1]; omega, by dsimp only [x_rm, room_1]; omega⟩) x_k175 (q := (RX12, TX12, 16)) rfl rfl rfl rfl (Nat.le_of_ble_eq_true rfl) dL_law_3055 ⟨hc, hs⟩ ?_
  refine a_istore C2 dL_law_3058 (by decide) (lst2 := [(7, .int b0), (6, .int (nI k)), (5, .int (nI i)), (0, .ref b), (1, .ref (x_b G2 + 0)), (2, .ref (x_b G2 + 175)), (3, .ref (x_b G2 + 183)), (4, .ref (x_b G2 + 184))]) rfl ?_
  refine a_aload_n C2 dL_law_3060 5 rfl ?_
  refine a_callV C2 (k := 175) (As := []) (rest := []) (c_M_thrown l G2 d2) (cwV 0 C2.1.2.2.2.2 (gl_up gL_law_X12_thrown) rfl rfl rfl (by decide +kernel) ⟨Nat.le_of_ble_eq_true rfl, Nat.le_of_ble_eq_true rfl⟩) x_k175 (q := (RX12, TX12, 16)) rfl rfl rfl rfl (Nat.le_of_ble_eq_true rfl) dL_law_3061 ⟨hc, hs⟩ ?_
  refine a_iload C2 dL_law_3064 1 rfl ?_
  refine a_icmp_eq C2 dL_law_3066 (tgt := 3071) (by decide) (fun _ => ?_) (fun hn => absurd h12 hn)
  refine a_iload C2 dL_law_3071 1 rfl ?_
  have FIN : Ab G2 p l e room_1 s m args below meth c 9 (cells + 1) (slots + 6) Q 3088 [(7, .int b0), (6, .int (nI k)), (5, .int (nI i)), (0, .ref b), (1, .ref (x_b G2 + 0)), (2, .ref (x_b G2 + 175)), (3, .ref (x_b G2 + 183)), (4, .ref (x_b G2 + 184))] [] d2 := a_goto C2 dL_law_3088 (tgt := 3091) (by decide) (a_sub (lst2 := [(5, .int (nI i)), (0, .ref b), (1, .ref (x_b G2 + 0)), (2, .ref (x_b G2 + 175)), (3, .ref (x_b G2 + 183)), (4, .ref (x_b G2 + 184))]) [2, 3, 4, 5, 6, 7] rfl (K G2 d2 hb2 C2 hz))
  refine a_if_ne C2 dL_law_3073 (tgt := 3088) (by decide) (fun _ => FIN) (fun hk0 => ?_)
  have hk : k = 0 := by
    rcases Nat.eq_zero_or_pos k with y | y
    · exact y
    · exact absurd hk0 (nI_ne0 (by omega) (by omega))
  refine a_aload_n C2 dL_law_3076 6 rfl ?_
  refine a_iconst C2 dL_law_3077 (v := 0) (by decide) ?_
  refine a_lald C2 dL_law_3078 ?_
  refine a_iload C2 dL_law_3079 0 rfl ?_
  refine a_i2l C2 dL_law_3081 ?_
  refine a_lcmp C2 dL_law_3082 ?_
  exact a_if_eq C2 dL_law_3083 (tgt := 3088) (by decide) (fun _ => FIN) (fun hn => absurd ((lg_cmp_eq _ _).mpr (by rw [hl2 hk, hrb hk])) hn)
end LCASES
