/-! the law's loop, case by case -/
theorem x_i2c (x : Int32) : ∃ a : Nat, a < 65536 ∧ (x.toUInt32 % 65536).toInt32 = nI a := by
  refine ⟨(x.toUInt32 % 65536).toNat, ?_, ?_⟩
  · rw [UInt32.toNat_mod]
    exact Nat.mod_lt _ (by decide)
  · show (x.toUInt32 % 65536).toInt32 = (UInt32.ofNat (x.toUInt32 % 65536).toNat).toInt32
    rw [UInt32.ofNat_toNat]
theorem g2_sl_b (G : xG) (v : Int64) (k : Nat) : x_b (if k = 0 then x_sl G v else G) = x_b G := by
  split <;> rfl
theorem g2_sl_D (G : xG) (v : Int64) (k : Nat) : x_D (if k = 0 then x_sl G v else G) = x_D G := by
  split <;> rfl
theorem g2_sl_v (G : xG) (v : Int64) (k : Nat) : k = 0 → x_l (if k = 0 then x_sl G v else G) 0 = v := fun h => by
  rw [if_pos h]
  exact x_sl_0 G v
theorem g2_su_b (G : xG) (v : UInt64) (k : Nat) : x_b (if k = 0 then x_su G v else G) = x_b G := by
  split <;> rfl
theorem g2_su_D (G : xG) (v : UInt64) (k : Nat) : x_D (if k = 0 then x_su G v else G) = x_D G := by
  split <;> rfl
theorem g2_su_v (G : xG) (v : UInt64) (k : Nat) : k = 0 → x_u (if k = 0 then x_su G v else G) 0 = v := fun h => by
  rw [if_pos h]
  exact x_su_0 G v
section LROWS
variable {G : xG} {p : Program} {l : Launch} {e : Env} {R : Room} {s : State} {m : MethodId} {args : Array Value} {below : List Frame} {meth : Method} {c : Code} {nL cells slots : Nat} {Q : State → Prop} {cc : ByteArray} {Ts : List Cond} {own : String} {pc : Nat} {lst lst2 : List (Nat × Value)} {rest : List Value} {d : xd}
theorem Cx.sl_if (C : Cx G p s m args c cc Ts own nL) (k : Nat) (v : Int64) : Cx (if k = 0 then x_sl G v else G) p s m args c cc Ts own nL := by
  split
  · exact C.sl v
  · exact C
theorem Cx.su_if (C : Cx G p s m args c cc Ts own nL) (k : Nat) (v : UInt64) : Cx (if k = 0 then x_su G v else G) p s m args c cc Ts own nL := by
  split
  · exact C.su v
  · exact C
theorem a_lcmp (C : Cx G p s m args c cc Ts own nL) {x y : Int64} (hdg : decode cc pc = .ok (.lcmp, 1)) (k : Ab G p l e R s m args below meth c nL cells slots Q (pc + 1) lst (.int (lg_cmp x y) :: rest) d) : Ab G p l e R s m args below meth c nL cells slots Q pc lst (.long y :: .long x :: rest) d := fun H locs ls hP hS hl => W.lcmp C.1.1 C.1.2.1 hdg (k H locs ls hP hS hl)
theorem a_dcmp (C : Cx G p s m args c cc Ts own nL) {x y : UInt64} {op : CmpOp} (hdg : decode cc pc = .ok (.dcmp op, 1)) (k : Ab G p l e R s m args below meth c nL cells slots Q (pc + 1) lst (.int (Op.cmpValue (FP.dcmp x y) op) :: rest) d) : Ab G p l e R s m args below meth c nL cells slots Q pc lst (.double y :: .double x :: rest) d := fun H locs ls hP hS hl => lv_dcmp C.1.1 C.1.2.1 hdg (k H locs ls hP hS hl)
theorem a_dload (C : Cx G p s m args c cc Ts own nL) {i : Nat} {x : UInt64} (hdg : decode cc pc = .ok (.dload i, 2)) (q : Nat) (hk : lst[q]? = some (i, .double x)) (k : Ab G p l e R s m args below meth c nL cells slots Q (pc + 2) lst (.double x :: rest) d) : Ab G p l e R s m args below meth c nL cells slots Q pc lst rest d := fun H locs ls hP hS hl => lv_dload C.1.1 C.1.2.1 hdg (lv_at hl q hk) (k H locs ls hP hS hl)
theorem a_dstore (C : Cx G p s m args c cc Ts own nL) {i : Nat} {x : UInt64} (hdg : decode cc pc = .ok (.dstore i, 2)) (hn : i + 1 < nL) (hl2 : (i, Value.double x) :: lst.filter (fun q => !(q.1 == i) && (!(q.1 == i + 1) && !(q.1 + 1 == i && q.2.category == 2))) = lst2) (k : Ab G p l e R s m args below meth c nL cells slots Q (pc + 2) lst2 rest d) : Ab G p l e R s m args below meth c nL cells slots Q pc lst (.double x :: rest) d := fun H locs ls hP hS hl => lv_dstore C.1.1 C.1.2.1 hdg hl hn hl2 (fun ls2 h2 => k H locs ls2 hP hS h2)
theorem a_sld (C : Cx G p s m args c cc Ts own nL) {b L i : Nat} {xs : Nat → Int32} {x : Int32} (hX : va_X b L xs s s.heap) (hbl : b < s.heap.size) (hbA : ¬ x_A G b) (hx : x = nI i) (hi : i < L) (hL : L < 2147483648) (hdg : decode cc pc = .ok (.iaload, 1)) (k : Ab G p l e R s m args below meth c nL cells slots Q (pc + 1) lst (.int (xs i) :: rest) d) : Ab G p l e R s m args below meth c nL cells slots Q pc lst (.int x :: .ref b :: rest) d := by
  intro H locs ls hP hS hl
  subst hx
  refine va_sld C.1.1 C.1.2.1 hX hbl hbA hS (x_vp hi hL) hdg ?_
  rw [x_cl hi hL]
  exact k H locs ls hP hS hl
theorem a_slen (C : Cx G p s m args c cc Ts own nL) {b L : Nat} {xs : Nat → Int32} (hX : va_X b L xs s s.heap) (hbl : b < s.heap.size) (hbA : ¬ x_A G b) (hdg : decode cc pc = .ok (.arraylength, 1)) (k : Ab G p l e R s m args below meth c nL cells slots Q (pc + 1) lst (.int (nI L) :: rest) d) : Ab G p l e R s m args below meth c nL cells slots Q pc lst (.ref b :: rest) d := fun H locs ls hP hS hl => va_slen C.1.1 C.1.2.1 hX hbl hbA hS hdg (k H locs ls hP hS hl)
end LROWS
section LCASES
variable {G : xG} {p : Program} {l : Launch} {e : Env} {s : State} {m : MethodId} {args : Array Value} {below : List Frame} {meth : Method} {c : Code} {cells slots B b L i : Nat} {Q : State → Prop} {d : xd} {xs : Nat → Int32}
set_option maxHeartbeats 1000000 in
set_option maxRecDepth 100000 in
theorem law_0 (C : Cx G p s m args c code (wsL_law ++ ws_cl) RL 9) (hfl : l.stackTraces = false) (h : y_Z B d) (hB : B + 180 < 100000) (hX : va_X b L xs s s.heap) (hbl : b < s.heap.size) (hbA : ¬ x_A G b) (hL : L < 2000) (hi : i + 3 ≤ L) (hc : cells + 1 ≤ 603072) (hs : slots + 6 ≤ 7170154) (K : ∀ (G2 : xG) (d2 : xd), x_b G2 = x_b G → Cx G2 p s m args c code (wsL_law ++ ws_cl) RL 9 → y_Z (B + 180) d2 → Ab G2 p l e room_1 s m args below meth c 9 (cells + 1) (slots + 6) Q 3091 [(5, .int (nI i)), (0, .ref b), (1, .ref (x_b G2 + 0)), (2, .ref (x_b G2 + 175)), (3, .ref (x_b G2 + 183)), (4, .ref (x_b G2 + 184))] [] d2) : Ab G p l e room_1 s m args below meth c 9 cells slots Q 288 [(5, .int (nI i)), (0, .ref b), (1, .ref (x_b G + 0)), (2, .ref (x_b G + 175)), (3, .ref (x_b G + 183)), (4, .ref (x_b G + 184))] [] d := by
  obtain ⟨k, r, d1, hk3, hcl, hm⟩ := y_S.two (s_addLamp (l := l) hfl h hB (xs (i + 1)) (xs (i + 2)))
  refine a_aload_n C dL_law_288 2 rfl ?_
  refine a_aload_n C dL_law_289 1 rfl ?_
  refine a_iload C dL_law_290 0 rfl ?_
  refine a_iconst C dL_law_292 (v := 1) (by decide) ?_
  refine a_iadd C dL_law_293 ?_
  refine a_sld C hX hbl hbA (i := i + 1) (nI_add i 1) (by omega) (by omega) dL_law_294 ?_
  refine a_aload_n C dL_law_295 1 rfl ?_
  refine a_iload C dL_law_296 0 rfl ?_
  refine a_iconst C dL_law_298 (v := 2) (by decide) ?_
  refine a_iadd C dL_law_299 ?_
  refine a_sld C hX hbl hbA (i := i + 2) (nI_add i 2) (by omega) (by omega) dL_law_300 ?_
  refine a_aload_n C dL_law_301 4 rfl ?_
  refine a_callL (G2 := (if k = 0 then x_sl G r.toInt64 else G)) (g2_sl_b _ _ _) C (As := [.ref (x_b G + 0), .int (xs (i + 1)), .int (xs (i + 2)), .ref (x_b G + 183)]) (rest := []) (w_addLamp l G d d1 _ _ k r hcl) (vx_cwSW 4 C.1.2.2.2.2 (gl_law gL_law_L_addLamp) rfl rfl rfl (by decide +kernel) ⟨Nat.le_of_ble_eq_true rfl, Nat.le_of_ble_eq_true rfl⟩) rfl rfl (Nat.le_of_ble_eq_true rfl) dL_law_302 ⟨hc, hs⟩ (g2_sl_D _ _ _) ?_
  have C2 := C.sl_if k r.toInt64
  have hb2 := g2_sl_b G r.toInt64 k
  have hl2 := g2_sl_v G r.toInt64 k
  generalize (if k = 0 then x_sl G r.toInt64 else G) = G2 at C2 hb2 hl2 ⊢
  have hbA2 : ¬ x_A G2 b := by
    unfold x_A
    rw [hb2]
    exact hbA
  rw [← hb2]
  obtain ⟨b0, d2, lv, hlv, hm2, h12, hrb, hz⟩ := hm G2
  refine a_istore C2 dL_law_305 (by decide) (lst2 := [(6, .int (nI k)), (5, .int (nI i)), (0, .ref b), (1, .ref (x_b G2 + 0)), (2, .ref (x_b G2 + 175)), (3, .ref (x_b G2 + 183)), (4, .ref (x_b G2 + 184))]) rfl ?_
  refine a_aload_n C2 dL_law_307 4 rfl ?_
  refine a_aload_n C2 dL_law_308 2 rfl ?_
  refine a_iload C2 dL_law_309 1 rfl ?_
  refine a_iconst C2 dL_law_311 (v := 1) (by decide) ?_
  refine a_iadd C2 dL_law_312 ?_
  refine a_sld C2 hX hbl hbA2 (i := i + 1) (nI_add i 1) (by omega) (by omega) dL_law_313 ?_
  refine a_aload_n C2 dL_law_314 2 rfl ?_
  refine a_iload C2 dL_law_315 1 rfl ?_
  refine a_iconst C2 dL_law_317 (v := 2) (by decide) ?_
  refine a_iadd C2 dL_law_318 ?_
  refine a_sld C2 hX hbl hbA2 (i := i + 2) (nI_add i 2) (by omega) (by omega) dL_law_319 ?_
  refine a_callV C2 (k := 175) (As := [.int (xs (i + 1)), .int (xs (i + 2))]) (rest := []) hm2 (cwV 2 C2.1.2.2.2.2 (gl_up gL_law_X12_addLamp) rfl rfl rfl (by decide +kernel) ⟨by dsimp only [x_rm, room_1]; omega, by dsimp only [x_rm, room_1]; omega⟩) x_k175 (q := (RX12, TX12, 16)) rfl rfl rfl rfl (Nat.le_of_ble_eq_true rfl) dL_law_320 ⟨hc, hs⟩ ?_
  refine a_istore C2 dL_law_323 (by decide) (lst2 := [(7, .int b0), (6, .int (nI k)), (5, .int (nI i)), (0, .ref b), (1, .ref (x_b G2 + 0)), (2, .ref (x_b G2 + 175)), (3, .ref (x_b G2 + 183)), (4, .ref (x_b G2 + 184))]) rfl ?_
  refine a_aload_n C2 dL_law_325 5 rfl ?_
  refine a_callV C2 (k := 175) (As := []) (rest := []) (c_M_thrown l G2 d2) (cwV 0 C2.1.2.2.2.2 (gl_up gL_law_X12_thrown) rfl rfl rfl (by decide +kernel) ⟨Nat.le_of_ble_eq_true rfl, Nat.le_of_ble_eq_true rfl⟩) x_k175 (q := (RX12, TX12, 16)) rfl rfl rfl rfl (Nat.le_of_ble_eq_true rfl) dL_law_326 ⟨hc, hs⟩ ?_
  refine a_iload C2 dL_law_329 1 rfl ?_
  refine a_icmp_eq C2 dL_law_331 (tgt := 336) (by decide) (fun _ => ?_) (fun hn => absurd h12 hn)
  refine a_iload C2 dL_law_336 1 rfl ?_
  have FIN : Ab G2 p l e room_1 s m args below meth c 9 (cells + 1) (slots + 6) Q 353 [(7, .int b0), (6, .int (nI k)), (5, .int (nI i)), (0, .ref b), (1, .ref (x_b G2 + 0)), (2, .ref (x_b G2 + 175)), (3, .ref (x_b G2 + 183)), (4, .ref (x_b G2 + 184))] [] d2 := a_goto C2 dL_law_353 (tgt := 3091) (by decide) (a_sub (lst2 := [(5, .int (nI i)), (0, .ref b), (1, .ref (x_b G2 + 0)), (2, .ref (x_b G2 + 175)), (3, .ref (x_b G2 + 183)), (4, .ref (x_b G2 + 184))]) [2, 3, 4, 5, 6, 7] rfl (K G2 d2 hb2 C2 hz))
  refine a_if_ne C2 dL_law_338 (tgt := 353) (by decide) (fun _ => FIN) (fun hk0 => ?_)
  have hk : k = 0 := by
    rcases Nat.eq_zero_or_pos k with y | y
    · exact y
    · exact absurd hk0 (nI_ne0 (by omega) (by omega))
  refine a_aload_n C2 dL_law_341 6 rfl ?_
  refine a_iconst C2 dL_law_342 (v := 0) (by decide) ?_
  refine a_lald C2 dL_law_343 ?_
  refine a_iload C2 dL_law_344 0 rfl ?_
  refine a_i2l C2 dL_law_346 ?_
  refine a_lcmp C2 dL_law_347 ?_
  exact a_if_eq C2 dL_law_348 (tgt := 353) (by decide) (fun _ => FIN) (fun hn => absurd ((lg_cmp_eq _ _).mpr (by rw [hl2 hk, hrb hk])) hn)
set_option maxHeartbeats 1000000 in
set_option maxRecDepth 100000 in
theorem law_1 (C : Cx G p s m args c code (wsL_law ++ ws_cl) RL 9) (hfl : l.stackTraces = false) (h : y_Z B d) (hB : B + 180 < 100000) (hX : va_X b L xs s s.heap) (hbl : b < s.heap.size) (hbA : ¬ x_A G b) (hL : L < 2000) (hi : i + 3 ≤ L) (hc : cells + 1 ≤ 603072) (hs : slots + 6 ≤ 7170154) (K : ∀ (G2 : xG) (d2 : xd), x_b G2 = x_b G → Cx G2 p s m args c code (wsL_law ++ ws_cl) RL 9 → y_Z (B + 180) d2 → Ab G2 p l e room_1 s m args below meth c 9 (cells + 1) (slots + 6) Q 3091 [(5, .int (nI i)), (0, .ref b), (1, .ref (x_b G2 + 0)), (2, .ref (x_b G2 + 175)), (3, .ref (x_b G2 + 183)), (4, .ref (x_b G2 + 184))] [] d2) : Ab G p l e room_1 s m args below meth c 9 cells slots Q 356 [(5, .int (nI i)), (0, .ref b), (1, .ref (x_b G + 0)), (2, .ref (x_b G + 175)), (3, .ref (x_b G + 183)), (4, .ref (x_b G + 184))] [] d := by
  obtain ⟨k, r, d1, hk3, hcl, hm⟩ := y_S.two (s_removeLamp (l := l) hfl h hB (xs (i + 1)))
  refine a_aload_n C dL_law_356 2 rfl ?_
  refine a_aload_n C dL_law_357 1 rfl ?_
  refine a_iload C dL_law_358 0 rfl ?_
  refine a_iconst C dL_law_360 (v := 1) (by decide) ?_
  refine a_iadd C dL_law_361 ?_
  refine a_sld C hX hbl hbA (i := i + 1) (nI_add i 1) (by omega) (by omega) dL_law_362 ?_
  refine a_aload_n C dL_law_363 4 rfl ?_
  refine a_callL (G2 := (if k = 0 then x_sl G r.toInt64 else G)) (g2_sl_b _ _ _) C (As := [.ref (x_b G + 0), .int (xs (i + 1)), .ref (x_b G + 183)]) (rest := []) (w_removeLamp l G d d1 _ k r hcl) (vx_cwSW 3 C.1.2.2.2.2 (gl_law gL_law_L_removeLamp) rfl rfl rfl (by decide +kernel) ⟨Nat.le_of_ble_eq_true rfl, Nat.le_of_ble_eq_true rfl⟩) rfl rfl (Nat.le_of_ble_eq_true rfl) dL_law_364 ⟨hc, hs⟩ (g2_sl_D _ _ _) ?_
  have C2 := C.sl_if k r.toInt64
  have hb2 := g2_sl_b G r.toInt64 k
  have hl2 := g2_sl_v G r.toInt64 k
  generalize (if k = 0 then x_sl G r.toInt64 else G) = G2 at C2 hb2 hl2 ⊢
  have hbA2 : ¬ x_A G2 b := by
    unfold x_A
    rw [hb2]
    exact hbA
  rw [← hb2]
  obtain ⟨b0, d2, lv, hlv, hm2, h12, hrb, hz⟩ := hm G2
  refine a_istore C2 dL_law_367 (by decide) (lst2 := [(6, .int (nI k)), (5, .int (nI i)), (0, .ref b), (1, .ref (x_b G2 + 0)), (2, .ref (x_b G2 + 175)), (3, .ref (x_b G2 + 183)), (4, .ref (x_b G2 + 184))]) rfl ?_
  refine a_aload_n C2 dL_law_369 4 rfl ?_
  refine a_aload_n C2 dL_law_370 2 rfl ?_
  refine a_iload C2 dL_law_371 1 rfl ?_
  refine a_iconst C2 dL_law_373 (v := 1) (by decide) ?_
  refine a_iadd C2 dL_law_374 ?_
  refine a_sld C2 hX hbl hbA2 (i := i + 1) (nI_add i 1) (by omega) (by omega) dL_law_375 ?_
  refine a_callV C2 (k := 175) (As := [.int (xs (i + 1))]) (rest := []) hm2 (cwV 1 C2.1.2.2.2.2 (gl_up gL_law_X12_removeLamp) rfl rfl rfl (by decide +kernel) ⟨by dsimp only [x_rm, room_1]; omega, by dsimp only [x_rm, room_1]; omega⟩) x_k175 (q := (RX12, TX12, 16)) rfl rfl rfl rfl (Nat.le_of_ble_eq_true rfl) dL_law_376 ⟨hc, hs⟩ ?_
  refine a_istore C2 dL_law_379 (by decide) (lst2 := [(7, .int b0), (6, .int (nI k)), (5, .int (nI i)), (0, .ref b), (1, .ref (x_b G2 + 0)), (2, .ref (x_b G2 + 175)), (3, .ref (x_b G2 + 183)), (4, .ref (x_b G2 + 184))]) rfl ?_
  refine a_aload_n C2 dL_law_381 5 rfl ?_
  refine a_callV C2 (k := 175) (As := []) (rest := []) (c_M_thrown l G2 d2) (cwV 0 C2.1.2.2.2.2 (gl_up gL_law_X12_thrown) rfl rfl rfl (by decide +kernel) ⟨Nat.le_of_ble_eq_true rfl, Nat.le_of_ble_eq_true rfl⟩) x_k175 (q := (RX12, TX12, 16)) rfl rfl rfl rfl (Nat.le_of_ble_eq_true rfl) dL_law_382 ⟨hc, hs⟩ ?_
  refine a_iload C2 dL_law_385 1 rfl ?_
  refine a_icmp_eq C2 dL_law_387 (tgt := 392) (by decide) (fun _ => ?_) (fun hn => absurd h12 hn)
  refine a_iload C2 dL_law_392 1 rfl ?_
  have FIN : Ab G2 p l e room_1 s m args below meth c 9 (cells + 1) (slots + 6) Q 409 [(7, .int b0), (6, .int (nI k)), (5, .int (nI i)), (0, .ref b), (1, .ref (x_b G2 + 0)), (2, .ref (x_b G2 + 175)), (3, .ref (x_b G2 + 183)), (4, .ref (x_b G2 + 184))] [] d2 := a_goto C2 dL_law_409 (tgt := 3091) (by decide) (a_sub (lst2 := [(5, .int (nI i)), (0, .ref b), (1, .ref (x_b G2 + 0)), (2, .ref (x_b G2 + 175)), (3, .ref (x_b G2 + 183)), (4, .ref (x_b G2 + 184))]) [2, 3, 4, 5, 6, 7] rfl (K G2 d2 hb2 C2 hz))
  refine a_if_ne C2 dL_law_394 (tgt := 409) (by decide) (fun _ => FIN) (fun hk0 => ?_)
  have hk : k = 0 := by
    rcases Nat.eq_zero_or_pos k with y | y
    · exact y
    · exact absurd hk0 (nI_ne0 (by omega) (by omega))
  refine a_aload_n C2 dL_law_397 6 rfl ?_
  refine a_iconst C2 dL_law_398 (v := 0) (by decide) ?_
  refine a_lald C2 dL_law_399 ?_
  refine a_iload C2 dL_law_400 0 rfl ?_
  refine a_i2l C2 dL_law_402 ?_
  refine a_lcmp C2 dL_law_403 ?_
  exact a_if_eq C2 dL_law_404 (tgt := 409) (by decide) (fun _ => FIN) (fun hn => absurd ((lg_cmp_eq _ _).mpr (by rw [hl2 hk, hrb hk])) hn)
set_option maxHeartbeats 1000000 in
set_option maxRecDepth 100000 in
theorem law_2 (C : Cx G p s m args c code (wsL_law ++ ws_cl) RL 9) (hfl : l.stackTraces = false) (h : y_Z B d) (hB : B + 180 < 100000) (hX : va_X b L xs s s.heap) (hbl : b < s.heap.size) (hbA : ¬ x_A G b) (hL : L < 2000) (hi : i + 3 ≤ L) (hc : cells + 1 ≤ 603072) (hs : slots + 6 ≤ 7170154) (K : ∀ (G2 : xG) (d2 : xd), x_b G2 = x_b G → Cx G2 p s m args c code (wsL_law ++ ws_cl) RL 9 → y_Z (B + 180) d2 → Ab G2 p l e room_1 s m args below meth c 9 (cells + 1) (slots + 6) Q 3091 [(5, .int (nI i)), (0, .ref b), (1, .ref (x_b G2 + 0)), (2, .ref (x_b G2 + 175)), (3, .ref (x_b G2 + 183)), (4, .ref (x_b G2 + 184))] [] d2) : Ab G p l e room_1 s m args below meth c 9 cells slots Q 412 [(5, .int (nI i)), (0, .ref b), (1, .ref (x_b G + 0)), (2, .ref (x_b G + 175)), (3, .ref (x_b G + 183)), (4, .ref (x_b G + 184))] [] d := by
  obtain ⟨k, r, d1, hk3, hcl, hm⟩ := y_S.two (s_setShares (l := l) hfl h hB (xs (i + 1)) (xs (i + 2)))
  refine a_aload_n C dL_law_412 2 rfl ?_
  refine a_aload_n C dL_law_413 1 rfl ?_
  refine a_iload C dL_law_414 0 rfl ?_
  refine a_iconst C dL_law_416 (v := 1) (by decide) ?_
  refine a_iadd C dL_law_417 ?_
  refine a_sld C hX hbl hbA (i := i + 1) (nI_add i 1) (by omega) (by omega) dL_law_418 ?_
  refine a_aload_n C dL_law_419 1 rfl ?_
  refine a_iload C dL_law_420 0 rfl ?_
  refine a_iconst C dL_law_422 (v := 2) (by decide) ?_
  refine a_iadd C dL_law_423 ?_
  refine a_sld C hX hbl hbA (i := i + 2) (nI_add i 2) (by omega) (by omega) dL_law_424 ?_
  refine a_aload_n C dL_law_425 4 rfl ?_
  refine a_callL (G2 := (if k = 0 then x_sl G r.toInt64 else G)) (g2_sl_b _ _ _) C (As := [.ref (x_b G + 0), .int (xs (i + 1)), .int (xs (i + 2)), .ref (x_b G + 183)]) (rest := []) (w_setShares l G d d1 _ _ k r hcl) (vx_cwSW 4 C.1.2.2.2.2 (gl_law gL_law_L_setShares) rfl rfl rfl (by decide +kernel) ⟨Nat.le_of_ble_eq_true rfl, Nat.le_of_ble_eq_true rfl⟩) rfl rfl (Nat.le_of_ble_eq_true rfl) dL_law_426 ⟨hc, hs⟩ (g2_sl_D _ _ _) ?_
  have C2 := C.sl_if k r.toInt64
  have hb2 := g2_sl_b G r.toInt64 k
  have hl2 := g2_sl_v G r.toInt64 k
  generalize (if k = 0 then x_sl G r.toInt64 else G) = G2 at C2 hb2 hl2 ⊢
  have hbA2 : ¬ x_A G2 b := by
    unfold x_A
    rw [hb2]
    exact hbA
  rw [← hb2]
  obtain ⟨b0, d2, lv, hlv, hm2, h12, hrb, hz⟩ := hm G2
  refine a_istore C2 dL_law_429 (by decide) (lst2 := [(6, .int (nI k)), (5, .int (nI i)), (0, .ref b), (1, .ref (x_b G2 + 0)), (2, .ref (x_b G2 + 175)), (3, .ref (x_b G2 + 183)), (4, .ref (x_b G2 + 184))]) rfl ?_
  refine a_aload_n C2 dL_law_431 4 rfl ?_
  refine a_aload_n C2 dL_law_432 2 rfl ?_
  refine a_iload C2 dL_law_433 1 rfl ?_
  refine a_iconst C2 dL_law_435 (v := 1) (by decide) ?_
  refine a_iadd C2 dL_law_436 ?_
  refine a_sld C2 hX hbl hbA2 (i := i + 1) (nI_add i 1) (by omega) (by omega) dL_law_437 ?_
  refine a_aload_n C2 dL_law_438 2 rfl ?_
  refine a_iload C2 dL_law_439 1 rfl ?_
  refine a_iconst C2 dL_law_441 (v := 2) (by decide) ?_
  refine a_iadd C2 dL_law_442 ?_
  refine a_sld C2 hX hbl hbA2 (i := i + 2) (nI_add i 2) (by omega) (by omega) dL_law_443 ?_
  refine a_callV C2 (k := 175) (As := [.int (xs (i + 1)), .int (xs (i + 2))]) (rest := []) hm2 (cwV 2 C2.1.2.2.2.2 (gl_up gL_law_X12_setShares) rfl rfl rfl (by decide +kernel) ⟨by dsimp only [x_rm, room_1]; omega, by dsimp only [x_rm, room_1]; omega⟩) x_k175 (q := (RX12, TX12, 16)) rfl rfl rfl rfl (Nat.le_of_ble_eq_true rfl) dL_law_444 ⟨hc, hs⟩ ?_
  refine a_istore C2 dL_law_447 (by decide) (lst2 := [(7, .int b0), (6, .int (nI k)), (5, .int (nI i)), (0, .ref b), (1, .ref (x_b G2 + 0)), (2, .ref (x_b G2 + 175)), (3, .ref (x_b G2 + 183)), (4, .ref (x_b G2 + 184))]) rfl ?_
  refine a_aload_n C2 dL_law_449 5 rfl ?_
  refine a_callV C2 (k := 175) (As := []) (rest := []) (c_M_thrown l G2 d2) (cwV 0 C2.1.2.2.2.2 (gl_up gL_law_X12_thrown) rfl rfl rfl (by decide +kernel) ⟨Nat.le_of_ble_eq_true rfl, Nat.le_of_ble_eq_true rfl⟩) x_k175 (q := (RX12, TX12, 16)) rfl rfl rfl rfl (Nat.le_of_ble_eq_true rfl) dL_law_450 ⟨hc, hs⟩ ?_
  refine a_iload C2 dL_law_453 1 rfl ?_
  refine a_icmp_eq C2 dL_law_455 (tgt := 460) (by decide) (fun _ => ?_) (fun hn => absurd h12 hn)
  refine a_iload C2 dL_law_460 1 rfl ?_
  have FIN : Ab G2 p l e room_1 s m args below meth c 9 (cells + 1) (slots + 6) Q 477 [(7, .int b0), (6, .int (nI k)), (5, .int (nI i)), (0, .ref b), (1, .ref (x_b G2 + 0)), (2, .ref (x_b G2 + 175)), (3, .ref (x_b G2 + 183)), (4, .ref (x_b G2 + 184))] [] d2 := a_goto C2 dL_law_477 (tgt := 3091) (by decide) (a_sub (lst2 := [(5, .int (nI i)), (0, .ref b), (1, .ref (x_b G2 + 0)), (2, .ref (x_b G2 + 175)), (3, .ref (x_b G2 + 183)), (4, .ref (x_b G2 + 184))]) [2, 3, 4, 5, 6, 7] rfl (K G2 d2 hb2 C2 hz))
  refine a_if_ne C2 dL_law_462 (tgt := 477) (by decide) (fun _ => FIN) (fun hk0 => ?_)
  have hk : k = 0 := by
    rcases Nat.eq_zero_or_pos k with y | y
    · exact y
    · exact absurd hk0 (nI_ne0 (by omega) (by omega))
  refine a_aload_n C2 dL_law_465 6 rfl ?_
  refine a_iconst C2 dL_law_466 (v := 0) (by decide) ?_
  refine a_lald C2 dL_law_467 ?_
  refine a_iload C2 dL_law_468 0 rfl ?_
  refine a_i2l C2 dL_law_470 ?_
  refine a_lcmp C2 dL_law_471 ?_
  exact a_if_eq C2 dL_law_472 (tgt := 477) (by decide) (fun _ => FIN) (fun hn => absurd ((lg_cmp_eq _ _).mpr (by rw [hl2 hk, hrb hk])) hn)
set_option maxHeartbeats 1000000 in
set_option maxRecDepth 100000 in
theorem law_3 (C : Cx G p s m args c code (wsL_law ++ ws_cl) RL 9) (hfl : l.stackTraces = false) (h : y_Z B d) (hB : B + 180 < 100000) (hX : va_X b L xs s s.heap) (hbl : b < s.heap.size) (hbA : ¬ x_A G b) (hL : L < 2000) (hi : i + 3 ≤ L) (hc : cells + 1 ≤ 603072) (hs : slots + 6 ≤ 7170154) (K : ∀ (G2 : xG) (d2 : xd), x_b G2 = x_b G → Cx G2 p s m args c code (wsL_law ++ ws_cl) RL 9 → y_Z (B + 180) d2 → Ab G2 p l e room_1 s m args below meth c 9 (cells + 1) (slots + 6) Q 3091 [(5, .int (nI i)), (0, .ref b), (1, .ref (x_b G2 + 0)), (2, .ref (x_b G2 + 175)), (3, .ref (x_b G2 + 183)), (4, .ref (x_b G2 + 184))] [] d2) : Ab G p l e room_1 s m args below meth c 9 cells slots Q 480 [(5, .int (nI i)), (0, .ref b), (1, .ref (x_b G + 0)), (2, .ref (x_b G + 175)), (3, .ref (x_b G + 183)), (4, .ref (x_b G + 184))] [] d := by
  obtain ⟨k, r, d1, hk3, hcl, hm⟩ := y_S.two (s_setBrightness (l := l) hfl h hB (xs (i + 1)) (xs (i + 2)))
  refine a_aload_n C dL_law_480 2 rfl ?_
  refine a_aload_n C dL_law_481 1 rfl ?_
  refine a_iload C dL_law_482 0 rfl ?_
  refine a_iconst C dL_law_484 (v := 1) (by decide) ?_
  refine a_iadd C dL_law_485 ?_
  refine a_sld C hX hbl hbA (i := i + 1) (nI_add i 1) (by omega) (by omega) dL_law_486 ?_
  refine a_aload_n C dL_law_487 1 rfl ?_
  refine a_iload C dL_law_488 0 rfl ?_
  refine a_iconst C dL_law_490 (v := 2) (by decide) ?_
  refine a_iadd C dL_law_491 ?_
  refine a_sld C hX hbl hbA (i := i + 2) (nI_add i 2) (by omega) (by omega) dL_law_492 ?_
  refine a_aload_n C dL_law_493 4 rfl ?_
  refine a_callL (G2 := (if k = 0 then x_sl G r.toInt64 else G)) (g2_sl_b _ _ _) C (As := [.ref (x_b G + 0), .int (xs (i + 1)), .int (xs (i + 2)), .ref (x_b G + 183)]) (rest := []) (w_setBrightness l G d d1 _ _ k r hcl) (vx_cwSW 4 C.1.2.2.2.2 (gl_law gL_law_L_setBrightness) rfl rfl rfl (by decide +kernel) ⟨Nat.le_of_ble_eq_true rfl, Nat.le_of_ble_eq_true rfl⟩) rfl rfl (Nat.le_of_ble_eq_true rfl) dL_law_494 ⟨hc, hs⟩ (g2_sl_D _ _ _) ?_
  have C2 := C.sl_if k r.toInt64
  have hb2 := g2_sl_b G r.toInt64 k
  have hl2 := g2_sl_v G r.toInt64 k
  generalize (if k = 0 then x_sl G r.toInt64 else G) = G2 at C2 hb2 hl2 ⊢
  have hbA2 : ¬ x_A G2 b := by
    unfold x_A
    rw [hb2]
    exact hbA
  rw [← hb2]
  obtain ⟨b0, d2, lv, hlv, hm2, h12, hrb, hz⟩ := hm G2
  refine a_istore C2 dL_law_497 (by decide) (lst2 := [(6, .int (nI k)), (5, .int (nI i)), (0, .ref b), (1, .ref (x_b G2 + 0)), (2, .ref (x_b G2 + 175)), (3, .ref (x_b G2 + 183)), (4, .ref (x_b G2 + 184))]) rfl ?_
  refine a_aload_n C2 dL_law_499 4 rfl ?_
  refine a_aload_n C2 dL_law_500 2 rfl ?_
  refine a_iload C2 dL_law_501 1 rfl ?_
  refine a_iconst C2 dL_law_503 (v := 1) (by decide) ?_
  refine a_iadd C2 dL_law_504 ?_
  refine a_sld C2 hX hbl hbA2 (i := i + 1) (nI_add i 1) (by omega) (by omega) dL_law_505 ?_
  refine a_aload_n C2 dL_law_506 2 rfl ?_
  refine a_iload C2 dL_law_507 1 rfl ?_
  refine a_iconst C2 dL_law_509 (v := 2) (by decide) ?_
  refine a_iadd C2 dL_law_510 ?_
  refine a_sld C2 hX hbl hbA2 (i := i + 2) (nI_add i 2) (by omega) (by omega) dL_law_511 ?_
  refine a_callV C2 (k := 175) (As := [.int (xs (i + 1)), .int (xs (i + 2))]) (rest := []) hm2 (cwV 2 C2.1.2.2.2.2 (gl_up gL_law_X12_setBrightness) rfl rfl rfl (by decide +kernel) ⟨by dsimp only [x_rm, room_1]; omega, by dsimp only [x_rm, room_1]; omega⟩) x_k175 (q := (RX12, TX12, 16)) rfl rfl rfl rfl (Nat.le_of_ble_eq_true rfl) dL_law_512 ⟨hc, hs⟩ ?_
  refine a_istore C2 dL_law_515 (by decide) (lst2 := [(7, .int b0), (6, .int (nI k)), (5, .int (nI i)), (0, .ref b), (1, .ref (x_b G2 + 0)), (2, .ref (x_b G2 + 175)), (3, .ref (x_b G2 + 183)), (4, .ref (x_b G2 + 184))]) rfl ?_
  refine a_aload_n C2 dL_law_517 5 rfl ?_
  refine a_callV C2 (k := 175) (As := []) (rest := []) (c_M_thrown l G2 d2) (cwV 0 C2.1.2.2.2.2 (gl_up gL_law_X12_thrown) rfl rfl rfl (by decide +kernel) ⟨Nat.le_of_ble_eq_true rfl, Nat.le_of_ble_eq_true rfl⟩) x_k175 (q := (RX12, TX12, 16)) rfl rfl rfl rfl (Nat.le_of_ble_eq_true rfl) dL_law_518 ⟨hc, hs⟩ ?_
  refine a_iload C2 dL_law_521 1 rfl ?_
  refine a_icmp_eq C2 dL_law_523 (tgt := 528) (by decide) (fun _ => ?_) (fun hn => absurd h12 hn)
  refine a_iload C2 dL_law_528 1 rfl ?_
  have FIN : Ab G2 p l e room_1 s m args below meth c 9 (cells + 1) (slots + 6) Q 545 [(7, .int b0), (6, .int (nI k)), (5, .int (nI i)), (0, .ref b), (1, .ref (x_b G2 + 0)), (2, .ref (x_b G2 + 175)), (3, .ref (x_b G2 + 183)), (4, .ref (x_b G2 + 184))] [] d2 := a_goto C2 dL_law_545 (tgt := 3091) (by decide) (a_sub (lst2 := [(5, .int (nI i)), (0, .ref b), (1, .ref (x_b G2 + 0)), (2, .ref (x_b G2 + 175)), (3, .ref (x_b G2 + 183)), (4, .ref (x_b G2 + 184))]) [2, 3, 4, 5, 6, 7] rfl (K G2 d2 hb2 C2 hz))
  refine a_if_ne C2 dL_law_530 (tgt := 545) (by decide) (fun _ => FIN) (fun hk0 => ?_)
  have hk : k = 0 := by
    rcases Nat.eq_zero_or_pos k with y | y
    · exact y
    · exact absurd hk0 (nI_ne0 (by omega) (by omega))
  refine a_aload_n C2 dL_law_533 6 rfl ?_
  refine a_iconst C2 dL_law_534 (v := 0) (by decide) ?_
  refine a_lald C2 dL_law_535 ?_
  refine a_iload C2 dL_law_536 0 rfl ?_
  refine a_i2l C2 dL_law_538 ?_
  refine a_lcmp C2 dL_law_539 ?_
  exact a_if_eq C2 dL_law_540 (tgt := 545) (by decide) (fun _ => FIN) (fun hn => absurd ((lg_cmp_eq _ _).mpr (by rw [hl2 hk, hrb hk])) hn)
set_option maxHeartbeats 1000000 in
set_option maxRecDepth 100000 in
theorem law_4 (C : Cx G p s m args c code (wsL_law ++ ws_cl) RL 9) (hfl : l.stackTraces = false) (h : y_Z B d) (hB : B + 180 < 100000) (hX : va_X b L xs s s.heap) (hbl : b < s.heap.size) (hbA : ¬ x_A G b) (hL : L < 2000) (hi : i + 3 ≤ L) (hc : cells + 1 ≤ 603072) (hs : slots + 6 ≤ 7170154) (K : ∀ (G2 : xG) (d2 : xd), x_b G2 = x_b G → Cx G2 p s m args c code (wsL_law ++ ws_cl) RL 9 → y_Z (B + 180) d2 → Ab G2 p l e room_1 s m args below meth c 9 (cells + 1) (slots + 6) Q 3091 [(5, .int (nI i)), (0, .ref b), (1, .ref (x_b G2 + 0)), (2, .ref (x_b G2 + 175)), (3, .ref (x_b G2 + 183)), (4, .ref (x_b G2 + 184))] [] d2) : Ab G p l e room_1 s m args below meth c 9 cells slots Q 548 [(5, .int (nI i)), (0, .ref b), (1, .ref (x_b G + 0)), (2, .ref (x_b G + 175)), (3, .ref (x_b G + 183)), (4, .ref (x_b G + 184))] [] d := by
  obtain ⟨k, r, d1, hk3, hcl, hm⟩ := y_S.two (s_switchOn (l := l) hfl h hB (xs (i + 1)))
  refine a_aload_n C dL_law_548 2 rfl ?_
  refine a_aload_n C dL_law_549 1 rfl ?_
  refine a_iload C dL_law_550 0 rfl ?_
  refine a_iconst C dL_law_552 (v := 1) (by decide) ?_
  refine a_iadd C dL_law_553 ?_
  refine a_sld C hX hbl hbA (i := i + 1) (nI_add i 1) (by omega) (by omega) dL_law_554 ?_
  refine a_aload_n C dL_law_555 4 rfl ?_
  refine a_callL (G2 := (if k = 0 then x_sl G (x_lz r) else G)) (g2_sl_b _ _ _) C (As := [.ref (x_b G + 0), .int (xs (i + 1)), .ref (x_b G + 183)]) (rest := []) (w_switchOn l G d d1 _ k r hcl) (vx_cwSW 3 C.1.2.2.2.2 (gl_law gL_law_L_switchOn) rfl rfl rfl (by decide +kernel) ⟨Nat.le_of_ble_eq_true rfl, Nat.le_of_ble_eq_true rfl⟩) rfl rfl (Nat.le_of_ble_eq_true rfl) dL_law_556 ⟨hc, hs⟩ (g2_sl_D _ _ _) ?_
  have C2 := C.sl_if k (x_lz r)
  have hb2 := g2_sl_b G (x_lz r) k
  have hl2 := g2_sl_v G (x_lz r) k
  generalize (if k = 0 then x_sl G (x_lz r) else G) = G2 at C2 hb2 hl2 ⊢
  have hbA2 : ¬ x_A G2 b := by
    unfold x_A
    rw [hb2]
    exact hbA
  rw [← hb2]
  obtain ⟨b0, d2, lv, hlv, hm2, h12, hrb, hz⟩ := hm G2
  refine a_istore C2 dL_law_559 (by decide) (lst2 := [(6, .int (nI k)), (5, .int (nI i)), (0, .ref b), (1, .ref (x_b G2 + 0)), (2, .ref (x_b G2 + 175)), (3, .ref (x_b G2 + 183)), (4, .ref (x_b G2 + 184))]) rfl ?_
  refine a_aload_n C2 dL_law_561 4 rfl ?_
  refine a_aload_n C2 dL_law_562 2 rfl ?_
  refine a_iload C2 dL_law_563 1 rfl ?_
  refine a_iconst C2 dL_law_565 (v := 1) (by decide) ?_
  refine a_iadd C2 dL_law_566 ?_
  refine a_sld C2 hX hbl hbA2 (i := i + 1) (nI_add i 1) (by omega) (by omega) dL_law_567 ?_
  refine a_callV C2 (k := 175) (As := [.int (xs (i + 1))]) (rest := []) hm2 (cwV 1 C2.1.2.2.2.2 (gl_up gL_law_X12_switchOn) rfl rfl rfl (by decide +kernel) ⟨by dsimp only [x_rm, room_1]; omega, by dsimp only [x_rm, room_1]; omega⟩) x_k175 (q := (RX12, TX12, 16)) rfl rfl rfl rfl (Nat.le_of_ble_eq_true rfl) dL_law_568 ⟨hc, hs⟩ ?_
  refine a_istore C2 dL_law_571 (by decide) (lst2 := [(7, .int b0), (6, .int (nI k)), (5, .int (nI i)), (0, .ref b), (1, .ref (x_b G2 + 0)), (2, .ref (x_b G2 + 175)), (3, .ref (x_b G2 + 183)), (4, .ref (x_b G2 + 184))]) rfl ?_
  refine a_aload_n C2 dL_law_573 5 rfl ?_
  refine a_callV C2 (k := 175) (As := []) (rest := []) (c_M_thrown l G2 d2) (cwV 0 C2.1.2.2.2.2 (gl_up gL_law_X12_thrown) rfl rfl rfl (by decide +kernel) ⟨Nat.le_of_ble_eq_true rfl, Nat.le_of_ble_eq_true rfl⟩) x_k175 (q := (RX12, TX12, 16)) rfl rfl rfl rfl (Nat.le_of_ble_eq_true rfl) dL_law_574 ⟨hc, hs⟩ ?_
  refine a_iload C2 dL_law_577 1 rfl ?_
  refine a_icmp_eq C2 dL_law_579 (tgt := 584) (by decide) (fun _ => ?_) (fun hn => absurd h12 hn)
  refine a_iload C2 dL_law_584 1 rfl ?_
  have FIN : Ab G2 p l e room_1 s m args below meth c 9 (cells + 1) (slots + 6) Q 608 [(7, .int b0), (6, .int (nI k)), (5, .int (nI i)), (0, .ref b), (1, .ref (x_b G2 + 0)), (2, .ref (x_b G2 + 175)), (3, .ref (x_b G2 + 183)), (4, .ref (x_b G2 + 184))] [] d2 := a_goto C2 dL_law_608 (tgt := 3091) (by decide) (a_sub (lst2 := [(5, .int (nI i)), (0, .ref b), (1, .ref (x_b G2 + 0)), (2, .ref (x_b G2 + 175)), (3, .ref (x_b G2 + 183)), (4, .ref (x_b G2 + 184))]) [2, 3, 4, 5, 6, 7] rfl (K G2 d2 hb2 C2 hz))
  refine a_if_ne C2 dL_law_586 (tgt := 608) (by decide) (fun _ => FIN) (fun hk0 => ?_)
  have hk : k = 0 := by
    rcases Nat.eq_zero_or_pos k with y | y
    · exact y
    · exact absurd hk0 (nI_ne0 (by omega) (by omega))
  refine a_aload_n C2 dL_law_589 6 rfl ?_
  refine a_iconst C2 dL_law_590 (v := 0) (by decide) ?_
  refine a_lald C2 dL_law_591 ?_
  refine a_iload C2 dL_law_592 0 rfl ?_
  refine a_if_eq C2 dL_law_594 (tgt := 601) (by decide) (fun hz0 => ?_) (fun hz0 => ?_)
  · refine a_lconst C2 dL_law_601 rfl ?_
    refine a_lcmp C2 dL_law_602 ?_
    exact a_if_eq C2 dL_law_603 (tgt := 608) (by decide) (fun _ => FIN) (fun hn => absurd ((lg_cmp_eq _ _).mpr (by rw [hl2 hk, hrb hk]; exact if_pos hz0)) hn)
  · refine a_lconst C2 dL_law_597 rfl ?_
    refine a_goto C2 dL_law_598 (tgt := 602) (by decide) ?_
    refine a_lcmp C2 dL_law_602 ?_
    exact a_if_eq C2 dL_law_603 (tgt := 608) (by decide) (fun _ => FIN) (fun hn => absurd ((lg_cmp_eq _ _).mpr (by rw [hl2 hk, hrb hk]; exact if_neg hz0)) hn)
set_option maxHeartbeats 1000000 in
set_option maxRecDepth 100000 in
theorem law_5 (C : Cx G p s m args c code (wsL_law ++ ws_cl) RL 9) (hfl : l.stackTraces = false) (h : y_Z B d) (hB : B + 180 < 100000) (hX : va_X b L xs s s.heap) (hbl : b < s.heap.size) (hbA : ¬ x_A G b) (hL : L < 2000) (hi : i + 3 ≤ L) (hc : cells + 1 ≤ 603072) (hs : slots + 6 ≤ 7170154) (K : ∀ (G2 : xG) (d2 : xd), x_b G2 = x_b G → Cx G2 p s m args c code (wsL_law ++ ws_cl) RL 9 → y_Z (B + 180) d2 → Ab G2 p l e room_1 s m args below meth c 9 (cells + 1) (slots + 6) Q 3091 [(5, .int (nI i)), (0, .ref b), (1, .ref (x_b G2 + 0)), (2, .ref (x_b G2 + 175)), (3, .ref (x_b G2 + 183)), (4, .ref (x_b G2 + 184))] [] d2) : Ab G p l e room_1 s m args below meth c 9 cells slots Q 611 [(5, .int (nI i)), (0, .ref b), (1, .ref (x_b G + 0)), (2, .ref (x_b G + 175)), (3, .ref (x_b G + 183)), (4, .ref (x_b G + 184))] [] d := by
  obtain ⟨k, r, d1, hk3, hcl, hm⟩ := y_S.two (s_switchOff (l := l) hfl h hB (xs (i + 1)))
  refine a_aload_n C dL_law_611 2 rfl ?_
  refine a_aload_n C dL_law_612 1 rfl ?_
  refine a_iload C dL_law_613 0 rfl ?_
  refine a_iconst C dL_law_615 (v := 1) (by decide) ?_
  refine a_iadd C dL_law_616 ?_
  refine a_sld C hX hbl hbA (i := i + 1) (nI_add i 1) (by omega) (by omega) dL_law_617 ?_
  refine a_aload_n C dL_law_618 4 rfl ?_
  refine a_callL (G2 := (if k = 0 then x_sl G (x_lz r) else G)) (g2_sl_b _ _ _) C (As := [.ref (x_b G + 0), .int (xs (i + 1)), .ref (x_b G + 183)]) (rest := []) (w_switchOff l G d d1 _ k r hcl) (vx_cwSW 3 C.1.2.2.2.2 (gl_law gL_law_L_switchOff) rfl rfl rfl (by decide +kernel) ⟨Nat.le_of_ble_eq_true rfl, Nat.le_of_ble_eq_true rfl⟩) rfl rfl (Nat.le_of_ble_eq_true rfl) dL_law_619 ⟨hc, hs⟩ (g2_sl_D _ _ _) ?_
  have C2 := C.sl_if k (x_lz r)
  have hb2 := g2_sl_b G (x_lz r) k
  have hl2 := g2_sl_v G (x_lz r) k
  generalize (if k = 0 then x_sl G (x_lz r) else G) = G2 at C2 hb2 hl2 ⊢
  have hbA2 : ¬ x_A G2 b := by
    unfold x_A
    rw [hb2]
    exact hbA
  rw [← hb2]
  obtain ⟨b0, d2, lv, hlv, hm2, h12, hrb, hz⟩ := hm G2
  refine a_istore C2 dL_law_622 (by decide) (lst2 := [(6, .int (nI k)), (5, .int (nI i)), (0, .ref b), (1, .ref (x_b G2 + 0)), (2, .ref (x_b G2 + 175)), (3, .ref (x_b G2 + 183)), (4, .ref (x_b G2 + 184))]) rfl ?_
  refine a_aload_n C2 dL_law_624 4 rfl ?_
  refine a_aload_n C2 dL_law_625 2 rfl ?_
  refine a_iload C2 dL_law_626 1 rfl ?_
  refine a_iconst C2 dL_law_628 (v := 1) (by decide) ?_
  refine a_iadd C2 dL_law_629 ?_
  refine a_sld C2 hX hbl hbA2 (i := i + 1) (nI_add i 1) (by omega) (by omega) dL_law_630 ?_
  refine a_callV C2 (k := 175) (As := [.int (xs (i + 1))]) (rest := []) hm2 (cwV 1 C2.1.2.2.2.2 (gl_up gL_law_X12_switchOff) rfl rfl rfl (by decide +kernel) ⟨by dsimp only [x_rm, room_1]; omega, by dsimp only [x_rm, room_1]; omega⟩) x_k175 (q := (RX12, TX12, 16)) rfl rfl rfl rfl (Nat.le_of_ble_eq_true rfl) dL_law_631 ⟨hc, hs⟩ ?_
  refine a_istore C2 dL_law_634 (by decide) (lst2 := [(7, .int b0), (6, .int (nI k)), (5, .int (nI i)), (0, .ref b), (1, .ref (x_b G2 + 0)), (2, .ref (x_b G2 + 175)), (3, .ref (x_b G2 + 183)), (4, .ref (x_b G2 + 184))]) rfl ?_
  refine a_aload_n C2 dL_law_636 5 rfl ?_
  refine a_callV C2 (k := 175) (As := []) (rest := []) (c_M_thrown l G2 d2) (cwV 0 C2.1.2.2.2.2 (gl_up gL_law_X12_thrown) rfl rfl rfl (by decide +kernel) ⟨Nat.le_of_ble_eq_true rfl, Nat.le_of_ble_eq_true rfl⟩) x_k175 (q := (RX12, TX12, 16)) rfl rfl rfl rfl (Nat.le_of_ble_eq_true rfl) dL_law_637 ⟨hc, hs⟩ ?_
  refine a_iload C2 dL_law_640 1 rfl ?_
  refine a_icmp_eq C2 dL_law_642 (tgt := 647) (by decide) (fun _ => ?_) (fun hn => absurd h12 hn)
  refine a_iload C2 dL_law_647 1 rfl ?_
  have FIN : Ab G2 p l e room_1 s m args below meth c 9 (cells + 1) (slots + 6) Q 671 [(7, .int b0), (6, .int (nI k)), (5, .int (nI i)), (0, .ref b), (1, .ref (x_b G2 + 0)), (2, .ref (x_b G2 + 175)), (3, .ref (x_b G2 + 183)), (4, .ref (x_b G2 + 184))] [] d2 := a_goto C2 dL_law_671 (tgt := 3091) (by decide) (a_sub (lst2 := [(5, .int (nI i)), (0, .ref b), (1, .ref (x_b G2 + 0)), (2, .ref (x_b G2 + 175)), (3, .ref (x_b G2 + 183)), (4, .ref (x_b G2 + 184))]) [2, 3, 4, 5, 6, 7] rfl (K G2 d2 hb2 C2 hz))
  refine a_if_ne C2 dL_law_649 (tgt := 671) (by decide) (fun _ => FIN) (fun hk0 => ?_)
  have hk : k = 0 := by
    rcases Nat.eq_zero_or_pos k with y | y
    · exact y
    · exact absurd hk0 (nI_ne0 (by omega) (by omega))
  refine a_aload_n C2 dL_law_652 6 rfl ?_
  refine a_iconst C2 dL_law_653 (v := 0) (by decide) ?_
  refine a_lald C2 dL_law_654 ?_
  refine a_iload C2 dL_law_655 0 rfl ?_
  refine a_if_eq C2 dL_law_657 (tgt := 664) (by decide) (fun hz0 => ?_) (fun hz0 => ?_)
  · refine a_lconst C2 dL_law_664 rfl ?_
    refine a_lcmp C2 dL_law_665 ?_
    exact a_if_eq C2 dL_law_666 (tgt := 671) (by decide) (fun _ => FIN) (fun hn => absurd ((lg_cmp_eq _ _).mpr (by rw [hl2 hk, hrb hk]; exact if_pos hz0)) hn)
  · refine a_lconst C2 dL_law_660 rfl ?_
    refine a_goto C2 dL_law_661 (tgt := 665) (by decide) ?_
    refine a_lcmp C2 dL_law_665 ?_
    exact a_if_eq C2 dL_law_666 (tgt := 671) (by decide) (fun _ => FIN) (fun hn => absurd ((lg_cmp_eq _ _).mpr (by rw [hl2 hk, hrb hk]; exact if_neg hz0)) hn)
set_option maxHeartbeats 1000000 in
set_option maxRecDepth 100000 in
theorem law_6 (C : Cx G p s m args c code (wsL_law ++ ws_cl) RL 9) (hfl : l.stackTraces = false) (h : y_Z B d) (hB : B + 180 < 100000) (hX : va_X b L xs s s.heap) (hbl : b < s.heap.size) (hbA : ¬ x_A G b) (hL : L < 2000) (hi : i + 3 ≤ L) (hc : cells + 1 ≤ 603072) (hs : slots + 6 ≤ 7170154) (K : ∀ (G2 : xG) (d2 : xd), x_b G2 = x_b G → Cx G2 p s m args c code (wsL_law ++ ws_cl) RL 9 → y_Z (B + 180) d2 → Ab G2 p l e room_1 s m args below meth c 9 (cells + 1) (slots + 6) Q 3091 [(5, .int (nI i)), (0, .ref b), (1, .ref (x_b G2 + 0)), (2, .ref (x_b G2 + 175)), (3, .ref (x_b G2 + 183)), (4, .ref (x_b G2 + 184))] [] d2) : Ab G p l e room_1 s m args below meth c 9 cells slots Q 674 [(5, .int (nI i)), (0, .ref b), (1, .ref (x_b G + 0)), (2, .ref (x_b G + 175)), (3, .ref (x_b G + 183)), (4, .ref (x_b G + 184))] [] d := by
  obtain ⟨r, d1, d2, ⟨lv, hlv, hc1⟩, ⟨lv2, hlv2, hc2⟩, hz⟩ := s_lampCount (l := l) h hB
  refine a_aload_n C dL_law_674 2 rfl ?_
  refine a_callV C (k := 0) (As := []) (rest := []) (hc1 G) (cwV 0 C.1.2.2.2.2 (gl_up gL_law_X11_lampCount) rfl rfl rfl (by decide +kernel) ⟨by dsimp only [x_rm, room_1]; omega, by dsimp only [x_rm, room_1]; omega⟩) x_k0 (q := (RX11, TX11, 13)) rfl rfl rfl rfl (Nat.le_of_ble_eq_true rfl) dL_law_675 ⟨by show cells ≤ 603072; omega, by show slots ≤ 7170154; omega⟩ ?_
  refine a_aload_n C dL_law_678 3 rfl ?_
  refine a_callV C (k := 175) (As := []) (rest := [.int r]) (hc2 G) (cwV 0 C.1.2.2.2.2 (gl_up gL_law_X12_lampCount) rfl rfl rfl (by decide +kernel) ⟨by dsimp only [x_rm, room_1]; omega, by dsimp only [x_rm, room_1]; omega⟩) x_k175 (q := (RX12, TX12, 16)) rfl rfl rfl rfl (Nat.le_of_ble_eq_true rfl) dL_law_679 ⟨by show cells ≤ 603072; omega, by show slots ≤ 7170154; omega⟩ ?_
  refine a_icmp_eq C dL_law_682 (tgt := 3091) (by decide) (fun _ => ?_) (fun hn => absurd rfl hn)
  refine a_widen (k := cells + 1) (n := slots + 6) (by omega) (by omega) ?_
  exact K G d2 rfl C hz
set_option maxHeartbeats 1000000 in
set_option maxRecDepth 100000 in
theorem law_7 (C : Cx G p s m args c code (wsL_law ++ ws_cl) RL 9) (hfl : l.stackTraces = false) (h : y_Z B d) (hB : B + 180 < 100000) (hX : va_X b L xs s s.heap) (hbl : b < s.heap.size) (hbA : ¬ x_A G b) (hL : L < 2000) (hi : i + 3 ≤ L) (hc : cells + 1 ≤ 603072) (hs : slots + 6 ≤ 7170154) (K : ∀ (G2 : xG) (d2 : xd), x_b G2 = x_b G → Cx G2 p s m args c code (wsL_law ++ ws_cl) RL 9 → y_Z (B + 180) d2 → Ab G2 p l e room_1 s m args below meth c 9 (cells + 1) (slots + 6) Q 3091 [(5, .int (nI i)), (0, .ref b), (1, .ref (x_b G2 + 0)), (2, .ref (x_b G2 + 175)), (3, .ref (x_b G2 + 183)), (4, .ref (x_b G2 + 184))] [] d2) : Ab G p l e room_1 s m args below meth c 9 cells slots Q 687 [(5, .int (nI i)), (0, .ref b), (1, .ref (x_b G + 0)), (2, .ref (x_b G + 175)), (3, .ref (x_b G + 183)), (4, .ref (x_b G + 184))] [] d := by
  obtain ⟨k, r, d1, hk3, hcl, hm⟩ := y_S.two (s_streetOf (l := l) hfl h hB (xs (i + 1)))
  refine a_aload_n C dL_law_687 2 rfl ?_
  refine a_aload_n C dL_law_688 1 rfl ?_
  refine a_iload C dL_law_689 0 rfl ?_
  refine a_iconst C dL_law_691 (v := 1) (by decide) ?_
  refine a_iadd C dL_law_692 ?_
  refine a_sld C hX hbl hbA (i := i + 1) (nI_add i 1) (by omega) (by omega) dL_law_693 ?_
  refine a_aload_n C dL_law_694 4 rfl ?_
  refine a_callL (G2 := (if k = 0 then x_sl G r.toInt64 else G)) (g2_sl_b _ _ _) C (As := [.ref (x_b G + 0), .int (xs (i + 1)), .ref (x_b G + 183)]) (rest := []) (w_streetOf l G d d1 _ k r hcl) (vx_cwSW 3 C.1.2.2.2.2 (gl_law gL_law_L_streetOf) rfl rfl rfl (by decide +kernel) ⟨Nat.le_of_ble_eq_true rfl, Nat.le_of_ble_eq_true rfl⟩) rfl rfl (Nat.le_of_ble_eq_true rfl) dL_law_695 ⟨hc, hs⟩ (g2_sl_D _ _ _) ?_
  have C2 := C.sl_if k r.toInt64
  have hb2 := g2_sl_b G r.toInt64 k
  have hl2 := g2_sl_v G r.toInt64 k
  generalize (if k = 0 then x_sl G r.toInt64 else G) = G2 at C2 hb2 hl2 ⊢
  have hbA2 : ¬ x_A G2 b := by
    unfold x_A
    rw [hb2]
    exact hbA
  rw [← hb2]
  obtain ⟨b0, d2, lv, hlv, hm2, h12, hrb, hz⟩ := hm G2
  refine a_istore C2 dL_law_698 (by decide) (lst2 := [(6, .int (nI k)), (5, .int (nI i)), (0, .ref b), (1, .ref (x_b G2 + 0)), (2, .ref (x_b G2 + 175)), (3, .ref (x_b G2 + 183)), (4, .ref (x_b G2 + 184))]) rfl ?_
  refine a_aload_n C2 dL_law_700 4 rfl ?_
  refine a_aload_n C2 dL_law_701 2 rfl ?_
  refine a_iload C2 dL_law_702 1 rfl ?_
  refine a_iconst C2 dL_law_704 (v := 1) (by decide) ?_
  refine a_iadd C2 dL_law_705 ?_
  refine a_sld C2 hX hbl hbA2 (i := i + 1) (nI_add i 1) (by omega) (by omega) dL_law_706 ?_
  refine a_callV C2 (k := 175) (As := [.int (xs (i + 1))]) (rest := []) hm2 (cwV 1 C2.1.2.2.2.2 (gl_up gL_law_X12_streetOf) rfl rfl rfl (by decide +kernel) ⟨by dsimp only [x_rm, room_1]; omega, by dsimp only [x_rm, room_1]; omega⟩) x_k175 (q := (RX12, TX12, 16)) rfl rfl rfl rfl (Nat.le_of_ble_eq_true rfl) dL_law_707 ⟨hc, hs⟩ ?_
  refine a_istore C2 dL_law_710 (by decide) (lst2 := [(7, .int b0), (6, .int (nI k)), (5, .int (nI i)), (0, .ref b), (1, .ref (x_b G2 + 0)), (2, .ref (x_b G2 + 175)), (3, .ref (x_b G2 + 183)), (4, .ref (x_b G2 + 184))]) rfl ?_
  refine a_aload_n C2 dL_law_712 5 rfl ?_
  refine a_callV C2 (k := 175) (As := []) (rest := []) (c_M_thrown l G2 d2) (cwV 0 C2.1.2.2.2.2 (gl_up gL_law_X12_thrown) rfl rfl rfl (by decide +kernel) ⟨Nat.le_of_ble_eq_true rfl, Nat.le_of_ble_eq_true rfl⟩) x_k175 (q := (RX12, TX12, 16)) rfl rfl rfl rfl (Nat.le_of_ble_eq_true rfl) dL_law_713 ⟨hc, hs⟩ ?_
  refine a_iload C2 dL_law_716 1 rfl ?_
  refine a_icmp_eq C2 dL_law_718 (tgt := 723) (by decide) (fun _ => ?_) (fun hn => absurd h12 hn)
  refine a_iload C2 dL_law_723 1 rfl ?_
  have FIN : Ab G2 p l e room_1 s m args below meth c 9 (cells + 1) (slots + 6) Q 740 [(7, .int b0), (6, .int (nI k)), (5, .int (nI i)), (0, .ref b), (1, .ref (x_b G2 + 0)), (2, .ref (x_b G2 + 175)), (3, .ref (x_b G2 + 183)), (4, .ref (x_b G2 + 184))] [] d2 := a_goto C2 dL_law_740 (tgt := 3091) (by decide) (a_sub (lst2 := [(5, .int (nI i)), (0, .ref b), (1, .ref (x_b G2 + 0)), (2, .ref (x_b G2 + 175)), (3, .ref (x_b G2 + 183)), (4, .ref (x_b G2 + 184))]) [2, 3, 4, 5, 6, 7] rfl (K G2 d2 hb2 C2 hz))
  refine a_if_ne C2 dL_law_725 (tgt := 740) (by decide) (fun _ => FIN) (fun hk0 => ?_)
  have hk : k = 0 := by
    rcases Nat.eq_zero_or_pos k with y | y
    · exact y
    · exact absurd hk0 (nI_ne0 (by omega) (by omega))
  refine a_aload_n C2 dL_law_728 6 rfl ?_
  refine a_iconst C2 dL_law_729 (v := 0) (by decide) ?_
  refine a_lald C2 dL_law_730 ?_
  refine a_iload C2 dL_law_731 0 rfl ?_
  refine a_i2l C2 dL_law_733 ?_
  refine a_lcmp C2 dL_law_734 ?_
  exact a_if_eq C2 dL_law_735 (tgt := 740) (by decide) (fun _ => FIN) (fun hn => absurd ((lg_cmp_eq _ _).mpr (by rw [hl2 hk, hrb hk])) hn)
set_option maxHeartbeats 1000000 in
set_option maxRecDepth 100000 in
theorem law_8 (C : Cx G p s m args c code (wsL_law ++ ws_cl) RL 9) (hfl : l.stackTraces = false) (h : y_Z B d) (hB : B + 180 < 100000) (hX : va_X b L xs s s.heap) (hbl : b < s.heap.size) (hbA : ¬ x_A G b) (hL : L < 2000) (hi : i + 3 ≤ L) (hc : cells + 1 ≤ 603072) (hs : slots + 6 ≤ 7170154) (K : ∀ (G2 : xG) (d2 : xd), x_b G2 = x_b G → Cx G2 p s m args c code (wsL_law ++ ws_cl) RL 9 → y_Z (B + 180) d2 → Ab G2 p l e room_1 s m args below meth c 9 (cells + 1) (slots + 6) Q 3091 [(5, .int (nI i)), (0, .ref b), (1, .ref (x_b G2 + 0)), (2, .ref (x_b G2 + 175)), (3, .ref (x_b G2 + 183)), (4, .ref (x_b G2 + 184))] [] d2) : Ab G p l e room_1 s m args below meth c 9 cells slots Q 743 [(5, .int (nI i)), (0, .ref b), (1, .ref (x_b G + 0)), (2, .ref (x_b G + 175)), (3, .ref (x_b G + 183)), (4, .ref (x_b G + 184))] [] d := by
  obtain ⟨k, r, d1, hk3, hcl, hm⟩ := y_S.two (s_sharesOf (l := l) hfl h hB (xs (i + 1)))
  refine a_aload_n C dL_law_743 2 rfl ?_
  refine a_aload_n C dL_law_744 1 rfl ?_
  refine a_iload C dL_law_745 0 rfl ?_
  refine a_iconst C dL_law_747 (v := 1) (by decide) ?_
  refine a_iadd C dL_law_748 ?_
  refine a_sld C hX hbl hbA (i := i + 1) (nI_add i 1) (by omega) (by omega) dL_law_749 ?_
  refine a_aload_n C dL_law_750 4 rfl ?_
  refine a_callL (G2 := (if k = 0 then x_sl G r.toInt64 else G)) (g2_sl_b _ _ _) C (As := [.ref (x_b G + 0), .int (xs (i + 1)), .ref (x_b G + 183)]) (rest := []) (w_sharesOf l G d d1 _ k r hcl) (vx_cwSW 3 C.1.2.2.2.2 (gl_law gL_law_L_sharesOf) rfl rfl rfl (by decide +kernel) ⟨Nat.le_of_ble_eq_true rfl, Nat.le_of_ble_eq_true rfl⟩) rfl rfl (Nat.le_of_ble_eq_true rfl) dL_law_751 ⟨hc, hs⟩ (g2_sl_D _ _ _) ?_
  have C2 := C.sl_if k r.toInt64
  have hb2 := g2_sl_b G r.toInt64 k
  have hl2 := g2_sl_v G r.toInt64 k
  generalize (if k = 0 then x_sl G r.toInt64 else G) = G2 at C2 hb2 hl2 ⊢
  have hbA2 : ¬ x_A G2 b := by
    unfold x_A
    rw [hb2]
    exact hbA
  rw [← hb2]
  obtain ⟨b0, d2, lv, hlv, hm2, h12, hrb, hz⟩ := hm G2
  refine a_istore C2 dL_law_754 (by decide) (lst2 := [(6, .int (nI k)), (5, .int (nI i)), (0, .ref b), (1, .ref (x_b G2 + 0)), (2, .ref (x_b G2 + 175)), (3, .ref (x_b G2 + 183)), (4, .ref (x_b G2 + 184))]) rfl ?_
  refine a_aload_n C2 dL_law_756 4 rfl ?_
  refine a_aload_n C2 dL_law_757 2 rfl ?_
  refine a_iload C2 dL_law_758 1 rfl ?_
  refine a_iconst C2 dL_law_760 (v := 1) (by decide) ?_
  refine a_iadd C2 dL_law_761 ?_
  refine a_sld C2 hX hbl hbA2 (i := i + 1) (nI_add i 1) (by omega) (by omega) dL_law_762 ?_
  refine a_callV C2 (k := 175) (As := [.int (xs (i + 1))]) (rest := []) hm2 (cwV 1 C2.1.2.2.2.2 (gl_up gL_law_X12_sharesOf) rfl rfl rfl (by decide +kernel) ⟨by dsimp only [x_rm, room_1]; omega, by dsimp only [x_rm, room_1]; omega⟩) x_k175 (q := (RX12, TX12, 16)) rfl rfl rfl rfl (Nat.le_of_ble_eq_true rfl) dL_law_763 ⟨hc, hs⟩ ?_
  refine a_istore C2 dL_law_766 (by decide) (lst2 := [(7, .int b0), (6, .int (nI k)), (5, .int (nI i)), (0, .ref b), (1, .ref (x_b G2 + 0)), (2, .ref (x_b G2 + 175)), (3, .ref (x_b G2 + 183)), (4, .ref (x_b G2 + 184))]) rfl ?_
  refine a_aload_n C2 dL_law_768 5 rfl ?_
  refine a_callV C2 (k := 175) (As := []) (rest := []) (c_M_thrown l G2 d2) (cwV 0 C2.1.2.2.2.2 (gl_up gL_law_X12_thrown) rfl rfl rfl (by decide +kernel) ⟨Nat.le_of_ble_eq_true rfl, Nat.le_of_ble_eq_true rfl⟩) x_k175 (q := (RX12, TX12, 16)) rfl rfl rfl rfl (Nat.le_of_ble_eq_true rfl) dL_law_769 ⟨hc, hs⟩ ?_
  refine a_iload C2 dL_law_772 1 rfl ?_
  refine a_icmp_eq C2 dL_law_774 (tgt := 779) (by decide) (fun _ => ?_) (fun hn => absurd h12 hn)
  refine a_iload C2 dL_law_779 1 rfl ?_
  have FIN : Ab G2 p l e room_1 s m args below meth c 9 (cells + 1) (slots + 6) Q 796 [(7, .int b0), (6, .int (nI k)), (5, .int (nI i)), (0, .ref b), (1, .ref (x_b G2 + 0)), (2, .ref (x_b G2 + 175)), (3, .ref (x_b G2 + 183)), (4, .ref (x_b G2 + 184))] [] d2 := a_goto C2 dL_law_796 (tgt := 3091) (by decide) (a_sub (lst2 := [(5, .int (nI i)), (0, .ref b), (1, .ref (x_b G2 + 0)), (2, .ref (x_b G2 + 175)), (3, .ref (x_b G2 + 183)), (4, .ref (x_b G2 + 184))]) [2, 3, 4, 5, 6, 7] rfl (K G2 d2 hb2 C2 hz))
  refine a_if_ne C2 dL_law_781 (tgt := 796) (by decide) (fun _ => FIN) (fun hk0 => ?_)
  have hk : k = 0 := by
    rcases Nat.eq_zero_or_pos k with y | y
    · exact y
    · exact absurd hk0 (nI_ne0 (by omega) (by omega))
  refine a_aload_n C2 dL_law_784 6 rfl ?_
  refine a_iconst C2 dL_law_785 (v := 0) (by decide) ?_
  refine a_lald C2 dL_law_786 ?_
  refine a_iload C2 dL_law_787 0 rfl ?_
  refine a_i2l C2 dL_law_789 ?_
  refine a_lcmp C2 dL_law_790 ?_
  exact a_if_eq C2 dL_law_791 (tgt := 796) (by decide) (fun _ => FIN) (fun hn => absurd ((lg_cmp_eq _ _).mpr (by rw [hl2 hk, hrb hk])) hn)
set_option maxHeartbeats 1000000 in
set_option maxRecDepth 100000 in
theorem law_9 (C : Cx G p s m args c code (wsL_law ++ ws_cl) RL 9) (hfl : l.stackTraces = false) (h : y_Z B d) (hB : B + 180 < 100000) (hX : va_X b L xs s s.heap) (hbl : b < s.heap.size) (hbA : ¬ x_A G b) (hL : L < 2000) (hi : i + 3 ≤ L) (hc : cells + 1 ≤ 603072) (hs : slots + 6 ≤ 7170154) (K : ∀ (G2 : xG) (d2 : xd), x_b G2 = x_b G → Cx G2 p s m args c code (wsL_law ++ ws_cl) RL 9 → y_Z (B + 180) d2 → Ab G2 p l e room_1 s m args below meth c 9 (cells + 1) (slots + 6) Q 3091 [(5, .int (nI i)), (0, .ref b), (1, .ref (x_b G2 + 0)), (2, .ref (x_b G2 + 175)), (3, .ref (x_b G2 + 183)), (4, .ref (x_b G2 + 184))] [] d2) : Ab G p l e room_1 s m args below meth c 9 cells slots Q 799 [(5, .int (nI i)), (0, .ref b), (1, .ref (x_b G + 0)), (2, .ref (x_b G + 175)), (3, .ref (x_b G + 183)), (4, .ref (x_b G + 184))] [] d := by
  obtain ⟨k, r, d1, hk3, hcl, hm⟩ := y_S.two (s_brightnessOf (l := l) hfl h hB (xs (i + 1)))
  refine a_aload_n C dL_law_799 2 rfl ?_
  refine a_aload_n C dL_law_800 1 rfl ?_
  refine a_iload C dL_law_801 0 rfl ?_
  refine a_iconst C dL_law_803 (v := 1) (by decide) ?_
  refine a_iadd C dL_law_804 ?_
  refine a_sld C hX hbl hbA (i := i + 1) (nI_add i 1) (by omega) (by omega) dL_law_805 ?_
  refine a_aload_n C dL_law_806 4 rfl ?_
  refine a_callL (G2 := (if k = 0 then x_sl G r.toInt64 else G)) (g2_sl_b _ _ _) C (As := [.ref (x_b G + 0), .int (xs (i + 1)), .ref (x_b G + 183)]) (rest := []) (w_brightnessOf l G d d1 _ k r hcl) (vx_cwSW 3 C.1.2.2.2.2 (gl_law gL_law_L_brightnessOf) rfl rfl rfl (by decide +kernel) ⟨Nat.le_of_ble_eq_true rfl, Nat.le_of_ble_eq_true rfl⟩) rfl rfl (Nat.le_of_ble_eq_true rfl) dL_law_807 ⟨hc, hs⟩ (g2_sl_D _ _ _) ?_
  have C2 := C.sl_if k r.toInt64
  have hb2 := g2_sl_b G r.toInt64 k
  have hl2 := g2_sl_v G r.toInt64 k
  generalize (if k = 0 then x_sl G r.toInt64 else G) = G2 at C2 hb2 hl2 ⊢
  have hbA2 : ¬ x_A G2 b := by
    unfold x_A
    rw [hb2]
    exact hbA
  rw [← hb2]
  obtain ⟨b0, d2, lv, hlv, hm2, h12, hrb, hz⟩ := hm G2
  refine a_istore C2 dL_law_810 (by decide) (lst2 := [(6, .int (nI k)), (5, .int (nI i)), (0, .ref b), (1, .ref (x_b G2 + 0)), (2, .ref (x_b G2 + 175)), (3, .ref (x_b G2 + 183)), (4, .ref (x_b G2 + 184))]) rfl ?_
  refine a_aload_n C2 dL_law_812 4 rfl ?_
  refine a_aload_n C2 dL_law_813 2 rfl ?_
  refine a_iload C2 dL_law_814 1 rfl ?_
  refine a_iconst C2 dL_law_816 (v := 1) (by decide) ?_
  refine a_iadd C2 dL_law_817 ?_
  refine a_sld C2 hX hbl hbA2 (i := i + 1) (nI_add i 1) (by omega) (by omega) dL_law_818 ?_
  refine a_callV C2 (k := 175) (As := [.int (xs (i + 1))]) (rest := []) hm2 (cwV 1 C2.1.2.2.2.2 (gl_up gL_law_X12_brightnessOf) rfl rfl rfl (by decide +kernel) ⟨by dsimp only [x_rm, room_1]; omega, by dsimp only [x_rm, room_1]; omega⟩) x_k175 (q := (RX12, TX12, 16)) rfl rfl rfl rfl (Nat.le_of_ble_eq_true rfl) dL_law_819 ⟨hc, hs⟩ ?_
  refine a_istore C2 dL_law_822 (by decide) (lst2 := [(7, .int b0), (6, .int (nI k)), (5, .int (nI i)), (0, .ref b), (1, .ref (x_b G2 + 0)), (2, .ref (x_b G2 + 175)), (3, .ref (x_b G2 + 183)), (4, .ref (x_b G2 + 184))]) rfl ?_
  refine a_aload_n C2 dL_law_824 5 rfl ?_
  refine a_callV C2 (k := 175) (As := []) (rest := []) (c_M_thrown l G2 d2) (cwV 0 C2.1.2.2.2.2 (gl_up gL_law_X12_thrown) rfl rfl rfl (by decide +kernel) ⟨Nat.le_of_ble_eq_true rfl, Nat.le_of_ble_eq_true rfl⟩) x_k175 (q := (RX12, TX12, 16)) rfl rfl rfl rfl (Nat.le_of_ble_eq_true rfl) dL_law_825 ⟨hc, hs⟩ ?_
  refine a_iload C2 dL_law_828 1 rfl ?_
  refine a_icmp_eq C2 dL_law_830 (tgt := 835) (by decide) (fun _ => ?_) (fun hn => absurd h12 hn)
  refine a_iload C2 dL_law_835 1 rfl ?_
  have FIN : Ab G2 p l e room_1 s m args below meth c 9 (cells + 1) (slots + 6) Q 852 [(7, .int b0), (6, .int (nI k)), (5, .int (nI i)), (0, .ref b), (1, .ref (x_b G2 + 0)), (2, .ref (x_b G2 + 175)), (3, .ref (x_b G2 + 183)), (4, .ref (x_b G2 + 184))] [] d2 := a_goto C2 dL_law_852 (tgt := 3091) (by decide) (a_sub (lst2 := [(5, .int (nI i)), (0, .ref b), (1, .ref (x_b G2 + 0)), (2, .ref (x_b G2 + 175)), (3, .ref (x_b G2 + 183)), (4, .ref (x_b G2 + 184))]) [2, 3, 4, 5, 6, 7] rfl (K G2 d2 hb2 C2 hz))
  refine a_if_ne C2 dL_law_837 (tgt := 852) (by decide) (fun _ => FIN) (fun hk0 => ?_)
  have hk : k = 0 := by
    rcases Nat.eq_zero_or_pos k with y | y
    · exact y
    · exact absurd hk0 (nI_ne0 (by omega) (by omega))
  refine a_aload_n C2 dL_law_840 6 rfl ?_
  refine a_iconst C2 dL_law_841 (v := 0) (by decide) ?_
  refine a_lald C2 dL_law_842 ?_
  refine a_iload C2 dL_law_843 0 rfl ?_
  refine a_i2l C2 dL_law_845 ?_
  refine a_lcmp C2 dL_law_846 ?_
  exact a_if_eq C2 dL_law_847 (tgt := 852) (by decide) (fun _ => FIN) (fun hn => absurd ((lg_cmp_eq _ _).mpr (by rw [hl2 hk, hrb hk])) hn)
set_option maxHeartbeats 1000000 in
set_option maxRecDepth 100000 in
theorem law_10 (C : Cx G p s m args c code (wsL_law ++ ws_cl) RL 9) (hfl : l.stackTraces = false) (h : y_Z B d) (hB : B + 180 < 100000) (hX : va_X b L xs s s.heap) (hbl : b < s.heap.size) (hbA : ¬ x_A G b) (hL : L < 2000) (hi : i + 3 ≤ L) (hc : cells + 1 ≤ 603072) (hs : slots + 6 ≤ 7170154) (K : ∀ (G2 : xG) (d2 : xd), x_b G2 = x_b G → Cx G2 p s m args c code (wsL_law ++ ws_cl) RL 9 → y_Z (B + 180) d2 → Ab G2 p l e room_1 s m args below meth c 9 (cells + 1) (slots + 6) Q 3091 [(5, .int (nI i)), (0, .ref b), (1, .ref (x_b G2 + 0)), (2, .ref (x_b G2 + 175)), (3, .ref (x_b G2 + 183)), (4, .ref (x_b G2 + 184))] [] d2) : Ab G p l e room_1 s m args below meth c 9 cells slots Q 855 [(5, .int (nI i)), (0, .ref b), (1, .ref (x_b G + 0)), (2, .ref (x_b G + 175)), (3, .ref (x_b G + 183)), (4, .ref (x_b G + 184))] [] d := by
  obtain ⟨k, r, d1, hk3, hcl, hm⟩ := y_S.two (s_isOn (l := l) hfl h hB (xs (i + 1)))
  refine a_aload_n C dL_law_855 2 rfl ?_
  refine a_aload_n C dL_law_856 1 rfl ?_
  refine a_iload C dL_law_857 0 rfl ?_
  refine a_iconst C dL_law_859 (v := 1) (by decide) ?_
  refine a_iadd C dL_law_860 ?_
  refine a_sld C hX hbl hbA (i := i + 1) (nI_add i 1) (by omega) (by omega) dL_law_861 ?_
  refine a_aload_n C dL_law_862 4 rfl ?_
  refine a_callL (G2 := (if k = 0 then x_sl G (x_lz r) else G)) (g2_sl_b _ _ _) C (As := [.ref (x_b G + 0), .int (xs (i + 1)), .ref (x_b G + 183)]) (rest := []) (w_isOn l G d d1 _ k r hcl) (vx_cwSW 3 C.1.2.2.2.2 (gl_law gL_law_L_isOn) rfl rfl rfl (by decide +kernel) ⟨Nat.le_of_ble_eq_true rfl, Nat.le_of_ble_eq_true rfl⟩) rfl rfl (Nat.le_of_ble_eq_true rfl) dL_law_863 ⟨hc, hs⟩ (g2_sl_D _ _ _) ?_
  have C2 := C.sl_if k (x_lz r)
  have hb2 := g2_sl_b G (x_lz r) k
  have hl2 := g2_sl_v G (x_lz r) k
  generalize (if k = 0 then x_sl G (x_lz r) else G) = G2 at C2 hb2 hl2 ⊢
  have hbA2 : ¬ x_A G2 b := by
    unfold x_A
    rw [hb2]
    exact hbA
  rw [← hb2]
  obtain ⟨b0, d2, lv, hlv, hm2, h12, hrb, hz⟩ := hm G2
  refine a_istore C2 dL_law_866 (by decide) (lst2 := [(6, .int (nI k)), (5, .int (nI i)), (0, .ref b), (1, .ref (x_b G2 + 0)), (2, .ref (x_b G2 + 175)), (3, .ref (x_b G2 + 183)), (4, .ref (x_b G2 + 184))]) rfl ?_
  refine a_aload_n C2 dL_law_868 4 rfl ?_
  refine a_aload_n C2 dL_law_869 2 rfl ?_
  refine a_iload C2 dL_law_870 1 rfl ?_
  refine a_iconst C2 dL_law_872 (v := 1) (by decide) ?_
  refine a_iadd C2 dL_law_873 ?_
  refine a_sld C2 hX hbl hbA2 (i := i + 1) (nI_add i 1) (by omega) (by omega) dL_law_874 ?_
  refine a_callV C2 (k := 175) (As := [.int (xs (i + 1))]) (rest := []) hm2 (cwV 1 C2.1.2.2.2.2 (gl_up gL_law_X12_isOn) rfl rfl rfl (by decide +kernel) ⟨by dsimp only [x_rm, room_1]; omega, by dsimp only [x_rm, room_1]; omega⟩) x_k175 (q := (RX12, TX12, 16)) rfl rfl rfl rfl (Nat.le_of_ble_eq_true rfl) dL_law_875 ⟨hc, hs⟩ ?_
  refine a_istore C2 dL_law_878 (by decide) (lst2 := [(7, .int b0), (6, .int (nI k)), (5, .int (nI i)), (0, .ref b), (1, .ref (x_b G2 + 0)), (2, .ref (x_b G2 + 175)), (3, .ref (x_b G2 + 183)), (4, .ref (x_b G2 + 184))]) rfl ?_
  refine a_aload_n C2 dL_law_880 5 rfl ?_
  refine a_callV C2 (k := 175) (As := []) (rest := []) (c_M_thrown l G2 d2) (cwV 0 C2.1.2.2.2.2 (gl_up gL_law_X12_thrown) rfl rfl rfl (by decide +kernel) ⟨Nat.le_of_ble_eq_true rfl, Nat.le_of_ble_eq_true rfl⟩) x_k175 (q := (RX12, TX12, 16)) rfl rfl rfl rfl (Nat.le_of_ble_eq_true rfl) dL_law_881 ⟨hc, hs⟩ ?_
  refine a_iload C2 dL_law_884 1 rfl ?_
  refine a_icmp_eq C2 dL_law_886 (tgt := 891) (by decide) (fun _ => ?_) (fun hn => absurd h12 hn)
  refine a_iload C2 dL_law_891 1 rfl ?_
  have FIN : Ab G2 p l e room_1 s m args below meth c 9 (cells + 1) (slots + 6) Q 915 [(7, .int b0), (6, .int (nI k)), (5, .int (nI i)), (0, .ref b), (1, .ref (x_b G2 + 0)), (2, .ref (x_b G2 + 175)), (3, .ref (x_b G2 + 183)), (4, .ref (x_b G2 + 184))] [] d2 := a_goto C2 dL_law_915 (tgt := 3091) (by decide) (a_sub (lst2 := [(5, .int (nI i)), (0, .ref b), (1, .ref (x_b G2 + 0)), (2, .ref (x_b G2 + 175)), (3, .ref (x_b G2 + 183)), (4, .ref (x_b G2 + 184))]) [2, 3, 4, 5, 6, 7] rfl (K G2 d2 hb2 C2 hz))
  refine a_if_ne C2 dL_law_893 (tgt := 915) (by decide) (fun _ => FIN) (fun hk0 => ?_)
  have hk : k = 0 := by
    rcases Nat.eq_zero_or_pos k with y | y
    · exact y
    · exact absurd hk0 (nI_ne0 (by omega) (by omega))
  refine a_aload_n C2 dL_law_896 6 rfl ?_
  refine a_iconst C2 dL_law_897 (v := 0) (by decide) ?_
  refine a_lald C2 dL_law_898 ?_
  refine a_iload C2 dL_law_899 0 rfl ?_
  refine a_if_eq C2 dL_law_901 (tgt := 908) (by decide) (fun hz0 => ?_) (fun hz0 => ?_)
  · refine a_lconst C2 dL_law_908 rfl ?_
    refine a_lcmp C2 dL_law_909 ?_
    exact a_if_eq C2 dL_law_910 (tgt := 915) (by decide) (fun _ => FIN) (fun hn => absurd ((lg_cmp_eq _ _).mpr (by rw [hl2 hk, hrb hk]; exact if_pos hz0)) hn)
  · refine a_lconst C2 dL_law_904 rfl ?_
    refine a_goto C2 dL_law_905 (tgt := 909) (by decide) ?_
    refine a_lcmp C2 dL_law_909 ?_
    exact a_if_eq C2 dL_law_910 (tgt := 915) (by decide) (fun _ => FIN) (fun hn => absurd ((lg_cmp_eq _ _).mpr (by rw [hl2 hk, hrb hk]; exact if_neg hz0)) hn)
set_option maxHeartbeats 1000000 in
set_option maxRecDepth 100000 in
theorem law_11 (C : Cx G p s m args c code (wsL_law ++ ws_cl) RL 9) (hfl : l.stackTraces = false) (h : y_Z B d) (hB : B + 180 < 100000) (hX : va_X b L xs s s.heap) (hbl : b < s.heap.size) (hbA : ¬ x_A G b) (hL : L < 2000) (hi : i + 3 ≤ L) (hc : cells + 1 ≤ 603072) (hs : slots + 6 ≤ 7170154) (K : ∀ (G2 : xG) (d2 : xd), x_b G2 = x_b G → Cx G2 p s m args c code (wsL_law ++ ws_cl) RL 9 → y_Z (B + 180) d2 → Ab G2 p l e room_1 s m args below meth c 9 (cells + 1) (slots + 6) Q 3091 [(5, .int (nI i)), (0, .ref b), (1, .ref (x_b G2 + 0)), (2, .ref (x_b G2 + 175)), (3, .ref (x_b G2 + 183)), (4, .ref (x_b G2 + 184))] [] d2) : Ab G p l e room_1 s m args below meth c 9 cells slots Q 918 [(5, .int (nI i)), (0, .ref b), (1, .ref (x_b G + 0)), (2, .ref (x_b G + 175)), (3, .ref (x_b G + 183)), (4, .ref (x_b G + 184))] [] d := by
  obtain ⟨k, r, d1, hk3, hcl, hm⟩ := y_S.two (s_oilOf (l := l) hfl h hB (xs (i + 1)))
  refine a_aload_n C dL_law_918 2 rfl ?_
  refine a_aload_n C dL_law_919 1 rfl ?_
  refine a_iload C dL_law_920 0 rfl ?_
  refine a_iconst C dL_law_922 (v := 1) (by decide) ?_
  refine a_iadd C dL_law_923 ?_
  refine a_sld C hX hbl hbA (i := i + 1) (nI_add i 1) (by omega) (by omega) dL_law_924 ?_
  refine a_aload_n C dL_law_925 4 rfl ?_
  refine a_callL (G2 := (if k = 0 then x_sl G r.toInt64 else G)) (g2_sl_b _ _ _) C (As := [.ref (x_b G + 0), .int (xs (i + 1)), .ref (x_b G + 183)]) (rest := []) (w_oilOf l G d d1 _ k r hcl) (vx_cwSW 3 C.1.2.2.2.2 (gl_law gL_law_L_oilOf) rfl rfl rfl (by decide +kernel) ⟨Nat.le_of_ble_eq_true rfl, Nat.le_of_ble_eq_true rfl⟩) rfl rfl (Nat.le_of_ble_eq_true rfl) dL_law_926 ⟨hc, hs⟩ (g2_sl_D _ _ _) ?_
  have C2 := C.sl_if k r.toInt64
  have hb2 := g2_sl_b G r.toInt64 k
  have hl2 := g2_sl_v G r.toInt64 k
  generalize (if k = 0 then x_sl G r.toInt64 else G) = G2 at C2 hb2 hl2 ⊢
  have hbA2 : ¬ x_A G2 b := by
    unfold x_A
    rw [hb2]
    exact hbA
  rw [← hb2]
  obtain ⟨b0, d2, lv, hlv, hm2, h12, hrb, hz⟩ := hm G2
  refine a_istore C2 dL_law_929 (by decide) (lst2 := [(6, .int (nI k)), (5, .int (nI i)), (0, .ref b), (1, .ref (x_b G2 + 0)), (2, .ref (x_b G2 + 175)), (3, .ref (x_b G2 + 183)), (4, .ref (x_b G2 + 184))]) rfl ?_
  refine a_aload_n C2 dL_law_931 4 rfl ?_
  refine a_aload_n C2 dL_law_932 2 rfl ?_
  refine a_iload C2 dL_law_933 1 rfl ?_
  refine a_iconst C2 dL_law_935 (v := 1) (by decide) ?_
  refine a_iadd C2 dL_law_936 ?_
  refine a_sld C2 hX hbl hbA2 (i := i + 1) (nI_add i 1) (by omega) (by omega) dL_law_937 ?_
  refine a_callV C2 (k := 175) (As := [.int (xs (i + 1))]) (rest := []) hm2 (cwV 1 C2.1.2.2.2.2 (gl_up gL_law_X12_oilOf) rfl rfl rfl (by decide +kernel) ⟨by dsimp only [x_rm, room_1]; omega, by dsimp only [x_rm, room_1]; omega⟩) x_k175 (q := (RX12, TX12, 16)) rfl rfl rfl rfl (Nat.le_of_ble_eq_true rfl) dL_law_938 ⟨hc, hs⟩ ?_
  refine a_istore C2 dL_law_941 (by decide) (lst2 := [(7, .int b0), (6, .int (nI k)), (5, .int (nI i)), (0, .ref b), (1, .ref (x_b G2 + 0)), (2, .ref (x_b G2 + 175)), (3, .ref (x_b G2 + 183)), (4, .ref (x_b G2 + 184))]) rfl ?_
  refine a_aload_n C2 dL_law_943 5 rfl ?_
  refine a_callV C2 (k := 175) (As := []) (rest := []) (c_M_thrown l G2 d2) (cwV 0 C2.1.2.2.2.2 (gl_up gL_law_X12_thrown) rfl rfl rfl (by decide +kernel) ⟨Nat.le_of_ble_eq_true rfl, Nat.le_of_ble_eq_true rfl⟩) x_k175 (q := (RX12, TX12, 16)) rfl rfl rfl rfl (Nat.le_of_ble_eq_true rfl) dL_law_944 ⟨hc, hs⟩ ?_
  refine a_iload C2 dL_law_947 1 rfl ?_
  refine a_icmp_eq C2 dL_law_949 (tgt := 954) (by decide) (fun _ => ?_) (fun hn => absurd h12 hn)
  refine a_iload C2 dL_law_954 1 rfl ?_
  have FIN : Ab G2 p l e room_1 s m args below meth c 9 (cells + 1) (slots + 6) Q 971 [(7, .int b0), (6, .int (nI k)), (5, .int (nI i)), (0, .ref b), (1, .ref (x_b G2 + 0)), (2, .ref (x_b G2 + 175)), (3, .ref (x_b G2 + 183)), (4, .ref (x_b G2 + 184))] [] d2 := a_goto C2 dL_law_971 (tgt := 3091) (by decide) (a_sub (lst2 := [(5, .int (nI i)), (0, .ref b), (1, .ref (x_b G2 + 0)), (2, .ref (x_b G2 + 175)), (3, .ref (x_b G2 + 183)), (4, .ref (x_b G2 + 184))]) [2, 3, 4, 5, 6, 7] rfl (K G2 d2 hb2 C2 hz))
  refine a_if_ne C2 dL_law_956 (tgt := 971) (by decide) (fun _ => FIN) (fun hk0 => ?_)
  have hk : k = 0 := by
    rcases Nat.eq_zero_or_pos k with y | y
    · exact y
    · exact absurd hk0 (nI_ne0 (by omega) (by omega))
  refine a_aload_n C2 dL_law_959 6 rfl ?_
  refine a_iconst C2 dL_law_960 (v := 0) (by decide) ?_
  refine a_lald C2 dL_law_961 ?_
  refine a_iload C2 dL_law_962 0 rfl ?_
  refine a_i2l C2 dL_law_964 ?_
  refine a_lcmp C2 dL_law_965 ?_
  exact a_if_eq C2 dL_law_966 (tgt := 971) (by decide) (fun _ => FIN) (fun hn => absurd ((lg_cmp_eq _ _).mpr (by rw [hl2 hk, hrb hk])) hn)
set_option maxHeartbeats 1000000 in
set_option maxRecDepth 100000 in
theorem law_12 (C : Cx G p s m args c code (wsL_law ++ ws_cl) RL 9) (hfl : l.stackTraces = false) (h : y_Z B d) (hB : B + 180 < 100000) (hX : va_X b L xs s s.heap) (hbl : b < s.heap.size) (hbA : ¬ x_A G b) (hL : L < 2000) (hi : i + 3 ≤ L) (hc : cells + 1 ≤ 603072) (hs : slots + 6 ≤ 7170154) (K : ∀ (G2 : xG) (d2 : xd), x_b G2 = x_b G → Cx G2 p s m args c code (wsL_law ++ ws_cl) RL 9 → y_Z (B + 180) d2 → Ab G2 p l e room_1 s m args below meth c 9 (cells + 1) (slots + 6) Q 3091 [(5, .int (nI i)), (0, .ref b), (1, .ref (x_b G2 + 0)), (2, .ref (x_b G2 + 175)), (3, .ref (x_b G2 + 183)), (4, .ref (x_b G2 + 184))] [] d2) : Ab G p l e room_1 s m args below meth c 9 cells slots Q 974 [(5, .int (nI i)), (0, .ref b), (1, .ref (x_b G + 0)), (2, .ref (x_b G + 175)), (3, .ref (x_b G + 183)), (4, .ref (x_b G + 184))] [] d := by
  obtain ⟨k, r, d1, hk3, hcl, hm⟩ := y_S.two (s_wickOf (l := l) hfl h hB (xs (i + 1)))
  refine a_aload_n C dL_law_974 2 rfl ?_
  refine a_aload_n C dL_law_975 1 rfl ?_
  refine a_iload C dL_law_976 0 rfl ?_
  refine a_iconst C dL_law_978 (v := 1) (by decide) ?_
  refine a_iadd C dL_law_979 ?_
  refine a_sld C hX hbl hbA (i := i + 1) (nI_add i 1) (by omega) (by omega) dL_law_980 ?_
  refine a_aload_n C dL_law_981 4 rfl ?_
  refine a_callL (G2 := (if k = 0 then x_sl G r.toInt64 else G)) (g2_sl_b _ _ _) C (As := [.ref (x_b G + 0), .int (xs (i + 1)), .ref (x_b G + 183)]) (rest := []) (w_wickOf l G d d1 _ k r hcl) (vx_cwSW 3 C.1.2.2.2.2 (gl_law gL_law_L_wickOf) rfl rfl rfl (by decide +kernel) ⟨Nat.le_of_ble_eq_true rfl, Nat.le_of_ble_eq_true rfl⟩) rfl rfl (Nat.le_of_ble_eq_true rfl) dL_law_982 ⟨hc, hs⟩ (g2_sl_D _ _ _) ?_
  have C2 := C.sl_if k r.toInt64
  have hb2 := g2_sl_b G r.toInt64 k
  have hl2 := g2_sl_v G r.toInt64 k
  generalize (if k = 0 then x_sl G r.toInt64 else G) = G2 at C2 hb2 hl2 ⊢
  have hbA2 : ¬ x_A G2 b := by
    unfold x_A
    rw [hb2]
    exact hbA
  rw [← hb2]
  obtain ⟨b0, d2, lv, hlv, hm2, h12, hrb, hz⟩ := hm G2
  refine a_istore C2 dL_law_985 (by decide) (lst2 := [(6, .int (nI k)), (5, .int (nI i)), (0, .ref b), (1, .ref (x_b G2 + 0)), (2, .ref (x_b G2 + 175)), (3, .ref (x_b G2 + 183)), (4, .ref (x_b G2 + 184))]) rfl ?_
  refine a_aload_n C2 dL_law_987 4 rfl ?_
  refine a_aload_n C2 dL_law_988 2 rfl ?_
  refine a_iload C2 dL_law_989 1 rfl ?_
  refine a_iconst C2 dL_law_991 (v := 1) (by decide) ?_
  refine a_iadd C2 dL_law_992 ?_
  refine a_sld C2 hX hbl hbA2 (i := i + 1) (nI_add i 1) (by omega) (by omega) dL_law_993 ?_
  refine a_callV C2 (k := 175) (As := [.int (xs (i + 1))]) (rest := []) hm2 (cwV 1 C2.1.2.2.2.2 (gl_up gL_law_X12_wickOf) rfl rfl rfl (by decide +kernel) ⟨by dsimp only [x_rm, room_1]; omega, by dsimp only [x_rm, room_1]; omega⟩) x_k175 (q := (RX12, TX12, 16)) rfl rfl rfl rfl (Nat.le_of_ble_eq_true rfl) dL_law_994 ⟨hc, hs⟩ ?_
  refine a_istore C2 dL_law_997 (by decide) (lst2 := [(7, .int b0), (6, .int (nI k)), (5, .int (nI i)), (0, .ref b), (1, .ref (x_b G2 + 0)), (2, .ref (x_b G2 + 175)), (3, .ref (x_b G2 + 183)), (4, .ref (x_b G2 + 184))]) rfl ?_
  refine a_aload_n C2 dL_law_999 5 rfl ?_
  refine a_callV C2 (k := 175) (As := []) (rest := []) (c_M_thrown l G2 d2) (cwV 0 C2.1.2.2.2.2 (gl_up gL_law_X12_thrown) rfl rfl rfl (by decide +kernel) ⟨Nat.le_of_ble_eq_true rfl, Nat.le_of_ble_eq_true rfl⟩) x_k175 (q := (RX12, TX12, 16)) rfl rfl rfl rfl (Nat.le_of_ble_eq_true rfl) dL_law_1000 ⟨hc, hs⟩ ?_
  refine a_iload C2 dL_law_1003 1 rfl ?_
  refine a_icmp_eq C2 dL_law_1005 (tgt := 1010) (by decide) (fun _ => ?_) (fun hn => absurd h12 hn)
  refine a_iload C2 dL_law_1010 1 rfl ?_
  have FIN : Ab G2 p l e room_1 s m args below meth c 9 (cells + 1) (slots + 6) Q 1027 [(7, .int b0), (6, .int (nI k)), (5, .int (nI i)), (0, .ref b), (1, .ref (x_b G2 + 0)), (2, .ref (x_b G2 + 175)), (3, .ref (x_b G2 + 183)), (4, .ref (x_b G2 + 184))] [] d2 := a_goto C2 dL_law_1027 (tgt := 3091) (by decide) (a_sub (lst2 := [(5, .int (nI i)), (0, .ref b), (1, .ref (x_b G2 + 0)), (2, .ref (x_b G2 + 175)), (3, .ref (x_b G2 + 183)), (4, .ref (x_b G2 + 184))]) [2, 3, 4, 5, 6, 7] rfl (K G2 d2 hb2 C2 hz))
  refine a_if_ne C2 dL_law_1012 (tgt := 1027) (by decide) (fun _ => FIN) (fun hk0 => ?_)
  have hk : k = 0 := by
    rcases Nat.eq_zero_or_pos k with y | y
    · exact y
    · exact absurd hk0 (nI_ne0 (by omega) (by omega))
  refine a_aload_n C2 dL_law_1015 6 rfl ?_
  refine a_iconst C2 dL_law_1016 (v := 0) (by decide) ?_
  refine a_lald C2 dL_law_1017 ?_
  refine a_iload C2 dL_law_1018 0 rfl ?_
  refine a_i2l C2 dL_law_1020 ?_
  refine a_lcmp C2 dL_law_1021 ?_
  exact a_if_eq C2 dL_law_1022 (tgt := 1027) (by decide) (fun _ => FIN) (fun hn => absurd ((lg_cmp_eq _ _).mpr (by rw [hl2 hk, hrb hk])) hn)
set_option maxHeartbeats 1000000 in
set_option maxRecDepth 100000 in
theorem law_13 (C : Cx G p s m args c code (wsL_law ++ ws_cl) RL 9) (hfl : l.stackTraces = false) (h : y_Z B d) (hB : B + 180 < 100000) (hX : va_X b L xs s s.heap) (hbl : b < s.heap.size) (hbA : ¬ x_A G b) (hL : L < 2000) (hi : i + 3 ≤ L) (hc : cells + 1 ≤ 603072) (hs : slots + 6 ≤ 7170154) (K : ∀ (G2 : xG) (d2 : xd), x_b G2 = x_b G → Cx G2 p s m args c code (wsL_law ++ ws_cl) RL 9 → y_Z (B + 180) d2 → Ab G2 p l e room_1 s m args below meth c 9 (cells + 1) (slots + 6) Q 3091 [(5, .int (nI i)), (0, .ref b), (1, .ref (x_b G2 + 0)), (2, .ref (x_b G2 + 175)), (3, .ref (x_b G2 + 183)), (4, .ref (x_b G2 + 184))] [] d2) : Ab G p l e room_1 s m args below meth c 9 cells slots Q 1030 [(5, .int (nI i)), (0, .ref b), (1, .ref (x_b G + 0)), (2, .ref (x_b G + 175)), (3, .ref (x_b G + 183)), (4, .ref (x_b G + 184))] [] d := by
  obtain ⟨k, r, d1, hk3, hcl, hm⟩ := y_S.two (s_balanceOf (l := l) hfl h hB (xs (i + 1)))
  refine a_aload_n C dL_law_1030 2 rfl ?_
  refine a_aload_n C dL_law_1031 1 rfl ?_
  refine a_iload C dL_law_1032 0 rfl ?_
  refine a_iconst C dL_law_1034 (v := 1) (by decide) ?_
  refine a_iadd C dL_law_1035 ?_
  refine a_sld C hX hbl hbA (i := i + 1) (nI_add i 1) (by omega) (by omega) dL_law_1036 ?_
  refine a_aload_n C dL_law_1037 4 rfl ?_
  refine a_callL (G2 := (if k = 0 then x_sl G r.toInt64 else G)) (g2_sl_b _ _ _) C (As := [.ref (x_b G + 0), .int (xs (i + 1)), .ref (x_b G + 183)]) (rest := []) (w_balanceOf l G d d1 _ k r hcl) (vx_cwSW 3 C.1.2.2.2.2 (gl_law gL_law_L_balanceOf) rfl rfl rfl (by decide +kernel) ⟨Nat.le_of_ble_eq_true rfl, Nat.le_of_ble_eq_true rfl⟩) rfl rfl (Nat.le_of_ble_eq_true rfl) dL_law_1038 ⟨hc, hs⟩ (g2_sl_D _ _ _) ?_
  have C2 := C.sl_if k r.toInt64
  have hb2 := g2_sl_b G r.toInt64 k
  have hl2 := g2_sl_v G r.toInt64 k
  generalize (if k = 0 then x_sl G r.toInt64 else G) = G2 at C2 hb2 hl2 ⊢
  have hbA2 : ¬ x_A G2 b := by
    unfold x_A
    rw [hb2]
    exact hbA
  rw [← hb2]
  obtain ⟨b0, d2, lv, hlv, hm2, h12, hrb, hz⟩ := hm G2
  refine a_istore C2 dL_law_1041 (by decide) (lst2 := [(6, .int (nI k)), (5, .int (nI i)), (0, .ref b), (1, .ref (x_b G2 + 0)), (2, .ref (x_b G2 + 175)), (3, .ref (x_b G2 + 183)), (4, .ref (x_b G2 + 184))]) rfl ?_
  refine a_aload_n C2 dL_law_1043 4 rfl ?_
  refine a_aload_n C2 dL_law_1044 2 rfl ?_
  refine a_iload C2 dL_law_1045 1 rfl ?_
  refine a_iconst C2 dL_law_1047 (v := 1) (by decide) ?_
  refine a_iadd C2 dL_law_1048 ?_
  refine a_sld C2 hX hbl hbA2 (i := i + 1) (nI_add i 1) (by omega) (by omega) dL_law_1049 ?_
  refine a_callV C2 (k := 175) (As := [.int (xs (i + 1))]) (rest := []) hm2 (cwV 1 C2.1.2.2.2.2 (gl_up gL_law_X12_balanceOf) rfl rfl rfl (by decide +kernel) ⟨by dsimp only [x_rm, room_1]; omega, by dsimp only [x_rm, room_1]; omega⟩) x_k175 (q := (RX12, TX12, 16)) rfl rfl rfl rfl (Nat.le_of_ble_eq_true rfl) dL_law_1050 ⟨hc, hs⟩ ?_
  refine a_istore C2 dL_law_1053 (by decide) (lst2 := [(7, .int b0), (6, .int (nI k)), (5, .int (nI i)), (0, .ref b), (1, .ref (x_b G2 + 0)), (2, .ref (x_b G2 + 175)), (3, .ref (x_b G2 + 183)), (4, .ref (x_b G2 + 184))]) rfl ?_
  refine a_aload_n C2 dL_law_1055 5 rfl ?_
  refine a_callV C2 (k := 175) (As := []) (rest := []) (c_M_thrown l G2 d2) (cwV 0 C2.1.2.2.2.2 (gl_up gL_law_X12_thrown) rfl rfl rfl (by decide +kernel) ⟨Nat.le_of_ble_eq_true rfl, Nat.le_of_ble_eq_true rfl⟩) x_k175 (q := (RX12, TX12, 16)) rfl rfl rfl rfl (Nat.le_of_ble_eq_true rfl) dL_law_1056 ⟨hc, hs⟩ ?_
  refine a_iload C2 dL_law_1059 1 rfl ?_
  refine a_icmp_eq C2 dL_law_1061 (tgt := 1066) (by decide) (fun _ => ?_) (fun hn => absurd h12 hn)
  refine a_iload C2 dL_law_1066 1 rfl ?_
  have FIN : Ab G2 p l e room_1 s m args below meth c 9 (cells + 1) (slots + 6) Q 1083 [(7, .int b0), (6, .int (nI k)), (5, .int (nI i)), (0, .ref b), (1, .ref (x_b G2 + 0)), (2, .ref (x_b G2 + 175)), (3, .ref (x_b G2 + 183)), (4, .ref (x_b G2 + 184))] [] d2 := a_goto C2 dL_law_1083 (tgt := 3091) (by decide) (a_sub (lst2 := [(5, .int (nI i)), (0, .ref b), (1, .ref (x_b G2 + 0)), (2, .ref (x_b G2 + 175)), (3, .ref (x_b G2 + 183)), (4, .ref (x_b G2 + 184))]) [2, 3, 4, 5, 6, 7] rfl (K G2 d2 hb2 C2 hz))
  refine a_if_ne C2 dL_law_1068 (tgt := 1083) (by decide) (fun _ => FIN) (fun hk0 => ?_)
  have hk : k = 0 := by
    rcases Nat.eq_zero_or_pos k with y | y
    · exact y
    · exact absurd hk0 (nI_ne0 (by omega) (by omega))
  refine a_aload_n C2 dL_law_1071 6 rfl ?_
  refine a_iconst C2 dL_law_1072 (v := 0) (by decide) ?_
  refine a_lald C2 dL_law_1073 ?_
  refine a_iload C2 dL_law_1074 0 rfl ?_
  refine a_i2l C2 dL_law_1076 ?_
  refine a_lcmp C2 dL_law_1077 ?_
  exact a_if_eq C2 dL_law_1078 (tgt := 1083) (by decide) (fun _ => FIN) (fun hn => absurd ((lg_cmp_eq _ _).mpr (by rw [hl2 hk, hrb hk])) hn)
set_option maxHeartbeats 1000000 in
set_option maxRecDepth 100000 in
theorem law_14 (C : Cx G p s m args c code (wsL_law ++ ws_cl) RL 9) (hfl : l.stackTraces = false) (h : y_Z B d) (hB : B + 180 < 100000) (hX : va_X b L xs s s.heap) (hbl : b < s.heap.size) (hbA : ¬ x_A G b) (hL : L < 2000) (hi : i + 3 ≤ L) (hc : cells + 1 ≤ 603072) (hs : slots + 6 ≤ 7170154) (K : ∀ (G2 : xG) (d2 : xd), x_b G2 = x_b G → Cx G2 p s m args c code (wsL_law ++ ws_cl) RL 9 → y_Z (B + 180) d2 → Ab G2 p l e room_1 s m args below meth c 9 (cells + 1) (slots + 6) Q 3091 [(5, .int (nI i)), (0, .ref b), (1, .ref (x_b G2 + 0)), (2, .ref (x_b G2 + 175)), (3, .ref (x_b G2 + 183)), (4, .ref (x_b G2 + 184))] [] d2) : Ab G p l e room_1 s m args below meth c 9 cells slots Q 1086 [(5, .int (nI i)), (0, .ref b), (1, .ref (x_b G + 0)), (2, .ref (x_b G + 175)), (3, .ref (x_b G + 183)), (4, .ref (x_b G + 184))] [] d := by
  obtain ⟨k, r, d1, hk3, hcl, hm⟩ := y_S.two (s_deliverOil (l := l) hfl h hB (xs (i + 1)))
  refine a_aload_n C dL_law_1086 2 rfl ?_
  refine a_aload_n C dL_law_1087 1 rfl ?_
  refine a_iload C dL_law_1088 0 rfl ?_
  refine a_iconst C dL_law_1090 (v := 1) (by decide) ?_
  refine a_iadd C dL_law_1091 ?_
  refine a_sld C hX hbl hbA (i := i + 1) (nI_add i 1) (by omega) (by omega) dL_law_1092 ?_
  refine a_aload_n C dL_law_1093 4 rfl ?_
  refine a_callL (G2 := (if k = 0 then x_sl G r.toInt64 else G)) (g2_sl_b _ _ _) C (As := [.ref (x_b G + 0), .int (xs (i + 1)), .ref (x_b G + 183)]) (rest := []) (w_deliverOil l G d d1 _ k r hcl) (vx_cwSW 3 C.1.2.2.2.2 (gl_law gL_law_L_deliverOil) rfl rfl rfl (by decide +kernel) ⟨Nat.le_of_ble_eq_true rfl, Nat.le_of_ble_eq_true rfl⟩) rfl rfl (Nat.le_of_ble_eq_true rfl) dL_law_1094 ⟨hc, hs⟩ (g2_sl_D _ _ _) ?_
  have C2 := C.sl_if k r.toInt64
  have hb2 := g2_sl_b G r.toInt64 k
  have hl2 := g2_sl_v G r.toInt64 k
  generalize (if k = 0 then x_sl G r.toInt64 else G) = G2 at C2 hb2 hl2 ⊢
  have hbA2 : ¬ x_A G2 b := by
    unfold x_A
    rw [hb2]
    exact hbA
  rw [← hb2]
  obtain ⟨b0, d2, lv, hlv, hm2, h12, hrb, hz⟩ := hm G2
  refine a_istore C2 dL_law_1097 (by decide) (lst2 := [(6, .int (nI k)), (5, .int (nI i)), (0, .ref b), (1, .ref (x_b G2 + 0)), (2, .ref (x_b G2 + 175)), (3, .ref (x_b G2 + 183)), (4, .ref (x_b G2 + 184))]) rfl ?_
  refine a_aload_n C2 dL_law_1099 4 rfl ?_
  refine a_aload_n C2 dL_law_1100 2 rfl ?_
  refine a_iload C2 dL_law_1101 1 rfl ?_
  refine a_iconst C2 dL_law_1103 (v := 1) (by decide) ?_
  refine a_iadd C2 dL_law_1104 ?_
  refine a_sld C2 hX hbl hbA2 (i := i + 1) (nI_add i 1) (by omega) (by omega) dL_law_1105 ?_
  refine a_callV C2 (k := 175) (As := [.int (xs (i + 1))]) (rest := []) hm2 (cwV 1 C2.1.2.2.2.2 (gl_up gL_law_X12_deliverOil) rfl rfl rfl (by decide +kernel) ⟨by dsimp only [x_rm, room_1]; omega, by dsimp only [x_rm, room_1]; omega⟩) x_k175 (q := (RX12, TX12, 16)) rfl rfl rfl rfl (Nat.le_of_ble_eq_true rfl) dL_law_1106 ⟨hc, hs⟩ ?_
  refine a_istore C2 dL_law_1109 (by decide) (lst2 := [(7, .int b0), (6, .int (nI k)), (5, .int (nI i)), (0, .ref b), (1, .ref (x_b G2 + 0)), (2, .ref (x_b G2 + 175)), (3, .ref (x_b G2 + 183)), (4, .ref (x_b G2 + 184))]) rfl ?_
  refine a_aload_n C2 dL_law_1111 5 rfl ?_
  refine a_callV C2 (k := 175) (As := []) (rest := []) (c_M_thrown l G2 d2) (cwV 0 C2.1.2.2.2.2 (gl_up gL_law_X12_thrown) rfl rfl rfl (by decide +kernel) ⟨Nat.le_of_ble_eq_true rfl, Nat.le_of_ble_eq_true rfl⟩) x_k175 (q := (RX12, TX12, 16)) rfl rfl rfl rfl (Nat.le_of_ble_eq_true rfl) dL_law_1112 ⟨hc, hs⟩ ?_
  refine a_iload C2 dL_law_1115 1 rfl ?_
  refine a_icmp_eq C2 dL_law_1117 (tgt := 1122) (by decide) (fun _ => ?_) (fun hn => absurd h12 hn)
  refine a_iload C2 dL_law_1122 1 rfl ?_
  have FIN : Ab G2 p l e room_1 s m args below meth c 9 (cells + 1) (slots + 6) Q 1139 [(7, .int b0), (6, .int (nI k)), (5, .int (nI i)), (0, .ref b), (1, .ref (x_b G2 + 0)), (2, .ref (x_b G2 + 175)), (3, .ref (x_b G2 + 183)), (4, .ref (x_b G2 + 184))] [] d2 := a_goto C2 dL_law_1139 (tgt := 3091) (by decide) (a_sub (lst2 := [(5, .int (nI i)), (0, .ref b), (1, .ref (x_b G2 + 0)), (2, .ref (x_b G2 + 175)), (3, .ref (x_b G2 + 183)), (4, .ref (x_b G2 + 184))]) [2, 3, 4, 5, 6, 7] rfl (K G2 d2 hb2 C2 hz))
  refine a_if_ne C2 dL_law_1124 (tgt := 1139) (by decide) (fun _ => FIN) (fun hk0 => ?_)
  have hk : k = 0 := by
    rcases Nat.eq_zero_or_pos k with y | y
    · exact y
    · exact absurd hk0 (nI_ne0 (by omega) (by omega))
  refine a_aload_n C2 dL_law_1127 6 rfl ?_
  refine a_iconst C2 dL_law_1128 (v := 0) (by decide) ?_
  refine a_lald C2 dL_law_1129 ?_
  refine a_iload C2 dL_law_1130 0 rfl ?_
  refine a_i2l C2 dL_law_1132 ?_
  refine a_lcmp C2 dL_law_1133 ?_
  exact a_if_eq C2 dL_law_1134 (tgt := 1139) (by decide) (fun _ => FIN) (fun hn => absurd ((lg_cmp_eq _ _).mpr (by rw [hl2 hk, hrb hk])) hn)
set_option maxHeartbeats 1000000 in
set_option maxRecDepth 100000 in
theorem law_15 (C : Cx G p s m args c code (wsL_law ++ ws_cl) RL 9) (hfl : l.stackTraces = false) (h : y_Z B d) (hB : B + 180 < 100000) (hX : va_X b L xs s s.heap) (hbl : b < s.heap.size) (hbA : ¬ x_A G b) (hL : L < 2000) (hi : i + 3 ≤ L) (hc : cells + 1 ≤ 603072) (hs : slots + 6 ≤ 7170154) (K : ∀ (G2 : xG) (d2 : xd), x_b G2 = x_b G → Cx G2 p s m args c code (wsL_law ++ ws_cl) RL 9 → y_Z (B + 180) d2 → Ab G2 p l e room_1 s m args below meth c 9 (cells + 1) (slots + 6) Q 3091 [(5, .int (nI i)), (0, .ref b), (1, .ref (x_b G2 + 0)), (2, .ref (x_b G2 + 175)), (3, .ref (x_b G2 + 183)), (4, .ref (x_b G2 + 184))] [] d2) : Ab G p l e room_1 s m args below meth c 9 cells slots Q 1142 [(5, .int (nI i)), (0, .ref b), (1, .ref (x_b G + 0)), (2, .ref (x_b G + 175)), (3, .ref (x_b G + 183)), (4, .ref (x_b G + 184))] [] d := by
  obtain ⟨k, r, d1, hk3, hcl, hm⟩ := y_S.two (s_buyOil (l := l) hfl h hB (xs (i + 1)) (xs (i + 2)))
  refine a_aload_n C dL_law_1142 2 rfl ?_
  refine a_aload_n C dL_law_1143 1 rfl ?_
  refine a_iload C dL_law_1144 0 rfl ?_
  refine a_iconst C dL_law_1146 (v := 1) (by decide) ?_
  refine a_iadd C dL_law_1147 ?_
  refine a_sld C hX hbl hbA (i := i + 1) (nI_add i 1) (by omega) (by omega) dL_law_1148 ?_
  refine a_aload_n C dL_law_1149 1 rfl ?_
  refine a_iload C dL_law_1150 0 rfl ?_
  refine a_iconst C dL_law_1152 (v := 2) (by decide) ?_
  refine a_iadd C dL_law_1153 ?_
  refine a_sld C hX hbl hbA (i := i + 2) (nI_add i 2) (by omega) (by omega) dL_law_1154 ?_
  refine a_aload_n C dL_law_1155 4 rfl ?_
  refine a_callL (G2 := (if k = 0 then x_sl G r.toInt64 else G)) (g2_sl_b _ _ _) C (As := [.ref (x_b G + 0), .int (xs (i + 1)), .int (xs (i + 2)), .ref (x_b G + 183)]) (rest := []) (w_buyOil l G d d1 _ _ k r hcl) (vx_cwSW 4 C.1.2.2.2.2 (gl_law gL_law_L_buyOil) rfl rfl rfl (by decide +kernel) ⟨Nat.le_of_ble_eq_true rfl, Nat.le_of_ble_eq_true rfl⟩) rfl rfl (Nat.le_of_ble_eq_true rfl) dL_law_1156 ⟨hc, hs⟩ (g2_sl_D _ _ _) ?_
  have C2 := C.sl_if k r.toInt64
  have hb2 := g2_sl_b G r.toInt64 k
  have hl2 := g2_sl_v G r.toInt64 k
  generalize (if k = 0 then x_sl G r.toInt64 else G) = G2 at C2 hb2 hl2 ⊢
  have hbA2 : ¬ x_A G2 b := by
    unfold x_A
    rw [hb2]
    exact hbA
  rw [← hb2]
  obtain ⟨b0, d2, lv, hlv, hm2, h12, hrb, hz⟩ := hm G2
  refine a_istore C2 dL_law_1159 (by decide) (lst2 := [(6, .int (nI k)), (5, .int (nI i)), (0, .ref b), (1, .ref (x_b G2 + 0)), (2, .ref (x_b G2 + 175)), (3, .ref (x_b G2 + 183)), (4, .ref (x_b G2 + 184))]) rfl ?_
  refine a_aload_n C2 dL_law_1161 4 rfl ?_
  refine a_aload_n C2 dL_law_1162 2 rfl ?_
  refine a_iload C2 dL_law_1163 1 rfl ?_
  refine a_iconst C2 dL_law_1165 (v := 1) (by decide) ?_
  refine a_iadd C2 dL_law_1166 ?_
  refine a_sld C2 hX hbl hbA2 (i := i + 1) (nI_add i 1) (by omega) (by omega) dL_law_1167 ?_
  refine a_aload_n C2 dL_law_1168 2 rfl ?_
  refine a_iload C2 dL_law_1169 1 rfl ?_
  refine a_iconst C2 dL_law_1171 (v := 2) (by decide) ?_
  refine a_iadd C2 dL_law_1172 ?_
  refine a_sld C2 hX hbl hbA2 (i := i + 2) (nI_add i 2) (by omega) (by omega) dL_law_1173 ?_
  refine a_callV C2 (k := 175) (As := [.int (xs (i + 1)), .int (xs (i + 2))]) (rest := []) hm2 (cwV 2 C2.1.2.2.2.2 (gl_up gL_law_X12_buyOil) rfl rfl rfl (by decide +kernel) ⟨by dsimp only [x_rm, room_1]; omega, by dsimp only [x_rm, room_1]; omega⟩) x_k175 (q := (RX12, TX12, 16)) rfl rfl rfl rfl (Nat.le_of_ble_eq_true rfl) dL_law_1174 ⟨hc, hs⟩ ?_
  refine a_istore C2 dL_law_1177 (by decide) (lst2 := [(7, .int b0), (6, .int (nI k)), (5, .int (nI i)), (0, .ref b), (1, .ref (x_b G2 + 0)), (2, .ref (x_b G2 + 175)), (3, .ref (x_b G2 + 183)), (4, .ref (x_b G2 + 184))]) rfl ?_
  refine a_aload_n C2 dL_law_1179 5 rfl ?_
  refine a_callV C2 (k := 175) (As := []) (rest := []) (c_M_thrown l G2 d2) (cwV 0 C2.1.2.2.2.2 (gl_up gL_law_X12_thrown) rfl rfl rfl (by decide +kernel) ⟨Nat.le_of_ble_eq_true rfl, Nat.le_of_ble_eq_true rfl⟩) x_k175 (q := (RX12, TX12, 16)) rfl rfl rfl rfl (Nat.le_of_ble_eq_true rfl) dL_law_1180 ⟨hc, hs⟩ ?_
  refine a_iload C2 dL_law_1183 1 rfl ?_
  refine a_icmp_eq C2 dL_law_1185 (tgt := 1190) (by decide) (fun _ => ?_) (fun hn => absurd h12 hn)
  refine a_iload C2 dL_law_1190 1 rfl ?_
  have FIN : Ab G2 p l e room_1 s m args below meth c 9 (cells + 1) (slots + 6) Q 1207 [(7, .int b0), (6, .int (nI k)), (5, .int (nI i)), (0, .ref b), (1, .ref (x_b G2 + 0)), (2, .ref (x_b G2 + 175)), (3, .ref (x_b G2 + 183)), (4, .ref (x_b G2 + 184))] [] d2 := a_goto C2 dL_law_1207 (tgt := 3091) (by decide) (a_sub (lst2 := [(5, .int (nI i)), (0, .ref b), (1, .ref (x_b G2 + 0)), (2, .ref (x_b G2 + 175)), (3, .ref (x_b G2 + 183)), (4, .ref (x_b G2 + 184))]) [2, 3, 4, 5, 6, 7] rfl (K G2 d2 hb2 C2 hz))
  refine a_if_ne C2 dL_law_1192 (tgt := 1207) (by decide) (fun _ => FIN) (fun hk0 => ?_)
  have hk : k = 0 := by
    rcases Nat.eq_zero_or_pos k with y | y
    · exact y
    · exact absurd hk0 (nI_ne0 (by omega) (by omega))
  refine a_aload_n C2 dL_law_1195 6 rfl ?_
  refine a_iconst C2 dL_law_1196 (v := 0) (by decide) ?_
  refine a_lald C2 dL_law_1197 ?_
  refine a_iload C2 dL_law_1198 0 rfl ?_
  refine a_i2l C2 dL_law_1200 ?_
  refine a_lcmp C2 dL_law_1201 ?_
  exact a_if_eq C2 dL_law_1202 (tgt := 1207) (by decide) (fun _ => FIN) (fun hn => absurd ((lg_cmp_eq _ _).mpr (by rw [hl2 hk, hrb hk])) hn)
set_option maxHeartbeats 1000000 in
set_option maxRecDepth 100000 in
theorem law_16 (C : Cx G p s m args c code (wsL_law ++ ws_cl) RL 9) (hfl : l.stackTraces = false) (h : y_Z B d) (hB : B + 180 < 100000) (hX : va_X b L xs s s.heap) (hbl : b < s.heap.size) (hbA : ¬ x_A G b) (hL : L < 2000) (hi : i + 3 ≤ L) (hc : cells + 1 ≤ 603072) (hs : slots + 6 ≤ 7170154) (K : ∀ (G2 : xG) (d2 : xd), x_b G2 = x_b G → Cx G2 p s m args c code (wsL_law ++ ws_cl) RL 9 → y_Z (B + 180) d2 → Ab G2 p l e room_1 s m args below meth c 9 (cells + 1) (slots + 6) Q 3091 [(5, .int (nI i)), (0, .ref b), (1, .ref (x_b G2 + 0)), (2, .ref (x_b G2 + 175)), (3, .ref (x_b G2 + 183)), (4, .ref (x_b G2 + 184))] [] d2) : Ab G p l e room_1 s m args below meth c 9 cells slots Q 1210 [(5, .int (nI i)), (0, .ref b), (1, .ref (x_b G + 0)), (2, .ref (x_b G + 175)), (3, .ref (x_b G + 183)), (4, .ref (x_b G + 184))] [] d := by
  obtain ⟨k, r, d1, hk3, hcl, hm⟩ := y_S.two (s_donateWicks (l := l) hfl h hB (xs (i + 1)))
  refine a_aload_n C dL_law_1210 2 rfl ?_
  refine a_aload_n C dL_law_1211 1 rfl ?_
  refine a_iload C dL_law_1212 0 rfl ?_
  refine a_iconst C dL_law_1214 (v := 1) (by decide) ?_
  refine a_iadd C dL_law_1215 ?_
  refine a_sld C hX hbl hbA (i := i + 1) (nI_add i 1) (by omega) (by omega) dL_law_1216 ?_
  refine a_aload_n C dL_law_1217 4 rfl ?_
  refine a_callL (G2 := (if k = 0 then x_sl G r.toInt64 else G)) (g2_sl_b _ _ _) C (As := [.ref (x_b G + 0), .int (xs (i + 1)), .ref (x_b G + 183)]) (rest := []) (w_donateWicks l G d d1 _ k r hcl) (vx_cwSW 3 C.1.2.2.2.2 (gl_law gL_law_L_donateWicks) rfl rfl rfl (by decide +kernel) ⟨Nat.le_of_ble_eq_true rfl, Nat.le_of_ble_eq_true rfl⟩) rfl rfl (Nat.le_of_ble_eq_true rfl) dL_law_1218 ⟨hc, hs⟩ (g2_sl_D _ _ _) ?_
  have C2 := C.sl_if k r.toInt64
  have hb2 := g2_sl_b G r.toInt64 k
  have hl2 := g2_sl_v G r.toInt64 k
  generalize (if k = 0 then x_sl G r.toInt64 else G) = G2 at C2 hb2 hl2 ⊢
  have hbA2 : ¬ x_A G2 b := by
    unfold x_A
    rw [hb2]
    exact hbA
  rw [← hb2]
  obtain ⟨b0, d2, lv, hlv, hm2, h12, hrb, hz⟩ := hm G2
  refine a_istore C2 dL_law_1221 (by decide) (lst2 := [(6, .int (nI k)), (5, .int (nI i)), (0, .ref b), (1, .ref (x_b G2 + 0)), (2, .ref (x_b G2 + 175)), (3, .ref (x_b G2 + 183)), (4, .ref (x_b G2 + 184))]) rfl ?_
  refine a_aload_n C2 dL_law_1223 4 rfl ?_
  refine a_aload_n C2 dL_law_1224 2 rfl ?_
  refine a_iload C2 dL_law_1225 1 rfl ?_
  refine a_iconst C2 dL_law_1227 (v := 1) (by decide) ?_
  refine a_iadd C2 dL_law_1228 ?_
  refine a_sld C2 hX hbl hbA2 (i := i + 1) (nI_add i 1) (by omega) (by omega) dL_law_1229 ?_
  refine a_callV C2 (k := 175) (As := [.int (xs (i + 1))]) (rest := []) hm2 (cwV 1 C2.1.2.2.2.2 (gl_up gL_law_X12_donateWicks) rfl rfl rfl (by decide +kernel) ⟨by dsimp only [x_rm, room_1]; omega, by dsimp only [x_rm, room_1]; omega⟩) x_k175 (q := (RX12, TX12, 16)) rfl rfl rfl rfl (Nat.le_of_ble_eq_true rfl) dL_law_1230 ⟨hc, hs⟩ ?_
  refine a_istore C2 dL_law_1233 (by decide) (lst2 := [(7, .int b0), (6, .int (nI k)), (5, .int (nI i)), (0, .ref b), (1, .ref (x_b G2 + 0)), (2, .ref (x_b G2 + 175)), (3, .ref (x_b G2 + 183)), (4, .ref (x_b G2 + 184))]) rfl ?_
  refine a_aload_n C2 dL_law_1235 5 rfl ?_
  refine a_callV C2 (k := 175) (As := []) (rest := []) (c_M_thrown l G2 d2) (cwV 0 C2.1.2.2.2.2 (gl_up gL_law_X12_thrown) rfl rfl rfl (by decide +kernel) ⟨Nat.le_of_ble_eq_true rfl, Nat.le_of_ble_eq_true rfl⟩) x_k175 (q := (RX12, TX12, 16)) rfl rfl rfl rfl (Nat.le_of_ble_eq_true rfl) dL_law_1236 ⟨hc, hs⟩ ?_
  refine a_iload C2 dL_law_1239 1 rfl ?_
  refine a_icmp_eq C2 dL_law_1241 (tgt := 1246) (by decide) (fun _ => ?_) (fun hn => absurd h12 hn)
  refine a_iload C2 dL_law_1246 1 rfl ?_
  have FIN : Ab G2 p l e room_1 s m args below meth c 9 (cells + 1) (slots + 6) Q 1263 [(7, .int b0), (6, .int (nI k)), (5, .int (nI i)), (0, .ref b), (1, .ref (x_b G2 + 0)), (2, .ref (x_b G2 + 175)), (3, .ref (x_b G2 + 183)), (4, .ref (x_b G2 + 184))] [] d2 := a_goto C2 dL_law_1263 (tgt := 3091) (by decide) (a_sub (lst2 := [(5, .int (nI i)), (0, .ref b), (1, .ref (x_b G2 + 0)), (2, .ref (x_b G2 + 175)), (3, .ref (x_b G2 + 183)), (4, .ref (x_b G2 + 184))]) [2, 3, 4, 5, 6, 7] rfl (K G2 d2 hb2 C2 hz))
  refine a_if_ne C2 dL_law_1248 (tgt := 1263) (by decide) (fun _ => FIN) (fun hk0 => ?_)
  have hk : k = 0 := by
    rcases Nat.eq_zero_or_pos k with y | y
    · exact y
    · exact absurd hk0 (nI_ne0 (by omega) (by omega))
  refine a_aload_n C2 dL_law_1251 6 rfl ?_
  refine a_iconst C2 dL_law_1252 (v := 0) (by decide) ?_
  refine a_lald C2 dL_law_1253 ?_
  refine a_iload C2 dL_law_1254 0 rfl ?_
  refine a_i2l C2 dL_law_1256 ?_
  refine a_lcmp C2 dL_law_1257 ?_
  exact a_if_eq C2 dL_law_1258 (tgt := 1263) (by decide) (fun _ => FIN) (fun hn => absurd ((lg_cmp_eq _ _).mpr (by rw [hl2 hk, hrb hk])) hn)
set_option maxHeartbeats 1000000 in
set_option maxRecDepth 100000 in
theorem law_17 (C : Cx G p s m args c code (wsL_law ++ ws_cl) RL 9) (hfl : l.stackTraces = false) (h : y_Z B d) (hB : B + 180 < 100000) (hX : va_X b L xs s s.heap) (hbl : b < s.heap.size) (hbA : ¬ x_A G b) (hL : L < 2000) (hi : i + 3 ≤ L) (hc : cells + 1 ≤ 603072) (hs : slots + 6 ≤ 7170154) (K : ∀ (G2 : xG) (d2 : xd), x_b G2 = x_b G → Cx G2 p s m args c code (wsL_law ++ ws_cl) RL 9 → y_Z (B + 180) d2 → Ab G2 p l e room_1 s m args below meth c 9 (cells + 1) (slots + 6) Q 3091 [(5, .int (nI i)), (0, .ref b), (1, .ref (x_b G2 + 0)), (2, .ref (x_b G2 + 175)), (3, .ref (x_b G2 + 183)), (4, .ref (x_b G2 + 184))] [] d2) : Ab G p l e room_1 s m args below meth c 9 cells slots Q 1266 [(5, .int (nI i)), (0, .ref b), (1, .ref (x_b G + 0)), (2, .ref (x_b G + 175)), (3, .ref (x_b G + 183)), (4, .ref (x_b G + 184))] [] d := by
  obtain ⟨k, r, d1, hk3, hcl, hm⟩ := y_S.two (s_giveWick (l := l) hfl h hB (xs (i + 1)) (xs (i + 2)))
  refine a_aload_n C dL_law_1266 2 rfl ?_
  refine a_aload_n C dL_law_1267 1 rfl ?_
  refine a_iload C dL_law_1268 0 rfl ?_
  refine a_iconst C dL_law_1270 (v := 1) (by decide) ?_
  refine a_iadd C dL_law_1271 ?_
  refine a_sld C hX hbl hbA (i := i + 1) (nI_add i 1) (by omega) (by omega) dL_law_1272 ?_
  refine a_aload_n C dL_law_1273 1 rfl ?_
  refine a_iload C dL_law_1274 0 rfl ?_
  refine a_iconst C dL_law_1276 (v := 2) (by decide) ?_
  refine a_iadd C dL_law_1277 ?_
  refine a_sld C hX hbl hbA (i := i + 2) (nI_add i 2) (by omega) (by omega) dL_law_1278 ?_
  refine a_aload_n C dL_law_1279 4 rfl ?_
  refine a_callL (G2 := (if k = 0 then x_sl G r.toInt64 else G)) (g2_sl_b _ _ _) C (As := [.ref (x_b G + 0), .int (xs (i + 1)), .int (xs (i + 2)), .ref (x_b G + 183)]) (rest := []) (w_giveWick l G d d1 _ _ k r hcl) (vx_cwSW 4 C.1.2.2.2.2 (gl_law gL_law_L_giveWick) rfl rfl rfl (by decide +kernel) ⟨Nat.le_of_ble_eq_true rfl, Nat.le_of_ble_eq_true rfl⟩) rfl rfl (Nat.le_of_ble_eq_true rfl) dL_law_1280 ⟨hc, hs⟩ (g2_sl_D _ _ _) ?_
  have C2 := C.sl_if k r.toInt64
  have hb2 := g2_sl_b G r.toInt64 k
  have hl2 := g2_sl_v G r.toInt64 k
  generalize (if k = 0 then x_sl G r.toInt64 else G) = G2 at C2 hb2 hl2 ⊢
  have hbA2 : ¬ x_A G2 b := by
    unfold x_A
    rw [hb2]
    exact hbA
  rw [← hb2]
  obtain ⟨b0, d2, lv, hlv, hm2, h12, hrb, hz⟩ := hm G2
  refine a_istore C2 dL_law_1283 (by decide) (lst2 := [(6, .int (nI k)), (5, .int (nI i)), (0, .ref b), (1, .ref (x_b G2 + 0)), (2, .ref (x_b G2 + 175)), (3, .ref (x_b G2 + 183)), (4, .ref (x_b G2 + 184))]) rfl ?_
  refine a_aload_n C2 dL_law_1285 4 rfl ?_
  refine a_aload_n C2 dL_law_1286 2 rfl ?_
  refine a_iload C2 dL_law_1287 1 rfl ?_
  refine a_iconst C2 dL_law_1289 (v := 1) (by decide) ?_
  refine a_iadd C2 dL_law_1290 ?_
  refine a_sld C2 hX hbl hbA2 (i := i + 1) (nI_add i 1) (by omega) (by omega) dL_law_1291 ?_
  refine a_aload_n C2 dL_law_1292 2 rfl ?_
  refine a_iload C2 dL_law_1293 1 rfl ?_
  refine a_iconst C2 dL_law_1295 (v := 2) (by decide) ?_
  refine a_iadd C2 dL_law_1296 ?_
  refine a_sld C2 hX hbl hbA2 (i := i + 2) (nI_add i 2) (by omega) (by omega) dL_law_1297 ?_
  refine a_callV C2 (k := 175) (As := [.int (xs (i + 1)), .int (xs (i + 2))]) (rest := []) hm2 (cwV 2 C2.1.2.2.2.2 (gl_up gL_law_X12_giveWick) rfl rfl rfl (by decide +kernel) ⟨by dsimp only [x_rm, room_1]; omega, by dsimp only [x_rm, room_1]; omega⟩) x_k175 (q := (RX12, TX12, 16)) rfl rfl rfl rfl (Nat.le_of_ble_eq_true rfl) dL_law_1298 ⟨hc, hs⟩ ?_
  refine a_istore C2 dL_law_1301 (by decide) (lst2 := [(7, .int b0), (6, .int (nI k)), (5, .int (nI i)), (0, .ref b), (1, .ref (x_b G2 + 0)), (2, .ref (x_b G2 + 175)), (3, .ref (x_b G2 + 183)), (4, .ref (x_b G2 + 184))]) rfl ?_
  refine a_aload_n C2 dL_law_1303 5 rfl ?_
  refine a_callV C2 (k := 175) (As := []) (rest := []) (c_M_thrown l G2 d2) (cwV 0 C2.1.2.2.2.2 (gl_up gL_law_X12_thrown) rfl rfl rfl (by decide +kernel) ⟨Nat.le_of_ble_eq_true rfl, Nat.le_of_ble_eq_true rfl⟩) x_k175 (q := (RX12, TX12, 16)) rfl rfl rfl rfl (Nat.le_of_ble_eq_true rfl) dL_law_1304 ⟨hc, hs⟩ ?_
  refine a_iload C2 dL_law_1307 1 rfl ?_
  refine a_icmp_eq C2 dL_law_1309 (tgt := 1314) (by decide) (fun _ => ?_) (fun hn => absurd h12 hn)
  refine a_iload C2 dL_law_1314 1 rfl ?_
  have FIN : Ab G2 p l e room_1 s m args below meth c 9 (cells + 1) (slots + 6) Q 1331 [(7, .int b0), (6, .int (nI k)), (5, .int (nI i)), (0, .ref b), (1, .ref (x_b G2 + 0)), (2, .ref (x_b G2 + 175)), (3, .ref (x_b G2 + 183)), (4, .ref (x_b G2 + 184))] [] d2 := a_goto C2 dL_law_1331 (tgt := 3091) (by decide) (a_sub (lst2 := [(5, .int (nI i)), (0, .ref b), (1, .ref (x_b G2 + 0)), (2, .ref (x_b G2 + 175)), (3, .ref (x_b G2 + 183)), (4, .ref (x_b G2 + 184))]) [2, 3, 4, 5, 6, 7] rfl (K G2 d2 hb2 C2 hz))
  refine a_if_ne C2 dL_law_1316 (tgt := 1331) (by decide) (fun _ => FIN) (fun hk0 => ?_)
  have hk : k = 0 := by
    rcases Nat.eq_zero_or_pos k with y | y
    · exact y
    · exact absurd hk0 (nI_ne0 (by omega) (by omega))
  refine a_aload_n C2 dL_law_1319 6 rfl ?_
  refine a_iconst C2 dL_law_1320 (v := 0) (by decide) ?_
  refine a_lald C2 dL_law_1321 ?_
  refine a_iload C2 dL_law_1322 0 rfl ?_
  refine a_i2l C2 dL_law_1324 ?_
  refine a_lcmp C2 dL_law_1325 ?_
  exact a_if_eq C2 dL_law_1326 (tgt := 1331) (by decide) (fun _ => FIN) (fun hn => absurd ((lg_cmp_eq _ _).mpr (by rw [hl2 hk, hrb hk])) hn)
set_option maxHeartbeats 1000000 in
set_option maxRecDepth 100000 in
theorem law_18 (C : Cx G p s m args c code (wsL_law ++ ws_cl) RL 9) (hfl : l.stackTraces = false) (h : y_Z B d) (hB : B + 180 < 100000) (hX : va_X b L xs s s.heap) (hbl : b < s.heap.size) (hbA : ¬ x_A G b) (hL : L < 2000) (hi : i + 3 ≤ L) (hc : cells + 1 ≤ 603072) (hs : slots + 6 ≤ 7170154) (K : ∀ (G2 : xG) (d2 : xd), x_b G2 = x_b G → Cx G2 p s m args c code (wsL_law ++ ws_cl) RL 9 → y_Z (B + 180) d2 → Ab G2 p l e room_1 s m args below meth c 9 (cells + 1) (slots + 6) Q 3091 [(5, .int (nI i)), (0, .ref b), (1, .ref (x_b G2 + 0)), (2, .ref (x_b G2 + 175)), (3, .ref (x_b G2 + 183)), (4, .ref (x_b G2 + 184))] [] d2) : Ab G p l e room_1 s m args below meth c 9 cells slots Q 1334 [(5, .int (nI i)), (0, .ref b), (1, .ref (x_b G + 0)), (2, .ref (x_b G + 175)), (3, .ref (x_b G + 183)), (4, .ref (x_b G + 184))] [] d := by
  obtain ⟨k, r, d1, hk3, hcl, hm⟩ := y_S.two (s_returnWick (l := l) hfl h hB (xs (i + 1)) (xs (i + 2)))
  refine a_aload_n C dL_law_1334 2 rfl ?_
  refine a_aload_n C dL_law_1335 1 rfl ?_
  refine a_iload C dL_law_1336 0 rfl ?_
  refine a_iconst C dL_law_1338 (v := 1) (by decide) ?_
  refine a_iadd C dL_law_1339 ?_
  refine a_sld C hX hbl hbA (i := i + 1) (nI_add i 1) (by omega) (by omega) dL_law_1340 ?_
  refine a_aload_n C dL_law_1341 1 rfl ?_
  refine a_iload C dL_law_1342 0 rfl ?_
  refine a_iconst C dL_law_1344 (v := 2) (by decide) ?_
  refine a_iadd C dL_law_1345 ?_
  refine a_sld C hX hbl hbA (i := i + 2) (nI_add i 2) (by omega) (by omega) dL_law_1346 ?_
  refine a_aload_n C dL_law_1347 4 rfl ?_
  refine a_callL (G2 := (if k = 0 then x_sl G r.toInt64 else G)) (g2_sl_b _ _ _) C (As := [.ref (x_b G + 0), .int (xs (i + 1)), .int (xs (i + 2)), .ref (x_b G + 183)]) (rest := []) (w_returnWick l G d d1 _ _ k r hcl) (vx_cwSW 4 C.1.2.2.2.2 (gl_law gL_law_L_returnWick) rfl rfl rfl (by decide +kernel) ⟨Nat.le_of_ble_eq_true rfl, Nat.le_of_ble_eq_true rfl⟩) rfl rfl (Nat.le_of_ble_eq_true rfl) dL_law_1348 ⟨hc, hs⟩ (g2_sl_D _ _ _) ?_
  have C2 := C.sl_if k r.toInt64
  have hb2 := g2_sl_b G r.toInt64 k
  have hl2 := g2_sl_v G r.toInt64 k
  generalize (if k = 0 then x_sl G r.toInt64 else G) = G2 at C2 hb2 hl2 ⊢
  have hbA2 : ¬ x_A G2 b := by
    unfold x_A
    rw [hb2]
    exact hbA
  rw [← hb2]
  obtain ⟨b0, d2, lv, hlv, hm2, h12, hrb, hz⟩ := hm G2
  refine a_istore C2 dL_law_1351 (by decide) (lst2 := [(6, .int (nI k)), (5, .int (nI i)), (0, .ref b), (1, .ref (x_b G2 + 0)), (2, .ref (x_b G2 + 175)), (3, .ref (x_b G2 + 183)), (4, .ref (x_b G2 + 184))]) rfl ?_
  refine a_aload_n C2 dL_law_1353 4 rfl ?_
  refine a_aload_n C2 dL_law_1354 2 rfl ?_
  refine a_iload C2 dL_law_1355 1 rfl ?_
  refine a_iconst C2 dL_law_1357 (v := 1) (by decide) ?_
  refine a_iadd C2 dL_law_1358 ?_
  refine a_sld C2 hX hbl hbA2 (i := i + 1) (nI_add i 1) (by omega) (by omega) dL_law_1359 ?_
  refine a_aload_n C2 dL_law_1360 2 rfl ?_
  refine a_iload C2 dL_law_1361 1 rfl ?_
  refine a_iconst C2 dL_law_1363 (v := 2) (by decide) ?_
  refine a_iadd C2 dL_law_1364 ?_
  refine a_sld C2 hX hbl hbA2 (i := i + 2) (nI_add i 2) (by omega) (by omega) dL_law_1365 ?_
  refine a_callV C2 (k := 175) (As := [.int (xs (i + 1)), .int (xs (i + 2))]) (rest := []) hm2 (cwV 2 C2.1.2.2.2.2 (gl_up gL_law_X12_returnWick) rfl rfl rfl (by decide +kernel) ⟨by dsimp only [x_rm, room_1]; omega, by dsimp only [x_rm, room_1]; omega⟩) x_k175 (q := (RX12, TX12, 16)) rfl rfl rfl rfl (Nat.le_of_ble_eq_true rfl) dL_law_1366 ⟨hc, hs⟩ ?_
  refine a_istore C2 dL_law_1369 (by decide) (lst2 := [(7, .int b0), (6, .int (nI k)), (5, .int (nI i)), (0, .ref b), (1, .ref (x_b G2 + 0)), (2, .ref (x_b G2 + 175)), (3, .ref (x_b G2 + 183)), (4, .ref (x_b G2 + 184))]) rfl ?_
  refine a_aload_n C2 dL_law_1371 5 rfl ?_
  refine a_callV C2 (k := 175) (As := []) (rest := []) (c_M_thrown l G2 d2) (cwV 0 C2.1.2.2.2.2 (gl_up gL_law_X12_thrown) rfl rfl rfl (by decide +kernel) ⟨Nat.le_of_ble_eq_true rfl, Nat.le_of_ble_eq_true rfl⟩) x_k175 (q := (RX12, TX12, 16)) rfl rfl rfl rfl (Nat.le_of_ble_eq_true rfl) dL_law_1372 ⟨hc, hs⟩ ?_
  refine a_iload C2 dL_law_1375 1 rfl ?_
  refine a_icmp_eq C2 dL_law_1377 (tgt := 1382) (by decide) (fun _ => ?_) (fun hn => absurd h12 hn)
  refine a_iload C2 dL_law_1382 1 rfl ?_
  have FIN : Ab G2 p l e room_1 s m args below meth c 9 (cells + 1) (slots + 6) Q 1399 [(7, .int b0), (6, .int (nI k)), (5, .int (nI i)), (0, .ref b), (1, .ref (x_b G2 + 0)), (2, .ref (x_b G2 + 175)), (3, .ref (x_b G2 + 183)), (4, .ref (x_b G2 + 184))] [] d2 := a_goto C2 dL_law_1399 (tgt := 3091) (by decide) (a_sub (lst2 := [(5, .int (nI i)), (0, .ref b), (1, .ref (x_b G2 + 0)), (2, .ref (x_b G2 + 175)), (3, .ref (x_b G2 + 183)), (4, .ref (x_b G2 + 184))]) [2, 3, 4, 5, 6, 7] rfl (K G2 d2 hb2 C2 hz))
  refine a_if_ne C2 dL_law_1384 (tgt := 1399) (by decide) (fun _ => FIN) (fun hk0 => ?_)
  have hk : k = 0 := by
    rcases Nat.eq_zero_or_pos k with y | y
    · exact y
    · exact absurd hk0 (nI_ne0 (by omega) (by omega))
  refine a_aload_n C2 dL_law_1387 6 rfl ?_
  refine a_iconst C2 dL_law_1388 (v := 0) (by decide) ?_
  refine a_lald C2 dL_law_1389 ?_
  refine a_iload C2 dL_law_1390 0 rfl ?_
  refine a_i2l C2 dL_law_1392 ?_
  refine a_lcmp C2 dL_law_1393 ?_
  exact a_if_eq C2 dL_law_1394 (tgt := 1399) (by decide) (fun _ => FIN) (fun hn => absurd ((lg_cmp_eq _ _).mpr (by rw [hl2 hk, hrb hk])) hn)
end LCASES
