/-! THE LAW -/
section LM
variable {l : Launch} {F : xF} {p : Program} {e : Env} {s : State} {m : MethodId} {args : Array Value} {below : List Frame} {meth : Method} {c : Code} {Q : State → Prop} {bx sb L : Nat} {dx : xd} {now many : Int32} {zv : Nat → Int32} {hs : List (Nat → Int32)} {xs : Nat → Int32}
theorem law_hin : ∀ w ∈ u_ws RX11 TX11 13, w ∈ wsL_law := fun w h => List.mem_append_left _ (List.mem_append_left _ (List.mem_append_left _ (List.mem_append_left _ (List.mem_append_left _ ((List.mem_append_left _ (List.mem_append_left _ (List.mem_append_left _ (List.mem_append_left _ (List.mem_append_left _ (List.mem_append_left _ (List.mem_append_left _ (List.mem_append_left _ (List.mem_append_left _ (List.mem_append_left _ (List.mem_append_left _ (List.mem_append_right _ h))))))))))) : _ ∈ wsL_law0))))))
theorem q_0z (b : Nat) : q_R 0 x_d0 (zt_0 b) [] := q_R_z q_0 (fun k hk => by
  show nI (([] : List Nat).getD k 0) = 0
  rfl)
set_option maxHeartbeats 2000000 in
theorem law_z (C : Mx F p s m args c cL_law wsL_law RL 9) (hfl : l.stackTraces = false) (hX : va_X sb L xs s s.heap) (hL : L < 1000) (hZ : ∀ q ∈ x_lt, vk_R "LampCooperativeLaw" q.1 q.2.1 (F.2.2 2 q.2.2) s) (hI : x_I 39000 dx zv hs zv) (hnow : now = q_hash zv) (hmany : many = zv 0)
    (K : (∀ (bx : Nat) (d : xd) (now many : Int32), Lb p l e room_1 s m args below meth c 9 (1410 + 0 + 16) (8200 + 0 + 88) Q (w_A s) (m_P F s.heap.size [(bx, d)]) 1213 [(4, .int now), (3, .int many), (1, .ref bx), (0, .ref sb)] [.int 1])) : Lb p l e room_1 s m args below meth c 9 1100 6500 Q (w_A s) (m_P F s.heap.size [(bx, dx)]) 348 [(4, .int now), (3, .int many), (1, .ref bx), (0, .ref sb)] [] := by
  obtain ⟨a3, ha3, e3⟩ := s_and (t_at L xs 13) (m := 3) (by omega)
  have eb : (1 : Int32) + (t_at L xs 13 &&& 3) = nI (1 + a3) := by rw [show t_at L xs 13 &&& 3 = nI a3 from e3]; exact nI_add 1 a3
  obtain ⟨b, hb⟩ : ∃ b, b = 1 + a3 := ⟨_, rfl⟩
  rw [← hb] at eb
  have hb5 : b < 5 := by omega
  have hb1 : 1 ≤ b := by omega
  refine l_aload_n C.1 dL_law_348 3 rfl ?_
  refine l_bipush C.1 dL_law_349 (v := 13) (by decide) ?_
  refine m_at C (k := 13) hX hL (by decide) rfl (va_cwS 2 C.1.2.2.2.2 gL_law_L_at rfl rfl rfl (by decide +kernel) ⟨Nat.le_of_ble_eq_true rfl, Nat.le_of_ble_eq_true rfl⟩) (Nat.le_of_ble_eq_true rfl) dL_law_351 ⟨Nat.le_of_ble_eq_true rfl, Nat.le_of_ble_eq_true rfl⟩ ?_
  generalize hcc : t_at L xs 13 = cc at *
  refine l_istore C.1 dL_law_354 (by decide) (lst2 := [(5, .int cc), (4, .int now), (3, .int many), (1, .ref bx), (0, .ref sb)]) rfl ?_
  refine l_iconst C.1 dL_law_356 (v := 1) (by decide) ?_
  refine l_iload C.1 dL_law_357 0 rfl ?_
  refine l_iconst C.1 dL_law_359 (v := 3) (by decide) ?_
  refine l_iand C.1 dL_law_360 ?_
  refine l_iadd C.1 dL_law_361 ?_
  refine l_top (y := (nI b)) eb ?_
  refine l_istore C.1 dL_law_362 (by decide) (lst2 := [(6, .int (nI b)), (5, .int cc), (4, .int now), (3, .int many), (1, .ref bx), (0, .ref sb)]) rfl ?_
  refine l_bipush C.1 dL_law_364 (v := 6) (by decide) ?_
  refine l_iload C.1 dL_law_366 0 rfl ?_
  refine l_imul C.1 dL_law_368 ?_
  refine l_istore C.1 dL_law_369 (by decide) (lst2 := [(7, .int ((6 : Int32) * (nI b))), (6, .int (nI b)), (5, .int cc), (4, .int now), (3, .int many), (1, .ref bx), (0, .ref sb)]) rfl ?_
  refine m_new C (index := 18) (i2 := 23) law_hin (by decide +kernel) (by decide +kernel) (by decide +kernel) (cwI 0 C.1.2.2.2.2 gL_law_X11_init rfl rfl rfl (C.1.2.2.2.2 _ (by decide +kernel)) (C.1.2.2.2.2 _ (by decide +kernel)) (C.1.2.2.2.2 _ (by decide +kernel)) rfl (by decide +kernel) ⟨Nat.le_of_ble_eq_true rfl, Nat.le_of_ble_eq_true rfl⟩) (Nat.le_of_ble_eq_true rfl) (Nat.le_of_ble_eq_true rfl) (Nat.le_of_ble_eq_true rfl) dL_law_371 dL_law_374 dL_law_375 (fun bz => ?_)
  refine l_astore C.1 dL_law_378 (by decide) (lst2 := [(8, .ref bz), (7, .int ((6 : Int32) * (nI b))), (6, .int (nI b)), (5, .int cc), (4, .int now), (3, .int many), (1, .ref bx), (0, .ref sb)]) rfl ?_
  refine l_widen (k := 1290) (n := 7900) (Nat.le_of_ble_eq_true rfl) (Nat.le_of_ble_eq_true rfl) ?_
  refine l_sub (lst2 := [(8, .ref bz), (7, .int (6 * nI b)), (6, .int (nI b)), (5, .int cc), (4, .int now), (3, .int many), (1, .ref bx), (0, .ref sb)]) [0, 1, 2, 3, 4, 5, 6, 7] rfl ?_
  refine z_3b C hfl hb5 hb1 (q_0z b) rfl (fun d1 hs1 h1 hb9 => ?_)
  refine z_4 C hfl hb5 hb1 h1 hb9 hZ (fun d2 hs2 h2 => ?_)
  refine z_5a C hfl hb5 hb1 h2 (fun d3 hs3 h3 => ?_)
  refine z_6 C hfl hb5 hb1 h3 (fun d4 hs4 h4 => ?_)
  refine z_7 C hfl hb5 hb1 h4 (fun d5 hs5 h5 => ?_)
  refine z_8 C hfl hb5 hb1 h5 (fun d6 hs6 h6 => ?_)
  refine m_drop ?_
  refine l_sub (lst2 := [(4, .int now), (3, .int many), (1, .ref bx), (0, .ref sb)]) [4, 5, 6, 7] rfl ?_
  exact x_9 C hfl hI.1 hI.2.1 hnow hmany (fun d => K _ d _ _)
theorem many_le {B : Nat} {d : xd} {z : Nat → Int32} {hs : List (Nat → Int32)} (h : q_R B d z hs) (hl : z 0 ≤ 0) : q_n z = 0 := by
  obtain ⟨⟨n, w, t⟩, -⟩ := id h
  obtain ⟨qn, qw⟩ := q_nw t
  have h8 := t.2.1.1
  rw [t.1.2.1] at hl
  have h9 := (nI_leI (a := n) (b := 0) (by omega) (by omega)).mp hl
  omega
theorem many_gt {B : Nat} {d : xd} {z : Nat → Int32} {hs : List (Nat → Int32)} (h : q_R B d z hs) (hl : ¬ z 0 ≤ 0) : ¬ q_n z = 0 := by
  obtain ⟨⟨n, w, t⟩, -⟩ := id h
  obtain ⟨qn, qw⟩ := q_nw t
  intro y
  apply hl
  rw [t.1.2.1, show n = 0 by omega]
  decide
set_option maxHeartbeats 2000000 in
theorem law_all (C : Mx F p s m args c cL_law wsL_law RL 9) (hfl : l.stackTraces = false) (hX : va_X sb L xs s s.heap) (hL : L < 1000) (hZ : ∀ q ∈ x_lt, vk_R "LampCooperativeLaw" q.1 q.2.1 (F.2.2 2 q.2.2) s)
    (K : (∀ (bx : Nat) (d : xd) (now many : Int32), Lb p l e room_1 s m args below meth c 9 (1410 + 0 + 16) (8200 + 0 + 88) Q (w_A s) (m_P F s.heap.size [(bx, d)]) 1213 [(4, .int now), (3, .int many), (1, .ref bx), (0, .ref sb)] [.int 1])) : Lb p l e room_1 s m args below meth c 9 0 0 Q (w_A s) (m_P F s.heap.size []) 0 [(0, .ref sb)] [] := by
  refine l_aload_n C.1 dL_law_0 0 rfl ?_
  refine m_build C hfl hX hL ⟨Nat.le_of_ble_eq_true rfl, Nat.le_of_ble_eq_true rfl⟩ dL_law_1 (fun bx dx hx hkx => ?_)
  refine l_astore_n C.1 dL_law_4 (by decide) (lst2 := [(1, .ref bx), (0, .ref sb)]) rfl ?_
  refine l_aload_n C.1 dL_law_5 1 rfl ?_
  refine m_build C hfl hX hL ⟨Nat.le_of_ble_eq_true rfl, Nat.le_of_ble_eq_true rfl⟩ dL_law_6 (fun by9 dy hy hky => ?_)
  refine l_astore_n C.1 dL_law_9 (by decide) (lst2 := [(2, .ref by9), (1, .ref bx), (0, .ref sb)]) rfl ?_
  refine l_aload_n C.1 dL_law_10 1 rfl ?_
  obtain ⟨d1, hm1, hq, hn, h157, -, -⟩ := q_save (l := l) hx
  have hd1 : d1 168 1 = 0 := (congrFun ((h157 168 (by omega)).trans (hkx 168 (by omega))) 1).trans rfl
  refine m_swap ?_
  refine m_callV C (b := bx) (As := []) (rest := []) (hm1 (w_B F bx)) (cwV 0 C.1.2.2.2.2 gL_law_X11_save rfl rfl rfl (by decide +kernel) ⟨Nat.le_of_ble_eq_true rfl, Nat.le_of_ble_eq_true rfl⟩) rfl rfl (Nat.le_of_ble_eq_true rfl) dL_law_11 ⟨Nat.le_of_ble_eq_true rfl, Nat.le_of_ble_eq_true rfl⟩ ?_
  refine l_istore_n C.1 dL_law_14 (by decide) (lst2 := [(3, .int ((b_m L xs 12).1 0)), (2, .ref by9), (1, .ref bx), (0, .ref sb)]) rfl ?_
  refine l_aload_n C.1 dL_law_15 2 rfl ?_
  obtain ⟨⟨n102, w102, t102⟩, -⟩ := id (hq)
  refine m_callS C (As := [.ref bx]) (rest := []) (c_L_state l (w_B F bx) _ _ _ n102 w102 t102 (fun _ h => h.2)) (va_cwS 1 C.1.2.2.2.2 gL_law_L_state rfl rfl rfl (by decide +kernel) ⟨Nat.le_of_ble_eq_true rfl, Nat.le_of_ble_eq_true rfl⟩) rfl rfl (Nat.le_of_ble_eq_true rfl) dL_law_16 ⟨Nat.le_of_ble_eq_true rfl, Nat.le_of_ble_eq_true rfl⟩ ?_
  refine l_istore C.1 dL_law_19 (by decide) (lst2 := [(4, .int (q_hash (b_m L xs 12).1)), (3, .int ((b_m L xs 12).1 0)), (2, .ref by9), (1, .ref bx), (0, .ref sb)]) rfl ?_
  refine l_aload_n C.1 dL_law_21 3 rfl ?_
  refine l_ldc C.1 (a := F.2.2 2 13) (hZ _ (List.mem_of_getElem? (i := 0) rfl)) dL_law_22 ?_
  refine m_callS C (As := [.ref bx, .ref (F.2.2 2 13)]) (rest := []) (c_L_put l (w_B F bx) _ 13 (by decide) hd1) (va_cwS 2 C.1.2.2.2.2 gL_law_L_put rfl rfl rfl (by decide +kernel) ⟨Nat.le_of_ble_eq_true rfl, Nat.le_of_ble_eq_true rfl⟩) rfl rfl (Nat.le_of_ble_eq_true rfl) dL_law_24 ⟨Nat.le_of_ble_eq_true rfl, Nat.le_of_ble_eq_true rfl⟩ ?_
  refine l_iload_n C.1 dL_law_27 1 rfl ?_
  refine l_if_le C.1 dL_law_28 (tgt := 123) (by decide) (fun h28 => ?_) (fun h28 => ?_)
  · skip
    refine m_swap ?_
    refine m_drop ?_
    refine l_widen (k := 816) (n := 5488) (Nat.le_of_ble_eq_true rfl) (Nat.le_of_ble_eq_true rfl) ?_
    refine l_sub (lst2 := [(4, .int (q_hash (b_m L xs 12).1)), (3, .int ((b_m L xs 12).1 0)), (1, .ref bx), (0, .ref sb)]) [0, 1, 3, 4] rfl ?_
    exact x_1n C hfl ⟨hq, hn, hd1⟩ (many_le hq h28) rfl (fun d hI => x_2 C hfl hI rfl hZ (fun d hI => law_z C hfl hX hL hZ hI rfl rfl K))
  · skip
    refine l_widen (k := 816) (n := 5488) (Nat.le_of_ble_eq_true rfl) (Nat.le_of_ble_eq_true rfl) ?_
    refine l_sub (lst2 := [(4, .int (q_hash (b_m L xs 12).1)), (3, .int ((b_m L xs 12).1 0)), (2, .ref by9), (1, .ref bx), (0, .ref sb)]) [0, 1, 2, 3, 4] rfl ?_
    exact x_1y C hfl ⟨hq, hn, hd1⟩ hy (many_gt hq h28) rfl (fun d hs hI => x_2 C hfl hI rfl hZ (fun d hI => law_z C hfl hX hL hZ hI rfl rfl K))
end LM
