set_option maxHeartbeats 1000000 in
set_option maxRecDepth 100000 in
theorem c_M_addLamp_1 (l : Launch) (G : xG) (d : xd) (a b : Int32) (hx : ¬ (0 ≤ a ∧ a ≤ 3) ∨ ¬ (1 ≤ b ∧ b ≤ 9)) : x_M G l yX12_addLamp wsX12_addLamp 4 0 0 [.ref (x_b G + 175), .int a, .int b] d (some (.int 0)) (g_kf (g_th (g_bg d) 1)) := by
  refine x_start (cc := cX12_addLamp) (maxL := 3) (ret := (some .int)) (own := RX12) (by decide) rfl rfl (Nat.le_of_ble_eq_true rfl) (lst := [(0, .ref (x_b G + 175)), (1, .int a), (2, .int b)]) rfl ?_
  intro p e s m args below meth c C hr hlocks
  refine a_aload_n C dX12_addLamp_0 0 rfl ?_
  refine a_callV C (k := 175) (As := []) (rest := []) (c_M_begin l G d) (cwV 0 C.1.2.2.2.2 gX12_addLamp_X12_begin rfl rfl rfl (by decide +kernel) ⟨Nat.le_of_ble_eq_true rfl, Nat.le_of_ble_eq_true rfl⟩) x_k175 (q := (RX12, TX12, 16)) rfl rfl rfl rfl (Nat.le_of_ble_eq_true rfl) dX12_addLamp_1 ⟨Nat.le_of_ble_eq_true rfl, Nat.le_of_ble_eq_true rfl⟩ ?_
  refine a_aload_n C dX12_addLamp_4 0 rfl ?_
  refine a_aload_n C dX12_addLamp_5 0 rfl ?_
  refine a_iload_n C dX12_addLamp_6 1 rfl ?_
  refine a_iload_n C dX12_addLamp_7 2 rfl ?_
  refine a_callV C (k := 175) (As := [.int a, .int b]) (rest := [.ref (x_b G + 175)]) (c_M_adds_1 l G (g_bg d) a b hx) (cwV 2 C.1.2.2.2.2 gX12_addLamp_X12_adds rfl rfl rfl (by decide +kernel) ⟨Nat.le_of_ble_eq_true rfl, Nat.le_of_ble_eq_true rfl⟩) x_k175 (q := (RX12, TX12, 16)) rfl rfl rfl rfl (Nat.le_of_ble_eq_true rfl) dX12_addLamp_8 ⟨Nat.le_of_ble_eq_true rfl, Nat.le_of_ble_eq_true rfl⟩ ?_
  refine a_callV C (k := 175) (As := [.int 0]) (rest := []) (c_M_kept_f l G (g_th (g_bg d) 1) 0 (show ¬ ((1 : Int32) = 0) by decide)) (cwV 1 C.1.2.2.2.2 gX12_addLamp_X12_kept rfl rfl rfl (by decide +kernel) ⟨Nat.le_of_ble_eq_true rfl, Nat.le_of_ble_eq_true rfl⟩) x_k175 (q := (RX12, TX12, 16)) rfl rfl rfl rfl (Nat.le_of_ble_eq_true rfl) dX12_addLamp_11 ⟨Nat.le_of_ble_eq_true rfl, Nat.le_of_ble_eq_true rfl⟩ ?_
  exact a_iret C hlocks hr dX12_addLamp_14 rfl rfl

set_option maxHeartbeats 1000000 in
set_option maxRecDepth 100000 in
theorem c_M_addLamp_2 (l : Launch) (G : xG) (d : xd) (a b : Int32) (ha : 0 ≤ a ∧ a ≤ 3) (hb : 1 ≤ b ∧ b ≤ 9) (hn : d 176 0 = 8) : x_M G l yX12_addLamp wsX12_addLamp 4 0 0 [.ref (x_b G + 175), .int a, .int b] d (some (.int 0)) (g_kf (g_th (g_bg d) 2)) := by
  refine x_start (cc := cX12_addLamp) (maxL := 3) (ret := (some .int)) (own := RX12) (by decide) rfl rfl (Nat.le_of_ble_eq_true rfl) (lst := [(0, .ref (x_b G + 175)), (1, .int a), (2, .int b)]) rfl ?_
  intro p e s m args below meth c C hr hlocks
  refine a_aload_n C dX12_addLamp_0 0 rfl ?_
  refine a_callV C (k := 175) (As := []) (rest := []) (c_M_begin l G d) (cwV 0 C.1.2.2.2.2 gX12_addLamp_X12_begin rfl rfl rfl (by decide +kernel) ⟨Nat.le_of_ble_eq_true rfl, Nat.le_of_ble_eq_true rfl⟩) x_k175 (q := (RX12, TX12, 16)) rfl rfl rfl rfl (Nat.le_of_ble_eq_true rfl) dX12_addLamp_1 ⟨Nat.le_of_ble_eq_true rfl, Nat.le_of_ble_eq_true rfl⟩ ?_
  refine a_aload_n C dX12_addLamp_4 0 rfl ?_
  refine a_aload_n C dX12_addLamp_5 0 rfl ?_
  refine a_iload_n C dX12_addLamp_6 1 rfl ?_
  refine a_iload_n C dX12_addLamp_7 2 rfl ?_
  refine a_callV C (k := 175) (As := [.int a, .int b]) (rest := [.ref (x_b G + 175)]) (c_M_adds_2 l G (g_bg d) a b ha hb hn) (cwV 2 C.1.2.2.2.2 gX12_addLamp_X12_adds rfl rfl rfl (by decide +kernel) ⟨Nat.le_of_ble_eq_true rfl, Nat.le_of_ble_eq_true rfl⟩) x_k175 (q := (RX12, TX12, 16)) rfl rfl rfl rfl (Nat.le_of_ble_eq_true rfl) dX12_addLamp_8 ⟨Nat.le_of_ble_eq_true rfl, Nat.le_of_ble_eq_true rfl⟩ ?_
  refine a_callV C (k := 175) (As := [.int 0]) (rest := []) (c_M_kept_f l G (g_th (g_bg d) 2) 0 (show ¬ ((2 : Int32) = 0) by decide)) (cwV 1 C.1.2.2.2.2 gX12_addLamp_X12_kept rfl rfl rfl (by decide +kernel) ⟨Nat.le_of_ble_eq_true rfl, Nat.le_of_ble_eq_true rfl⟩) x_k175 (q := (RX12, TX12, 16)) rfl rfl rfl rfl (Nat.le_of_ble_eq_true rfl) dX12_addLamp_11 ⟨Nat.le_of_ble_eq_true rfl, Nat.le_of_ble_eq_true rfl⟩ ?_
  exact a_iret C hlocks hr dX12_addLamp_14 rfl rfl

set_option maxHeartbeats 1000000 in
set_option maxRecDepth 100000 in
theorem c_M_addLamp (l : Launch) (G : xG) (d : xd) (c9 : Nat) (hc : d 175 3 = nI c9) (h9 : c9 ≤ 8) (a b : Int32) (n : Nat) (ha : 0 ≤ a ∧ a ≤ 3) (hb : 1 ≤ b ∧ b ≤ 9) (hn : d 176 0 = nI n) (h8 : n < 8) : x_M G l yX12_addLamp wsX12_addLamp 4 0 0 [.ref (x_b G + 175), .int a, .int b] d (some (.int (nI n))) (g_kp (g_ok (g_bg d) (g_adds (d 176) a b n)) c9) := by
  refine x_start (cc := cX12_addLamp) (maxL := 3) (ret := (some .int)) (own := RX12) (by decide) rfl rfl (Nat.le_of_ble_eq_true rfl) (lst := [(0, .ref (x_b G + 175)), (1, .int a), (2, .int b)]) rfl ?_
  intro p e s m args below meth c C hr hlocks
  refine a_aload_n C dX12_addLamp_0 0 rfl ?_
  refine a_callV C (k := 175) (As := []) (rest := []) (c_M_begin l G d) (cwV 0 C.1.2.2.2.2 gX12_addLamp_X12_begin rfl rfl rfl (by decide +kernel) ⟨Nat.le_of_ble_eq_true rfl, Nat.le_of_ble_eq_true rfl⟩) x_k175 (q := (RX12, TX12, 16)) rfl rfl rfl rfl (Nat.le_of_ble_eq_true rfl) dX12_addLamp_1 ⟨Nat.le_of_ble_eq_true rfl, Nat.le_of_ble_eq_true rfl⟩ ?_
  refine a_aload_n C dX12_addLamp_4 0 rfl ?_
  refine a_aload_n C dX12_addLamp_5 0 rfl ?_
  refine a_iload_n C dX12_addLamp_6 1 rfl ?_
  refine a_iload_n C dX12_addLamp_7 2 rfl ?_
  refine a_callV C (k := 175) (As := [.int a, .int b]) (rest := [.ref (x_b G + 175)]) (c_M_adds l G (g_bg d) a b n ha hb hn h8) (cwV 2 C.1.2.2.2.2 gX12_addLamp_X12_adds rfl rfl rfl (by decide +kernel) ⟨Nat.le_of_ble_eq_true rfl, Nat.le_of_ble_eq_true rfl⟩) x_k175 (q := (RX12, TX12, 16)) rfl rfl rfl rfl (Nat.le_of_ble_eq_true rfl) dX12_addLamp_8 ⟨Nat.le_of_ble_eq_true rfl, Nat.le_of_ble_eq_true rfl⟩ ?_
  refine a_callV C (k := 175) (As := [.int (nI n)]) (rest := []) (c_M_kept l G (g_ok (g_bg d) (g_adds (d 176) a b n)) ((nI n)) c9 rfl hc h9) (cwV 1 C.1.2.2.2.2 gX12_addLamp_X12_kept rfl rfl rfl (by decide +kernel) ⟨Nat.le_of_ble_eq_true rfl, Nat.le_of_ble_eq_true rfl⟩) x_k175 (q := (RX12, TX12, 16)) rfl rfl rfl rfl (Nat.le_of_ble_eq_true rfl) dX12_addLamp_11 ⟨Nat.le_of_ble_eq_true rfl, Nat.le_of_ble_eq_true rfl⟩ ?_
  exact a_iret C hlocks hr dX12_addLamp_14 rfl rfl

set_option maxHeartbeats 1000000 in
set_option maxRecDepth 100000 in
theorem c_M_removeLamp_1 (l : Launch) (G : xG) (d : xd) (x : Int32) (n : Nat) (hn : d 176 0 = nI n) (h8 : n ≤ 8) (hx : ¬ (0 ≤ x ∧ x < nI n)) : x_M G l yX12_removeLamp wsX12_removeLamp 4 0 0 [.ref (x_b G + 175), .int x] d (some (.int 0)) (g_kf (g_th (g_bg d) 1)) := by
  refine x_start (cc := cX12_removeLamp) (maxL := 2) (ret := (some .int)) (own := RX12) (by decide) rfl rfl (Nat.le_of_ble_eq_true rfl) (lst := [(0, .ref (x_b G + 175)), (1, .int x)]) rfl ?_
  intro p e s m args below meth c C hr hlocks
  refine a_aload_n C dX12_removeLamp_0 0 rfl ?_
  refine a_callV C (k := 175) (As := []) (rest := []) (c_M_begin l G d) (cwV 0 C.1.2.2.2.2 gX12_removeLamp_X12_begin rfl rfl rfl (by decide +kernel) ⟨Nat.le_of_ble_eq_true rfl, Nat.le_of_ble_eq_true rfl⟩) x_k175 (q := (RX12, TX12, 16)) rfl rfl rfl rfl (Nat.le_of_ble_eq_true rfl) dX12_removeLamp_1 ⟨Nat.le_of_ble_eq_true rfl, Nat.le_of_ble_eq_true rfl⟩ ?_
  refine a_aload_n C dX12_removeLamp_4 0 rfl ?_
  refine a_aload_n C dX12_removeLamp_5 0 rfl ?_
  refine a_iload_n C dX12_removeLamp_6 1 rfl ?_
  refine a_callV C (k := 175) (As := [.int x]) (rest := [.ref (x_b G + 175)]) (c_M_removes_1 l G (g_bg d) x n hn h8 hx) (cwV 1 C.1.2.2.2.2 gX12_removeLamp_X12_removes rfl rfl rfl (by decide +kernel) ⟨Nat.le_of_ble_eq_true rfl, Nat.le_of_ble_eq_true rfl⟩) x_k175 (q := (RX12, TX12, 16)) rfl rfl rfl rfl (Nat.le_of_ble_eq_true rfl) dX12_removeLamp_7 ⟨Nat.le_of_ble_eq_true rfl, Nat.le_of_ble_eq_true rfl⟩ ?_
  refine a_callV C (k := 175) (As := [.int 0]) (rest := []) (c_M_kept_f l G (g_th (g_bg d) 1) 0 (show ¬ ((1 : Int32) = 0) by decide)) (cwV 1 C.1.2.2.2.2 gX12_removeLamp_X12_kept rfl rfl rfl (by decide +kernel) ⟨Nat.le_of_ble_eq_true rfl, Nat.le_of_ble_eq_true rfl⟩) x_k175 (q := (RX12, TX12, 16)) rfl rfl rfl rfl (Nat.le_of_ble_eq_true rfl) dX12_removeLamp_10 ⟨Nat.le_of_ble_eq_true rfl, Nat.le_of_ble_eq_true rfl⟩ ?_
  exact a_iret C hlocks hr dX12_removeLamp_13 rfl rfl

set_option maxHeartbeats 1000000 in
set_option maxRecDepth 100000 in
theorem c_M_removeLamp_2 (l : Launch) (G : xG) (d : xd) (i n : Nat) (hn : d 176 0 = nI n) (h8 : n ≤ 8) (hi : i < n) (hp : 99 < d 176 4 + d 176 (46 + i)) : x_M G l yX12_removeLamp wsX12_removeLamp 4 0 0 [.ref (x_b G + 175), .int (nI i)] d (some (.int 0)) (g_kf (g_th (g_bg d) 2)) := by
  refine x_start (cc := cX12_removeLamp) (maxL := 2) (ret := (some .int)) (own := RX12) (by decide) rfl rfl (Nat.le_of_ble_eq_true rfl) (lst := [(0, .ref (x_b G + 175)), (1, .int (nI i))]) rfl ?_
  intro p e s m args below meth c C hr hlocks
  refine a_aload_n C dX12_removeLamp_0 0 rfl ?_
  refine a_callV C (k := 175) (As := []) (rest := []) (c_M_begin l G d) (cwV 0 C.1.2.2.2.2 gX12_removeLamp_X12_begin rfl rfl rfl (by decide +kernel) ⟨Nat.le_of_ble_eq_true rfl, Nat.le_of_ble_eq_true rfl⟩) x_k175 (q := (RX12, TX12, 16)) rfl rfl rfl rfl (Nat.le_of_ble_eq_true rfl) dX12_removeLamp_1 ⟨Nat.le_of_ble_eq_true rfl, Nat.le_of_ble_eq_true rfl⟩ ?_
  refine a_aload_n C dX12_removeLamp_4 0 rfl ?_
  refine a_aload_n C dX12_removeLamp_5 0 rfl ?_
  refine a_iload_n C dX12_removeLamp_6 1 rfl ?_
  refine a_callV C (k := 175) (As := [.int (nI i)]) (rest := [.ref (x_b G + 175)]) (c_M_removes_2 l G (g_bg d) i n hn h8 hi hp) (cwV 1 C.1.2.2.2.2 gX12_removeLamp_X12_removes rfl rfl rfl (by decide +kernel) ⟨Nat.le_of_ble_eq_true rfl, Nat.le_of_ble_eq_true rfl⟩) x_k175 (q := (RX12, TX12, 16)) rfl rfl rfl rfl (Nat.le_of_ble_eq_true rfl) dX12_removeLamp_7 ⟨Nat.le_of_ble_eq_true rfl, Nat.le_of_ble_eq_true rfl⟩ ?_
  refine a_callV C (k := 175) (As := [.int 0]) (rest := []) (c_M_kept_f l G (g_th (g_bg d) 2) 0 (show ¬ ((2 : Int32) = 0) by decide)) (cwV 1 C.1.2.2.2.2 gX12_removeLamp_X12_kept rfl rfl rfl (by decide +kernel) ⟨Nat.le_of_ble_eq_true rfl, Nat.le_of_ble_eq_true rfl⟩) x_k175 (q := (RX12, TX12, 16)) rfl rfl rfl rfl (Nat.le_of_ble_eq_true rfl) dX12_removeLamp_10 ⟨Nat.le_of_ble_eq_true rfl, Nat.le_of_ble_eq_true rfl⟩ ?_
  exact a_iret C hlocks hr dX12_removeLamp_13 rfl rfl

set_option maxHeartbeats 1000000 in
set_option maxRecDepth 100000 in
theorem c_M_removeLamp (l : Launch) (G : xG) (d : xd) (c9 : Nat) (hc : d 175 3 = nI c9) (h9 : c9 ≤ 8) (i n : Nat) (hn : d 176 0 = nI n) (h8 : n ≤ 8) (hi : i < n) (q : Nat) (hq : d 176 1 = nI q) (h6 : q ≤ 6) (hp : ¬ 99 < d 176 4 + d 176 (46 + i)) : x_M G l yX12_removeLamp wsX12_removeLamp 4 0 0 [.ref (x_b G + 175), .int (nI i)] d (some (.int (nI (n - 1)))) (g_kp (g_ok (g_bg d) (g_rmv (d 176) i n q)) c9) := by
  refine x_start (cc := cX12_removeLamp) (maxL := 2) (ret := (some .int)) (own := RX12) (by decide) rfl rfl (Nat.le_of_ble_eq_true rfl) (lst := [(0, .ref (x_b G + 175)), (1, .int (nI i))]) rfl ?_
  intro p e s m args below meth c C hr hlocks
  refine a_aload_n C dX12_removeLamp_0 0 rfl ?_
  refine a_callV C (k := 175) (As := []) (rest := []) (c_M_begin l G d) (cwV 0 C.1.2.2.2.2 gX12_removeLamp_X12_begin rfl rfl rfl (by decide +kernel) ⟨Nat.le_of_ble_eq_true rfl, Nat.le_of_ble_eq_true rfl⟩) x_k175 (q := (RX12, TX12, 16)) rfl rfl rfl rfl (Nat.le_of_ble_eq_true rfl) dX12_removeLamp_1 ⟨Nat.le_of_ble_eq_true rfl, Nat.le_of_ble_eq_true rfl⟩ ?_
  refine a_aload_n C dX12_removeLamp_4 0 rfl ?_
  refine a_aload_n C dX12_removeLamp_5 0 rfl ?_
  refine a_iload_n C dX12_removeLamp_6 1 rfl ?_
  refine a_callV C (k := 175) (As := [.int (nI i)]) (rest := [.ref (x_b G + 175)]) (c_M_removes l G (g_bg d) i n hn h8 hi q hq h6 hp) (cwV 1 C.1.2.2.2.2 gX12_removeLamp_X12_removes rfl rfl rfl (by decide +kernel) ⟨Nat.le_of_ble_eq_true rfl, Nat.le_of_ble_eq_true rfl⟩) x_k175 (q := (RX12, TX12, 16)) rfl rfl rfl rfl (Nat.le_of_ble_eq_true rfl) dX12_removeLamp_7 ⟨Nat.le_of_ble_eq_true rfl, Nat.le_of_ble_eq_true rfl⟩ ?_
  refine a_callV C (k := 175) (As := [.int (nI (n - 1))]) (rest := []) (c_M_kept l G (g_ok (g_bg d) (g_rmv (d 176) i n q)) ((nI (n - 1))) c9 rfl hc h9) (cwV 1 C.1.2.2.2.2 gX12_removeLamp_X12_kept rfl rfl rfl (by decide +kernel) ⟨Nat.le_of_ble_eq_true rfl, Nat.le_of_ble_eq_true rfl⟩) x_k175 (q := (RX12, TX12, 16)) rfl rfl rfl rfl (Nat.le_of_ble_eq_true rfl) dX12_removeLamp_10 ⟨Nat.le_of_ble_eq_true rfl, Nat.le_of_ble_eq_true rfl⟩ ?_
  exact a_iret C hlocks hr dX12_removeLamp_13 rfl rfl

set_option maxHeartbeats 1000000 in
set_option maxRecDepth 100000 in
theorem c_M_setShares_1 (l : Launch) (G : xG) (d : xd) (v : Int32) (x : Int32) (n : Nat) (hn : d 176 0 = nI n) (h8 : n ≤ 8) (hx : ¬ (0 ≤ x ∧ x < nI n)) : x_M G l yX12_setShares wsX12_setShares 4 0 0 [.ref (x_b G + 175), .int x, .int v] d (some (.int 0)) (g_kf (g_th (g_bg d) 1)) := by
  refine x_start (cc := cX12_setShares) (maxL := 3) (ret := (some .int)) (own := RX12) (by decide) rfl rfl (Nat.le_of_ble_eq_true rfl) (lst := [(0, .ref (x_b G + 175)), (1, .int x), (2, .int v)]) rfl ?_
  intro p e s m args below meth c C hr hlocks
  refine a_aload_n C dX12_setShares_0 0 rfl ?_
  refine a_callV C (k := 175) (As := []) (rest := []) (c_M_begin l G d) (cwV 0 C.1.2.2.2.2 gX12_setShares_X12_begin rfl rfl rfl (by decide +kernel) ⟨Nat.le_of_ble_eq_true rfl, Nat.le_of_ble_eq_true rfl⟩) x_k175 (q := (RX12, TX12, 16)) rfl rfl rfl rfl (Nat.le_of_ble_eq_true rfl) dX12_setShares_1 ⟨Nat.le_of_ble_eq_true rfl, Nat.le_of_ble_eq_true rfl⟩ ?_
  refine a_aload_n C dX12_setShares_4 0 rfl ?_
  refine a_aload_n C dX12_setShares_5 0 rfl ?_
  refine a_bipush C dX12_setShares_6 (v := 14) (by decide) ?_
  refine a_iload_n C dX12_setShares_8 1 rfl ?_
  refine a_iload_n C dX12_setShares_9 2 rfl ?_
  refine a_bipush C dX12_setShares_10 (v := 9) (by decide) ?_
  refine a_callV C (k := 175) (As := [.int 14, .int x, .int v, .int 9]) (rest := [.ref (x_b G + 175)]) (c_M_sets_1 l G (g_bg d) 14 v 9 x n hn h8 hx) (cwV 4 C.1.2.2.2.2 gX12_setShares_X12_sets rfl rfl rfl (by decide +kernel) ⟨Nat.le_of_ble_eq_true rfl, Nat.le_of_ble_eq_true rfl⟩) x_k175 (q := (RX12, TX12, 16)) rfl rfl rfl rfl (Nat.le_of_ble_eq_true rfl) dX12_setShares_12 ⟨Nat.le_of_ble_eq_true rfl, Nat.le_of_ble_eq_true rfl⟩ ?_
  refine a_callV C (k := 175) (As := [.int 0]) (rest := []) (c_M_kept_f l G (g_th (g_bg d) 1) 0 (show ¬ ((1 : Int32) = 0) by decide)) (cwV 1 C.1.2.2.2.2 gX12_setShares_X12_kept rfl rfl rfl (by decide +kernel) ⟨Nat.le_of_ble_eq_true rfl, Nat.le_of_ble_eq_true rfl⟩) x_k175 (q := (RX12, TX12, 16)) rfl rfl rfl rfl (Nat.le_of_ble_eq_true rfl) dX12_setShares_15 ⟨Nat.le_of_ble_eq_true rfl, Nat.le_of_ble_eq_true rfl⟩ ?_
  exact a_iret C hlocks hr dX12_setShares_18 rfl rfl

set_option maxHeartbeats 1000000 in
set_option maxRecDepth 100000 in
theorem c_M_setShares_2 (l : Launch) (G : xG) (d : xd) (v : Int32) (i n : Nat) (hn : d 176 0 = nI n) (h8 : n ≤ 8) (hi : i < n) (hv : ¬ (1 ≤ v ∧ v ≤ 9)) : x_M G l yX12_setShares wsX12_setShares 4 0 0 [.ref (x_b G + 175), .int (nI i), .int v] d (some (.int 0)) (g_kf (g_th (g_bg d) 2)) := by
  refine x_start (cc := cX12_setShares) (maxL := 3) (ret := (some .int)) (own := RX12) (by decide) rfl rfl (Nat.le_of_ble_eq_true rfl) (lst := [(0, .ref (x_b G + 175)), (1, .int (nI i)), (2, .int v)]) rfl ?_
  intro p e s m args below meth c C hr hlocks
  refine a_aload_n C dX12_setShares_0 0 rfl ?_
  refine a_callV C (k := 175) (As := []) (rest := []) (c_M_begin l G d) (cwV 0 C.1.2.2.2.2 gX12_setShares_X12_begin rfl rfl rfl (by decide +kernel) ⟨Nat.le_of_ble_eq_true rfl, Nat.le_of_ble_eq_true rfl⟩) x_k175 (q := (RX12, TX12, 16)) rfl rfl rfl rfl (Nat.le_of_ble_eq_true rfl) dX12_setShares_1 ⟨Nat.le_of_ble_eq_true rfl, Nat.le_of_ble_eq_true rfl⟩ ?_
  refine a_aload_n C dX12_setShares_4 0 rfl ?_
  refine a_aload_n C dX12_setShares_5 0 rfl ?_
  refine a_bipush C dX12_setShares_6 (v := 14) (by decide) ?_
  refine a_iload_n C dX12_setShares_8 1 rfl ?_
  refine a_iload_n C dX12_setShares_9 2 rfl ?_
  refine a_bipush C dX12_setShares_10 (v := 9) (by decide) ?_
  refine a_callV C (k := 175) (As := [.int 14, .int (nI i), .int v, .int 9]) (rest := [.ref (x_b G + 175)]) (c_M_sets_2 l G (g_bg d) 14 v 9 i n hn h8 hi hv) (cwV 4 C.1.2.2.2.2 gX12_setShares_X12_sets rfl rfl rfl (by decide +kernel) ⟨Nat.le_of_ble_eq_true rfl, Nat.le_of_ble_eq_true rfl⟩) x_k175 (q := (RX12, TX12, 16)) rfl rfl rfl rfl (Nat.le_of_ble_eq_true rfl) dX12_setShares_12 ⟨Nat.le_of_ble_eq_true rfl, Nat.le_of_ble_eq_true rfl⟩ ?_
  refine a_callV C (k := 175) (As := [.int 0]) (rest := []) (c_M_kept_f l G (g_th (g_bg d) 2) 0 (show ¬ ((2 : Int32) = 0) by decide)) (cwV 1 C.1.2.2.2.2 gX12_setShares_X12_kept rfl rfl rfl (by decide +kernel) ⟨Nat.le_of_ble_eq_true rfl, Nat.le_of_ble_eq_true rfl⟩) x_k175 (q := (RX12, TX12, 16)) rfl rfl rfl rfl (Nat.le_of_ble_eq_true rfl) dX12_setShares_15 ⟨Nat.le_of_ble_eq_true rfl, Nat.le_of_ble_eq_true rfl⟩ ?_
  exact a_iret C hlocks hr dX12_setShares_18 rfl rfl

set_option maxHeartbeats 1000000 in
set_option maxRecDepth 100000 in
theorem c_M_setShares (l : Launch) (G : xG) (d : xd) (c9 : Nat) (hc : d 175 3 = nI c9) (h9 : c9 ≤ 8) (v : Int32) (i n : Nat) (hn : d 176 0 = nI n) (h8 : n ≤ 8) (hi : i < n) (hv : 1 ≤ v ∧ v ≤ 9) : x_M G l yX12_setShares wsX12_setShares 4 0 0 [.ref (x_b G + 175), .int (nI i), .int v] d (some (.int (d 176 (14 + i)))) (g_kp (g_ok (g_bg d) (upd (d 176) (14 + i) v)) c9) := by
  refine x_start (cc := cX12_setShares) (maxL := 3) (ret := (some .int)) (own := RX12) (by decide) rfl rfl (Nat.le_of_ble_eq_true rfl) (lst := [(0, .ref (x_b G + 175)), (1, .int (nI i)), (2, .int v)]) rfl ?_
  intro p e s m args below meth c C hr hlocks
  refine a_aload_n C dX12_setShares_0 0 rfl ?_
  refine a_callV C (k := 175) (As := []) (rest := []) (c_M_begin l G d) (cwV 0 C.1.2.2.2.2 gX12_setShares_X12_begin rfl rfl rfl (by decide +kernel) ⟨Nat.le_of_ble_eq_true rfl, Nat.le_of_ble_eq_true rfl⟩) x_k175 (q := (RX12, TX12, 16)) rfl rfl rfl rfl (Nat.le_of_ble_eq_true rfl) dX12_setShares_1 ⟨Nat.le_of_ble_eq_true rfl, Nat.le_of_ble_eq_true rfl⟩ ?_
  refine a_aload_n C dX12_setShares_4 0 rfl ?_
  refine a_aload_n C dX12_setShares_5 0 rfl ?_
  refine a_bipush C dX12_setShares_6 (v := 14) (by decide) ?_
  refine a_iload_n C dX12_setShares_8 1 rfl ?_
  refine a_iload_n C dX12_setShares_9 2 rfl ?_
  refine a_bipush C dX12_setShares_10 (v := 9) (by decide) ?_
  refine a_callV C (k := 175) (As := [.int 14, .int (nI i), .int v, .int 9]) (rest := [.ref (x_b G + 175)]) (c_M_sets l G (g_bg d) 14 (by omega) v 9 i n hn h8 hi hv) (cwV 4 C.1.2.2.2.2 gX12_setShares_X12_sets rfl rfl rfl (by decide +kernel) ⟨Nat.le_of_ble_eq_true rfl, Nat.le_of_ble_eq_true rfl⟩) x_k175 (q := (RX12, TX12, 16)) rfl rfl rfl rfl (Nat.le_of_ble_eq_true rfl) dX12_setShares_12 ⟨Nat.le_of_ble_eq_true rfl, Nat.le_of_ble_eq_true rfl⟩ ?_
  refine a_callV C (k := 175) (As := [.int (d 176 (14 + i))]) (rest := []) (c_M_kept l G (g_ok (g_bg d) (upd (d 176) (14 + i) v)) ((d 176 (14 + i))) c9 rfl hc h9) (cwV 1 C.1.2.2.2.2 gX12_setShares_X12_kept rfl rfl rfl (by decide +kernel) ⟨Nat.le_of_ble_eq_true rfl, Nat.le_of_ble_eq_true rfl⟩) x_k175 (q := (RX12, TX12, 16)) rfl rfl rfl rfl (Nat.le_of_ble_eq_true rfl) dX12_setShares_15 ⟨Nat.le_of_ble_eq_true rfl, Nat.le_of_ble_eq_true rfl⟩ ?_
  exact a_iret C hlocks hr dX12_setShares_18 rfl rfl

set_option maxHeartbeats 1000000 in
set_option maxRecDepth 100000 in
theorem c_M_setBrightness_1 (l : Launch) (G : xG) (d : xd) (v : Int32) (x : Int32) (n : Nat) (hn : d 176 0 = nI n) (h8 : n ≤ 8) (hx : ¬ (0 ≤ x ∧ x < nI n)) : x_M G l yX12_setBrightness wsX12_setBrightness 4 0 0 [.ref (x_b G + 175), .int x, .int v] d (some (.int 0)) (g_kf (g_th (g_bg d) 1)) := by
  refine x_start (cc := cX12_setBrightness) (maxL := 3) (ret := (some .int)) (own := RX12) (by decide) rfl rfl (Nat.le_of_ble_eq_true rfl) (lst := [(0, .ref (x_b G + 175)), (1, .int x), (2, .int v)]) rfl ?_
  intro p e s m args below meth c C hr hlocks
  refine a_aload_n C dX12_setBrightness_0 0 rfl ?_
  refine a_callV C (k := 175) (As := []) (rest := []) (c_M_begin l G d) (cwV 0 C.1.2.2.2.2 gX12_setBrightness_X12_begin rfl rfl rfl (by decide +kernel) ⟨Nat.le_of_ble_eq_true rfl, Nat.le_of_ble_eq_true rfl⟩) x_k175 (q := (RX12, TX12, 16)) rfl rfl rfl rfl (Nat.le_of_ble_eq_true rfl) dX12_setBrightness_1 ⟨Nat.le_of_ble_eq_true rfl, Nat.le_of_ble_eq_true rfl⟩ ?_
  refine a_aload_n C dX12_setBrightness_4 0 rfl ?_
  refine a_aload_n C dX12_setBrightness_5 0 rfl ?_
  refine a_bipush C dX12_setBrightness_6 (v := 22) (by decide) ?_
  refine a_iload_n C dX12_setBrightness_8 1 rfl ?_
  refine a_iload_n C dX12_setBrightness_9 2 rfl ?_
  refine a_iconst C dX12_setBrightness_10 (v := 5) (by decide) ?_
  refine a_callV C (k := 175) (As := [.int 22, .int x, .int v, .int 5]) (rest := [.ref (x_b G + 175)]) (c_M_sets_1 l G (g_bg d) 22 v 5 x n hn h8 hx) (cwV 4 C.1.2.2.2.2 gX12_setBrightness_X12_sets rfl rfl rfl (by decide +kernel) ⟨Nat.le_of_ble_eq_true rfl, Nat.le_of_ble_eq_true rfl⟩) x_k175 (q := (RX12, TX12, 16)) rfl rfl rfl rfl (Nat.le_of_ble_eq_true rfl) dX12_setBrightness_11 ⟨Nat.le_of_ble_eq_true rfl, Nat.le_of_ble_eq_true rfl⟩ ?_
  refine a_callV C (k := 175) (As := [.int 0]) (rest := []) (c_M_kept_f l G (g_th (g_bg d) 1) 0 (show ¬ ((1 : Int32) = 0) by decide)) (cwV 1 C.1.2.2.2.2 gX12_setBrightness_X12_kept rfl rfl rfl (by decide +kernel) ⟨Nat.le_of_ble_eq_true rfl, Nat.le_of_ble_eq_true rfl⟩) x_k175 (q := (RX12, TX12, 16)) rfl rfl rfl rfl (Nat.le_of_ble_eq_true rfl) dX12_setBrightness_14 ⟨Nat.le_of_ble_eq_true rfl, Nat.le_of_ble_eq_true rfl⟩ ?_
  exact a_iret C hlocks hr dX12_setBrightness_17 rfl rfl

set_option maxHeartbeats 1000000 in
set_option maxRecDepth 100000 in
theorem c_M_setBrightness_2 (l : Launch) (G : xG) (d : xd) (v : Int32) (i n : Nat) (hn : d 176 0 = nI n) (h8 : n ≤ 8) (hi : i < n) (hv : ¬ (1 ≤ v ∧ v ≤ 5)) : x_M G l yX12_setBrightness wsX12_setBrightness 4 0 0 [.ref (x_b G + 175), .int (nI i), .int v] d (some (.int 0)) (g_kf (g_th (g_bg d) 2)) := by
  refine x_start (cc := cX12_setBrightness) (maxL := 3) (ret := (some .int)) (own := RX12) (by decide) rfl rfl (Nat.le_of_ble_eq_true rfl) (lst := [(0, .ref (x_b G + 175)), (1, .int (nI i)), (2, .int v)]) rfl ?_
  intro p e s m args below meth c C hr hlocks
  refine a_aload_n C dX12_setBrightness_0 0 rfl ?_
  refine a_callV C (k := 175) (As := []) (rest := []) (c_M_begin l G d) (cwV 0 C.1.2.2.2.2 gX12_setBrightness_X12_begin rfl rfl rfl (by decide +kernel) ⟨Nat.le_of_ble_eq_true rfl, Nat.le_of_ble_eq_true rfl⟩) x_k175 (q := (RX12, TX12, 16)) rfl rfl rfl rfl (Nat.le_of_ble_eq_true rfl) dX12_setBrightness_1 ⟨Nat.le_of_ble_eq_true rfl, Nat.le_of_ble_eq_true rfl⟩ ?_
  refine a_aload_n C dX12_setBrightness_4 0 rfl ?_
  refine a_aload_n C dX12_setBrightness_5 0 rfl ?_
  refine a_bipush C dX12_setBrightness_6 (v := 22) (by decide) ?_
  refine a_iload_n C dX12_setBrightness_8 1 rfl ?_
  refine a_iload_n C dX12_setBrightness_9 2 rfl ?_
  refine a_iconst C dX12_setBrightness_10 (v := 5) (by decide) ?_
  refine a_callV C (k := 175) (As := [.int 22, .int (nI i), .int v, .int 5]) (rest := [.ref (x_b G + 175)]) (c_M_sets_2 l G (g_bg d) 22 v 5 i n hn h8 hi hv) (cwV 4 C.1.2.2.2.2 gX12_setBrightness_X12_sets rfl rfl rfl (by decide +kernel) ⟨Nat.le_of_ble_eq_true rfl, Nat.le_of_ble_eq_true rfl⟩) x_k175 (q := (RX12, TX12, 16)) rfl rfl rfl rfl (Nat.le_of_ble_eq_true rfl) dX12_setBrightness_11 ⟨Nat.le_of_ble_eq_true rfl, Nat.le_of_ble_eq_true rfl⟩ ?_
  refine a_callV C (k := 175) (As := [.int 0]) (rest := []) (c_M_kept_f l G (g_th (g_bg d) 2) 0 (show ¬ ((2 : Int32) = 0) by decide)) (cwV 1 C.1.2.2.2.2 gX12_setBrightness_X12_kept rfl rfl rfl (by decide +kernel) ⟨Nat.le_of_ble_eq_true rfl, Nat.le_of_ble_eq_true rfl⟩) x_k175 (q := (RX12, TX12, 16)) rfl rfl rfl rfl (Nat.le_of_ble_eq_true rfl) dX12_setBrightness_14 ⟨Nat.le_of_ble_eq_true rfl, Nat.le_of_ble_eq_true rfl⟩ ?_
  exact a_iret C hlocks hr dX12_setBrightness_17 rfl rfl

set_option maxHeartbeats 1000000 in
set_option maxRecDepth 100000 in
theorem c_M_setBrightness (l : Launch) (G : xG) (d : xd) (c9 : Nat) (hc : d 175 3 = nI c9) (h9 : c9 ≤ 8) (v : Int32) (i n : Nat) (hn : d 176 0 = nI n) (h8 : n ≤ 8) (hi : i < n) (hv : 1 ≤ v ∧ v ≤ 5) : x_M G l yX12_setBrightness wsX12_setBrightness 4 0 0 [.ref (x_b G + 175), .int (nI i), .int v] d (some (.int (d 176 (22 + i)))) (g_kp (g_ok (g_bg d) (upd (d 176) (22 + i) v)) c9) := by
  refine x_start (cc := cX12_setBrightness) (maxL := 3) (ret := (some .int)) (own := RX12) (by decide) rfl rfl (Nat.le_of_ble_eq_true rfl) (lst := [(0, .ref (x_b G + 175)), (1, .int (nI i)), (2, .int v)]) rfl ?_
  intro p e s m args below meth c C hr hlocks
  refine a_aload_n C dX12_setBrightness_0 0 rfl ?_
  refine a_callV C (k := 175) (As := []) (rest := []) (c_M_begin l G d) (cwV 0 C.1.2.2.2.2 gX12_setBrightness_X12_begin rfl rfl rfl (by decide +kernel) ⟨Nat.le_of_ble_eq_true rfl, Nat.le_of_ble_eq_true rfl⟩) x_k175 (q := (RX12, TX12, 16)) rfl rfl rfl rfl (Nat.le_of_ble_eq_true rfl) dX12_setBrightness_1 ⟨Nat.le_of_ble_eq_true rfl, Nat.le_of_ble_eq_true rfl⟩ ?_
  refine a_aload_n C dX12_setBrightness_4 0 rfl ?_
  refine a_aload_n C dX12_setBrightness_5 0 rfl ?_
  refine a_bipush C dX12_setBrightness_6 (v := 22) (by decide) ?_
  refine a_iload_n C dX12_setBrightness_8 1 rfl ?_
  refine a_iload_n C dX12_setBrightness_9 2 rfl ?_
  refine a_iconst C dX12_setBrightness_10 (v := 5) (by decide) ?_
  refine a_callV C (k := 175) (As := [.int 22, .int (nI i), .int v, .int 5]) (rest := [.ref (x_b G + 175)]) (c_M_sets l G (g_bg d) 22 (by omega) v 5 i n hn h8 hi hv) (cwV 4 C.1.2.2.2.2 gX12_setBrightness_X12_sets rfl rfl rfl (by decide +kernel) ⟨Nat.le_of_ble_eq_true rfl, Nat.le_of_ble_eq_true rfl⟩) x_k175 (q := (RX12, TX12, 16)) rfl rfl rfl rfl (Nat.le_of_ble_eq_true rfl) dX12_setBrightness_11 ⟨Nat.le_of_ble_eq_true rfl, Nat.le_of_ble_eq_true rfl⟩ ?_
  refine a_callV C (k := 175) (As := [.int (d 176 (22 + i))]) (rest := []) (c_M_kept l G (g_ok (g_bg d) (upd (d 176) (22 + i) v)) ((d 176 (22 + i))) c9 rfl hc h9) (cwV 1 C.1.2.2.2.2 gX12_setBrightness_X12_kept rfl rfl rfl (by decide +kernel) ⟨Nat.le_of_ble_eq_true rfl, Nat.le_of_ble_eq_true rfl⟩) x_k175 (q := (RX12, TX12, 16)) rfl rfl rfl rfl (Nat.le_of_ble_eq_true rfl) dX12_setBrightness_14 ⟨Nat.le_of_ble_eq_true rfl, Nat.le_of_ble_eq_true rfl⟩ ?_
  exact a_iret C hlocks hr dX12_setBrightness_17 rfl rfl

theorem x_if01 (c : Prop) [Decidable c] : (if c then (0 : Int32) else 1) = x_bi (¬ c) := by
  unfold x_bi
  by_cases h : c
  · rw [if_pos h, if_neg (fun z => z h)]
  · rw [if_neg h, if_pos h]
set_option maxHeartbeats 1000000 in
set_option maxRecDepth 100000 in
theorem c_M_switchOn_1 (l : Launch) (G : xG) (d : xd) (x : Int32) (n : Nat) (hn : d 176 0 = nI n) (h8 : n ≤ 8) (hx : ¬ (0 ≤ x ∧ x < nI n)) : x_M G l yX12_switchOn wsX12_switchOn 4 0 0 [.ref (x_b G + 175), .int x] d (some (.int 0)) (g_kf (g_th (g_bg d) 1)) := by
  refine x_start (cc := cX12_switchOn) (maxL := 2) (ret := (some .boolean)) (own := RX12) (by decide) rfl rfl (Nat.le_of_ble_eq_true rfl) (lst := [(0, .ref (x_b G + 175)), (1, .int x)]) rfl ?_
  intro p e s m args below meth c C hr hlocks
  refine a_aload_n C dX12_switchOn_0 0 rfl ?_
  refine a_callV C (k := 175) (As := []) (rest := []) (c_M_begin l G d) (cwV 0 C.1.2.2.2.2 gX12_switchOn_X12_begin rfl rfl rfl (by decide +kernel) ⟨Nat.le_of_ble_eq_true rfl, Nat.le_of_ble_eq_true rfl⟩) x_k175 (q := (RX12, TX12, 16)) rfl rfl rfl rfl (Nat.le_of_ble_eq_true rfl) dX12_switchOn_1 ⟨Nat.le_of_ble_eq_true rfl, Nat.le_of_ble_eq_true rfl⟩ ?_
  refine a_aload_n C dX12_switchOn_4 0 rfl ?_
  refine a_aload_n C dX12_switchOn_5 0 rfl ?_
  refine a_iload_n C dX12_switchOn_6 1 rfl ?_
  refine a_iconst C dX12_switchOn_7 (v := 0) (by decide) ?_
  refine a_callV C (k := 175) (As := [.int x, .int 0]) (rest := [.ref (x_b G + 175)]) (c_M_switches_1 l G (g_bg d) 0 x n hn h8 hx) (cwV 2 C.1.2.2.2.2 gX12_switchOn_X12_switches rfl rfl rfl (by decide +kernel) ⟨Nat.le_of_ble_eq_true rfl, Nat.le_of_ble_eq_true rfl⟩) x_k175 (q := (RX12, TX12, 16)) rfl rfl rfl rfl (Nat.le_of_ble_eq_true rfl) dX12_switchOn_8 ⟨Nat.le_of_ble_eq_true rfl, Nat.le_of_ble_eq_true rfl⟩ ?_
  refine a_callV C (k := 175) (As := [.int 0]) (rest := []) (c_M_kept_f l G (g_th (g_bg d) 1) 0 (show ¬ ((1 : Int32) = 0) by decide)) (cwV 1 C.1.2.2.2.2 gX12_switchOn_X12_kept rfl rfl rfl (by decide +kernel) ⟨Nat.le_of_ble_eq_true rfl, Nat.le_of_ble_eq_true rfl⟩) x_k175 (q := (RX12, TX12, 16)) rfl rfl rfl rfl (Nat.le_of_ble_eq_true rfl) dX12_switchOn_11 ⟨Nat.le_of_ble_eq_true rfl, Nat.le_of_ble_eq_true rfl⟩ ?_
  refine a_iconst C dX12_switchOn_14 (v := 1) (by decide) ?_
  refine a_icmp_ne C dX12_switchOn_15 (tgt := 22) (by decide) (fun _ => ?_) (fun h => absurd h (by decide))
  refine a_iconst C dX12_switchOn_22 (v := 0) (by decide) ?_
  exact a_zret C hlocks hr rfl dX12_switchOn_23 rfl rfl

set_option maxHeartbeats 1000000 in
set_option maxRecDepth 100000 in
theorem c_M_switchOn (l : Launch) (G : xG) (d : xd) (c9 : Nat) (hc : d 175 3 = nI c9) (h9 : c9 ≤ 8) (i n : Nat) (hn : d 176 0 = nI n) (h8 : n ≤ 8) (hi : i < n) : x_M G l yX12_switchOn wsX12_switchOn 4 0 0 [.ref (x_b G + 175), .int (nI i)] d (some (.int (x_bi (¬ d 176 (30 + i) = 0)))) (g_kp (g_ok (g_bg d) (upd (d 176) (30 + i) 0)) c9) := by
  refine x_start (cc := cX12_switchOn) (maxL := 2) (ret := (some .boolean)) (own := RX12) (by decide) rfl rfl (Nat.le_of_ble_eq_true rfl) (lst := [(0, .ref (x_b G + 175)), (1, .int (nI i))]) rfl ?_
  intro p e s m args below meth c C hr hlocks
  refine a_aload_n C dX12_switchOn_0 0 rfl ?_
  refine a_callV C (k := 175) (As := []) (rest := []) (c_M_begin l G d) (cwV 0 C.1.2.2.2.2 gX12_switchOn_X12_begin rfl rfl rfl (by decide +kernel) ⟨Nat.le_of_ble_eq_true rfl, Nat.le_of_ble_eq_true rfl⟩) x_k175 (q := (RX12, TX12, 16)) rfl rfl rfl rfl (Nat.le_of_ble_eq_true rfl) dX12_switchOn_1 ⟨Nat.le_of_ble_eq_true rfl, Nat.le_of_ble_eq_true rfl⟩ ?_
  refine a_aload_n C dX12_switchOn_4 0 rfl ?_
  refine a_aload_n C dX12_switchOn_5 0 rfl ?_
  refine a_iload_n C dX12_switchOn_6 1 rfl ?_
  refine a_iconst C dX12_switchOn_7 (v := 0) (by decide) ?_
  refine a_callV C (k := 175) (As := [.int (nI i), .int 0]) (rest := [.ref (x_b G + 175)]) (c_M_switches l G (g_bg d) 0 i n hn h8 hi) (cwV 2 C.1.2.2.2.2 gX12_switchOn_X12_switches rfl rfl rfl (by decide +kernel) ⟨Nat.le_of_ble_eq_true rfl, Nat.le_of_ble_eq_true rfl⟩) x_k175 (q := (RX12, TX12, 16)) rfl rfl rfl rfl (Nat.le_of_ble_eq_true rfl) dX12_switchOn_8 ⟨Nat.le_of_ble_eq_true rfl, Nat.le_of_ble_eq_true rfl⟩ ?_
  refine a_top (y := x_bi (¬ d 176 (30 + i) = 0)) (x_if01 _) ?_
  refine a_callV C (k := 175) (As := [.int (x_bi (¬ d 176 (30 + i) = 0))]) (rest := []) (c_M_kept l G (g_ok (g_bg d) (upd (d 176) (30 + i) 0)) (x_bi (¬ d 176 (30 + i) = 0)) c9 rfl hc h9) (cwV 1 C.1.2.2.2.2 gX12_switchOn_X12_kept rfl rfl rfl (by decide +kernel) ⟨Nat.le_of_ble_eq_true rfl, Nat.le_of_ble_eq_true rfl⟩) x_k175 (q := (RX12, TX12, 16)) rfl rfl rfl rfl (Nat.le_of_ble_eq_true rfl) dX12_switchOn_11 ⟨Nat.le_of_ble_eq_true rfl, Nat.le_of_ble_eq_true rfl⟩ ?_
  refine a_iconst C dX12_switchOn_14 (v := 1) (by decide) ?_
  refine a_icmp_ne C dX12_switchOn_15 (tgt := 22) (by decide) (fun h15 => ?_) (fun h15 => ?_)
  · skip
    refine a_iconst C dX12_switchOn_22 (v := 0) (by decide) ?_
    exact a_zret C hlocks hr rfl dX12_switchOn_23 (x_bi_f (fun z => h15 (x_bi_t z))).symm rfl
  · skip
    refine a_iconst C dX12_switchOn_18 (v := 1) (by decide) ?_
    refine a_goto C dX12_switchOn_19 (tgt := 23) (by decide) ?_
    exact a_zret C hlocks hr rfl dX12_switchOn_23 (Decidable.not_not.mp (fun q => q h15)).symm rfl

set_option maxHeartbeats 1000000 in
set_option maxRecDepth 100000 in
theorem c_M_switchOff_1 (l : Launch) (G : xG) (d : xd) (x : Int32) (n : Nat) (hn : d 176 0 = nI n) (h8 : n ≤ 8) (hx : ¬ (0 ≤ x ∧ x < nI n)) : x_M G l yX12_switchOff wsX12_switchOff 4 0 0 [.ref (x_b G + 175), .int x] d (some (.int 0)) (g_kf (g_th (g_bg d) 1)) := by
  refine x_start (cc := cX12_switchOff) (maxL := 2) (ret := (some .boolean)) (own := RX12) (by decide) rfl rfl (Nat.le_of_ble_eq_true rfl) (lst := [(0, .ref (x_b G + 175)), (1, .int x)]) rfl ?_
  intro p e s m args below meth c C hr hlocks
  refine a_aload_n C dX12_switchOff_0 0 rfl ?_
  refine a_callV C (k := 175) (As := []) (rest := []) (c_M_begin l G d) (cwV 0 C.1.2.2.2.2 gX12_switchOff_X12_begin rfl rfl rfl (by decide +kernel) ⟨Nat.le_of_ble_eq_true rfl, Nat.le_of_ble_eq_true rfl⟩) x_k175 (q := (RX12, TX12, 16)) rfl rfl rfl rfl (Nat.le_of_ble_eq_true rfl) dX12_switchOff_1 ⟨Nat.le_of_ble_eq_true rfl, Nat.le_of_ble_eq_true rfl⟩ ?_
  refine a_aload_n C dX12_switchOff_4 0 rfl ?_
  refine a_aload_n C dX12_switchOff_5 0 rfl ?_
  refine a_iload_n C dX12_switchOff_6 1 rfl ?_
  refine a_iconst C dX12_switchOff_7 (v := 1) (by decide) ?_
  refine a_callV C (k := 175) (As := [.int x, .int 1]) (rest := [.ref (x_b G + 175)]) (c_M_switches_1 l G (g_bg d) 1 x n hn h8 hx) (cwV 2 C.1.2.2.2.2 gX12_switchOff_X12_switches rfl rfl rfl (by decide +kernel) ⟨Nat.le_of_ble_eq_true rfl, Nat.le_of_ble_eq_true rfl⟩) x_k175 (q := (RX12, TX12, 16)) rfl rfl rfl rfl (Nat.le_of_ble_eq_true rfl) dX12_switchOff_8 ⟨Nat.le_of_ble_eq_true rfl, Nat.le_of_ble_eq_true rfl⟩ ?_
  refine a_callV C (k := 175) (As := [.int 0]) (rest := []) (c_M_kept_f l G (g_th (g_bg d) 1) 0 (show ¬ ((1 : Int32) = 0) by decide)) (cwV 1 C.1.2.2.2.2 gX12_switchOff_X12_kept rfl rfl rfl (by decide +kernel) ⟨Nat.le_of_ble_eq_true rfl, Nat.le_of_ble_eq_true rfl⟩) x_k175 (q := (RX12, TX12, 16)) rfl rfl rfl rfl (Nat.le_of_ble_eq_true rfl) dX12_switchOff_11 ⟨Nat.le_of_ble_eq_true rfl, Nat.le_of_ble_eq_true rfl⟩ ?_
  refine a_iconst C dX12_switchOff_14 (v := 1) (by decide) ?_
  refine a_icmp_ne C dX12_switchOff_15 (tgt := 22) (by decide) (fun _ => ?_) (fun h => absurd h (by decide))
  refine a_iconst C dX12_switchOff_22 (v := 0) (by decide) ?_
  exact a_zret C hlocks hr rfl dX12_switchOff_23 rfl rfl

set_option maxHeartbeats 1000000 in
set_option maxRecDepth 100000 in
theorem c_M_switchOff (l : Launch) (G : xG) (d : xd) (c9 : Nat) (hc : d 175 3 = nI c9) (h9 : c9 ≤ 8) (i n : Nat) (hn : d 176 0 = nI n) (h8 : n ≤ 8) (hi : i < n) : x_M G l yX12_switchOff wsX12_switchOff 4 0 0 [.ref (x_b G + 175), .int (nI i)] d (some (.int (x_bi (¬ d 176 (30 + i) = 1)))) (g_kp (g_ok (g_bg d) (upd (d 176) (30 + i) 1)) c9) := by
  refine x_start (cc := cX12_switchOff) (maxL := 2) (ret := (some .boolean)) (own := RX12) (by decide) rfl rfl (Nat.le_of_ble_eq_true rfl) (lst := [(0, .ref (x_b G + 175)), (1, .int (nI i))]) rfl ?_
  intro p e s m args below meth c C hr hlocks
  refine a_aload_n C dX12_switchOff_0 0 rfl ?_
  refine a_callV C (k := 175) (As := []) (rest := []) (c_M_begin l G d) (cwV 0 C.1.2.2.2.2 gX12_switchOff_X12_begin rfl rfl rfl (by decide +kernel) ⟨Nat.le_of_ble_eq_true rfl, Nat.le_of_ble_eq_true rfl⟩) x_k175 (q := (RX12, TX12, 16)) rfl rfl rfl rfl (Nat.le_of_ble_eq_true rfl) dX12_switchOff_1 ⟨Nat.le_of_ble_eq_true rfl, Nat.le_of_ble_eq_true rfl⟩ ?_
  refine a_aload_n C dX12_switchOff_4 0 rfl ?_
  refine a_aload_n C dX12_switchOff_5 0 rfl ?_
  refine a_iload_n C dX12_switchOff_6 1 rfl ?_
  refine a_iconst C dX12_switchOff_7 (v := 1) (by decide) ?_
  refine a_callV C (k := 175) (As := [.int (nI i), .int 1]) (rest := [.ref (x_b G + 175)]) (c_M_switches l G (g_bg d) 1 i n hn h8 hi) (cwV 2 C.1.2.2.2.2 gX12_switchOff_X12_switches rfl rfl rfl (by decide +kernel) ⟨Nat.le_of_ble_eq_true rfl, Nat.le_of_ble_eq_true rfl⟩) x_k175 (q := (RX12, TX12, 16)) rfl rfl rfl rfl (Nat.le_of_ble_eq_true rfl) dX12_switchOff_8 ⟨Nat.le_of_ble_eq_true rfl, Nat.le_of_ble_eq_true rfl⟩ ?_
  refine a_top (y := x_bi (¬ d 176 (30 + i) = 1)) (x_if01 _) ?_
  refine a_callV C (k := 175) (As := [.int (x_bi (¬ d 176 (30 + i) = 1))]) (rest := []) (c_M_kept l G (g_ok (g_bg d) (upd (d 176) (30 + i) 1)) (x_bi (¬ d 176 (30 + i) = 1)) c9 rfl hc h9) (cwV 1 C.1.2.2.2.2 gX12_switchOff_X12_kept rfl rfl rfl (by decide +kernel) ⟨Nat.le_of_ble_eq_true rfl, Nat.le_of_ble_eq_true rfl⟩) x_k175 (q := (RX12, TX12, 16)) rfl rfl rfl rfl (Nat.le_of_ble_eq_true rfl) dX12_switchOff_11 ⟨Nat.le_of_ble_eq_true rfl, Nat.le_of_ble_eq_true rfl⟩ ?_
  refine a_iconst C dX12_switchOff_14 (v := 1) (by decide) ?_
  refine a_icmp_ne C dX12_switchOff_15 (tgt := 22) (by decide) (fun h15 => ?_) (fun h15 => ?_)
  · skip
    refine a_iconst C dX12_switchOff_22 (v := 0) (by decide) ?_
    exact a_zret C hlocks hr rfl dX12_switchOff_23 (x_bi_f (fun z => h15 (x_bi_t z))).symm rfl
  · skip
    refine a_iconst C dX12_switchOff_18 (v := 1) (by decide) ?_
    refine a_goto C dX12_switchOff_19 (tgt := 23) (by decide) ?_
    exact a_zret C hlocks hr rfl dX12_switchOff_23 (Decidable.not_not.mp (fun q => q h15)).symm rfl

set_option maxHeartbeats 1000000 in
set_option maxRecDepth 100000 in
theorem c_M_deliverOil_1 (l : Launch) (G : xG) (d : xd) (u : Int32) (hu : ¬ (1 ≤ u ∧ u ≤ 200)) : x_M G l yX12_deliverOil wsX12_deliverOil 6 0 0 [.ref (x_b G + 175), .int u] d (some (.int 0)) (g_kf (g_th (g_bg d) 1)) := by
  refine x_start (cc := cX12_deliverOil) (maxL := 2) (ret := (some .int)) (own := RX12) (by decide) rfl rfl (Nat.le_of_ble_eq_true rfl) (lst := [(0, .ref (x_b G + 175)), (1, .int u)]) rfl ?_
  intro p e s m args below meth c C hr hlocks
  refine a_aload_n C dX12_deliverOil_0 0 rfl ?_
  refine a_callV C (k := 175) (As := []) (rest := []) (c_M_begin l G d) (cwV 0 C.1.2.2.2.2 gX12_deliverOil_X12_begin rfl rfl rfl (by decide +kernel) ⟨Nat.le_of_ble_eq_true rfl, Nat.le_of_ble_eq_true rfl⟩) x_k175 (q := (RX12, TX12, 16)) rfl rfl rfl rfl (Nat.le_of_ble_eq_true rfl) dX12_deliverOil_1 ⟨Nat.le_of_ble_eq_true rfl, Nat.le_of_ble_eq_true rfl⟩ ?_
  refine a_aload_n C dX12_deliverOil_4 0 rfl ?_
  refine a_aload_n C dX12_deliverOil_5 0 rfl ?_
  refine a_iload_n C dX12_deliverOil_6 1 rfl ?_
  refine a_callV C (k := 175) (As := [.int u]) (rest := [.ref (x_b G + 175)]) (c_M_delivers_1 l G (g_bg d) u hu) (cwV 1 C.1.2.2.2.2 gX12_deliverOil_X12_delivers rfl rfl rfl (by decide +kernel) ⟨Nat.le_of_ble_eq_true rfl, Nat.le_of_ble_eq_true rfl⟩) x_k175 (q := (RX12, TX12, 16)) rfl rfl rfl rfl (Nat.le_of_ble_eq_true rfl) dX12_deliverOil_7 ⟨Nat.le_of_ble_eq_true rfl, Nat.le_of_ble_eq_true rfl⟩ ?_
  refine a_callV C (k := 175) (As := [.int 0]) (rest := []) (c_M_kept_f l G (g_th (g_bg d) 1) 0 (show ¬ ((1 : Int32) = 0) by decide)) (cwV 1 C.1.2.2.2.2 gX12_deliverOil_X12_kept rfl rfl rfl (by decide +kernel) ⟨Nat.le_of_ble_eq_true rfl, Nat.le_of_ble_eq_true rfl⟩) x_k175 (q := (RX12, TX12, 16)) rfl rfl rfl rfl (Nat.le_of_ble_eq_true rfl) dX12_deliverOil_10 ⟨Nat.le_of_ble_eq_true rfl, Nat.le_of_ble_eq_true rfl⟩ ?_
  exact a_iret C hlocks hr dX12_deliverOil_13 rfl rfl

set_option maxHeartbeats 1000000 in
set_option maxRecDepth 100000 in
theorem c_M_deliverOil_2 (l : Launch) (G : xG) (d : xd) (u : Int32) (hu : 1 ≤ u ∧ u ≤ 200) (hn : d 176 0 = 0) : x_M G l yX12_deliverOil wsX12_deliverOil 6 0 0 [.ref (x_b G + 175), .int u] d (some (.int 0)) (g_kf (g_th (g_bg d) 2)) := by
  refine x_start (cc := cX12_deliverOil) (maxL := 2) (ret := (some .int)) (own := RX12) (by decide) rfl rfl (Nat.le_of_ble_eq_true rfl) (lst := [(0, .ref (x_b G + 175)), (1, .int u)]) rfl ?_
  intro p e s m args below meth c C hr hlocks
  refine a_aload_n C dX12_deliverOil_0 0 rfl ?_
  refine a_callV C (k := 175) (As := []) (rest := []) (c_M_begin l G d) (cwV 0 C.1.2.2.2.2 gX12_deliverOil_X12_begin rfl rfl rfl (by decide +kernel) ⟨Nat.le_of_ble_eq_true rfl, Nat.le_of_ble_eq_true rfl⟩) x_k175 (q := (RX12, TX12, 16)) rfl rfl rfl rfl (Nat.le_of_ble_eq_true rfl) dX12_deliverOil_1 ⟨Nat.le_of_ble_eq_true rfl, Nat.le_of_ble_eq_true rfl⟩ ?_
  refine a_aload_n C dX12_deliverOil_4 0 rfl ?_
  refine a_aload_n C dX12_deliverOil_5 0 rfl ?_
  refine a_iload_n C dX12_deliverOil_6 1 rfl ?_
  refine a_callV C (k := 175) (As := [.int u]) (rest := [.ref (x_b G + 175)]) (c_M_delivers_2 l G (g_bg d) u hu hn) (cwV 1 C.1.2.2.2.2 gX12_deliverOil_X12_delivers rfl rfl rfl (by decide +kernel) ⟨Nat.le_of_ble_eq_true rfl, Nat.le_of_ble_eq_true rfl⟩) x_k175 (q := (RX12, TX12, 16)) rfl rfl rfl rfl (Nat.le_of_ble_eq_true rfl) dX12_deliverOil_7 ⟨Nat.le_of_ble_eq_true rfl, Nat.le_of_ble_eq_true rfl⟩ ?_
  refine a_callV C (k := 175) (As := [.int 0]) (rest := []) (c_M_kept_f l G (g_th (g_bg d) 2) 0 (show ¬ ((2 : Int32) = 0) by decide)) (cwV 1 C.1.2.2.2.2 gX12_deliverOil_X12_kept rfl rfl rfl (by decide +kernel) ⟨Nat.le_of_ble_eq_true rfl, Nat.le_of_ble_eq_true rfl⟩) x_k175 (q := (RX12, TX12, 16)) rfl rfl rfl rfl (Nat.le_of_ble_eq_true rfl) dX12_deliverOil_10 ⟨Nat.le_of_ble_eq_true rfl, Nat.le_of_ble_eq_true rfl⟩ ?_
  exact a_iret C hlocks hr dX12_deliverOil_13 rfl rfl

set_option maxHeartbeats 1000000 in
set_option maxRecDepth 100000 in
theorem c_M_deliverOil (l : Launch) (G : xG) (d : xd) (c9 : Nat) (hc : d 175 3 = nI c9) (h9 : c9 ≤ 8) (a0 : Nat) (sh : Nat → Nat) (n : Nat) (hn : d 176 0 = nI n) (h8 : n ≤ 8) (h1 : 1 ≤ n) (hs : ∀ j, j < n → d 176 (14 + j) = nI (sh j)) (hs9 : ∀ j, j < n → sh j ≤ 9) (hS : 1 ≤ f_sn sh n) (ha0 : a0 < 100000) (hu : 1 ≤ nI a0 ∧ nI a0 ≤ 200) : x_M G l yX12_deliverOil wsX12_deliverOil 6 0 0 [.ref (x_b G + 175), .int (nI a0)] d (some (.int (f_sum (g_add (d 176) (g_por a0 sh n)) n))) (g_kp (g_ok (g_bg d) (g_dl (d 176) (g_por a0 sh n) n)) c9) := by
  refine x_start (cc := cX12_deliverOil) (maxL := 2) (ret := (some .int)) (own := RX12) (by decide) rfl rfl (Nat.le_of_ble_eq_true rfl) (lst := [(0, .ref (x_b G + 175)), (1, .int (nI a0))]) rfl ?_
  intro p e s m args below meth c C hr hlocks
  refine a_aload_n C dX12_deliverOil_0 0 rfl ?_
  refine a_callV C (k := 175) (As := []) (rest := []) (c_M_begin l G d) (cwV 0 C.1.2.2.2.2 gX12_deliverOil_X12_begin rfl rfl rfl (by decide +kernel) ⟨Nat.le_of_ble_eq_true rfl, Nat.le_of_ble_eq_true rfl⟩) x_k175 (q := (RX12, TX12, 16)) rfl rfl rfl rfl (Nat.le_of_ble_eq_true rfl) dX12_deliverOil_1 ⟨Nat.le_of_ble_eq_true rfl, Nat.le_of_ble_eq_true rfl⟩ ?_
  refine a_aload_n C dX12_deliverOil_4 0 rfl ?_
  refine a_aload_n C dX12_deliverOil_5 0 rfl ?_
  refine a_iload_n C dX12_deliverOil_6 1 rfl ?_
  refine a_callV C (k := 175) (As := [.int (nI a0)]) (rest := [.ref (x_b G + 175)]) (c_M_delivers l G (g_bg d) a0 sh n hn h8 h1 hs hs9 hS ha0 hu) (cwV 1 C.1.2.2.2.2 gX12_deliverOil_X12_delivers rfl rfl rfl (by decide +kernel) ⟨Nat.le_of_ble_eq_true rfl, Nat.le_of_ble_eq_true rfl⟩) x_k175 (q := (RX12, TX12, 16)) rfl rfl rfl rfl (Nat.le_of_ble_eq_true rfl) dX12_deliverOil_7 ⟨Nat.le_of_ble_eq_true rfl, Nat.le_of_ble_eq_true rfl⟩ ?_
  refine a_callV C (k := 175) (As := [.int (f_sum (g_add (d 176) (g_por a0 sh n)) n)]) (rest := []) (c_M_kept l G (g_ok (g_bg d) (g_dl (d 176) (g_por a0 sh n) n)) ((f_sum (g_add (d 176) (g_por a0 sh n)) n)) c9 rfl hc h9) (cwV 1 C.1.2.2.2.2 gX12_deliverOil_X12_kept rfl rfl rfl (by decide +kernel) ⟨Nat.le_of_ble_eq_true rfl, Nat.le_of_ble_eq_true rfl⟩) x_k175 (q := (RX12, TX12, 16)) rfl rfl rfl rfl (Nat.le_of_ble_eq_true rfl) dX12_deliverOil_10 ⟨Nat.le_of_ble_eq_true rfl, Nat.le_of_ble_eq_true rfl⟩ ?_
  exact a_iret C hlocks hr dX12_deliverOil_13 rfl rfl

set_option maxHeartbeats 1000000 in
set_option maxRecDepth 100000 in
theorem c_M_buyOil_1 (l : Launch) (G : xG) (d : xd) (u : Int32) (x : Int32) (n : Nat) (hn : d 176 0 = nI n) (h8 : n ≤ 8) (hx : ¬ (0 ≤ x ∧ x < nI n)) : x_M G l yX12_buyOil wsX12_buyOil 4 0 0 [.ref (x_b G + 175), .int x, .int u] d (some (.int 0)) (g_kf (g_th (g_bg d) 1)) := by
  refine x_start (cc := cX12_buyOil) (maxL := 3) (ret := (some .int)) (own := RX12) (by decide) rfl rfl (Nat.le_of_ble_eq_true rfl) (lst := [(0, .ref (x_b G + 175)), (1, .int x), (2, .int u)]) rfl ?_
  intro p e s m args below meth c C hr hlocks
  refine a_aload_n C dX12_buyOil_0 0 rfl ?_
  refine a_callV C (k := 175) (As := []) (rest := []) (c_M_begin l G d) (cwV 0 C.1.2.2.2.2 gX12_buyOil_X12_begin rfl rfl rfl (by decide +kernel) ⟨Nat.le_of_ble_eq_true rfl, Nat.le_of_ble_eq_true rfl⟩) x_k175 (q := (RX12, TX12, 16)) rfl rfl rfl rfl (Nat.le_of_ble_eq_true rfl) dX12_buyOil_1 ⟨Nat.le_of_ble_eq_true rfl, Nat.le_of_ble_eq_true rfl⟩ ?_
  refine a_aload_n C dX12_buyOil_4 0 rfl ?_
  refine a_aload_n C dX12_buyOil_5 0 rfl ?_
  refine a_iload_n C dX12_buyOil_6 1 rfl ?_
  refine a_iload_n C dX12_buyOil_7 2 rfl ?_
  refine a_callV C (k := 175) (As := [.int x, .int u]) (rest := [.ref (x_b G + 175)]) (c_M_buys_1 l G (g_bg d) u x n hn h8 hx) (cwV 2 C.1.2.2.2.2 gX12_buyOil_X12_buys rfl rfl rfl (by decide +kernel) ⟨Nat.le_of_ble_eq_true rfl, Nat.le_of_ble_eq_true rfl⟩) x_k175 (q := (RX12, TX12, 16)) rfl rfl rfl rfl (Nat.le_of_ble_eq_true rfl) dX12_buyOil_8 ⟨Nat.le_of_ble_eq_true rfl, Nat.le_of_ble_eq_true rfl⟩ ?_
  refine a_callV C (k := 175) (As := [.int 0]) (rest := []) (c_M_kept_f l G (g_th (g_bg d) 1) 0 (show ¬ ((1 : Int32) = 0) by decide)) (cwV 1 C.1.2.2.2.2 gX12_buyOil_X12_kept rfl rfl rfl (by decide +kernel) ⟨Nat.le_of_ble_eq_true rfl, Nat.le_of_ble_eq_true rfl⟩) x_k175 (q := (RX12, TX12, 16)) rfl rfl rfl rfl (Nat.le_of_ble_eq_true rfl) dX12_buyOil_11 ⟨Nat.le_of_ble_eq_true rfl, Nat.le_of_ble_eq_true rfl⟩ ?_
  exact a_iret C hlocks hr dX12_buyOil_14 rfl rfl

set_option maxHeartbeats 1000000 in
set_option maxRecDepth 100000 in
theorem c_M_buyOil_2 (l : Launch) (G : xG) (d : xd) (u : Int32) (i n : Nat) (hn : d 176 0 = nI n) (h8 : n ≤ 8) (hi : i < n) (hu : ¬ (1 ≤ u ∧ u ≤ 60)) : x_M G l yX12_buyOil wsX12_buyOil 4 0 0 [.ref (x_b G + 175), .int (nI i), .int u] d (some (.int 0)) (g_kf (g_th (g_bg d) 2)) := by
  refine x_start (cc := cX12_buyOil) (maxL := 3) (ret := (some .int)) (own := RX12) (by decide) rfl rfl (Nat.le_of_ble_eq_true rfl) (lst := [(0, .ref (x_b G + 175)), (1, .int (nI i)), (2, .int u)]) rfl ?_
  intro p e s m args below meth c C hr hlocks
  refine a_aload_n C dX12_buyOil_0 0 rfl ?_
  refine a_callV C (k := 175) (As := []) (rest := []) (c_M_begin l G d) (cwV 0 C.1.2.2.2.2 gX12_buyOil_X12_begin rfl rfl rfl (by decide +kernel) ⟨Nat.le_of_ble_eq_true rfl, Nat.le_of_ble_eq_true rfl⟩) x_k175 (q := (RX12, TX12, 16)) rfl rfl rfl rfl (Nat.le_of_ble_eq_true rfl) dX12_buyOil_1 ⟨Nat.le_of_ble_eq_true rfl, Nat.le_of_ble_eq_true rfl⟩ ?_
  refine a_aload_n C dX12_buyOil_4 0 rfl ?_
  refine a_aload_n C dX12_buyOil_5 0 rfl ?_
  refine a_iload_n C dX12_buyOil_6 1 rfl ?_
  refine a_iload_n C dX12_buyOil_7 2 rfl ?_
  refine a_callV C (k := 175) (As := [.int (nI i), .int u]) (rest := [.ref (x_b G + 175)]) (c_M_buys_2 l G (g_bg d) u i n hn h8 hi hu) (cwV 2 C.1.2.2.2.2 gX12_buyOil_X12_buys rfl rfl rfl (by decide +kernel) ⟨Nat.le_of_ble_eq_true rfl, Nat.le_of_ble_eq_true rfl⟩) x_k175 (q := (RX12, TX12, 16)) rfl rfl rfl rfl (Nat.le_of_ble_eq_true rfl) dX12_buyOil_8 ⟨Nat.le_of_ble_eq_true rfl, Nat.le_of_ble_eq_true rfl⟩ ?_
  refine a_callV C (k := 175) (As := [.int 0]) (rest := []) (c_M_kept_f l G (g_th (g_bg d) 2) 0 (show ¬ ((2 : Int32) = 0) by decide)) (cwV 1 C.1.2.2.2.2 gX12_buyOil_X12_kept rfl rfl rfl (by decide +kernel) ⟨Nat.le_of_ble_eq_true rfl, Nat.le_of_ble_eq_true rfl⟩) x_k175 (q := (RX12, TX12, 16)) rfl rfl rfl rfl (Nat.le_of_ble_eq_true rfl) dX12_buyOil_11 ⟨Nat.le_of_ble_eq_true rfl, Nat.le_of_ble_eq_true rfl⟩ ?_
  exact a_iret C hlocks hr dX12_buyOil_14 rfl rfl

set_option maxHeartbeats 1000000 in
set_option maxRecDepth 100000 in
theorem c_M_buyOil_3 (l : Launch) (G : xG) (d : xd) (u : Int32) (i n : Nat) (hn : d 176 0 = nI n) (h8 : n ≤ 8) (hi : i < n) (hu : 1 ≤ u ∧ u ≤ 60) (hq : ¬ (¬ d 176 3 < u ∧ d 176 (38 + i) + u ≤ 60 ∧ ¬ d 176 (54 + i) < u)) : x_M G l yX12_buyOil wsX12_buyOil 4 0 0 [.ref (x_b G + 175), .int (nI i), .int u] d (some (.int 0)) (g_kf (g_th (g_bg d) 3)) := by
  refine x_start (cc := cX12_buyOil) (maxL := 3) (ret := (some .int)) (own := RX12) (by decide) rfl rfl (Nat.le_of_ble_eq_true rfl) (lst := [(0, .ref (x_b G + 175)), (1, .int (nI i)), (2, .int u)]) rfl ?_
  intro p e s m args below meth c C hr hlocks
  refine a_aload_n C dX12_buyOil_0 0 rfl ?_
  refine a_callV C (k := 175) (As := []) (rest := []) (c_M_begin l G d) (cwV 0 C.1.2.2.2.2 gX12_buyOil_X12_begin rfl rfl rfl (by decide +kernel) ⟨Nat.le_of_ble_eq_true rfl, Nat.le_of_ble_eq_true rfl⟩) x_k175 (q := (RX12, TX12, 16)) rfl rfl rfl rfl (Nat.le_of_ble_eq_true rfl) dX12_buyOil_1 ⟨Nat.le_of_ble_eq_true rfl, Nat.le_of_ble_eq_true rfl⟩ ?_
  refine a_aload_n C dX12_buyOil_4 0 rfl ?_
  refine a_aload_n C dX12_buyOil_5 0 rfl ?_
  refine a_iload_n C dX12_buyOil_6 1 rfl ?_
  refine a_iload_n C dX12_buyOil_7 2 rfl ?_
  refine a_callV C (k := 175) (As := [.int (nI i), .int u]) (rest := [.ref (x_b G + 175)]) (c_M_buys_3 l G (g_bg d) u i n hn h8 hi hu hq) (cwV 2 C.1.2.2.2.2 gX12_buyOil_X12_buys rfl rfl rfl (by decide +kernel) ⟨Nat.le_of_ble_eq_true rfl, Nat.le_of_ble_eq_true rfl⟩) x_k175 (q := (RX12, TX12, 16)) rfl rfl rfl rfl (Nat.le_of_ble_eq_true rfl) dX12_buyOil_8 ⟨Nat.le_of_ble_eq_true rfl, Nat.le_of_ble_eq_true rfl⟩ ?_
  refine a_callV C (k := 175) (As := [.int 0]) (rest := []) (c_M_kept_f l G (g_th (g_bg d) 3) 0 (show ¬ ((3 : Int32) = 0) by decide)) (cwV 1 C.1.2.2.2.2 gX12_buyOil_X12_kept rfl rfl rfl (by decide +kernel) ⟨Nat.le_of_ble_eq_true rfl, Nat.le_of_ble_eq_true rfl⟩) x_k175 (q := (RX12, TX12, 16)) rfl rfl rfl rfl (Nat.le_of_ble_eq_true rfl) dX12_buyOil_11 ⟨Nat.le_of_ble_eq_true rfl, Nat.le_of_ble_eq_true rfl⟩ ?_
  exact a_iret C hlocks hr dX12_buyOil_14 rfl rfl

set_option maxHeartbeats 1000000 in
set_option maxRecDepth 100000 in
theorem c_M_buyOil (l : Launch) (G : xG) (d : xd) (c9 : Nat) (hc : d 175 3 = nI c9) (h9 : c9 ≤ 8) (u : Int32) (i n : Nat) (hn : d 176 0 = nI n) (h8 : n ≤ 8) (hi : i < n) (hu : 1 ≤ u ∧ u ≤ 60) (hq : ¬ d 176 3 < u ∧ d 176 (38 + i) + u ≤ 60 ∧ ¬ d 176 (54 + i) < u) : x_M G l yX12_buyOil wsX12_buyOil 4 0 0 [.ref (x_b G + 175), .int (nI i), .int u] d (some (.int (d 176 (38 + i) + u))) (g_kp (g_ok (g_bg d) (g_buys (d 176) u i)) c9) := by
  refine x_start (cc := cX12_buyOil) (maxL := 3) (ret := (some .int)) (own := RX12) (by decide) rfl rfl (Nat.le_of_ble_eq_true rfl) (lst := [(0, .ref (x_b G + 175)), (1, .int (nI i)), (2, .int u)]) rfl ?_
  intro p e s m args below meth c C hr hlocks
  refine a_aload_n C dX12_buyOil_0 0 rfl ?_
  refine a_callV C (k := 175) (As := []) (rest := []) (c_M_begin l G d) (cwV 0 C.1.2.2.2.2 gX12_buyOil_X12_begin rfl rfl rfl (by decide +kernel) ⟨Nat.le_of_ble_eq_true rfl, Nat.le_of_ble_eq_true rfl⟩) x_k175 (q := (RX12, TX12, 16)) rfl rfl rfl rfl (Nat.le_of_ble_eq_true rfl) dX12_buyOil_1 ⟨Nat.le_of_ble_eq_true rfl, Nat.le_of_ble_eq_true rfl⟩ ?_
  refine a_aload_n C dX12_buyOil_4 0 rfl ?_
  refine a_aload_n C dX12_buyOil_5 0 rfl ?_
  refine a_iload_n C dX12_buyOil_6 1 rfl ?_
  refine a_iload_n C dX12_buyOil_7 2 rfl ?_
  refine a_callV C (k := 175) (As := [.int (nI i), .int u]) (rest := [.ref (x_b G + 175)]) (c_M_buys l G (g_bg d) u i n hn h8 hi hu hq) (cwV 2 C.1.2.2.2.2 gX12_buyOil_X12_buys rfl rfl rfl (by decide +kernel) ⟨Nat.le_of_ble_eq_true rfl, Nat.le_of_ble_eq_true rfl⟩) x_k175 (q := (RX12, TX12, 16)) rfl rfl rfl rfl (Nat.le_of_ble_eq_true rfl) dX12_buyOil_8 ⟨Nat.le_of_ble_eq_true rfl, Nat.le_of_ble_eq_true rfl⟩ ?_
  refine a_callV C (k := 175) (As := [.int (d 176 (38 + i) + u)]) (rest := []) (c_M_kept l G (g_ok (g_bg d) (g_buys (d 176) u i)) ((d 176 (38 + i) + u)) c9 rfl hc h9) (cwV 1 C.1.2.2.2.2 gX12_buyOil_X12_kept rfl rfl rfl (by decide +kernel) ⟨Nat.le_of_ble_eq_true rfl, Nat.le_of_ble_eq_true rfl⟩) x_k175 (q := (RX12, TX12, 16)) rfl rfl rfl rfl (Nat.le_of_ble_eq_true rfl) dX12_buyOil_11 ⟨Nat.le_of_ble_eq_true rfl, Nat.le_of_ble_eq_true rfl⟩ ?_
  exact a_iret C hlocks hr dX12_buyOil_14 rfl rfl

set_option maxHeartbeats 1000000 in
set_option maxRecDepth 100000 in
theorem c_M_donateWicks_1 (l : Launch) (G : xG) (d : xd) (u : Int32) (hu : ¬ (1 ≤ u ∧ u ≤ 50)) : x_M G l yX12_donateWicks wsX12_donateWicks 4 0 0 [.ref (x_b G + 175), .int u] d (some (.int 0)) (g_kf (g_th (g_bg d) 1)) := by
  refine x_start (cc := cX12_donateWicks) (maxL := 2) (ret := (some .int)) (own := RX12) (by decide) rfl rfl (Nat.le_of_ble_eq_true rfl) (lst := [(0, .ref (x_b G + 175)), (1, .int u)]) rfl ?_
  intro p e s m args below meth c C hr hlocks
  refine a_aload_n C dX12_donateWicks_0 0 rfl ?_
  refine a_callV C (k := 175) (As := []) (rest := []) (c_M_begin l G d) (cwV 0 C.1.2.2.2.2 gX12_donateWicks_X12_begin rfl rfl rfl (by decide +kernel) ⟨Nat.le_of_ble_eq_true rfl, Nat.le_of_ble_eq_true rfl⟩) x_k175 (q := (RX12, TX12, 16)) rfl rfl rfl rfl (Nat.le_of_ble_eq_true rfl) dX12_donateWicks_1 ⟨Nat.le_of_ble_eq_true rfl, Nat.le_of_ble_eq_true rfl⟩ ?_
  refine a_aload_n C dX12_donateWicks_4 0 rfl ?_
  refine a_aload_n C dX12_donateWicks_5 0 rfl ?_
  refine a_iload_n C dX12_donateWicks_6 1 rfl ?_
  refine a_callV C (k := 175) (As := [.int u]) (rest := [.ref (x_b G + 175)]) (c_M_donates_1 l G (g_bg d) u hu) (cwV 1 C.1.2.2.2.2 gX12_donateWicks_X12_donates rfl rfl rfl (by decide +kernel) ⟨Nat.le_of_ble_eq_true rfl, Nat.le_of_ble_eq_true rfl⟩) x_k175 (q := (RX12, TX12, 16)) rfl rfl rfl rfl (Nat.le_of_ble_eq_true rfl) dX12_donateWicks_7 ⟨Nat.le_of_ble_eq_true rfl, Nat.le_of_ble_eq_true rfl⟩ ?_
  refine a_callV C (k := 175) (As := [.int 0]) (rest := []) (c_M_kept_f l G (g_th (g_bg d) 1) 0 (show ¬ ((1 : Int32) = 0) by decide)) (cwV 1 C.1.2.2.2.2 gX12_donateWicks_X12_kept rfl rfl rfl (by decide +kernel) ⟨Nat.le_of_ble_eq_true rfl, Nat.le_of_ble_eq_true rfl⟩) x_k175 (q := (RX12, TX12, 16)) rfl rfl rfl rfl (Nat.le_of_ble_eq_true rfl) dX12_donateWicks_10 ⟨Nat.le_of_ble_eq_true rfl, Nat.le_of_ble_eq_true rfl⟩ ?_
  exact a_iret C hlocks hr dX12_donateWicks_13 rfl rfl

set_option maxHeartbeats 1000000 in
set_option maxRecDepth 100000 in
theorem c_M_donateWicks_2 (l : Launch) (G : xG) (d : xd) (u : Int32) (hu : 1 ≤ u ∧ u ≤ 50) (hp : ¬ d 176 4 + u ≤ 99) : x_M G l yX12_donateWicks wsX12_donateWicks 4 0 0 [.ref (x_b G + 175), .int u] d (some (.int 0)) (g_kf (g_th (g_bg d) 2)) := by
  refine x_start (cc := cX12_donateWicks) (maxL := 2) (ret := (some .int)) (own := RX12) (by decide) rfl rfl (Nat.le_of_ble_eq_true rfl) (lst := [(0, .ref (x_b G + 175)), (1, .int u)]) rfl ?_
  intro p e s m args below meth c C hr hlocks
  refine a_aload_n C dX12_donateWicks_0 0 rfl ?_
  refine a_callV C (k := 175) (As := []) (rest := []) (c_M_begin l G d) (cwV 0 C.1.2.2.2.2 gX12_donateWicks_X12_begin rfl rfl rfl (by decide +kernel) ⟨Nat.le_of_ble_eq_true rfl, Nat.le_of_ble_eq_true rfl⟩) x_k175 (q := (RX12, TX12, 16)) rfl rfl rfl rfl (Nat.le_of_ble_eq_true rfl) dX12_donateWicks_1 ⟨Nat.le_of_ble_eq_true rfl, Nat.le_of_ble_eq_true rfl⟩ ?_
  refine a_aload_n C dX12_donateWicks_4 0 rfl ?_
  refine a_aload_n C dX12_donateWicks_5 0 rfl ?_
  refine a_iload_n C dX12_donateWicks_6 1 rfl ?_
  refine a_callV C (k := 175) (As := [.int u]) (rest := [.ref (x_b G + 175)]) (c_M_donates_2 l G (g_bg d) u hu hp) (cwV 1 C.1.2.2.2.2 gX12_donateWicks_X12_donates rfl rfl rfl (by decide +kernel) ⟨Nat.le_of_ble_eq_true rfl, Nat.le_of_ble_eq_true rfl⟩) x_k175 (q := (RX12, TX12, 16)) rfl rfl rfl rfl (Nat.le_of_ble_eq_true rfl) dX12_donateWicks_7 ⟨Nat.le_of_ble_eq_true rfl, Nat.le_of_ble_eq_true rfl⟩ ?_
  refine a_callV C (k := 175) (As := [.int 0]) (rest := []) (c_M_kept_f l G (g_th (g_bg d) 2) 0 (show ¬ ((2 : Int32) = 0) by decide)) (cwV 1 C.1.2.2.2.2 gX12_donateWicks_X12_kept rfl rfl rfl (by decide +kernel) ⟨Nat.le_of_ble_eq_true rfl, Nat.le_of_ble_eq_true rfl⟩) x_k175 (q := (RX12, TX12, 16)) rfl rfl rfl rfl (Nat.le_of_ble_eq_true rfl) dX12_donateWicks_10 ⟨Nat.le_of_ble_eq_true rfl, Nat.le_of_ble_eq_true rfl⟩ ?_
  exact a_iret C hlocks hr dX12_donateWicks_13 rfl rfl

set_option maxHeartbeats 1000000 in
set_option maxRecDepth 100000 in
theorem c_M_donateWicks (l : Launch) (G : xG) (d : xd) (c9 : Nat) (hc : d 175 3 = nI c9) (h9 : c9 ≤ 8) (u : Int32) (hu : 1 ≤ u ∧ u ≤ 50) (hp : d 176 4 + u ≤ 99) : x_M G l yX12_donateWicks wsX12_donateWicks 4 0 0 [.ref (x_b G + 175), .int u] d (some (.int (d 176 4 + u))) (g_kp (g_ok (g_bg d) (upd (d 176) 4 (d 176 4 + u))) c9) := by
  refine x_start (cc := cX12_donateWicks) (maxL := 2) (ret := (some .int)) (own := RX12) (by decide) rfl rfl (Nat.le_of_ble_eq_true rfl) (lst := [(0, .ref (x_b G + 175)), (1, .int u)]) rfl ?_
  intro p e s m args below meth c C hr hlocks
  refine a_aload_n C dX12_donateWicks_0 0 rfl ?_
  refine a_callV C (k := 175) (As := []) (rest := []) (c_M_begin l G d) (cwV 0 C.1.2.2.2.2 gX12_donateWicks_X12_begin rfl rfl rfl (by decide +kernel) ⟨Nat.le_of_ble_eq_true rfl, Nat.le_of_ble_eq_true rfl⟩) x_k175 (q := (RX12, TX12, 16)) rfl rfl rfl rfl (Nat.le_of_ble_eq_true rfl) dX12_donateWicks_1 ⟨Nat.le_of_ble_eq_true rfl, Nat.le_of_ble_eq_true rfl⟩ ?_
  refine a_aload_n C dX12_donateWicks_4 0 rfl ?_
  refine a_aload_n C dX12_donateWicks_5 0 rfl ?_
  refine a_iload_n C dX12_donateWicks_6 1 rfl ?_
  refine a_callV C (k := 175) (As := [.int u]) (rest := [.ref (x_b G + 175)]) (c_M_donates l G (g_bg d) u hu hp) (cwV 1 C.1.2.2.2.2 gX12_donateWicks_X12_donates rfl rfl rfl (by decide +kernel) ⟨Nat.le_of_ble_eq_true rfl, Nat.le_of_ble_eq_true rfl⟩) x_k175 (q := (RX12, TX12, 16)) rfl rfl rfl rfl (Nat.le_of_ble_eq_true rfl) dX12_donateWicks_7 ⟨Nat.le_of_ble_eq_true rfl, Nat.le_of_ble_eq_true rfl⟩ ?_
  refine a_callV C (k := 175) (As := [.int (d 176 4 + u)]) (rest := []) (c_M_kept l G (g_ok (g_bg d) (upd (d 176) 4 (d 176 4 + u))) ((d 176 4 + u)) c9 rfl hc h9) (cwV 1 C.1.2.2.2.2 gX12_donateWicks_X12_kept rfl rfl rfl (by decide +kernel) ⟨Nat.le_of_ble_eq_true rfl, Nat.le_of_ble_eq_true rfl⟩) x_k175 (q := (RX12, TX12, 16)) rfl rfl rfl rfl (Nat.le_of_ble_eq_true rfl) dX12_donateWicks_10 ⟨Nat.le_of_ble_eq_true rfl, Nat.le_of_ble_eq_true rfl⟩ ?_
  exact a_iret C hlocks hr dX12_donateWicks_13 rfl rfl

set_option maxHeartbeats 1000000 in
set_option maxRecDepth 100000 in
theorem c_M_giveWick_1 (l : Launch) (G : xG) (d : xd) (u : Int32) (x : Int32) (n : Nat) (hn : d 176 0 = nI n) (h8 : n ≤ 8) (hx : ¬ (0 ≤ x ∧ x < nI n)) : x_M G l yX12_giveWick wsX12_giveWick 4 0 0 [.ref (x_b G + 175), .int x, .int u] d (some (.int 0)) (g_kf (g_th (g_bg d) 1)) := by
  refine x_start (cc := cX12_giveWick) (maxL := 3) (ret := (some .int)) (own := RX12) (by decide) rfl rfl (Nat.le_of_ble_eq_true rfl) (lst := [(0, .ref (x_b G + 175)), (1, .int x), (2, .int u)]) rfl ?_
  intro p e s m args below meth c C hr hlocks
  refine a_aload_n C dX12_giveWick_0 0 rfl ?_
  refine a_callV C (k := 175) (As := []) (rest := []) (c_M_begin l G d) (cwV 0 C.1.2.2.2.2 gX12_giveWick_X12_begin rfl rfl rfl (by decide +kernel) ⟨Nat.le_of_ble_eq_true rfl, Nat.le_of_ble_eq_true rfl⟩) x_k175 (q := (RX12, TX12, 16)) rfl rfl rfl rfl (Nat.le_of_ble_eq_true rfl) dX12_giveWick_1 ⟨Nat.le_of_ble_eq_true rfl, Nat.le_of_ble_eq_true rfl⟩ ?_
  refine a_aload_n C dX12_giveWick_4 0 rfl ?_
  refine a_aload_n C dX12_giveWick_5 0 rfl ?_
  refine a_iload_n C dX12_giveWick_6 1 rfl ?_
  refine a_iload_n C dX12_giveWick_7 2 rfl ?_
  refine a_iconst C dX12_giveWick_8 (v := 1) (by decide) ?_
  refine a_callV C (k := 175) (As := [.int x, .int u, .int 1]) (rest := [.ref (x_b G + 175)]) (c_M_movesWick_1 l G (g_bg d) u 1 x n hn h8 hx) (cwV 3 C.1.2.2.2.2 gX12_giveWick_X12_movesWick rfl rfl rfl (by decide +kernel) ⟨Nat.le_of_ble_eq_true rfl, Nat.le_of_ble_eq_true rfl⟩) x_k175 (q := (RX12, TX12, 16)) rfl rfl rfl rfl (Nat.le_of_ble_eq_true rfl) dX12_giveWick_9 ⟨Nat.le_of_ble_eq_true rfl, Nat.le_of_ble_eq_true rfl⟩ ?_
  refine a_callV C (k := 175) (As := [.int 0]) (rest := []) (c_M_kept_f l G (g_th (g_bg d) 1) 0 (show ¬ ((1 : Int32) = 0) by decide)) (cwV 1 C.1.2.2.2.2 gX12_giveWick_X12_kept rfl rfl rfl (by decide +kernel) ⟨Nat.le_of_ble_eq_true rfl, Nat.le_of_ble_eq_true rfl⟩) x_k175 (q := (RX12, TX12, 16)) rfl rfl rfl rfl (Nat.le_of_ble_eq_true rfl) dX12_giveWick_12 ⟨Nat.le_of_ble_eq_true rfl, Nat.le_of_ble_eq_true rfl⟩ ?_
  exact a_iret C hlocks hr dX12_giveWick_15 rfl rfl

set_option maxHeartbeats 1000000 in
set_option maxRecDepth 100000 in
theorem c_M_giveWick_2 (l : Launch) (G : xG) (d : xd) (u : Int32) (i n : Nat) (hn : d 176 0 = nI n) (h8 : n ≤ 8) (hi : i < n) (hu : ¬ (1 ≤ u ∧ u ≤ 9)) : x_M G l yX12_giveWick wsX12_giveWick 4 0 0 [.ref (x_b G + 175), .int (nI i), .int u] d (some (.int 0)) (g_kf (g_th (g_bg d) 2)) := by
  refine x_start (cc := cX12_giveWick) (maxL := 3) (ret := (some .int)) (own := RX12) (by decide) rfl rfl (Nat.le_of_ble_eq_true rfl) (lst := [(0, .ref (x_b G + 175)), (1, .int (nI i)), (2, .int u)]) rfl ?_
  intro p e s m args below meth c C hr hlocks
  refine a_aload_n C dX12_giveWick_0 0 rfl ?_
  refine a_callV C (k := 175) (As := []) (rest := []) (c_M_begin l G d) (cwV 0 C.1.2.2.2.2 gX12_giveWick_X12_begin rfl rfl rfl (by decide +kernel) ⟨Nat.le_of_ble_eq_true rfl, Nat.le_of_ble_eq_true rfl⟩) x_k175 (q := (RX12, TX12, 16)) rfl rfl rfl rfl (Nat.le_of_ble_eq_true rfl) dX12_giveWick_1 ⟨Nat.le_of_ble_eq_true rfl, Nat.le_of_ble_eq_true rfl⟩ ?_
  refine a_aload_n C dX12_giveWick_4 0 rfl ?_
  refine a_aload_n C dX12_giveWick_5 0 rfl ?_
  refine a_iload_n C dX12_giveWick_6 1 rfl ?_
  refine a_iload_n C dX12_giveWick_7 2 rfl ?_
  refine a_iconst C dX12_giveWick_8 (v := 1) (by decide) ?_
  refine a_callV C (k := 175) (As := [.int (nI i), .int u, .int 1]) (rest := [.ref (x_b G + 175)]) (c_M_movesWick_2 l G (g_bg d) u 1 i n hn h8 hi hu) (cwV 3 C.1.2.2.2.2 gX12_giveWick_X12_movesWick rfl rfl rfl (by decide +kernel) ⟨Nat.le_of_ble_eq_true rfl, Nat.le_of_ble_eq_true rfl⟩) x_k175 (q := (RX12, TX12, 16)) rfl rfl rfl rfl (Nat.le_of_ble_eq_true rfl) dX12_giveWick_9 ⟨Nat.le_of_ble_eq_true rfl, Nat.le_of_ble_eq_true rfl⟩ ?_
  refine a_callV C (k := 175) (As := [.int 0]) (rest := []) (c_M_kept_f l G (g_th (g_bg d) 2) 0 (show ¬ ((2 : Int32) = 0) by decide)) (cwV 1 C.1.2.2.2.2 gX12_giveWick_X12_kept rfl rfl rfl (by decide +kernel) ⟨Nat.le_of_ble_eq_true rfl, Nat.le_of_ble_eq_true rfl⟩) x_k175 (q := (RX12, TX12, 16)) rfl rfl rfl rfl (Nat.le_of_ble_eq_true rfl) dX12_giveWick_12 ⟨Nat.le_of_ble_eq_true rfl, Nat.le_of_ble_eq_true rfl⟩ ?_
  exact a_iret C hlocks hr dX12_giveWick_15 rfl rfl

set_option maxHeartbeats 1000000 in
set_option maxRecDepth 100000 in
theorem c_M_giveWick_3 (l : Launch) (G : xG) (d : xd) (u : Int32) (i n : Nat) (hn : d 176 0 = nI n) (h8 : n ≤ 8) (hi : i < n) (hu : 1 ≤ u ∧ u ≤ 9) (hq : ¬ ((0 ≤ d 176 (46 + i) + 1 * u ∧ d 176 (46 + i) + 1 * u ≤ 9) ∧ (0 ≤ d 176 4 - 1 * u ∧ d 176 4 - 1 * u ≤ 99))) : x_M G l yX12_giveWick wsX12_giveWick 4 0 0 [.ref (x_b G + 175), .int (nI i), .int u] d (some (.int 0)) (g_kf (g_th (g_bg d) 3)) := by
  refine x_start (cc := cX12_giveWick) (maxL := 3) (ret := (some .int)) (own := RX12) (by decide) rfl rfl (Nat.le_of_ble_eq_true rfl) (lst := [(0, .ref (x_b G + 175)), (1, .int (nI i)), (2, .int u)]) rfl ?_
  intro p e s m args below meth c C hr hlocks
  refine a_aload_n C dX12_giveWick_0 0 rfl ?_
  refine a_callV C (k := 175) (As := []) (rest := []) (c_M_begin l G d) (cwV 0 C.1.2.2.2.2 gX12_giveWick_X12_begin rfl rfl rfl (by decide +kernel) ⟨Nat.le_of_ble_eq_true rfl, Nat.le_of_ble_eq_true rfl⟩) x_k175 (q := (RX12, TX12, 16)) rfl rfl rfl rfl (Nat.le_of_ble_eq_true rfl) dX12_giveWick_1 ⟨Nat.le_of_ble_eq_true rfl, Nat.le_of_ble_eq_true rfl⟩ ?_
  refine a_aload_n C dX12_giveWick_4 0 rfl ?_
  refine a_aload_n C dX12_giveWick_5 0 rfl ?_
  refine a_iload_n C dX12_giveWick_6 1 rfl ?_
  refine a_iload_n C dX12_giveWick_7 2 rfl ?_
  refine a_iconst C dX12_giveWick_8 (v := 1) (by decide) ?_
  refine a_callV C (k := 175) (As := [.int (nI i), .int u, .int 1]) (rest := [.ref (x_b G + 175)]) (c_M_movesWick_3 l G (g_bg d) u 1 i n hn h8 hi hu hq) (cwV 3 C.1.2.2.2.2 gX12_giveWick_X12_movesWick rfl rfl rfl (by decide +kernel) ⟨Nat.le_of_ble_eq_true rfl, Nat.le_of_ble_eq_true rfl⟩) x_k175 (q := (RX12, TX12, 16)) rfl rfl rfl rfl (Nat.le_of_ble_eq_true rfl) dX12_giveWick_9 ⟨Nat.le_of_ble_eq_true rfl, Nat.le_of_ble_eq_true rfl⟩ ?_
  refine a_callV C (k := 175) (As := [.int 0]) (rest := []) (c_M_kept_f l G (g_th (g_bg d) 3) 0 (show ¬ ((3 : Int32) = 0) by decide)) (cwV 1 C.1.2.2.2.2 gX12_giveWick_X12_kept rfl rfl rfl (by decide +kernel) ⟨Nat.le_of_ble_eq_true rfl, Nat.le_of_ble_eq_true rfl⟩) x_k175 (q := (RX12, TX12, 16)) rfl rfl rfl rfl (Nat.le_of_ble_eq_true rfl) dX12_giveWick_12 ⟨Nat.le_of_ble_eq_true rfl, Nat.le_of_ble_eq_true rfl⟩ ?_
  exact a_iret C hlocks hr dX12_giveWick_15 rfl rfl

set_option maxHeartbeats 1000000 in
set_option maxRecDepth 100000 in
theorem c_M_giveWick (l : Launch) (G : xG) (d : xd) (c9 : Nat) (hc : d 175 3 = nI c9) (h9 : c9 ≤ 8) (u : Int32) (i n : Nat) (hn : d 176 0 = nI n) (h8 : n ≤ 8) (hi : i < n) (hu : 1 ≤ u ∧ u ≤ 9) (hc1 : 0 ≤ d 176 (46 + i) + 1 * u ∧ d 176 (46 + i) + 1 * u ≤ 9) (hc2 : 0 ≤ d 176 4 - 1 * u ∧ d 176 4 - 1 * u ≤ 99) : x_M G l yX12_giveWick wsX12_giveWick 4 0 0 [.ref (x_b G + 175), .int (nI i), .int u] d (some (.int (d 176 (46 + i) + 1 * u))) (g_kp (g_ok (g_bg d) (upd (upd (d 176) (46 + i) (d 176 (46 + i) + 1 * u)) 4 (d 176 4 - 1 * u))) c9) := by
  refine x_start (cc := cX12_giveWick) (maxL := 3) (ret := (some .int)) (own := RX12) (by decide) rfl rfl (Nat.le_of_ble_eq_true rfl) (lst := [(0, .ref (x_b G + 175)), (1, .int (nI i)), (2, .int u)]) rfl ?_
  intro p e s m args below meth c C hr hlocks
  refine a_aload_n C dX12_giveWick_0 0 rfl ?_
  refine a_callV C (k := 175) (As := []) (rest := []) (c_M_begin l G d) (cwV 0 C.1.2.2.2.2 gX12_giveWick_X12_begin rfl rfl rfl (by decide +kernel) ⟨Nat.le_of_ble_eq_true rfl, Nat.le_of_ble_eq_true rfl⟩) x_k175 (q := (RX12, TX12, 16)) rfl rfl rfl rfl (Nat.le_of_ble_eq_true rfl) dX12_giveWick_1 ⟨Nat.le_of_ble_eq_true rfl, Nat.le_of_ble_eq_true rfl⟩ ?_
  refine a_aload_n C dX12_giveWick_4 0 rfl ?_
  refine a_aload_n C dX12_giveWick_5 0 rfl ?_
  refine a_iload_n C dX12_giveWick_6 1 rfl ?_
  refine a_iload_n C dX12_giveWick_7 2 rfl ?_
  refine a_iconst C dX12_giveWick_8 (v := 1) (by decide) ?_
  refine a_callV C (k := 175) (As := [.int (nI i), .int u, .int 1]) (rest := [.ref (x_b G + 175)]) (c_M_movesWick l G (g_bg d) u 1 i n hn h8 hi hu hc1 hc2) (cwV 3 C.1.2.2.2.2 gX12_giveWick_X12_movesWick rfl rfl rfl (by decide +kernel) ⟨Nat.le_of_ble_eq_true rfl, Nat.le_of_ble_eq_true rfl⟩) x_k175 (q := (RX12, TX12, 16)) rfl rfl rfl rfl (Nat.le_of_ble_eq_true rfl) dX12_giveWick_9 ⟨Nat.le_of_ble_eq_true rfl, Nat.le_of_ble_eq_true rfl⟩ ?_
  refine a_callV C (k := 175) (As := [.int (d 176 (46 + i) + 1 * u)]) (rest := []) (c_M_kept l G (g_ok (g_bg d) (upd (upd (d 176) (46 + i) (d 176 (46 + i) + 1 * u)) 4 (d 176 4 - 1 * u))) ((d 176 (46 + i) + 1 * u)) c9 rfl hc h9) (cwV 1 C.1.2.2.2.2 gX12_giveWick_X12_kept rfl rfl rfl (by decide +kernel) ⟨Nat.le_of_ble_eq_true rfl, Nat.le_of_ble_eq_true rfl⟩) x_k175 (q := (RX12, TX12, 16)) rfl rfl rfl rfl (Nat.le_of_ble_eq_true rfl) dX12_giveWick_12 ⟨Nat.le_of_ble_eq_true rfl, Nat.le_of_ble_eq_true rfl⟩ ?_
  exact a_iret C hlocks hr dX12_giveWick_15 rfl rfl

set_option maxHeartbeats 1000000 in
set_option maxRecDepth 100000 in
theorem c_M_returnWick_1 (l : Launch) (G : xG) (d : xd) (u : Int32) (x : Int32) (n : Nat) (hn : d 176 0 = nI n) (h8 : n ≤ 8) (hx : ¬ (0 ≤ x ∧ x < nI n)) : x_M G l yX12_returnWick wsX12_returnWick 4 0 0 [.ref (x_b G + 175), .int x, .int u] d (some (.int 0)) (g_kf (g_th (g_bg d) 1)) := by
  refine x_start (cc := cX12_returnWick) (maxL := 3) (ret := (some .int)) (own := RX12) (by decide) rfl rfl (Nat.le_of_ble_eq_true rfl) (lst := [(0, .ref (x_b G + 175)), (1, .int x), (2, .int u)]) rfl ?_
  intro p e s m args below meth c C hr hlocks
  refine a_aload_n C dX12_returnWick_0 0 rfl ?_
  refine a_callV C (k := 175) (As := []) (rest := []) (c_M_begin l G d) (cwV 0 C.1.2.2.2.2 gX12_returnWick_X12_begin rfl rfl rfl (by decide +kernel) ⟨Nat.le_of_ble_eq_true rfl, Nat.le_of_ble_eq_true rfl⟩) x_k175 (q := (RX12, TX12, 16)) rfl rfl rfl rfl (Nat.le_of_ble_eq_true rfl) dX12_returnWick_1 ⟨Nat.le_of_ble_eq_true rfl, Nat.le_of_ble_eq_true rfl⟩ ?_
  refine a_aload_n C dX12_returnWick_4 0 rfl ?_
  refine a_aload_n C dX12_returnWick_5 0 rfl ?_
  refine a_iload_n C dX12_returnWick_6 1 rfl ?_
  refine a_iload_n C dX12_returnWick_7 2 rfl ?_
  refine a_iconst C dX12_returnWick_8 (v := -1) (by decide) ?_
  refine a_callV C (k := 175) (As := [.int x, .int u, .int (-1)]) (rest := [.ref (x_b G + 175)]) (c_M_movesWick_1 l G (g_bg d) u (-1) x n hn h8 hx) (cwV 3 C.1.2.2.2.2 gX12_returnWick_X12_movesWick rfl rfl rfl (by decide +kernel) ⟨Nat.le_of_ble_eq_true rfl, Nat.le_of_ble_eq_true rfl⟩) x_k175 (q := (RX12, TX12, 16)) rfl rfl rfl rfl (Nat.le_of_ble_eq_true rfl) dX12_returnWick_9 ⟨Nat.le_of_ble_eq_true rfl, Nat.le_of_ble_eq_true rfl⟩ ?_
  refine a_callV C (k := 175) (As := [.int 0]) (rest := []) (c_M_kept_f l G (g_th (g_bg d) 1) 0 (show ¬ ((1 : Int32) = 0) by decide)) (cwV 1 C.1.2.2.2.2 gX12_returnWick_X12_kept rfl rfl rfl (by decide +kernel) ⟨Nat.le_of_ble_eq_true rfl, Nat.le_of_ble_eq_true rfl⟩) x_k175 (q := (RX12, TX12, 16)) rfl rfl rfl rfl (Nat.le_of_ble_eq_true rfl) dX12_returnWick_12 ⟨Nat.le_of_ble_eq_true rfl, Nat.le_of_ble_eq_true rfl⟩ ?_
  exact a_iret C hlocks hr dX12_returnWick_15 rfl rfl

set_option maxHeartbeats 1000000 in
set_option maxRecDepth 100000 in
theorem c_M_returnWick_2 (l : Launch) (G : xG) (d : xd) (u : Int32) (i n : Nat) (hn : d 176 0 = nI n) (h8 : n ≤ 8) (hi : i < n) (hu : ¬ (1 ≤ u ∧ u ≤ 9)) : x_M G l yX12_returnWick wsX12_returnWick 4 0 0 [.ref (x_b G + 175), .int (nI i), .int u] d (some (.int 0)) (g_kf (g_th (g_bg d) 2)) := by
  refine x_start (cc := cX12_returnWick) (maxL := 3) (ret := (some .int)) (own := RX12) (by decide) rfl rfl (Nat.le_of_ble_eq_true rfl) (lst := [(0, .ref (x_b G + 175)), (1, .int (nI i)), (2, .int u)]) rfl ?_
  intro p e s m args below meth c C hr hlocks
  refine a_aload_n C dX12_returnWick_0 0 rfl ?_
  refine a_callV C (k := 175) (As := []) (rest := []) (c_M_begin l G d) (cwV 0 C.1.2.2.2.2 gX12_returnWick_X12_begin rfl rfl rfl (by decide +kernel) ⟨Nat.le_of_ble_eq_true rfl, Nat.le_of_ble_eq_true rfl⟩) x_k175 (q := (RX12, TX12, 16)) rfl rfl rfl rfl (Nat.le_of_ble_eq_true rfl) dX12_returnWick_1 ⟨Nat.le_of_ble_eq_true rfl, Nat.le_of_ble_eq_true rfl⟩ ?_
  refine a_aload_n C dX12_returnWick_4 0 rfl ?_
  refine a_aload_n C dX12_returnWick_5 0 rfl ?_
  refine a_iload_n C dX12_returnWick_6 1 rfl ?_
  refine a_iload_n C dX12_returnWick_7 2 rfl ?_
  refine a_iconst C dX12_returnWick_8 (v := -1) (by decide) ?_
  refine a_callV C (k := 175) (As := [.int (nI i), .int u, .int (-1)]) (rest := [.ref (x_b G + 175)]) (c_M_movesWick_2 l G (g_bg d) u (-1) i n hn h8 hi hu) (cwV 3 C.1.2.2.2.2 gX12_returnWick_X12_movesWick rfl rfl rfl (by decide +kernel) ⟨Nat.le_of_ble_eq_true rfl, Nat.le_of_ble_eq_true rfl⟩) x_k175 (q := (RX12, TX12, 16)) rfl rfl rfl rfl (Nat.le_of_ble_eq_true rfl) dX12_returnWick_9 ⟨Nat.le_of_ble_eq_true rfl, Nat.le_of_ble_eq_true rfl⟩ ?_
  refine a_callV C (k := 175) (As := [.int 0]) (rest := []) (c_M_kept_f l G (g_th (g_bg d) 2) 0 (show ¬ ((2 : Int32) = 0) by decide)) (cwV 1 C.1.2.2.2.2 gX12_returnWick_X12_kept rfl rfl rfl (by decide +kernel) ⟨Nat.le_of_ble_eq_true rfl, Nat.le_of_ble_eq_true rfl⟩) x_k175 (q := (RX12, TX12, 16)) rfl rfl rfl rfl (Nat.le_of_ble_eq_true rfl) dX12_returnWick_12 ⟨Nat.le_of_ble_eq_true rfl, Nat.le_of_ble_eq_true rfl⟩ ?_
  exact a_iret C hlocks hr dX12_returnWick_15 rfl rfl

set_option maxHeartbeats 1000000 in
set_option maxRecDepth 100000 in
theorem c_M_returnWick_3 (l : Launch) (G : xG) (d : xd) (u : Int32) (i n : Nat) (hn : d 176 0 = nI n) (h8 : n ≤ 8) (hi : i < n) (hu : 1 ≤ u ∧ u ≤ 9) (hq : ¬ ((0 ≤ d 176 (46 + i) + (-1) * u ∧ d 176 (46 + i) + (-1) * u ≤ 9) ∧ (0 ≤ d 176 4 - (-1) * u ∧ d 176 4 - (-1) * u ≤ 99))) : x_M G l yX12_returnWick wsX12_returnWick 4 0 0 [.ref (x_b G + 175), .int (nI i), .int u] d (some (.int 0)) (g_kf (g_th (g_bg d) 3)) := by
  refine x_start (cc := cX12_returnWick) (maxL := 3) (ret := (some .int)) (own := RX12) (by decide) rfl rfl (Nat.le_of_ble_eq_true rfl) (lst := [(0, .ref (x_b G + 175)), (1, .int (nI i)), (2, .int u)]) rfl ?_
  intro p e s m args below meth c C hr hlocks
  refine a_aload_n C dX12_returnWick_0 0 rfl ?_
  refine a_callV C (k := 175) (As := []) (rest := []) (c_M_begin l G d) (cwV 0 C.1.2.2.2.2 gX12_returnWick_X12_begin rfl rfl rfl (by decide +kernel) ⟨Nat.le_of_ble_eq_true rfl, Nat.le_of_ble_eq_true rfl⟩) x_k175 (q := (RX12, TX12, 16)) rfl rfl rfl rfl (Nat.le_of_ble_eq_true rfl) dX12_returnWick_1 ⟨Nat.le_of_ble_eq_true rfl, Nat.le_of_ble_eq_true rfl⟩ ?_
  refine a_aload_n C dX12_returnWick_4 0 rfl ?_
  refine a_aload_n C dX12_returnWick_5 0 rfl ?_
  refine a_iload_n C dX12_returnWick_6 1 rfl ?_
  refine a_iload_n C dX12_returnWick_7 2 rfl ?_
  refine a_iconst C dX12_returnWick_8 (v := -1) (by decide) ?_
  refine a_callV C (k := 175) (As := [.int (nI i), .int u, .int (-1)]) (rest := [.ref (x_b G + 175)]) (c_M_movesWick_3 l G (g_bg d) u (-1) i n hn h8 hi hu hq) (cwV 3 C.1.2.2.2.2 gX12_returnWick_X12_movesWick rfl rfl rfl (by decide +kernel) ⟨Nat.le_of_ble_eq_true rfl, Nat.le_of_ble_eq_true rfl⟩) x_k175 (q := (RX12, TX12, 16)) rfl rfl rfl rfl (Nat.le_of_ble_eq_true rfl) dX12_returnWick_9 ⟨Nat.le_of_ble_eq_true rfl, Nat.le_of_ble_eq_true rfl⟩ ?_
  refine a_callV C (k := 175) (As := [.int 0]) (rest := []) (c_M_kept_f l G (g_th (g_bg d) 3) 0 (show ¬ ((3 : Int32) = 0) by decide)) (cwV 1 C.1.2.2.2.2 gX12_returnWick_X12_kept rfl rfl rfl (by decide +kernel) ⟨Nat.le_of_ble_eq_true rfl, Nat.le_of_ble_eq_true rfl⟩) x_k175 (q := (RX12, TX12, 16)) rfl rfl rfl rfl (Nat.le_of_ble_eq_true rfl) dX12_returnWick_12 ⟨Nat.le_of_ble_eq_true rfl, Nat.le_of_ble_eq_true rfl⟩ ?_
  exact a_iret C hlocks hr dX12_returnWick_15 rfl rfl

set_option maxHeartbeats 1000000 in
set_option maxRecDepth 100000 in
theorem c_M_returnWick (l : Launch) (G : xG) (d : xd) (c9 : Nat) (hc : d 175 3 = nI c9) (h9 : c9 ≤ 8) (u : Int32) (i n : Nat) (hn : d 176 0 = nI n) (h8 : n ≤ 8) (hi : i < n) (hu : 1 ≤ u ∧ u ≤ 9) (hc1 : 0 ≤ d 176 (46 + i) + (-1) * u ∧ d 176 (46 + i) + (-1) * u ≤ 9) (hc2 : 0 ≤ d 176 4 - (-1) * u ∧ d 176 4 - (-1) * u ≤ 99) : x_M G l yX12_returnWick wsX12_returnWick 4 0 0 [.ref (x_b G + 175), .int (nI i), .int u] d (some (.int (d 176 (46 + i) + (-1) * u))) (g_kp (g_ok (g_bg d) (upd (upd (d 176) (46 + i) (d 176 (46 + i) + (-1) * u)) 4 (d 176 4 - (-1) * u))) c9) := by
  refine x_start (cc := cX12_returnWick) (maxL := 3) (ret := (some .int)) (own := RX12) (by decide) rfl rfl (Nat.le_of_ble_eq_true rfl) (lst := [(0, .ref (x_b G + 175)), (1, .int (nI i)), (2, .int u)]) rfl ?_
  intro p e s m args below meth c C hr hlocks
  refine a_aload_n C dX12_returnWick_0 0 rfl ?_
  refine a_callV C (k := 175) (As := []) (rest := []) (c_M_begin l G d) (cwV 0 C.1.2.2.2.2 gX12_returnWick_X12_begin rfl rfl rfl (by decide +kernel) ⟨Nat.le_of_ble_eq_true rfl, Nat.le_of_ble_eq_true rfl⟩) x_k175 (q := (RX12, TX12, 16)) rfl rfl rfl rfl (Nat.le_of_ble_eq_true rfl) dX12_returnWick_1 ⟨Nat.le_of_ble_eq_true rfl, Nat.le_of_ble_eq_true rfl⟩ ?_
  refine a_aload_n C dX12_returnWick_4 0 rfl ?_
  refine a_aload_n C dX12_returnWick_5 0 rfl ?_
  refine a_iload_n C dX12_returnWick_6 1 rfl ?_
  refine a_iload_n C dX12_returnWick_7 2 rfl ?_
  refine a_iconst C dX12_returnWick_8 (v := -1) (by decide) ?_
  refine a_callV C (k := 175) (As := [.int (nI i), .int u, .int (-1)]) (rest := [.ref (x_b G + 175)]) (c_M_movesWick l G (g_bg d) u (-1) i n hn h8 hi hu hc1 hc2) (cwV 3 C.1.2.2.2.2 gX12_returnWick_X12_movesWick rfl rfl rfl (by decide +kernel) ⟨Nat.le_of_ble_eq_true rfl, Nat.le_of_ble_eq_true rfl⟩) x_k175 (q := (RX12, TX12, 16)) rfl rfl rfl rfl (Nat.le_of_ble_eq_true rfl) dX12_returnWick_9 ⟨Nat.le_of_ble_eq_true rfl, Nat.le_of_ble_eq_true rfl⟩ ?_
  refine a_callV C (k := 175) (As := [.int (d 176 (46 + i) + (-1) * u)]) (rest := []) (c_M_kept l G (g_ok (g_bg d) (upd (upd (d 176) (46 + i) (d 176 (46 + i) + (-1) * u)) 4 (d 176 4 - (-1) * u))) ((d 176 (46 + i) + (-1) * u)) c9 rfl hc h9) (cwV 1 C.1.2.2.2.2 gX12_returnWick_X12_kept rfl rfl rfl (by decide +kernel) ⟨Nat.le_of_ble_eq_true rfl, Nat.le_of_ble_eq_true rfl⟩) x_k175 (q := (RX12, TX12, 16)) rfl rfl rfl rfl (Nat.le_of_ble_eq_true rfl) dX12_returnWick_12 ⟨Nat.le_of_ble_eq_true rfl, Nat.le_of_ble_eq_true rfl⟩ ?_
  exact a_iret C hlocks hr dX12_returnWick_15 rfl rfl

set_option maxHeartbeats 1000000 in
set_option maxRecDepth 100000 in
theorem c_M_payDividend_1 (l : Launch) (G : xG) (d : xd) (hx : d 176 0 = 0 ∨ d 176 5 = 0) : x_M G l yX12_payDividend wsX12_payDividend 6 0 0 [.ref (x_b G + 175)] d (some (.int 0)) (g_kf (g_th (g_bg d) 1)) := by
  refine x_start (cc := cX12_payDividend) (maxL := 1) (ret := (some .int)) (own := RX12) (by decide) rfl rfl (Nat.le_of_ble_eq_true rfl) (lst := [(0, .ref (x_b G + 175))]) rfl ?_
  intro p e s m args below meth c C hr hlocks
  refine a_aload_n C dX12_payDividend_0 0 rfl ?_
  refine a_callV C (k := 175) (As := []) (rest := []) (c_M_begin l G d) (cwV 0 C.1.2.2.2.2 gX12_payDividend_X12_begin rfl rfl rfl (by decide +kernel) ⟨Nat.le_of_ble_eq_true rfl, Nat.le_of_ble_eq_true rfl⟩) x_k175 (q := (RX12, TX12, 16)) rfl rfl rfl rfl (Nat.le_of_ble_eq_true rfl) dX12_payDividend_1 ⟨Nat.le_of_ble_eq_true rfl, Nat.le_of_ble_eq_true rfl⟩ ?_
  refine a_aload_n C dX12_payDividend_4 0 rfl ?_
  refine a_aload_n C dX12_payDividend_5 0 rfl ?_
  refine a_callV C (k := 175) (As := []) (rest := [.ref (x_b G + 175)]) (c_M_pays_1 l G (g_bg d) hx) (cwV 0 C.1.2.2.2.2 gX12_payDividend_X12_pays rfl rfl rfl (by decide +kernel) ⟨Nat.le_of_ble_eq_true rfl, Nat.le_of_ble_eq_true rfl⟩) x_k175 (q := (RX12, TX12, 16)) rfl rfl rfl rfl (Nat.le_of_ble_eq_true rfl) dX12_payDividend_6 ⟨Nat.le_of_ble_eq_true rfl, Nat.le_of_ble_eq_true rfl⟩ ?_
  refine a_callV C (k := 175) (As := [.int 0]) (rest := []) (c_M_kept_f l G (g_th (g_bg d) 1) 0 (show ¬ ((1 : Int32) = 0) by decide)) (cwV 1 C.1.2.2.2.2 gX12_payDividend_X12_kept rfl rfl rfl (by decide +kernel) ⟨Nat.le_of_ble_eq_true rfl, Nat.le_of_ble_eq_true rfl⟩) x_k175 (q := (RX12, TX12, 16)) rfl rfl rfl rfl (Nat.le_of_ble_eq_true rfl) dX12_payDividend_9 ⟨Nat.le_of_ble_eq_true rfl, Nat.le_of_ble_eq_true rfl⟩ ?_
  exact a_iret C hlocks hr dX12_payDividend_12 rfl rfl

set_option maxHeartbeats 1000000 in
set_option maxRecDepth 100000 in
theorem c_M_payDividend (l : Launch) (G : xG) (d : xd) (c9 : Nat) (hc : d 175 3 = nI c9) (h9 : c9 ≤ 8) (a0 : Nat) (sh : Nat → Nat) (n : Nat) (hn : d 176 0 = nI n) (h8 : n ≤ 8) (h1 : 1 ≤ n) (hs : ∀ j, j < n → d 176 (14 + j) = nI (sh j)) (hs9 : ∀ j, j < n → sh j ≤ 9) (hS : 1 ≤ f_sn sh n) (ha0 : a0 < 100000) (ht : d 176 5 = nI a0) (ha1 : 1 ≤ a0) : x_M G l yX12_payDividend wsX12_payDividend 6 0 0 [.ref (x_b G + 175)] d (some (.int (nI a0))) (g_kp (g_ok (g_bg d) (upd (g_py (d 176) (g_por a0 sh n) n) 5 0)) c9) := by
  refine x_start (cc := cX12_payDividend) (maxL := 1) (ret := (some .int)) (own := RX12) (by decide) rfl rfl (Nat.le_of_ble_eq_true rfl) (lst := [(0, .ref (x_b G + 175))]) rfl ?_
  intro p e s m args below meth c C hr hlocks
  refine a_aload_n C dX12_payDividend_0 0 rfl ?_
  refine a_callV C (k := 175) (As := []) (rest := []) (c_M_begin l G d) (cwV 0 C.1.2.2.2.2 gX12_payDividend_X12_begin rfl rfl rfl (by decide +kernel) ⟨Nat.le_of_ble_eq_true rfl, Nat.le_of_ble_eq_true rfl⟩) x_k175 (q := (RX12, TX12, 16)) rfl rfl rfl rfl (Nat.le_of_ble_eq_true rfl) dX12_payDividend_1 ⟨Nat.le_of_ble_eq_true rfl, Nat.le_of_ble_eq_true rfl⟩ ?_
  refine a_aload_n C dX12_payDividend_4 0 rfl ?_
  refine a_aload_n C dX12_payDividend_5 0 rfl ?_
  refine a_callV C (k := 175) (As := []) (rest := [.ref (x_b G + 175)]) (c_M_pays l G (g_bg d) a0 sh n hn h8 h1 hs hs9 hS ha0 ht ha1) (cwV 0 C.1.2.2.2.2 gX12_payDividend_X12_pays rfl rfl rfl (by decide +kernel) ⟨Nat.le_of_ble_eq_true rfl, Nat.le_of_ble_eq_true rfl⟩) x_k175 (q := (RX12, TX12, 16)) rfl rfl rfl rfl (Nat.le_of_ble_eq_true rfl) dX12_payDividend_6 ⟨Nat.le_of_ble_eq_true rfl, Nat.le_of_ble_eq_true rfl⟩ ?_
  refine a_callV C (k := 175) (As := [.int (nI a0)]) (rest := []) (c_M_kept l G (g_ok (g_bg d) (upd (g_py (d 176) (g_por a0 sh n) n) 5 0)) ((nI a0)) c9 rfl hc h9) (cwV 1 C.1.2.2.2.2 gX12_payDividend_X12_kept rfl rfl rfl (by decide +kernel) ⟨Nat.le_of_ble_eq_true rfl, Nat.le_of_ble_eq_true rfl⟩) x_k175 (q := (RX12, TX12, 16)) rfl rfl rfl rfl (Nat.le_of_ble_eq_true rfl) dX12_payDividend_9 ⟨Nat.le_of_ble_eq_true rfl, Nat.le_of_ble_eq_true rfl⟩ ?_
  exact a_iret C hlocks hr dX12_payDividend_12 rfl rfl

set_option maxHeartbeats 1000000 in
set_option maxRecDepth 100000 in
theorem c_M_addMoth_1 (l : Launch) (G : xG) (d : xd) (x : Int32) (n : Nat) (hn : d 176 0 = nI n) (h8 : n ≤ 8) (hx : ¬ (0 ≤ x ∧ x < nI n)) : x_M G l yX12_addMoth wsX12_addMoth 4 0 0 [.ref (x_b G + 175), .int x] d (some (.int 0)) (g_kf (g_th (g_bg d) 1)) := by
  refine x_start (cc := cX12_addMoth) (maxL := 2) (ret := (some .int)) (own := RX12) (by decide) rfl rfl (Nat.le_of_ble_eq_true rfl) (lst := [(0, .ref (x_b G + 175)), (1, .int x)]) rfl ?_
  intro p e s m args below meth c C hr hlocks
  refine a_aload_n C dX12_addMoth_0 0 rfl ?_
  refine a_callV C (k := 175) (As := []) (rest := []) (c_M_begin l G d) (cwV 0 C.1.2.2.2.2 gX12_addMoth_X12_begin rfl rfl rfl (by decide +kernel) ⟨Nat.le_of_ble_eq_true rfl, Nat.le_of_ble_eq_true rfl⟩) x_k175 (q := (RX12, TX12, 16)) rfl rfl rfl rfl (Nat.le_of_ble_eq_true rfl) dX12_addMoth_1 ⟨Nat.le_of_ble_eq_true rfl, Nat.le_of_ble_eq_true rfl⟩ ?_
  refine a_aload_n C dX12_addMoth_4 0 rfl ?_
  refine a_aload_n C dX12_addMoth_5 0 rfl ?_
  refine a_iload_n C dX12_addMoth_6 1 rfl ?_
  refine a_callV C (k := 175) (As := [.int x]) (rest := [.ref (x_b G + 175)]) (c_M_addsMoth_1 l G (g_bg d) x n hn h8 hx) (cwV 1 C.1.2.2.2.2 gX12_addMoth_X12_addsMoth rfl rfl rfl (by decide +kernel) ⟨Nat.le_of_ble_eq_true rfl, Nat.le_of_ble_eq_true rfl⟩) x_k175 (q := (RX12, TX12, 16)) rfl rfl rfl rfl (Nat.le_of_ble_eq_true rfl) dX12_addMoth_7 ⟨Nat.le_of_ble_eq_true rfl, Nat.le_of_ble_eq_true rfl⟩ ?_
  refine a_callV C (k := 175) (As := [.int 0]) (rest := []) (c_M_kept_f l G (g_th (g_bg d) 1) 0 (show ¬ ((1 : Int32) = 0) by decide)) (cwV 1 C.1.2.2.2.2 gX12_addMoth_X12_kept rfl rfl rfl (by decide +kernel) ⟨Nat.le_of_ble_eq_true rfl, Nat.le_of_ble_eq_true rfl⟩) x_k175 (q := (RX12, TX12, 16)) rfl rfl rfl rfl (Nat.le_of_ble_eq_true rfl) dX12_addMoth_10 ⟨Nat.le_of_ble_eq_true rfl, Nat.le_of_ble_eq_true rfl⟩ ?_
  exact a_iret C hlocks hr dX12_addMoth_13 rfl rfl

set_option maxHeartbeats 1000000 in
set_option maxRecDepth 100000 in
theorem c_M_addMoth_2 (l : Launch) (G : xG) (d : xd) (i n : Nat) (hn : d 176 0 = nI n) (h8 : n ≤ 8) (hi : i < n) (hq : d 176 1 = 6) : x_M G l yX12_addMoth wsX12_addMoth 4 0 0 [.ref (x_b G + 175), .int (nI i)] d (some (.int 0)) (g_kf (g_th (g_bg d) 2)) := by
  refine x_start (cc := cX12_addMoth) (maxL := 2) (ret := (some .int)) (own := RX12) (by decide) rfl rfl (Nat.le_of_ble_eq_true rfl) (lst := [(0, .ref (x_b G + 175)), (1, .int (nI i))]) rfl ?_
  intro p e s m args below meth c C hr hlocks
  refine a_aload_n C dX12_addMoth_0 0 rfl ?_
  refine a_callV C (k := 175) (As := []) (rest := []) (c_M_begin l G d) (cwV 0 C.1.2.2.2.2 gX12_addMoth_X12_begin rfl rfl rfl (by decide +kernel) ⟨Nat.le_of_ble_eq_true rfl, Nat.le_of_ble_eq_true rfl⟩) x_k175 (q := (RX12, TX12, 16)) rfl rfl rfl rfl (Nat.le_of_ble_eq_true rfl) dX12_addMoth_1 ⟨Nat.le_of_ble_eq_true rfl, Nat.le_of_ble_eq_true rfl⟩ ?_
  refine a_aload_n C dX12_addMoth_4 0 rfl ?_
  refine a_aload_n C dX12_addMoth_5 0 rfl ?_
  refine a_iload_n C dX12_addMoth_6 1 rfl ?_
  refine a_callV C (k := 175) (As := [.int (nI i)]) (rest := [.ref (x_b G + 175)]) (c_M_addsMoth_2 l G (g_bg d) i n hn h8 hi hq) (cwV 1 C.1.2.2.2.2 gX12_addMoth_X12_addsMoth rfl rfl rfl (by decide +kernel) ⟨Nat.le_of_ble_eq_true rfl, Nat.le_of_ble_eq_true rfl⟩) x_k175 (q := (RX12, TX12, 16)) rfl rfl rfl rfl (Nat.le_of_ble_eq_true rfl) dX12_addMoth_7 ⟨Nat.le_of_ble_eq_true rfl, Nat.le_of_ble_eq_true rfl⟩ ?_
  refine a_callV C (k := 175) (As := [.int 0]) (rest := []) (c_M_kept_f l G (g_th (g_bg d) 2) 0 (show ¬ ((2 : Int32) = 0) by decide)) (cwV 1 C.1.2.2.2.2 gX12_addMoth_X12_kept rfl rfl rfl (by decide +kernel) ⟨Nat.le_of_ble_eq_true rfl, Nat.le_of_ble_eq_true rfl⟩) x_k175 (q := (RX12, TX12, 16)) rfl rfl rfl rfl (Nat.le_of_ble_eq_true rfl) dX12_addMoth_10 ⟨Nat.le_of_ble_eq_true rfl, Nat.le_of_ble_eq_true rfl⟩ ?_
  exact a_iret C hlocks hr dX12_addMoth_13 rfl rfl

set_option maxHeartbeats 1000000 in
set_option maxRecDepth 100000 in
theorem c_M_addMoth (l : Launch) (G : xG) (d : xd) (c9 : Nat) (hc : d 175 3 = nI c9) (h9 : c9 ≤ 8) (i n : Nat) (hn : d 176 0 = nI n) (h8 : n ≤ 8) (hi : i < n) (q : Nat) (hq : d 176 1 = nI q) (h6 : q < 6) : x_M G l yX12_addMoth wsX12_addMoth 4 0 0 [.ref (x_b G + 175), .int (nI i)] d (some (.int (nI q))) (g_kp (g_ok (g_bg d) (g_addm (d 176) i q)) c9) := by
  refine x_start (cc := cX12_addMoth) (maxL := 2) (ret := (some .int)) (own := RX12) (by decide) rfl rfl (Nat.le_of_ble_eq_true rfl) (lst := [(0, .ref (x_b G + 175)), (1, .int (nI i))]) rfl ?_
  intro p e s m args below meth c C hr hlocks
  refine a_aload_n C dX12_addMoth_0 0 rfl ?_
  refine a_callV C (k := 175) (As := []) (rest := []) (c_M_begin l G d) (cwV 0 C.1.2.2.2.2 gX12_addMoth_X12_begin rfl rfl rfl (by decide +kernel) ⟨Nat.le_of_ble_eq_true rfl, Nat.le_of_ble_eq_true rfl⟩) x_k175 (q := (RX12, TX12, 16)) rfl rfl rfl rfl (Nat.le_of_ble_eq_true rfl) dX12_addMoth_1 ⟨Nat.le_of_ble_eq_true rfl, Nat.le_of_ble_eq_true rfl⟩ ?_
  refine a_aload_n C dX12_addMoth_4 0 rfl ?_
  refine a_aload_n C dX12_addMoth_5 0 rfl ?_
  refine a_iload_n C dX12_addMoth_6 1 rfl ?_
  refine a_callV C (k := 175) (As := [.int (nI i)]) (rest := [.ref (x_b G + 175)]) (c_M_addsMoth l G (g_bg d) i n hn h8 hi q hq h6) (cwV 1 C.1.2.2.2.2 gX12_addMoth_X12_addsMoth rfl rfl rfl (by decide +kernel) ⟨Nat.le_of_ble_eq_true rfl, Nat.le_of_ble_eq_true rfl⟩) x_k175 (q := (RX12, TX12, 16)) rfl rfl rfl rfl (Nat.le_of_ble_eq_true rfl) dX12_addMoth_7 ⟨Nat.le_of_ble_eq_true rfl, Nat.le_of_ble_eq_true rfl⟩ ?_
  refine a_callV C (k := 175) (As := [.int (nI q)]) (rest := []) (c_M_kept l G (g_ok (g_bg d) (g_addm (d 176) i q)) ((nI q)) c9 rfl hc h9) (cwV 1 C.1.2.2.2.2 gX12_addMoth_X12_kept rfl rfl rfl (by decide +kernel) ⟨Nat.le_of_ble_eq_true rfl, Nat.le_of_ble_eq_true rfl⟩) x_k175 (q := (RX12, TX12, 16)) rfl rfl rfl rfl (Nat.le_of_ble_eq_true rfl) dX12_addMoth_10 ⟨Nat.le_of_ble_eq_true rfl, Nat.le_of_ble_eq_true rfl⟩ ?_
  exact a_iret C hlocks hr dX12_addMoth_13 rfl rfl

set_option maxHeartbeats 1000000 in
set_option maxRecDepth 100000 in
theorem c_M_moveMoth_1 (l : Launch) (G : xG) (d : xd) (x : Int32) (q : Nat) (hq : d 176 1 = nI q) (h6 : q ≤ 6) (hx : ¬ (0 ≤ x ∧ x < nI q)) (y : Int32) : x_M G l yX12_moveMoth wsX12_moveMoth 4 0 0 [.ref (x_b G + 175), .int x, .int y] d (some (.int 0)) (g_kf (g_th (g_bg d) 1)) := by
  refine x_start (cc := cX12_moveMoth) (maxL := 3) (ret := (some .int)) (own := RX12) (by decide) rfl rfl (Nat.le_of_ble_eq_true rfl) (lst := [(0, .ref (x_b G + 175)), (1, .int x), (2, .int y)]) rfl ?_
  intro p e s m args below meth c C hr hlocks
  refine a_aload_n C dX12_moveMoth_0 0 rfl ?_
  refine a_callV C (k := 175) (As := []) (rest := []) (c_M_begin l G d) (cwV 0 C.1.2.2.2.2 gX12_moveMoth_X12_begin rfl rfl rfl (by decide +kernel) ⟨Nat.le_of_ble_eq_true rfl, Nat.le_of_ble_eq_true rfl⟩) x_k175 (q := (RX12, TX12, 16)) rfl rfl rfl rfl (Nat.le_of_ble_eq_true rfl) dX12_moveMoth_1 ⟨Nat.le_of_ble_eq_true rfl, Nat.le_of_ble_eq_true rfl⟩ ?_
  refine a_aload_n C dX12_moveMoth_4 0 rfl ?_
  refine a_aload_n C dX12_moveMoth_5 0 rfl ?_
  refine a_iload_n C dX12_moveMoth_6 1 rfl ?_
  refine a_iload_n C dX12_moveMoth_7 2 rfl ?_
  refine a_callV C (k := 175) (As := [.int x, .int y]) (rest := [.ref (x_b G + 175)]) (c_M_movesMoth_1 l G (g_bg d) x q hq h6 hx y) (cwV 2 C.1.2.2.2.2 gX12_moveMoth_X12_movesMoth rfl rfl rfl (by decide +kernel) ⟨Nat.le_of_ble_eq_true rfl, Nat.le_of_ble_eq_true rfl⟩) x_k175 (q := (RX12, TX12, 16)) rfl rfl rfl rfl (Nat.le_of_ble_eq_true rfl) dX12_moveMoth_8 ⟨Nat.le_of_ble_eq_true rfl, Nat.le_of_ble_eq_true rfl⟩ ?_
  refine a_callV C (k := 175) (As := [.int 0]) (rest := []) (c_M_kept_f l G (g_th (g_bg d) 1) 0 (show ¬ ((1 : Int32) = 0) by decide)) (cwV 1 C.1.2.2.2.2 gX12_moveMoth_X12_kept rfl rfl rfl (by decide +kernel) ⟨Nat.le_of_ble_eq_true rfl, Nat.le_of_ble_eq_true rfl⟩) x_k175 (q := (RX12, TX12, 16)) rfl rfl rfl rfl (Nat.le_of_ble_eq_true rfl) dX12_moveMoth_11 ⟨Nat.le_of_ble_eq_true rfl, Nat.le_of_ble_eq_true rfl⟩ ?_
  exact a_iret C hlocks hr dX12_moveMoth_14 rfl rfl

set_option maxHeartbeats 1000000 in
set_option maxRecDepth 100000 in
theorem c_M_moveMoth_2 (l : Launch) (G : xG) (d : xd) (i q : Nat) (hq : d 176 1 = nI q) (h6 : q ≤ 6) (hi : i < q) (x : Int32) (n : Nat) (hn : d 176 0 = nI n) (h8 : n ≤ 8) (hx : ¬ (0 ≤ x ∧ x < nI n)) (hx1 : ¬ x = -1) : x_M G l yX12_moveMoth wsX12_moveMoth 4 0 0 [.ref (x_b G + 175), .int (nI i), .int x] d (some (.int 0)) (g_kf (g_th (g_bg d) 1)) := by
  refine x_start (cc := cX12_moveMoth) (maxL := 3) (ret := (some .int)) (own := RX12) (by decide) rfl rfl (Nat.le_of_ble_eq_true rfl) (lst := [(0, .ref (x_b G + 175)), (1, .int (nI i)), (2, .int x)]) rfl ?_
  intro p e s m args below meth c C hr hlocks
  refine a_aload_n C dX12_moveMoth_0 0 rfl ?_
  refine a_callV C (k := 175) (As := []) (rest := []) (c_M_begin l G d) (cwV 0 C.1.2.2.2.2 gX12_moveMoth_X12_begin rfl rfl rfl (by decide +kernel) ⟨Nat.le_of_ble_eq_true rfl, Nat.le_of_ble_eq_true rfl⟩) x_k175 (q := (RX12, TX12, 16)) rfl rfl rfl rfl (Nat.le_of_ble_eq_true rfl) dX12_moveMoth_1 ⟨Nat.le_of_ble_eq_true rfl, Nat.le_of_ble_eq_true rfl⟩ ?_
  refine a_aload_n C dX12_moveMoth_4 0 rfl ?_
  refine a_aload_n C dX12_moveMoth_5 0 rfl ?_
  refine a_iload_n C dX12_moveMoth_6 1 rfl ?_
  refine a_iload_n C dX12_moveMoth_7 2 rfl ?_
  refine a_callV C (k := 175) (As := [.int (nI i), .int x]) (rest := [.ref (x_b G + 175)]) (c_M_movesMoth_2 l G (g_bg d) i q hq h6 hi x n hn h8 hx hx1) (cwV 2 C.1.2.2.2.2 gX12_moveMoth_X12_movesMoth rfl rfl rfl (by decide +kernel) ⟨Nat.le_of_ble_eq_true rfl, Nat.le_of_ble_eq_true rfl⟩) x_k175 (q := (RX12, TX12, 16)) rfl rfl rfl rfl (Nat.le_of_ble_eq_true rfl) dX12_moveMoth_8 ⟨Nat.le_of_ble_eq_true rfl, Nat.le_of_ble_eq_true rfl⟩ ?_
  refine a_callV C (k := 175) (As := [.int 0]) (rest := []) (c_M_kept_f l G (g_th (g_bg d) 1) 0 (show ¬ ((1 : Int32) = 0) by decide)) (cwV 1 C.1.2.2.2.2 gX12_moveMoth_X12_kept rfl rfl rfl (by decide +kernel) ⟨Nat.le_of_ble_eq_true rfl, Nat.le_of_ble_eq_true rfl⟩) x_k175 (q := (RX12, TX12, 16)) rfl rfl rfl rfl (Nat.le_of_ble_eq_true rfl) dX12_moveMoth_11 ⟨Nat.le_of_ble_eq_true rfl, Nat.le_of_ble_eq_true rfl⟩ ?_
  exact a_iret C hlocks hr dX12_moveMoth_14 rfl rfl

set_option maxHeartbeats 1000000 in
set_option maxRecDepth 100000 in
theorem c_M_moveMoth (l : Launch) (G : xG) (d : xd) (c9 : Nat) (hc : d 175 3 = nI c9) (h9 : c9 ≤ 8) (i q : Nat) (hq : d 176 1 = nI q) (h6 : q ≤ 6) (hi : i < q) (x : Int32) (n : Nat) (hn : d 176 0 = nI n) (h8 : n ≤ 8) (hx : (0 ≤ x ∧ x < nI n) ∨ x = -1) : x_M G l yX12_moveMoth wsX12_moveMoth 4 0 0 [.ref (x_b G + 175), .int (nI i), .int x] d (some (.int (d 176 (62 + i) - 1))) (g_kp (g_ok (g_bg d) (upd (d 176) (62 + i) (x + 1))) c9) := by
  refine x_start (cc := cX12_moveMoth) (maxL := 3) (ret := (some .int)) (own := RX12) (by decide) rfl rfl (Nat.le_of_ble_eq_true rfl) (lst := [(0, .ref (x_b G + 175)), (1, .int (nI i)), (2, .int x)]) rfl ?_
  intro p e s m args below meth c C hr hlocks
  refine a_aload_n C dX12_moveMoth_0 0 rfl ?_
  refine a_callV C (k := 175) (As := []) (rest := []) (c_M_begin l G d) (cwV 0 C.1.2.2.2.2 gX12_moveMoth_X12_begin rfl rfl rfl (by decide +kernel) ⟨Nat.le_of_ble_eq_true rfl, Nat.le_of_ble_eq_true rfl⟩) x_k175 (q := (RX12, TX12, 16)) rfl rfl rfl rfl (Nat.le_of_ble_eq_true rfl) dX12_moveMoth_1 ⟨Nat.le_of_ble_eq_true rfl, Nat.le_of_ble_eq_true rfl⟩ ?_
  refine a_aload_n C dX12_moveMoth_4 0 rfl ?_
  refine a_aload_n C dX12_moveMoth_5 0 rfl ?_
  refine a_iload_n C dX12_moveMoth_6 1 rfl ?_
  refine a_iload_n C dX12_moveMoth_7 2 rfl ?_
  refine a_callV C (k := 175) (As := [.int (nI i), .int x]) (rest := [.ref (x_b G + 175)]) (c_M_movesMoth l G (g_bg d) i q hq h6 hi x n hn h8 hx) (cwV 2 C.1.2.2.2.2 gX12_moveMoth_X12_movesMoth rfl rfl rfl (by decide +kernel) ⟨Nat.le_of_ble_eq_true rfl, Nat.le_of_ble_eq_true rfl⟩) x_k175 (q := (RX12, TX12, 16)) rfl rfl rfl rfl (Nat.le_of_ble_eq_true rfl) dX12_moveMoth_8 ⟨Nat.le_of_ble_eq_true rfl, Nat.le_of_ble_eq_true rfl⟩ ?_
  refine a_callV C (k := 175) (As := [.int (d 176 (62 + i) - 1)]) (rest := []) (c_M_kept l G (g_ok (g_bg d) (upd (d 176) (62 + i) (x + 1))) ((d 176 (62 + i) - 1)) c9 rfl hc h9) (cwV 1 C.1.2.2.2.2 gX12_moveMoth_X12_kept rfl rfl rfl (by decide +kernel) ⟨Nat.le_of_ble_eq_true rfl, Nat.le_of_ble_eq_true rfl⟩) x_k175 (q := (RX12, TX12, 16)) rfl rfl rfl rfl (Nat.le_of_ble_eq_true rfl) dX12_moveMoth_11 ⟨Nat.le_of_ble_eq_true rfl, Nat.le_of_ble_eq_true rfl⟩ ?_
  exact a_iret C hlocks hr dX12_moveMoth_14 rfl rfl

set_option maxHeartbeats 1000000 in
set_option maxRecDepth 100000 in
theorem c_M_burnNight (l : Launch) (G : xG) (d : xd) (c9 : Nat) (hc : d 175 3 = nI c9) (h9 : c9 ≤ 8) (n : Nat) (hn : d 176 0 = nI n) (h8 : n ≤ 8) (q : Nat) (hq : d 176 1 = nI q) (h6 : q ≤ 6) (hcr : ∀ k, k < q → d 176 (62 + k) - 1 = -1 ∨ ∃ w, w < n ∧ d 176 (62 + k) - 1 = nI w) : x_M G l yX12_burnNight wsX12_burnNight 5 0 0 [.ref (x_b G + 175)] d (some (.int (g_cn (g_rdy (d 176)) n))) (g_kp (g_ok (g_bg d) (g_ngt (d 176) n q)) c9) := by
  refine x_start (cc := cX12_burnNight) (maxL := 1) (ret := (some .int)) (own := RX12) (by decide) rfl rfl (Nat.le_of_ble_eq_true rfl) (lst := [(0, .ref (x_b G + 175))]) rfl ?_
  intro p e s m args below meth c C hr hlocks
  refine a_aload_n C dX12_burnNight_0 0 rfl ?_
  refine a_callV C (k := 175) (As := []) (rest := []) (c_M_begin l G d) (cwV 0 C.1.2.2.2.2 gX12_burnNight_X12_begin rfl rfl rfl (by decide +kernel) ⟨Nat.le_of_ble_eq_true rfl, Nat.le_of_ble_eq_true rfl⟩) x_k175 (q := (RX12, TX12, 16)) rfl rfl rfl rfl (Nat.le_of_ble_eq_true rfl) dX12_burnNight_1 ⟨Nat.le_of_ble_eq_true rfl, Nat.le_of_ble_eq_true rfl⟩ ?_
  refine a_aload_n C dX12_burnNight_4 0 rfl ?_
  refine a_aload_n C dX12_burnNight_5 0 rfl ?_
  refine a_callV C (k := 175) (As := []) (rest := [.ref (x_b G + 175)]) (c_M_passesNight l G (g_bg d) n hn h8 q hq h6 hcr) (cwV 0 C.1.2.2.2.2 gX12_burnNight_X12_passesNight rfl rfl rfl (by decide +kernel) ⟨Nat.le_of_ble_eq_true rfl, Nat.le_of_ble_eq_true rfl⟩) x_k175 (q := (RX12, TX12, 16)) rfl rfl rfl rfl (Nat.le_of_ble_eq_true rfl) dX12_burnNight_6 ⟨Nat.le_of_ble_eq_true rfl, Nat.le_of_ble_eq_true rfl⟩ ?_
  refine a_callV C (k := 175) (As := [.int (g_cn (g_rdy (d 176)) n)]) (rest := []) (c_M_kept l G (g_ok (g_bg d) (g_ngt (d 176) n q)) ((g_cn (g_rdy (d 176)) n)) c9 rfl hc h9) (cwV 1 C.1.2.2.2.2 gX12_burnNight_X12_kept rfl rfl rfl (by decide +kernel) ⟨Nat.le_of_ble_eq_true rfl, Nat.le_of_ble_eq_true rfl⟩) x_k175 (q := (RX12, TX12, 16)) rfl rfl rfl rfl (Nat.le_of_ble_eq_true rfl) dX12_burnNight_9 ⟨Nat.le_of_ble_eq_true rfl, Nat.le_of_ble_eq_true rfl⟩ ?_
  exact a_iret C hlocks hr dX12_burnNight_12 rfl rfl

set_option maxHeartbeats 1000000 in
set_option maxRecDepth 100000 in
theorem c_M_proposeCap_1 (l : Launch) (G : xG) (d : xd) (x : Int32) (hx : ¬ (1 ≤ x ∧ x ≤ 5)) : x_M G l yX12_proposeCap wsX12_proposeCap 5 0 0 [.ref (x_b G + 175), .int x] d (some (.int 0)) (g_kf (g_th (g_bg d) 1)) := by
  refine x_start (cc := cX12_proposeCap) (maxL := 2) (ret := (some .boolean)) (own := RX12) (by decide) rfl rfl (Nat.le_of_ble_eq_true rfl) (lst := [(0, .ref (x_b G + 175)), (1, .int x)]) rfl ?_
  intro p e s m args below meth c C hr hlocks
  refine a_aload_n C dX12_proposeCap_0 0 rfl ?_
  refine a_callV C (k := 175) (As := []) (rest := []) (c_M_begin l G d) (cwV 0 C.1.2.2.2.2 gX12_proposeCap_X12_begin rfl rfl rfl (by decide +kernel) ⟨Nat.le_of_ble_eq_true rfl, Nat.le_of_ble_eq_true rfl⟩) x_k175 (q := (RX12, TX12, 16)) rfl rfl rfl rfl (Nat.le_of_ble_eq_true rfl) dX12_proposeCap_1 ⟨Nat.le_of_ble_eq_true rfl, Nat.le_of_ble_eq_true rfl⟩ ?_
  refine a_aload_n C dX12_proposeCap_4 0 rfl ?_
  refine a_aload_n C dX12_proposeCap_5 0 rfl ?_
  refine a_iload_n C dX12_proposeCap_6 1 rfl ?_
  refine a_callV C (k := 175) (As := [.int x]) (rest := [.ref (x_b G + 175)]) (c_M_proposes_1 l G (g_bg d) x hx) (cwV 1 C.1.2.2.2.2 gX12_proposeCap_X12_proposes rfl rfl rfl (by decide +kernel) ⟨Nat.le_of_ble_eq_true rfl, Nat.le_of_ble_eq_true rfl⟩) x_k175 (q := (RX12, TX12, 16)) rfl rfl rfl rfl (Nat.le_of_ble_eq_true rfl) dX12_proposeCap_7 ⟨Nat.le_of_ble_eq_true rfl, Nat.le_of_ble_eq_true rfl⟩ ?_
  refine a_callV C (k := 175) (As := [.int 0]) (rest := []) (c_M_kept_f l G (g_th (g_bg d) 1) 0 (show ¬ ((1 : Int32) = 0) by decide)) (cwV 1 C.1.2.2.2.2 gX12_proposeCap_X12_kept rfl rfl rfl (by decide +kernel) ⟨Nat.le_of_ble_eq_true rfl, Nat.le_of_ble_eq_true rfl⟩) x_k175 (q := (RX12, TX12, 16)) rfl rfl rfl rfl (Nat.le_of_ble_eq_true rfl) dX12_proposeCap_10 ⟨Nat.le_of_ble_eq_true rfl, Nat.le_of_ble_eq_true rfl⟩ ?_
  refine a_iconst C dX12_proposeCap_13 (v := 1) (by decide) ?_
  refine a_icmp_ne C dX12_proposeCap_14 (tgt := 21) (by decide) (fun _ => ?_) (fun h => absurd h (by decide))
  refine a_iconst C dX12_proposeCap_21 (v := 0) (by decide) ?_
  exact a_zret C hlocks hr rfl dX12_proposeCap_22 rfl rfl

set_option maxHeartbeats 1000000 in
set_option maxRecDepth 100000 in
theorem c_M_proposeCap_2 (l : Launch) (G : xG) (d : xd) (x : Int32) (hx : 1 ≤ x ∧ x ≤ 5) (hn : d 176 0 = 0) : x_M G l yX12_proposeCap wsX12_proposeCap 5 0 0 [.ref (x_b G + 175), .int x] d (some (.int 0)) (g_kf (g_th (g_bg d) 2)) := by
  refine x_start (cc := cX12_proposeCap) (maxL := 2) (ret := (some .boolean)) (own := RX12) (by decide) rfl rfl (Nat.le_of_ble_eq_true rfl) (lst := [(0, .ref (x_b G + 175)), (1, .int x)]) rfl ?_
  intro p e s m args below meth c C hr hlocks
  refine a_aload_n C dX12_proposeCap_0 0 rfl ?_
  refine a_callV C (k := 175) (As := []) (rest := []) (c_M_begin l G d) (cwV 0 C.1.2.2.2.2 gX12_proposeCap_X12_begin rfl rfl rfl (by decide +kernel) ⟨Nat.le_of_ble_eq_true rfl, Nat.le_of_ble_eq_true rfl⟩) x_k175 (q := (RX12, TX12, 16)) rfl rfl rfl rfl (Nat.le_of_ble_eq_true rfl) dX12_proposeCap_1 ⟨Nat.le_of_ble_eq_true rfl, Nat.le_of_ble_eq_true rfl⟩ ?_
  refine a_aload_n C dX12_proposeCap_4 0 rfl ?_
  refine a_aload_n C dX12_proposeCap_5 0 rfl ?_
  refine a_iload_n C dX12_proposeCap_6 1 rfl ?_
  refine a_callV C (k := 175) (As := [.int x]) (rest := [.ref (x_b G + 175)]) (c_M_proposes_2 l G (g_bg d) x hx hn) (cwV 1 C.1.2.2.2.2 gX12_proposeCap_X12_proposes rfl rfl rfl (by decide +kernel) ⟨Nat.le_of_ble_eq_true rfl, Nat.le_of_ble_eq_true rfl⟩) x_k175 (q := (RX12, TX12, 16)) rfl rfl rfl rfl (Nat.le_of_ble_eq_true rfl) dX12_proposeCap_7 ⟨Nat.le_of_ble_eq_true rfl, Nat.le_of_ble_eq_true rfl⟩ ?_
  refine a_callV C (k := 175) (As := [.int 0]) (rest := []) (c_M_kept_f l G (g_th (g_bg d) 2) 0 (show ¬ ((2 : Int32) = 0) by decide)) (cwV 1 C.1.2.2.2.2 gX12_proposeCap_X12_kept rfl rfl rfl (by decide +kernel) ⟨Nat.le_of_ble_eq_true rfl, Nat.le_of_ble_eq_true rfl⟩) x_k175 (q := (RX12, TX12, 16)) rfl rfl rfl rfl (Nat.le_of_ble_eq_true rfl) dX12_proposeCap_10 ⟨Nat.le_of_ble_eq_true rfl, Nat.le_of_ble_eq_true rfl⟩ ?_
  refine a_iconst C dX12_proposeCap_13 (v := 1) (by decide) ?_
  refine a_icmp_ne C dX12_proposeCap_14 (tgt := 21) (by decide) (fun _ => ?_) (fun h => absurd h (by decide))
  refine a_iconst C dX12_proposeCap_21 (v := 0) (by decide) ?_
  exact a_zret C hlocks hr rfl dX12_proposeCap_22 rfl rfl

set_option maxHeartbeats 1000000 in
set_option maxRecDepth 100000 in
theorem c_M_proposeCap_n (l : Launch) (G : xG) (d : xd) (c9 : Nat) (hc : d 175 3 = nI c9) (h9 : c9 ≤ 8) (x : Int32) (hx : 1 ≤ x ∧ x ≤ 5) (n : Nat) (hn : d 176 0 = nI n) (h8 : n ≤ 8) (h1 : 1 ≤ n) (hq : ¬ g_car (d 176) n x = true) : x_M G l yX12_proposeCap wsX12_proposeCap 5 0 0 [.ref (x_b G + 175), .int x] d (some (.int 0)) (g_kp (g_th (g_bg d) 0) c9) := by
  refine x_start (cc := cX12_proposeCap) (maxL := 2) (ret := (some .boolean)) (own := RX12) (by decide) rfl rfl (Nat.le_of_ble_eq_true rfl) (lst := [(0, .ref (x_b G + 175)), (1, .int x)]) rfl ?_
  intro p e s m args below meth c C hr hlocks
  refine a_aload_n C dX12_proposeCap_0 0 rfl ?_
  refine a_callV C (k := 175) (As := []) (rest := []) (c_M_begin l G d) (cwV 0 C.1.2.2.2.2 gX12_proposeCap_X12_begin rfl rfl rfl (by decide +kernel) ⟨Nat.le_of_ble_eq_true rfl, Nat.le_of_ble_eq_true rfl⟩) x_k175 (q := (RX12, TX12, 16)) rfl rfl rfl rfl (Nat.le_of_ble_eq_true rfl) dX12_proposeCap_1 ⟨Nat.le_of_ble_eq_true rfl, Nat.le_of_ble_eq_true rfl⟩ ?_
  refine a_aload_n C dX12_proposeCap_4 0 rfl ?_
  refine a_aload_n C dX12_proposeCap_5 0 rfl ?_
  refine a_iload_n C dX12_proposeCap_6 1 rfl ?_
  refine a_callV C (k := 175) (As := [.int x]) (rest := [.ref (x_b G + 175)]) (c_M_proposes_n l G (g_bg d) x hx n hn h8 h1 hq) (cwV 1 C.1.2.2.2.2 gX12_proposeCap_X12_proposes rfl rfl rfl (by decide +kernel) ⟨Nat.le_of_ble_eq_true rfl, Nat.le_of_ble_eq_true rfl⟩) x_k175 (q := (RX12, TX12, 16)) rfl rfl rfl rfl (Nat.le_of_ble_eq_true rfl) dX12_proposeCap_7 ⟨Nat.le_of_ble_eq_true rfl, Nat.le_of_ble_eq_true rfl⟩ ?_
  refine a_callV C (k := 175) (As := [.int 0]) (rest := []) (c_M_kept l G (g_th (g_bg d) 0) 0 c9 rfl hc h9) (cwV 1 C.1.2.2.2.2 gX12_proposeCap_X12_kept rfl rfl rfl (by decide +kernel) ⟨Nat.le_of_ble_eq_true rfl, Nat.le_of_ble_eq_true rfl⟩) x_k175 (q := (RX12, TX12, 16)) rfl rfl rfl rfl (Nat.le_of_ble_eq_true rfl) dX12_proposeCap_10 ⟨Nat.le_of_ble_eq_true rfl, Nat.le_of_ble_eq_true rfl⟩ ?_
  refine a_iconst C dX12_proposeCap_13 (v := 1) (by decide) ?_
  refine a_icmp_ne C dX12_proposeCap_14 (tgt := 21) (by decide) (fun _ => ?_) (fun h => absurd h (by decide))
  refine a_iconst C dX12_proposeCap_21 (v := 0) (by decide) ?_
  exact a_zret C hlocks hr rfl dX12_proposeCap_22 rfl rfl

set_option maxHeartbeats 1000000 in
set_option maxRecDepth 100000 in
theorem c_M_proposeCap (l : Launch) (G : xG) (d : xd) (c9 : Nat) (hc : d 175 3 = nI c9) (h9 : c9 ≤ 8) (x : Int32) (hx : 1 ≤ x ∧ x ≤ 5) (n : Nat) (hn : d 176 0 = nI n) (h8 : n ≤ 8) (h1 : 1 ≤ n) (hq : g_car (d 176) n x = true) : x_M G l yX12_proposeCap wsX12_proposeCap 5 0 0 [.ref (x_b G + 175), .int x] d (some (.int 1)) (g_kp (g_ok (g_bg d) (g_cap (d 176) x n)) c9) := by
  refine x_start (cc := cX12_proposeCap) (maxL := 2) (ret := (some .boolean)) (own := RX12) (by decide) rfl rfl (Nat.le_of_ble_eq_true rfl) (lst := [(0, .ref (x_b G + 175)), (1, .int x)]) rfl ?_
  intro p e s m args below meth c C hr hlocks
  refine a_aload_n C dX12_proposeCap_0 0 rfl ?_
  refine a_callV C (k := 175) (As := []) (rest := []) (c_M_begin l G d) (cwV 0 C.1.2.2.2.2 gX12_proposeCap_X12_begin rfl rfl rfl (by decide +kernel) ⟨Nat.le_of_ble_eq_true rfl, Nat.le_of_ble_eq_true rfl⟩) x_k175 (q := (RX12, TX12, 16)) rfl rfl rfl rfl (Nat.le_of_ble_eq_true rfl) dX12_proposeCap_1 ⟨Nat.le_of_ble_eq_true rfl, Nat.le_of_ble_eq_true rfl⟩ ?_
  refine a_aload_n C dX12_proposeCap_4 0 rfl ?_
  refine a_aload_n C dX12_proposeCap_5 0 rfl ?_
  refine a_iload_n C dX12_proposeCap_6 1 rfl ?_
  refine a_callV C (k := 175) (As := [.int x]) (rest := [.ref (x_b G + 175)]) (c_M_proposes l G (g_bg d) x hx n hn h8 h1 hq) (cwV 1 C.1.2.2.2.2 gX12_proposeCap_X12_proposes rfl rfl rfl (by decide +kernel) ⟨Nat.le_of_ble_eq_true rfl, Nat.le_of_ble_eq_true rfl⟩) x_k175 (q := (RX12, TX12, 16)) rfl rfl rfl rfl (Nat.le_of_ble_eq_true rfl) dX12_proposeCap_7 ⟨Nat.le_of_ble_eq_true rfl, Nat.le_of_ble_eq_true rfl⟩ ?_
  refine a_callV C (k := 175) (As := [.int 1]) (rest := []) (c_M_kept l G (g_ok (g_bg d) (g_cap (d 176) x n)) 1 c9 rfl hc h9) (cwV 1 C.1.2.2.2.2 gX12_proposeCap_X12_kept rfl rfl rfl (by decide +kernel) ⟨Nat.le_of_ble_eq_true rfl, Nat.le_of_ble_eq_true rfl⟩) x_k175 (q := (RX12, TX12, 16)) rfl rfl rfl rfl (Nat.le_of_ble_eq_true rfl) dX12_proposeCap_10 ⟨Nat.le_of_ble_eq_true rfl, Nat.le_of_ble_eq_true rfl⟩ ?_
  refine a_iconst C dX12_proposeCap_13 (v := 1) (by decide) ?_
  refine a_icmp_ne C dX12_proposeCap_14 (tgt := 21) (by decide) (fun h => absurd h (by decide)) (fun _ => ?_)
  refine a_iconst C dX12_proposeCap_17 (v := 1) (by decide) ?_
  refine a_goto C dX12_proposeCap_18 (tgt := 22) (by decide) ?_
  exact a_zret C hlocks hr rfl dX12_proposeCap_22 rfl rfl

