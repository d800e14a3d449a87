set_option maxHeartbeats 1000000 in
set_option maxRecDepth 100000 in
theorem c_F_addLamp_2 (l : Launch) (hfl : l.stackTraces = false) (G : xG) (d : xd) (a b : Int32) (hrf : f_ra d 1 a b = 2) : x_X G l yX11_addLamp wsX11_addLamp 5 [.ref (x_b G + 0), .int a, .int b] d "java/lang/IllegalArgumentException" d := by
  have iX11 : ∀ w ∈ u_ws RX11 TX11 13, w ∈ wsX11_addLamp := by decide +kernel
  refine x_startX (cc := cX11_addLamp) (maxL := 3) (ret := (some .int)) (own := RX11) (by decide) rfl rfl (Nat.le_of_ble_eq_true rfl) (lst := [(0, .ref (x_b G + 0)), (1, .int a), (2, .int b)]) rfl ?_
  intro p e s m args below meth c C hr hlocks
  refine a_aload_n C dX11_addLamp_0 0 rfl ?_
  refine a_getR C (k := 0) iX11 x_k0 rfl (j := 0) rfl (by decide) (by decide +kernel) dX11_addLamp_1 ?_
  refine a_iload_n C dX11_addLamp_4 1 rfl ?_
  refine a_iload_n C dX11_addLamp_5 2 rfl ?_
  refine a_callV C (k := 1) (As := [.int a, .int b]) (rest := []) (c_X9_refusalToAddLamp l G d 1 x_isS_1 a b) (cwV 2 C.1.2.2.2.2 gX11_addLamp_X9_refusalToAddLamp rfl rfl rfl (by decide +kernel) ⟨Nat.le_of_ble_eq_true rfl, Nat.le_of_ble_eq_true rfl⟩) (x_sS0 x_isS_1) (q := (RX9, TX9, 3)) rfl rfl rfl rfl (Nat.le_of_ble_eq_true rfl) dX11_addLamp_6 ⟨Nat.le_of_ble_eq_true rfl, Nat.le_of_ble_eq_true rfl⟩ ?_
  refine a_topR (y := x_e G 1 2) (by rw [hrf]) ?_
  exact a_callSX C hr hlocks (As := [.ref (x_e G 1 2)]) (rest := []) (c_F_raise_2 l hfl G d) (va_cwS 1 C.1.2.2.2.2 gX11_addLamp_X11_raise rfl rfl rfl (by decide +kernel) ⟨Nat.le_of_ble_eq_true rfl, Nat.le_of_ble_eq_true rfl⟩) rfl rfl (Nat.le_of_ble_eq_true rfl) dX11_addLamp_9 (by decide) (by decide) (by decide) rfl

set_option maxHeartbeats 1000000 in
set_option maxRecDepth 100000 in
theorem c_F_addLamp_3 (l : Launch) (hfl : l.stackTraces = false) (G : xG) (d : xd) (a b : Int32) (hrf : f_ra d 1 a b = 3) : x_X G l yX11_addLamp wsX11_addLamp 5 [.ref (x_b G + 0), .int a, .int b] d "java/lang/IllegalStateException" d := by
  have iX11 : ∀ w ∈ u_ws RX11 TX11 13, w ∈ wsX11_addLamp := by decide +kernel
  refine x_startX (cc := cX11_addLamp) (maxL := 3) (ret := (some .int)) (own := RX11) (by decide) rfl rfl (Nat.le_of_ble_eq_true rfl) (lst := [(0, .ref (x_b G + 0)), (1, .int a), (2, .int b)]) rfl ?_
  intro p e s m args below meth c C hr hlocks
  refine a_aload_n C dX11_addLamp_0 0 rfl ?_
  refine a_getR C (k := 0) iX11 x_k0 rfl (j := 0) rfl (by decide) (by decide +kernel) dX11_addLamp_1 ?_
  refine a_iload_n C dX11_addLamp_4 1 rfl ?_
  refine a_iload_n C dX11_addLamp_5 2 rfl ?_
  refine a_callV C (k := 1) (As := [.int a, .int b]) (rest := []) (c_X9_refusalToAddLamp l G d 1 x_isS_1 a b) (cwV 2 C.1.2.2.2.2 gX11_addLamp_X9_refusalToAddLamp rfl rfl rfl (by decide +kernel) ⟨Nat.le_of_ble_eq_true rfl, Nat.le_of_ble_eq_true rfl⟩) (x_sS0 x_isS_1) (q := (RX9, TX9, 3)) rfl rfl rfl rfl (Nat.le_of_ble_eq_true rfl) dX11_addLamp_6 ⟨Nat.le_of_ble_eq_true rfl, Nat.le_of_ble_eq_true rfl⟩ ?_
  refine a_topR (y := x_e G 1 3) (by rw [hrf]) ?_
  exact a_callSX C hr hlocks (As := [.ref (x_e G 1 3)]) (rest := []) (c_F_raise_3 l hfl G d) (va_cwS 1 C.1.2.2.2.2 gX11_addLamp_X11_raise rfl rfl rfl (by decide +kernel) ⟨Nat.le_of_ble_eq_true rfl, Nat.le_of_ble_eq_true rfl⟩) rfl rfl (Nat.le_of_ble_eq_true rfl) dX11_addLamp_9 (by decide) (by decide) (by decide) rfl

set_option maxHeartbeats 1000000 in
set_option maxRecDepth 100000 in
theorem c_F_addLamp (l : Launch) (G : xG) (d : xd) (q z : Nat) (hq : d 43 1 = nI q) (hz : d 43 0 = nI z) (q8 : q < 8) (z8 : z ≤ 8) (a b : Int32) (n : Nat) (hn : d 2 0 = nI n) (h8 : n < 8) (hrf : f_ra d 1 a b = 0) : x_M G l yX11_addLamp wsX11_addLamp 5 0 0 [.ref (x_b G + 0), .int a, .int b] d (some (.int (nI n))) (f_app (f_rem d 1 q z) 1 n a b) := by
  have iX11 : ∀ w ∈ u_ws RX11 TX11 13, w ∈ wsX11_addLamp := by decide +kernel
  have iX9 : ∀ w ∈ u_ws RX9 TX9 3, w ∈ wsX11_addLamp := by decide +kernel
  refine x_start (cc := cX11_addLamp) (maxL := 3) (ret := (some .int)) (own := RX11) (by decide) rfl rfl (Nat.le_of_ble_eq_true rfl) (lst := [(0, .ref (x_b G + 0)), (1, .int a), (2, .int b)]) rfl ?_
  intro p e s m args below meth c C hr hlocks
  refine a_aload_n C dX11_addLamp_0 0 rfl ?_
  refine a_getR C (k := 0) iX11 x_k0 rfl (j := 0) rfl (by decide) (by decide +kernel) dX11_addLamp_1 ?_
  refine a_iload_n C dX11_addLamp_4 1 rfl ?_
  refine a_iload_n C dX11_addLamp_5 2 rfl ?_
  refine a_callV C (k := 1) (As := [.int a, .int b]) (rest := []) (c_X9_refusalToAddLamp l G d 1 x_isS_1 a b) (cwV 2 C.1.2.2.2.2 gX11_addLamp_X9_refusalToAddLamp rfl rfl rfl (by decide +kernel) ⟨Nat.le_of_ble_eq_true rfl, Nat.le_of_ble_eq_true rfl⟩) (x_sS0 x_isS_1) (q := (RX9, TX9, 3)) rfl rfl rfl rfl (Nat.le_of_ble_eq_true rfl) dX11_addLamp_6 ⟨Nat.le_of_ble_eq_true rfl, Nat.le_of_ble_eq_true rfl⟩ ?_
  refine a_topR (y := x_e G 1 0) (by rw [hrf]) ?_
  refine a_callS C (As := [.ref (x_e G 1 0)]) (rest := []) (c_F_raise l G d) (va_cwS 1 C.1.2.2.2.2 gX11_addLamp_X11_raise rfl rfl rfl (by decide +kernel) ⟨Nat.le_of_ble_eq_true rfl, Nat.le_of_ble_eq_true rfl⟩) rfl rfl (Nat.le_of_ble_eq_true rfl) dX11_addLamp_9 ⟨Nat.le_of_ble_eq_true rfl, Nat.le_of_ble_eq_true rfl⟩ ?_
  refine a_aload_n C dX11_addLamp_12 0 rfl ?_
  refine a_getR C (k := 0) iX11 x_k0 rfl (j := 4) rfl (by decide) (by decide +kernel) dX11_addLamp_13 ?_
  refine a_aload_n C dX11_addLamp_16 0 rfl ?_
  refine a_getR C (k := 0) iX11 x_k0 rfl (j := 0) rfl (by decide) (by decide +kernel) dX11_addLamp_17 ?_
  refine a_callV C (k := 43) (As := [.ref (x_b G + 1)]) (rest := []) (c_X4_remember l G d 1 x_isS_1 (by omega) q z hq hz q8 z8) (cwV 1 C.1.2.2.2.2 gX11_addLamp_X4_remember rfl rfl rfl (by decide +kernel) ⟨Nat.le_of_ble_eq_true rfl, Nat.le_of_ble_eq_true rfl⟩) x_k43 (q := (RX4, TX4, 3)) rfl rfl rfl rfl (Nat.le_of_ble_eq_true rfl) dX11_addLamp_20 ⟨Nat.le_of_ble_eq_true rfl, Nat.le_of_ble_eq_true rfl⟩ ?_
  refine a_aload_n C dX11_addLamp_23 0 rfl ?_
  refine a_getR C (k := 0) iX11 x_k0 rfl (j := 0) rfl (by decide) (by decide +kernel) dX11_addLamp_24 ?_
  refine a_getR C (k := 1) iX9 (x_sS0 x_isS_1) rfl (j := 0) rfl (by decide) (by decide +kernel) dX11_addLamp_27 ?_
  refine a_iload_n C dX11_addLamp_30 1 rfl ?_
  refine a_iload_n C dX11_addLamp_31 2 rfl ?_
  refine a_callV C (k := 2) (As := [.int a, .int b]) (rest := []) (c_X5_append l G ((f_rem d 1 q z)) 1 n x_isS_1 (by rw [f_rem_out (by omega) q8]; exact hn) h8 a b) (cwV 2 C.1.2.2.2.2 gX11_addLamp_X5_append rfl rfl rfl (by decide +kernel) ⟨Nat.le_of_ble_eq_true rfl, Nat.le_of_ble_eq_true rfl⟩) (x_sS1 x_isS_1) (q := (RX5, TX5, 8)) rfl rfl rfl rfl (Nat.le_of_ble_eq_true rfl) dX11_addLamp_32 ⟨Nat.le_of_ble_eq_true rfl, Nat.le_of_ble_eq_true rfl⟩ ?_
  exact a_iret C hlocks hr dX11_addLamp_35 rfl rfl

set_option maxHeartbeats 1000000 in
set_option maxRecDepth 100000 in
theorem c_F_removeLamp_1 (l : Launch) (hfl : l.stackTraces = false) (G : xG) (d : xd) (x : Int32) (n : Nat) (hn : d 2 0 = nI n) (h8 : n ≤ 8) (hrf : f_rd d 1 x = 1) : x_X G l yX11_removeLamp wsX11_removeLamp 5 [.ref (x_b G + 0), .int x] d "java/lang/IndexOutOfBoundsException" d := by
  have iX11 : ∀ w ∈ u_ws RX11 TX11 13, w ∈ wsX11_removeLamp := by decide +kernel
  refine x_startX (cc := cX11_removeLamp) (maxL := 2) (ret := (some .int)) (own := RX11) (by decide) rfl rfl (Nat.le_of_ble_eq_true rfl) (lst := [(0, .ref (x_b G + 0)), (1, .int x)]) rfl ?_
  intro p e s m args below meth c C hr hlocks
  refine a_aload_n C dX11_removeLamp_0 0 rfl ?_
  refine a_getR C (k := 0) iX11 x_k0 rfl (j := 0) rfl (by decide) (by decide +kernel) dX11_removeLamp_1 ?_
  refine a_iload_n C dX11_removeLamp_4 1 rfl ?_
  refine a_callV C (k := 1) (As := [.int x]) (rest := []) (c_X9_refusalToDropLamp l G d 1 n x_isS_1 hn h8 x) (cwV 1 C.1.2.2.2.2 gX11_removeLamp_X9_refusalToDropLamp rfl rfl rfl (by decide +kernel) ⟨Nat.le_of_ble_eq_true rfl, Nat.le_of_ble_eq_true rfl⟩) (x_sS0 x_isS_1) (q := (RX9, TX9, 3)) rfl rfl rfl rfl (Nat.le_of_ble_eq_true rfl) dX11_removeLamp_5 ⟨Nat.le_of_ble_eq_true rfl, Nat.le_of_ble_eq_true rfl⟩ ?_
  refine a_topR (y := x_e G 1 1) (by rw [hrf]) ?_
  exact a_callSX C hr hlocks (As := [.ref (x_e G 1 1)]) (rest := []) (c_F_raise_1 l hfl G d) (va_cwS 1 C.1.2.2.2.2 gX11_removeLamp_X11_raise rfl rfl rfl (by decide +kernel) ⟨Nat.le_of_ble_eq_true rfl, Nat.le_of_ble_eq_true rfl⟩) rfl rfl (Nat.le_of_ble_eq_true rfl) dX11_removeLamp_8 (by decide) (by decide) (by decide) rfl

set_option maxHeartbeats 1000000 in
set_option maxRecDepth 100000 in
theorem c_F_removeLamp_3 (l : Launch) (hfl : l.stackTraces = false) (G : xG) (d : xd) (x : Int32) (n : Nat) (hn : d 2 0 = nI n) (h8 : n ≤ 8) (hrf : f_rd d 1 x = 3) : x_X G l yX11_removeLamp wsX11_removeLamp 5 [.ref (x_b G + 0), .int x] d "java/lang/IllegalStateException" d := by
  have iX11 : ∀ w ∈ u_ws RX11 TX11 13, w ∈ wsX11_removeLamp := by decide +kernel
  refine x_startX (cc := cX11_removeLamp) (maxL := 2) (ret := (some .int)) (own := RX11) (by decide) rfl rfl (Nat.le_of_ble_eq_true rfl) (lst := [(0, .ref (x_b G + 0)), (1, .int x)]) rfl ?_
  intro p e s m args below meth c C hr hlocks
  refine a_aload_n C dX11_removeLamp_0 0 rfl ?_
  refine a_getR C (k := 0) iX11 x_k0 rfl (j := 0) rfl (by decide) (by decide +kernel) dX11_removeLamp_1 ?_
  refine a_iload_n C dX11_removeLamp_4 1 rfl ?_
  refine a_callV C (k := 1) (As := [.int x]) (rest := []) (c_X9_refusalToDropLamp l G d 1 n x_isS_1 hn h8 x) (cwV 1 C.1.2.2.2.2 gX11_removeLamp_X9_refusalToDropLamp rfl rfl rfl (by decide +kernel) ⟨Nat.le_of_ble_eq_true rfl, Nat.le_of_ble_eq_true rfl⟩) (x_sS0 x_isS_1) (q := (RX9, TX9, 3)) rfl rfl rfl rfl (Nat.le_of_ble_eq_true rfl) dX11_removeLamp_5 ⟨Nat.le_of_ble_eq_true rfl, Nat.le_of_ble_eq_true rfl⟩ ?_
  refine a_topR (y := x_e G 1 3) (by rw [hrf]) ?_
  exact a_callSX C hr hlocks (As := [.ref (x_e G 1 3)]) (rest := []) (c_F_raise_3 l hfl G d) (va_cwS 1 C.1.2.2.2.2 gX11_removeLamp_X11_raise rfl rfl rfl (by decide +kernel) ⟨Nat.le_of_ble_eq_true rfl, Nat.le_of_ble_eq_true rfl⟩) rfl rfl (Nat.le_of_ble_eq_true rfl) dX11_removeLamp_8 (by decide) (by decide) (by decide) rfl

set_option maxHeartbeats 1000000 in
set_option maxRecDepth 100000 in
theorem c_F_removeLamp (l : Launch) (G : xG) (d : xd) (q z : Nat) (hq : d 43 1 = nI q) (hz : d 43 0 = nI z) (q8 : q < 8) (z8 : z ≤ 8) (i n : Nat) (hn : d 2 0 = nI n) (h8 : n ≤ 8) (hi : i < n) (m9 : Nat) (hm : d 10 0 = nI m9) (h6 : m9 ≤ 6) (hrf : f_rd d 1 (nI i) = 0) : x_M G l yX11_removeLamp wsX11_removeLamp 5 0 0 [.ref (x_b G + 0), .int (nI i)] d (some (.int (nI (n - 1)))) (f_drop (f_rem d 1 q z) 1 n i m9) := by
  have iX11 : ∀ w ∈ u_ws RX11 TX11 13, w ∈ wsX11_removeLamp := by decide +kernel
  refine x_start (cc := cX11_removeLamp) (maxL := 2) (ret := (some .int)) (own := RX11) (by decide) rfl rfl (Nat.le_of_ble_eq_true rfl) (lst := [(0, .ref (x_b G + 0)), (1, .int (nI i))]) rfl ?_
  intro p e s m args below meth c C hr hlocks
  refine a_aload_n C dX11_removeLamp_0 0 rfl ?_
  refine a_getR C (k := 0) iX11 x_k0 rfl (j := 0) rfl (by decide) (by decide +kernel) dX11_removeLamp_1 ?_
  refine a_iload_n C dX11_removeLamp_4 1 rfl ?_
  refine a_callV C (k := 1) (As := [.int (nI i)]) (rest := []) (c_X9_refusalToDropLamp l G d 1 n x_isS_1 hn h8 (nI i)) (cwV 1 C.1.2.2.2.2 gX11_removeLamp_X9_refusalToDropLamp rfl rfl rfl (by decide +kernel) ⟨Nat.le_of_ble_eq_true rfl, Nat.le_of_ble_eq_true rfl⟩) (x_sS0 x_isS_1) (q := (RX9, TX9, 3)) rfl rfl rfl rfl (Nat.le_of_ble_eq_true rfl) dX11_removeLamp_5 ⟨Nat.le_of_ble_eq_true rfl, Nat.le_of_ble_eq_true rfl⟩ ?_
  refine a_topR (y := x_e G 1 0) (by rw [hrf]) ?_
  refine a_callS C (As := [.ref (x_e G 1 0)]) (rest := []) (c_F_raise l G d) (va_cwS 1 C.1.2.2.2.2 gX11_removeLamp_X11_raise rfl rfl rfl (by decide +kernel) ⟨Nat.le_of_ble_eq_true rfl, Nat.le_of_ble_eq_true rfl⟩) rfl rfl (Nat.le_of_ble_eq_true rfl) dX11_removeLamp_8 ⟨Nat.le_of_ble_eq_true rfl, Nat.le_of_ble_eq_true rfl⟩ ?_
  refine a_aload_n C dX11_removeLamp_11 0 rfl ?_
  refine a_getR C (k := 0) iX11 x_k0 rfl (j := 4) rfl (by decide) (by decide +kernel) dX11_removeLamp_12 ?_
  refine a_aload_n C dX11_removeLamp_15 0 rfl ?_
  refine a_getR C (k := 0) iX11 x_k0 rfl (j := 0) rfl (by decide) (by decide +kernel) dX11_removeLamp_16 ?_
  refine a_callV C (k := 43) (As := [.ref (x_b G + 1)]) (rest := []) (c_X4_remember l G d 1 x_isS_1 (by omega) q z hq hz q8 z8) (cwV 1 C.1.2.2.2.2 gX11_removeLamp_X4_remember rfl rfl rfl (by decide +kernel) ⟨Nat.le_of_ble_eq_true rfl, Nat.le_of_ble_eq_true rfl⟩) x_k43 (q := (RX4, TX4, 3)) rfl rfl rfl rfl (Nat.le_of_ble_eq_true rfl) dX11_removeLamp_19 ⟨Nat.le_of_ble_eq_true rfl, Nat.le_of_ble_eq_true rfl⟩ ?_
  refine a_aload_n C dX11_removeLamp_22 0 rfl ?_
  refine a_getR C (k := 0) iX11 x_k0 rfl (j := 0) rfl (by decide) (by decide +kernel) dX11_removeLamp_23 ?_
  refine a_iload_n C dX11_removeLamp_26 1 rfl ?_
  refine a_callV C (k := 1) (As := [.int (nI i)]) (rest := []) (c_X9_dropLamp l G ((f_rem d 1 q z)) 1 n x_isS_1 (by rw [f_rem_out (by omega) q8]; exact hn) h8 i hi m9 (by rw [f_rem_out (by omega) q8]; exact hm) h6) (cwV 1 C.1.2.2.2.2 gX11_removeLamp_X9_dropLamp rfl rfl rfl (by decide +kernel) ⟨Nat.le_of_ble_eq_true rfl, Nat.le_of_ble_eq_true rfl⟩) (x_sS0 x_isS_1) (q := (RX9, TX9, 3)) rfl rfl rfl rfl (Nat.le_of_ble_eq_true rfl) dX11_removeLamp_27 ⟨Nat.le_of_ble_eq_true rfl, Nat.le_of_ble_eq_true rfl⟩ ?_
  exact a_iret C hlocks hr dX11_removeLamp_30 rfl rfl

set_option maxHeartbeats 1000000 in
set_option maxRecDepth 100000 in
theorem c_F_setShares_1 (l : Launch) (hfl : l.stackTraces = false) (G : xG) (d : xd) (x v : Int32) (hrf : f_rl d 1 x v 9 = 1) : x_X G l yX11_setShares wsX11_setShares 5 [.ref (x_b G + 0), .int x, .int v] d "java/lang/IndexOutOfBoundsException" d := by
  have iX11 : ∀ w ∈ u_ws RX11 TX11 13, w ∈ wsX11_setShares := by decide +kernel
  refine x_startX (cc := cX11_setShares) (maxL := 4) (ret := (some .int)) (own := RX11) (by decide) rfl rfl (Nat.le_of_ble_eq_true rfl) (lst := [(0, .ref (x_b G + 0)), (1, .int x), (2, .int v)]) rfl ?_
  intro p e s m args below meth c C hr hlocks
  refine a_aload_n C dX11_setShares_0 0 rfl ?_
  refine a_getR C (k := 0) iX11 x_k0 rfl (j := 0) rfl (by decide) (by decide +kernel) dX11_setShares_1 ?_
  refine a_iload_n C dX11_setShares_4 1 rfl ?_
  refine a_iload_n C dX11_setShares_5 2 rfl ?_
  refine a_bipush C dX11_setShares_6 (v := 9) (by decide) ?_
  refine a_callV C (k := 1) (As := [.int x, .int v, .int 9]) (rest := []) (c_X9_refusalOnLamp l G d 1 x_isS_1 x v 9) (cwV 3 C.1.2.2.2.2 gX11_setShares_X9_refusalOnLamp rfl rfl rfl (by decide +kernel) ⟨Nat.le_of_ble_eq_true rfl, Nat.le_of_ble_eq_true rfl⟩) (x_sS0 x_isS_1) (q := (RX9, TX9, 3)) rfl rfl rfl rfl (Nat.le_of_ble_eq_true rfl) dX11_setShares_8 ⟨Nat.le_of_ble_eq_true rfl, Nat.le_of_ble_eq_true rfl⟩ ?_
  refine a_topR (y := x_e G 1 1) (by rw [hrf]) ?_
  exact a_callSX C hr hlocks (As := [.ref (x_e G 1 1)]) (rest := []) (c_F_raise_1 l hfl G d) (va_cwS 1 C.1.2.2.2.2 gX11_setShares_X11_raise rfl rfl rfl (by decide +kernel) ⟨Nat.le_of_ble_eq_true rfl, Nat.le_of_ble_eq_true rfl⟩) rfl rfl (Nat.le_of_ble_eq_true rfl) dX11_setShares_11 (by decide) (by decide) (by decide) rfl

set_option maxHeartbeats 1000000 in
set_option maxRecDepth 100000 in
theorem c_F_setShares_2 (l : Launch) (hfl : l.stackTraces = false) (G : xG) (d : xd) (x v : Int32) (hrf : f_rl d 1 x v 9 = 2) : x_X G l yX11_setShares wsX11_setShares 5 [.ref (x_b G + 0), .int x, .int v] d "java/lang/IllegalArgumentException" d := by
  have iX11 : ∀ w ∈ u_ws RX11 TX11 13, w ∈ wsX11_setShares := by decide +kernel
  refine x_startX (cc := cX11_setShares) (maxL := 4) (ret := (some .int)) (own := RX11) (by decide) rfl rfl (Nat.le_of_ble_eq_true rfl) (lst := [(0, .ref (x_b G + 0)), (1, .int x), (2, .int v)]) rfl ?_
  intro p e s m args below meth c C hr hlocks
  refine a_aload_n C dX11_setShares_0 0 rfl ?_
  refine a_getR C (k := 0) iX11 x_k0 rfl (j := 0) rfl (by decide) (by decide +kernel) dX11_setShares_1 ?_
  refine a_iload_n C dX11_setShares_4 1 rfl ?_
  refine a_iload_n C dX11_setShares_5 2 rfl ?_
  refine a_bipush C dX11_setShares_6 (v := 9) (by decide) ?_
  refine a_callV C (k := 1) (As := [.int x, .int v, .int 9]) (rest := []) (c_X9_refusalOnLamp l G d 1 x_isS_1 x v 9) (cwV 3 C.1.2.2.2.2 gX11_setShares_X9_refusalOnLamp rfl rfl rfl (by decide +kernel) ⟨Nat.le_of_ble_eq_true rfl, Nat.le_of_ble_eq_true rfl⟩) (x_sS0 x_isS_1) (q := (RX9, TX9, 3)) rfl rfl rfl rfl (Nat.le_of_ble_eq_true rfl) dX11_setShares_8 ⟨Nat.le_of_ble_eq_true rfl, Nat.le_of_ble_eq_true rfl⟩ ?_
  refine a_topR (y := x_e G 1 2) (by rw [hrf]) ?_
  exact a_callSX C hr hlocks (As := [.ref (x_e G 1 2)]) (rest := []) (c_F_raise_2 l hfl G d) (va_cwS 1 C.1.2.2.2.2 gX11_setShares_X11_raise rfl rfl rfl (by decide +kernel) ⟨Nat.le_of_ble_eq_true rfl, Nat.le_of_ble_eq_true rfl⟩) rfl rfl (Nat.le_of_ble_eq_true rfl) dX11_setShares_11 (by decide) (by decide) (by decide) rfl

set_option maxHeartbeats 1000000 in
set_option maxRecDepth 100000 in
theorem c_F_setShares (l : Launch) (G : xG) (d : xd) (q z : Nat) (hq : d 43 1 = nI q) (hz : d 43 0 = nI z) (q8 : q < 8) (z8 : z ≤ 8) (v : Int32) (i : Nat) (hi : i < 8) (hrf : f_rl d 1 (nI i) v 9 = 0) : x_M G l yX11_setShares wsX11_setShares 5 0 0 [.ref (x_b G + 0), .int (nI i), .int v] d (some (.int (d 4 i))) (x_p (f_rem d 1 q z) 4 i v) := by
  have iX11 : ∀ w ∈ u_ws RX11 TX11 13, w ∈ wsX11_setShares := by decide +kernel
  have iX5 : ∀ w ∈ u_ws RX5 TX5 8, w ∈ wsX11_setShares := by decide +kernel
  have iX9 : ∀ w ∈ u_ws RX9 TX9 3, w ∈ wsX11_setShares := by decide +kernel
  refine x_start (cc := cX11_setShares) (maxL := 4) (ret := (some .int)) (own := RX11) (by decide) rfl rfl (Nat.le_of_ble_eq_true rfl) (lst := [(0, .ref (x_b G + 0)), (1, .int (nI i)), (2, .int v)]) rfl ?_
  intro p e s m args below meth c C hr hlocks
  refine a_aload_n C dX11_setShares_0 0 rfl ?_
  refine a_getR C (k := 0) iX11 x_k0 rfl (j := 0) rfl (by decide) (by decide +kernel) dX11_setShares_1 ?_
  refine a_iload_n C dX11_setShares_4 1 rfl ?_
  refine a_iload_n C dX11_setShares_5 2 rfl ?_
  refine a_bipush C dX11_setShares_6 (v := 9) (by decide) ?_
  refine a_callV C (k := 1) (As := [.int (nI i), .int v, .int 9]) (rest := []) (c_X9_refusalOnLamp l G d 1 x_isS_1 (nI i) v 9) (cwV 3 C.1.2.2.2.2 gX11_setShares_X9_refusalOnLamp rfl rfl rfl (by decide +kernel) ⟨Nat.le_of_ble_eq_true rfl, Nat.le_of_ble_eq_true rfl⟩) (x_sS0 x_isS_1) (q := (RX9, TX9, 3)) rfl rfl rfl rfl (Nat.le_of_ble_eq_true rfl) dX11_setShares_8 ⟨Nat.le_of_ble_eq_true rfl, Nat.le_of_ble_eq_true rfl⟩ ?_
  refine a_topR (y := x_e G 1 0) (by rw [hrf]) ?_
  refine a_callS C (As := [.ref (x_e G 1 0)]) (rest := []) (c_F_raise l G d) (va_cwS 1 C.1.2.2.2.2 gX11_setShares_X11_raise rfl rfl rfl (by decide +kernel) ⟨Nat.le_of_ble_eq_true rfl, Nat.le_of_ble_eq_true rfl⟩) rfl rfl (Nat.le_of_ble_eq_true rfl) dX11_setShares_11 ⟨Nat.le_of_ble_eq_true rfl, Nat.le_of_ble_eq_true rfl⟩ ?_
  refine a_aload_n C dX11_setShares_14 0 rfl ?_
  refine a_getR C (k := 0) iX11 x_k0 rfl (j := 4) rfl (by decide) (by decide +kernel) dX11_setShares_15 ?_
  refine a_aload_n C dX11_setShares_18 0 rfl ?_
  refine a_getR C (k := 0) iX11 x_k0 rfl (j := 0) rfl (by decide) (by decide +kernel) dX11_setShares_19 ?_
  refine a_callV C (k := 43) (As := [.ref (x_b G + 1)]) (rest := []) (c_X4_remember l G d 1 x_isS_1 (by omega) q z hq hz q8 z8) (cwV 1 C.1.2.2.2.2 gX11_setShares_X4_remember rfl rfl rfl (by decide +kernel) ⟨Nat.le_of_ble_eq_true rfl, Nat.le_of_ble_eq_true rfl⟩) x_k43 (q := (RX4, TX4, 3)) rfl rfl rfl rfl (Nat.le_of_ble_eq_true rfl) dX11_setShares_22 ⟨Nat.le_of_ble_eq_true rfl, Nat.le_of_ble_eq_true rfl⟩ ?_
  refine a_aload_n C dX11_setShares_25 0 rfl ?_
  refine a_getR C (k := 0) iX11 x_k0 rfl (j := 0) rfl (by decide) (by decide +kernel) dX11_setShares_26 ?_
  refine a_getR C (k := 1) iX9 (x_sS0 x_isS_1) rfl (j := 0) rfl (by decide) (by decide +kernel) dX11_setShares_29 ?_
  refine a_getR C (k := 2) iX5 (x_sS1 x_isS_1) rfl (j := 2) rfl (by decide) (by decide +kernel) dX11_setShares_32 ?_
  refine a_iload_n C dX11_setShares_35 1 rfl ?_
  refine a_ialdN C (k := 4) (x_sS3 x_isS_1) (i := i) rfl (by omega) (by first | decide | omega) dX11_setShares_36 ?_
  refine a_top (y := (d 4 i)) (by rw [f_rem_out (by omega) q8]) ?_
  refine a_istore_n C dX11_setShares_37 (by decide) (lst2 := [(3, .int (d 4 i)), (0, .ref (x_b G + 0)), (1, .int (nI i)), (2, .int v)]) rfl ?_
  refine a_aload_n C dX11_setShares_38 1 rfl ?_
  refine a_getR C (k := 0) iX11 x_k0 rfl (j := 0) rfl (by decide) (by decide +kernel) dX11_setShares_39 ?_
  refine a_getR C (k := 1) iX9 (x_sS0 x_isS_1) rfl (j := 0) rfl (by decide) (by decide +kernel) dX11_setShares_42 ?_
  refine a_getR C (k := 2) iX5 (x_sS1 x_isS_1) rfl (j := 2) rfl (by decide) (by decide +kernel) dX11_setShares_45 ?_
  refine a_iload_n C dX11_setShares_48 2 rfl ?_
  refine a_iload_n C dX11_setShares_49 3 rfl ?_
  refine a_iastN C (k := 4) (x_sS3 x_isS_1) (i := i) rfl (by omega) (by first | decide | omega) dX11_setShares_50 ?_
  refine a_iload_n C dX11_setShares_51 0 rfl ?_
  exact a_iret C hlocks hr dX11_setShares_52 rfl rfl

set_option maxHeartbeats 1000000 in
set_option maxRecDepth 100000 in
theorem c_F_setBrightness_1 (l : Launch) (hfl : l.stackTraces = false) (G : xG) (d : xd) (x v : Int32) (hrf : f_rl d 1 x v 5 = 1) : x_X G l yX11_setBrightness wsX11_setBrightness 5 [.ref (x_b G + 0), .int x, .int v] d "java/lang/IndexOutOfBoundsException" d := by
  have iX11 : ∀ w ∈ u_ws RX11 TX11 13, w ∈ wsX11_setBrightness := by decide +kernel
  refine x_startX (cc := cX11_setBrightness) (maxL := 4) (ret := (some .int)) (own := RX11) (by decide) rfl rfl (Nat.le_of_ble_eq_true rfl) (lst := [(0, .ref (x_b G + 0)), (1, .int x), (2, .int v)]) rfl ?_
  intro p e s m args below meth c C hr hlocks
  refine a_aload_n C dX11_setBrightness_0 0 rfl ?_
  refine a_getR C (k := 0) iX11 x_k0 rfl (j := 0) rfl (by decide) (by decide +kernel) dX11_setBrightness_1 ?_
  refine a_iload_n C dX11_setBrightness_4 1 rfl ?_
  refine a_iload_n C dX11_setBrightness_5 2 rfl ?_
  refine a_iconst C dX11_setBrightness_6 (v := 5) (by decide) ?_
  refine a_callV C (k := 1) (As := [.int x, .int v, .int 5]) (rest := []) (c_X9_refusalOnLamp l G d 1 x_isS_1 x v 5) (cwV 3 C.1.2.2.2.2 gX11_setBrightness_X9_refusalOnLamp rfl rfl rfl (by decide +kernel) ⟨Nat.le_of_ble_eq_true rfl, Nat.le_of_ble_eq_true rfl⟩) (x_sS0 x_isS_1) (q := (RX9, TX9, 3)) rfl rfl rfl rfl (Nat.le_of_ble_eq_true rfl) dX11_setBrightness_7 ⟨Nat.le_of_ble_eq_true rfl, Nat.le_of_ble_eq_true rfl⟩ ?_
  refine a_topR (y := x_e G 1 1) (by rw [hrf]) ?_
  exact a_callSX C hr hlocks (As := [.ref (x_e G 1 1)]) (rest := []) (c_F_raise_1 l hfl G d) (va_cwS 1 C.1.2.2.2.2 gX11_setBrightness_X11_raise rfl rfl rfl (by decide +kernel) ⟨Nat.le_of_ble_eq_true rfl, Nat.le_of_ble_eq_true rfl⟩) rfl rfl (Nat.le_of_ble_eq_true rfl) dX11_setBrightness_10 (by decide) (by decide) (by decide) rfl

set_option maxHeartbeats 1000000 in
set_option maxRecDepth 100000 in
theorem c_F_setBrightness_2 (l : Launch) (hfl : l.stackTraces = false) (G : xG) (d : xd) (x v : Int32) (hrf : f_rl d 1 x v 5 = 2) : x_X G l yX11_setBrightness wsX11_setBrightness 5 [.ref (x_b G + 0), .int x, .int v] d "java/lang/IllegalArgumentException" d := by
  have iX11 : ∀ w ∈ u_ws RX11 TX11 13, w ∈ wsX11_setBrightness := by decide +kernel
  refine x_startX (cc := cX11_setBrightness) (maxL := 4) (ret := (some .int)) (own := RX11) (by decide) rfl rfl (Nat.le_of_ble_eq_true rfl) (lst := [(0, .ref (x_b G + 0)), (1, .int x), (2, .int v)]) rfl ?_
  intro p e s m args below meth c C hr hlocks
  refine a_aload_n C dX11_setBrightness_0 0 rfl ?_
  refine a_getR C (k := 0) iX11 x_k0 rfl (j := 0) rfl (by decide) (by decide +kernel) dX11_setBrightness_1 ?_
  refine a_iload_n C dX11_setBrightness_4 1 rfl ?_
  refine a_iload_n C dX11_setBrightness_5 2 rfl ?_
  refine a_iconst C dX11_setBrightness_6 (v := 5) (by decide) ?_
  refine a_callV C (k := 1) (As := [.int x, .int v, .int 5]) (rest := []) (c_X9_refusalOnLamp l G d 1 x_isS_1 x v 5) (cwV 3 C.1.2.2.2.2 gX11_setBrightness_X9_refusalOnLamp rfl rfl rfl (by decide +kernel) ⟨Nat.le_of_ble_eq_true rfl, Nat.le_of_ble_eq_true rfl⟩) (x_sS0 x_isS_1) (q := (RX9, TX9, 3)) rfl rfl rfl rfl (Nat.le_of_ble_eq_true rfl) dX11_setBrightness_7 ⟨Nat.le_of_ble_eq_true rfl, Nat.le_of_ble_eq_true rfl⟩ ?_
  refine a_topR (y := x_e G 1 2) (by rw [hrf]) ?_
  exact a_callSX C hr hlocks (As := [.ref (x_e G 1 2)]) (rest := []) (c_F_raise_2 l hfl G d) (va_cwS 1 C.1.2.2.2.2 gX11_setBrightness_X11_raise rfl rfl rfl (by decide +kernel) ⟨Nat.le_of_ble_eq_true rfl, Nat.le_of_ble_eq_true rfl⟩) rfl rfl (Nat.le_of_ble_eq_true rfl) dX11_setBrightness_10 (by decide) (by decide) (by decide) rfl

set_option maxHeartbeats 1000000 in
set_option maxRecDepth 100000 in
theorem c_F_setBrightness (l : Launch) (G : xG) (d : xd) (q z : Nat) (hq : d 43 1 = nI q) (hz : d 43 0 = nI z) (q8 : q < 8) (z8 : z ≤ 8) (v : Int32) (i : Nat) (hi : i < 8) (hrf : f_rl d 1 (nI i) v 5 = 0) : x_M G l yX11_setBrightness wsX11_setBrightness 5 0 0 [.ref (x_b G + 0), .int (nI i), .int v] d (some (.int (d 5 i))) (x_p (f_rem d 1 q z) 5 i v) := by
  have iX11 : ∀ w ∈ u_ws RX11 TX11 13, w ∈ wsX11_setBrightness := by decide +kernel
  have iX5 : ∀ w ∈ u_ws RX5 TX5 8, w ∈ wsX11_setBrightness := by decide +kernel
  have iX9 : ∀ w ∈ u_ws RX9 TX9 3, w ∈ wsX11_setBrightness := by decide +kernel
  refine x_start (cc := cX11_setBrightness) (maxL := 4) (ret := (some .int)) (own := RX11) (by decide) rfl rfl (Nat.le_of_ble_eq_true rfl) (lst := [(0, .ref (x_b G + 0)), (1, .int (nI i)), (2, .int v)]) rfl ?_
  intro p e s m args below meth c C hr hlocks
  refine a_aload_n C dX11_setBrightness_0 0 rfl ?_
  refine a_getR C (k := 0) iX11 x_k0 rfl (j := 0) rfl (by decide) (by decide +kernel) dX11_setBrightness_1 ?_
  refine a_iload_n C dX11_setBrightness_4 1 rfl ?_
  refine a_iload_n C dX11_setBrightness_5 2 rfl ?_
  refine a_iconst C dX11_setBrightness_6 (v := 5) (by decide) ?_
  refine a_callV C (k := 1) (As := [.int (nI i), .int v, .int 5]) (rest := []) (c_X9_refusalOnLamp l G d 1 x_isS_1 (nI i) v 5) (cwV 3 C.1.2.2.2.2 gX11_setBrightness_X9_refusalOnLamp rfl rfl rfl (by decide +kernel) ⟨Nat.le_of_ble_eq_true rfl, Nat.le_of_ble_eq_true rfl⟩) (x_sS0 x_isS_1) (q := (RX9, TX9, 3)) rfl rfl rfl rfl (Nat.le_of_ble_eq_true rfl) dX11_setBrightness_7 ⟨Nat.le_of_ble_eq_true rfl, Nat.le_of_ble_eq_true rfl⟩ ?_
  refine a_topR (y := x_e G 1 0) (by rw [hrf]) ?_
  refine a_callS C (As := [.ref (x_e G 1 0)]) (rest := []) (c_F_raise l G d) (va_cwS 1 C.1.2.2.2.2 gX11_setBrightness_X11_raise rfl rfl rfl (by decide +kernel) ⟨Nat.le_of_ble_eq_true rfl, Nat.le_of_ble_eq_true rfl⟩) rfl rfl (Nat.le_of_ble_eq_true rfl) dX11_setBrightness_10 ⟨Nat.le_of_ble_eq_true rfl, Nat.le_of_ble_eq_true rfl⟩ ?_
  refine a_aload_n C dX11_setBrightness_13 0 rfl ?_
  refine a_getR C (k := 0) iX11 x_k0 rfl (j := 4) rfl (by decide) (by decide +kernel) dX11_setBrightness_14 ?_
  refine a_aload_n C dX11_setBrightness_17 0 rfl ?_
  refine a_getR C (k := 0) iX11 x_k0 rfl (j := 0) rfl (by decide) (by decide +kernel) dX11_setBrightness_18 ?_
  refine a_callV C (k := 43) (As := [.ref (x_b G + 1)]) (rest := []) (c_X4_remember l G d 1 x_isS_1 (by omega) q z hq hz q8 z8) (cwV 1 C.1.2.2.2.2 gX11_setBrightness_X4_remember rfl rfl rfl (by decide +kernel) ⟨Nat.le_of_ble_eq_true rfl, Nat.le_of_ble_eq_true rfl⟩) x_k43 (q := (RX4, TX4, 3)) rfl rfl rfl rfl (Nat.le_of_ble_eq_true rfl) dX11_setBrightness_21 ⟨Nat.le_of_ble_eq_true rfl, Nat.le_of_ble_eq_true rfl⟩ ?_
  refine a_aload_n C dX11_setBrightness_24 0 rfl ?_
  refine a_getR C (k := 0) iX11 x_k0 rfl (j := 0) rfl (by decide) (by decide +kernel) dX11_setBrightness_25 ?_
  refine a_getR C (k := 1) iX9 (x_sS0 x_isS_1) rfl (j := 0) rfl (by decide) (by decide +kernel) dX11_setBrightness_28 ?_
  refine a_getR C (k := 2) iX5 (x_sS1 x_isS_1) rfl (j := 3) rfl (by decide) (by decide +kernel) dX11_setBrightness_31 ?_
  refine a_iload_n C dX11_setBrightness_34 1 rfl ?_
  refine a_ialdN C (k := 5) (x_sS4 x_isS_1) (i := i) rfl (by omega) (by first | decide | omega) dX11_setBrightness_35 ?_
  refine a_top (y := (d 5 i)) (by rw [f_rem_out (by omega) q8]) ?_
  refine a_istore_n C dX11_setBrightness_36 (by decide) (lst2 := [(3, .int (d 5 i)), (0, .ref (x_b G + 0)), (1, .int (nI i)), (2, .int v)]) rfl ?_
  refine a_aload_n C dX11_setBrightness_37 1 rfl ?_
  refine a_getR C (k := 0) iX11 x_k0 rfl (j := 0) rfl (by decide) (by decide +kernel) dX11_setBrightness_38 ?_
  refine a_getR C (k := 1) iX9 (x_sS0 x_isS_1) rfl (j := 0) rfl (by decide) (by decide +kernel) dX11_setBrightness_41 ?_
  refine a_getR C (k := 2) iX5 (x_sS1 x_isS_1) rfl (j := 3) rfl (by decide) (by decide +kernel) dX11_setBrightness_44 ?_
  refine a_iload_n C dX11_setBrightness_47 2 rfl ?_
  refine a_iload_n C dX11_setBrightness_48 3 rfl ?_
  refine a_iastN C (k := 5) (x_sS4 x_isS_1) (i := i) rfl (by omega) (by first | decide | omega) dX11_setBrightness_49 ?_
  refine a_iload_n C dX11_setBrightness_50 0 rfl ?_
  exact a_iret C hlocks hr dX11_setBrightness_51 rfl rfl

set_option maxHeartbeats 1000000 in
set_option maxRecDepth 100000 in
theorem c_F_switchOn_1 (l : Launch) (hfl : l.stackTraces = false) (G : xG) (d : xd) (x : Int32) (n : Nat) (hn : d 2 0 = nI n) (hx : ¬ (0 ≤ x ∧ x < nI n)) : x_X G l yX11_switchOn wsX11_switchOn 5 [.ref (x_b G + 0), .int x] d "java/lang/IndexOutOfBoundsException" d := by
  refine x_startX (cc := cX11_switchOn) (maxL := 3) (ret := (some .boolean)) (own := RX11) (by decide) rfl rfl (Nat.le_of_ble_eq_true rfl) (lst := [(0, .ref (x_b G + 0)), (1, .int x)]) rfl ?_
  intro p e s m args below meth c C hr hlocks
  refine a_aload_n C dX11_switchOn_0 0 rfl ?_
  refine a_iload_n C dX11_switchOn_1 1 rfl ?_
  exact a_callVX C hr hlocks (k := 0) (As := [.int x]) (rest := []) (c_F_requireLamp_1 l hfl G d x n hn hx) (cwV 1 C.1.2.2.2.2 gX11_switchOn_X11_requireLamp rfl rfl rfl (by decide +kernel) ⟨Nat.le_of_ble_eq_true rfl, Nat.le_of_ble_eq_true rfl⟩) x_k0 (q := (RX11, TX11, 13)) rfl rfl rfl rfl (Nat.le_of_ble_eq_true rfl) dX11_switchOn_2 (by decide) (by decide) (by decide) rfl

set_option maxHeartbeats 1000000 in
set_option maxRecDepth 100000 in
theorem c_F_switchOn (l : Launch) (G : xG) (d : xd) (q z : Nat) (hq : d 43 1 = nI q) (hz : d 43 0 = nI z) (q8 : q < 8) (z8 : z ≤ 8) (i n : Nat) (hn : d 2 0 = nI n) (h8 : n ≤ 8) (hi : i < n) : x_M G l yX11_switchOn wsX11_switchOn 5 0 0 [.ref (x_b G + 0), .int (nI i)] d (some (.int (x_bi (x_bz (d 6 i) = 0)))) (x_p (f_rem d 1 q z) 6 i 1) := by
  have iX11 : ∀ w ∈ u_ws RX11 TX11 13, w ∈ wsX11_switchOn := by decide +kernel
  have iX5 : ∀ w ∈ u_ws RX5 TX5 8, w ∈ wsX11_switchOn := by decide +kernel
  have iX9 : ∀ w ∈ u_ws RX9 TX9 3, w ∈ wsX11_switchOn := by decide +kernel
  refine x_start (cc := cX11_switchOn) (maxL := 3) (ret := (some .boolean)) (own := RX11) (by decide) rfl rfl (Nat.le_of_ble_eq_true rfl) (lst := [(0, .ref (x_b G + 0)), (1, .int (nI i))]) rfl ?_
  intro p e s m args below meth c C hr hlocks
  refine a_aload_n C dX11_switchOn_0 0 rfl ?_
  refine a_iload_n C dX11_switchOn_1 1 rfl ?_
  refine a_callV C (k := 0) (As := [.int (nI i)]) (rest := []) (c_F_requireLamp l G d i n hn h8 hi) (cwV 1 C.1.2.2.2.2 gX11_switchOn_X11_requireLamp rfl rfl rfl (by decide +kernel) ⟨Nat.le_of_ble_eq_true rfl, Nat.le_of_ble_eq_true rfl⟩) x_k0 (q := (RX11, TX11, 13)) rfl rfl rfl rfl (Nat.le_of_ble_eq_true rfl) dX11_switchOn_2 ⟨Nat.le_of_ble_eq_true rfl, Nat.le_of_ble_eq_true rfl⟩ ?_
  refine a_aload_n C dX11_switchOn_5 0 rfl ?_
  refine a_getR C (k := 0) iX11 x_k0 rfl (j := 4) rfl (by decide) (by decide +kernel) dX11_switchOn_6 ?_
  refine a_aload_n C dX11_switchOn_9 0 rfl ?_
  refine a_getR C (k := 0) iX11 x_k0 rfl (j := 0) rfl (by decide) (by decide +kernel) dX11_switchOn_10 ?_
  refine a_callV C (k := 43) (As := [.ref (x_b G + 1)]) (rest := []) (c_X4_remember l G d 1 x_isS_1 (by omega) q z hq hz q8 z8) (cwV 1 C.1.2.2.2.2 gX11_switchOn_X4_remember rfl rfl rfl (by decide +kernel) ⟨Nat.le_of_ble_eq_true rfl, Nat.le_of_ble_eq_true rfl⟩) x_k43 (q := (RX4, TX4, 3)) rfl rfl rfl rfl (Nat.le_of_ble_eq_true rfl) dX11_switchOn_13 ⟨Nat.le_of_ble_eq_true rfl, Nat.le_of_ble_eq_true rfl⟩ ?_
  refine a_aload_n C dX11_switchOn_16 0 rfl ?_
  refine a_getR C (k := 0) iX11 x_k0 rfl (j := 0) rfl (by decide) (by decide +kernel) dX11_switchOn_17 ?_
  refine a_getR C (k := 1) iX9 (x_sS0 x_isS_1) rfl (j := 0) rfl (by decide) (by decide +kernel) dX11_switchOn_20 ?_
  refine a_getR C (k := 2) iX5 (x_sS1 x_isS_1) rfl (j := 4) rfl (by decide) (by decide +kernel) dX11_switchOn_23 ?_
  refine a_iload_n C dX11_switchOn_26 1 rfl ?_
  refine a_zaldN C (k := 6) (x_sS5 x_isS_1) (i := i) rfl (by omega) (by first | decide | omega) dX11_switchOn_27 ?_
  refine a_top (y := (x_bz (d 6 i))) (by rw [f_rem_out (by omega) q8]) ?_
  refine a_if_ne C dX11_switchOn_28 (tgt := 35) (by decide) (fun h28 => ?_) (fun h28 => ?_)
  · skip
    refine a_iconst C dX11_switchOn_35 (v := 0) (by decide) ?_
    refine a_istore_n C dX11_switchOn_36 (by decide) (lst2 := [(2, .int 0), (0, .ref (x_b G + 0)), (1, .int (nI i))]) rfl ?_
    refine a_aload_n C dX11_switchOn_37 1 rfl ?_
    refine a_getR C (k := 0) iX11 x_k0 rfl (j := 0) rfl (by decide) (by decide +kernel) dX11_switchOn_38 ?_
    refine a_getR C (k := 1) iX9 (x_sS0 x_isS_1) rfl (j := 0) rfl (by decide) (by decide +kernel) dX11_switchOn_41 ?_
    refine a_getR C (k := 2) iX5 (x_sS1 x_isS_1) rfl (j := 4) rfl (by decide) (by decide +kernel) dX11_switchOn_44 ?_
    refine a_iload_n C dX11_switchOn_47 2 rfl ?_
    refine a_iconst C dX11_switchOn_48 (v := 1) (by decide) ?_
    refine a_zastN C (k := 6) (x_sS5 x_isS_1) (i := i) rfl (by omega) (by first | decide | omega) (by decide) dX11_switchOn_49 ?_
    refine a_iload_n C dX11_switchOn_50 0 rfl ?_
    exact a_zret C hlocks hr rfl dX11_switchOn_51 (x_bi_f h28).symm rfl
  · skip
    refine a_iconst C dX11_switchOn_31 (v := 1) (by decide) ?_
    refine a_goto C dX11_switchOn_32 (tgt := 36) (by decide) ?_
    refine a_istore_n C dX11_switchOn_36 (by decide) (lst2 := [(2, .int 1), (0, .ref (x_b G + 0)), (1, .int (nI i))]) rfl ?_
    refine a_aload_n C dX11_switchOn_37 1 rfl ?_
    refine a_getR C (k := 0) iX11 x_k0 rfl (j := 0) rfl (by decide) (by decide +kernel) dX11_switchOn_38 ?_
    refine a_getR C (k := 1) iX9 (x_sS0 x_isS_1) rfl (j := 0) rfl (by decide) (by decide +kernel) dX11_switchOn_41 ?_
    refine a_getR C (k := 2) iX5 (x_sS1 x_isS_1) rfl (j := 4) rfl (by decide) (by decide +kernel) dX11_switchOn_44 ?_
    refine a_iload_n C dX11_switchOn_47 2 rfl ?_
    refine a_iconst C dX11_switchOn_48 (v := 1) (by decide) ?_
    refine a_zastN C (k := 6) (x_sS5 x_isS_1) (i := i) rfl (by omega) (by first | decide | omega) (by decide) dX11_switchOn_49 ?_
    refine a_iload_n C dX11_switchOn_50 0 rfl ?_
    exact a_zret C hlocks hr rfl dX11_switchOn_51 (x_bi_t (Decidable.not_not.mp (fun q => q h28))).symm rfl

set_option maxHeartbeats 1000000 in
set_option maxRecDepth 100000 in
theorem c_F_switchOff_1 (l : Launch) (hfl : l.stackTraces = false) (G : xG) (d : xd) (x : Int32) (n : Nat) (hn : d 2 0 = nI n) (hx : ¬ (0 ≤ x ∧ x < nI n)) : x_X G l yX11_switchOff wsX11_switchOff 5 [.ref (x_b G + 0), .int x] d "java/lang/IndexOutOfBoundsException" d := by
  refine x_startX (cc := cX11_switchOff) (maxL := 3) (ret := (some .boolean)) (own := RX11) (by decide) rfl rfl (Nat.le_of_ble_eq_true rfl) (lst := [(0, .ref (x_b G + 0)), (1, .int x)]) rfl ?_
  intro p e s m args below meth c C hr hlocks
  refine a_aload_n C dX11_switchOff_0 0 rfl ?_
  refine a_iload_n C dX11_switchOff_1 1 rfl ?_
  exact a_callVX C hr hlocks (k := 0) (As := [.int x]) (rest := []) (c_F_requireLamp_1 l hfl G d x n hn hx) (cwV 1 C.1.2.2.2.2 gX11_switchOff_X11_requireLamp rfl rfl rfl (by decide +kernel) ⟨Nat.le_of_ble_eq_true rfl, Nat.le_of_ble_eq_true rfl⟩) x_k0 (q := (RX11, TX11, 13)) rfl rfl rfl rfl (Nat.le_of_ble_eq_true rfl) dX11_switchOff_2 (by decide) (by decide) (by decide) rfl

set_option maxHeartbeats 1000000 in
set_option maxRecDepth 100000 in
theorem c_F_switchOff (l : Launch) (G : xG) (d : xd) (q z : Nat) (hq : d 43 1 = nI q) (hz : d 43 0 = nI z) (q8 : q < 8) (z8 : z ≤ 8) (i n : Nat) (hn : d 2 0 = nI n) (h8 : n ≤ 8) (hi : i < n) : x_M G l yX11_switchOff wsX11_switchOff 5 0 0 [.ref (x_b G + 0), .int (nI i)] d (some (.int (x_bz (d 6 i)))) (x_p (f_rem d 1 q z) 6 i 0) := by
  have iX11 : ∀ w ∈ u_ws RX11 TX11 13, w ∈ wsX11_switchOff := by decide +kernel
  have iX5 : ∀ w ∈ u_ws RX5 TX5 8, w ∈ wsX11_switchOff := by decide +kernel
  have iX9 : ∀ w ∈ u_ws RX9 TX9 3, w ∈ wsX11_switchOff := by decide +kernel
  refine x_start (cc := cX11_switchOff) (maxL := 3) (ret := (some .boolean)) (own := RX11) (by decide) rfl rfl (Nat.le_of_ble_eq_true rfl) (lst := [(0, .ref (x_b G + 0)), (1, .int (nI i))]) rfl ?_
  intro p e s m args below meth c C hr hlocks
  refine a_aload_n C dX11_switchOff_0 0 rfl ?_
  refine a_iload_n C dX11_switchOff_1 1 rfl ?_
  refine a_callV C (k := 0) (As := [.int (nI i)]) (rest := []) (c_F_requireLamp l G d i n hn h8 hi) (cwV 1 C.1.2.2.2.2 gX11_switchOff_X11_requireLamp rfl rfl rfl (by decide +kernel) ⟨Nat.le_of_ble_eq_true rfl, Nat.le_of_ble_eq_true rfl⟩) x_k0 (q := (RX11, TX11, 13)) rfl rfl rfl rfl (Nat.le_of_ble_eq_true rfl) dX11_switchOff_2 ⟨Nat.le_of_ble_eq_true rfl, Nat.le_of_ble_eq_true rfl⟩ ?_
  refine a_aload_n C dX11_switchOff_5 0 rfl ?_
  refine a_getR C (k := 0) iX11 x_k0 rfl (j := 4) rfl (by decide) (by decide +kernel) dX11_switchOff_6 ?_
  refine a_aload_n C dX11_switchOff_9 0 rfl ?_
  refine a_getR C (k := 0) iX11 x_k0 rfl (j := 0) rfl (by decide) (by decide +kernel) dX11_switchOff_10 ?_
  refine a_callV C (k := 43) (As := [.ref (x_b G + 1)]) (rest := []) (c_X4_remember l G d 1 x_isS_1 (by omega) q z hq hz q8 z8) (cwV 1 C.1.2.2.2.2 gX11_switchOff_X4_remember rfl rfl rfl (by decide +kernel) ⟨Nat.le_of_ble_eq_true rfl, Nat.le_of_ble_eq_true rfl⟩) x_k43 (q := (RX4, TX4, 3)) rfl rfl rfl rfl (Nat.le_of_ble_eq_true rfl) dX11_switchOff_13 ⟨Nat.le_of_ble_eq_true rfl, Nat.le_of_ble_eq_true rfl⟩ ?_
  refine a_aload_n C dX11_switchOff_16 0 rfl ?_
  refine a_getR C (k := 0) iX11 x_k0 rfl (j := 0) rfl (by decide) (by decide +kernel) dX11_switchOff_17 ?_
  refine a_getR C (k := 1) iX9 (x_sS0 x_isS_1) rfl (j := 0) rfl (by decide) (by decide +kernel) dX11_switchOff_20 ?_
  refine a_getR C (k := 2) iX5 (x_sS1 x_isS_1) rfl (j := 4) rfl (by decide) (by decide +kernel) dX11_switchOff_23 ?_
  refine a_iload_n C dX11_switchOff_26 1 rfl ?_
  refine a_zaldN C (k := 6) (x_sS5 x_isS_1) (i := i) rfl (by omega) (by first | decide | omega) dX11_switchOff_27 ?_
  refine a_top (y := (x_bz (d 6 i))) (by rw [f_rem_out (by omega) q8]) ?_
  refine a_istore_n C dX11_switchOff_28 (by decide) (lst2 := [(2, .int (x_bz (d 6 i))), (0, .ref (x_b G + 0)), (1, .int (nI i))]) rfl ?_
  refine a_aload_n C dX11_switchOff_29 1 rfl ?_
  refine a_getR C (k := 0) iX11 x_k0 rfl (j := 0) rfl (by decide) (by decide +kernel) dX11_switchOff_30 ?_
  refine a_getR C (k := 1) iX9 (x_sS0 x_isS_1) rfl (j := 0) rfl (by decide) (by decide +kernel) dX11_switchOff_33 ?_
  refine a_getR C (k := 2) iX5 (x_sS1 x_isS_1) rfl (j := 4) rfl (by decide) (by decide +kernel) dX11_switchOff_36 ?_
  refine a_iload_n C dX11_switchOff_39 2 rfl ?_
  refine a_iconst C dX11_switchOff_40 (v := 0) (by decide) ?_
  refine a_zastN C (k := 6) (x_sS5 x_isS_1) (i := i) rfl (by omega) (by first | decide | omega) (by decide) dX11_switchOff_41 ?_
  refine a_iload_n C dX11_switchOff_42 0 rfl ?_
  exact a_zret C hlocks hr (x_nbz _) dX11_switchOff_43 rfl rfl

set_option maxHeartbeats 1000000 in
set_option maxRecDepth 100000 in
theorem c_F_deliverOil_2 (l : Launch) (hfl : l.stackTraces = false) (G : xG) (d : xd) (x : Int32) (hrf : f_rdel d 1 x = 2) : x_X G l yX11_deliverOil wsX11_deliverOil 5 [.ref (x_b G + 0), .int x] d "java/lang/IllegalArgumentException" d := by
  have iX11 : ∀ w ∈ u_ws RX11 TX11 13, w ∈ wsX11_deliverOil := by decide +kernel
  refine x_startX (cc := cX11_deliverOil) (maxL := 2) (ret := (some .int)) (own := RX11) (by decide) rfl rfl (Nat.le_of_ble_eq_true rfl) (lst := [(0, .ref (x_b G + 0)), (1, .int x)]) rfl ?_
  intro p e s m args below meth c C hr hlocks
  refine a_aload_n C dX11_deliverOil_0 0 rfl ?_
  refine a_getR C (k := 0) iX11 x_k0 rfl (j := 0) rfl (by decide) (by decide +kernel) dX11_deliverOil_1 ?_
  refine a_iload_n C dX11_deliverOil_4 1 rfl ?_
  refine a_callV C (k := 1) (As := [.int x]) (rest := []) (c_X9_refusalToDeliver l G d 1 x_isS_1 x) (cwV 1 C.1.2.2.2.2 gX11_deliverOil_X9_refusalToDeliver rfl rfl rfl (by decide +kernel) ⟨Nat.le_of_ble_eq_true rfl, Nat.le_of_ble_eq_true rfl⟩) (x_sS0 x_isS_1) (q := (RX9, TX9, 3)) rfl rfl rfl rfl (Nat.le_of_ble_eq_true rfl) dX11_deliverOil_5 ⟨Nat.le_of_ble_eq_true rfl, Nat.le_of_ble_eq_true rfl⟩ ?_
  refine a_topR (y := x_e G 1 2) (by rw [hrf]) ?_
  exact a_callSX C hr hlocks (As := [.ref (x_e G 1 2)]) (rest := []) (c_F_raise_2 l hfl G d) (va_cwS 1 C.1.2.2.2.2 gX11_deliverOil_X11_raise rfl rfl rfl (by decide +kernel) ⟨Nat.le_of_ble_eq_true rfl, Nat.le_of_ble_eq_true rfl⟩) rfl rfl (Nat.le_of_ble_eq_true rfl) dX11_deliverOil_8 (by decide) (by decide) (by decide) rfl

set_option maxHeartbeats 1000000 in
set_option maxRecDepth 100000 in
theorem c_F_deliverOil_3 (l : Launch) (hfl : l.stackTraces = false) (G : xG) (d : xd) (x : Int32) (hrf : f_rdel d 1 x = 3) : x_X G l yX11_deliverOil wsX11_deliverOil 5 [.ref (x_b G + 0), .int x] d "java/lang/IllegalStateException" d := by
  have iX11 : ∀ w ∈ u_ws RX11 TX11 13, w ∈ wsX11_deliverOil := by decide +kernel
  refine x_startX (cc := cX11_deliverOil) (maxL := 2) (ret := (some .int)) (own := RX11) (by decide) rfl rfl (Nat.le_of_ble_eq_true rfl) (lst := [(0, .ref (x_b G + 0)), (1, .int x)]) rfl ?_
  intro p e s m args below meth c C hr hlocks
  refine a_aload_n C dX11_deliverOil_0 0 rfl ?_
  refine a_getR C (k := 0) iX11 x_k0 rfl (j := 0) rfl (by decide) (by decide +kernel) dX11_deliverOil_1 ?_
  refine a_iload_n C dX11_deliverOil_4 1 rfl ?_
  refine a_callV C (k := 1) (As := [.int x]) (rest := []) (c_X9_refusalToDeliver l G d 1 x_isS_1 x) (cwV 1 C.1.2.2.2.2 gX11_deliverOil_X9_refusalToDeliver rfl rfl rfl (by decide +kernel) ⟨Nat.le_of_ble_eq_true rfl, Nat.le_of_ble_eq_true rfl⟩) (x_sS0 x_isS_1) (q := (RX9, TX9, 3)) rfl rfl rfl rfl (Nat.le_of_ble_eq_true rfl) dX11_deliverOil_5 ⟨Nat.le_of_ble_eq_true rfl, Nat.le_of_ble_eq_true rfl⟩ ?_
  refine a_topR (y := x_e G 1 3) (by rw [hrf]) ?_
  exact a_callSX C hr hlocks (As := [.ref (x_e G 1 3)]) (rest := []) (c_F_raise_3 l hfl G d) (va_cwS 1 C.1.2.2.2.2 gX11_deliverOil_X11_raise rfl rfl rfl (by decide +kernel) ⟨Nat.le_of_ble_eq_true rfl, Nat.le_of_ble_eq_true rfl⟩) rfl rfl (Nat.le_of_ble_eq_true rfl) dX11_deliverOil_8 (by decide) (by decide) (by decide) rfl

set_option maxHeartbeats 1000000 in
set_option maxRecDepth 100000 in
theorem c_F_deliverOil (l : Launch) (G : xG) (d : xd) (q z : Nat) (hq : d 43 1 = nI q) (hz : d 43 0 = nI z) (q8 : q < 8) (z8 : z ≤ 8) (n : Nat) (hn : d 2 0 = nI n) (h8 : n ≤ 8) (a0 : Nat) (sh : Nat → Nat) (hs : ∀ j, j < n → d 4 j = nI (sh j)) (hs9 : ∀ j, j < n → sh j ≤ 9) (hS : 1 ≤ f_sn sh n) (ha0 : a0 < 100000) (hrf : f_rdel d 1 (nI a0) = 0) : x_M G l yX11_deliverOil wsX11_deliverOil 6 0 0 [.ref (x_b G + 0), .int (nI a0)] d (some (.int (f_sum (f_fit (d 7) (f_por (f_rem d 1 q z) 159 n a0 sh)) n))) (f_pour (f_rem d 1 q z) 159 1 n a0 sh) := by
  have iX11 : ∀ w ∈ u_ws RX11 TX11 13, w ∈ wsX11_deliverOil := by decide +kernel
  refine x_start (cc := cX11_deliverOil) (maxL := 2) (ret := (some .int)) (own := RX11) (by decide) rfl rfl (Nat.le_of_ble_eq_true rfl) (lst := [(0, .ref (x_b G + 0)), (1, .int (nI a0))]) rfl ?_
  intro p e s m args below meth c C hr hlocks
  refine a_aload_n C dX11_deliverOil_0 0 rfl ?_
  refine a_getR C (k := 0) iX11 x_k0 rfl (j := 0) rfl (by decide) (by decide +kernel) dX11_deliverOil_1 ?_
  refine a_iload_n C dX11_deliverOil_4 1 rfl ?_
  refine a_callV C (k := 1) (As := [.int (nI a0)]) (rest := []) (c_X9_refusalToDeliver l G d 1 x_isS_1 (nI a0)) (cwV 1 C.1.2.2.2.2 gX11_deliverOil_X9_refusalToDeliver rfl rfl rfl (by decide +kernel) ⟨Nat.le_of_ble_eq_true rfl, Nat.le_of_ble_eq_true rfl⟩) (x_sS0 x_isS_1) (q := (RX9, TX9, 3)) rfl rfl rfl rfl (Nat.le_of_ble_eq_true rfl) dX11_deliverOil_5 ⟨Nat.le_of_ble_eq_true rfl, Nat.le_of_ble_eq_true rfl⟩ ?_
  refine a_topR (y := x_e G 1 0) (by rw [hrf]) ?_
  refine a_callS C (As := [.ref (x_e G 1 0)]) (rest := []) (c_F_raise l G d) (va_cwS 1 C.1.2.2.2.2 gX11_deliverOil_X11_raise rfl rfl rfl (by decide +kernel) ⟨Nat.le_of_ble_eq_true rfl, Nat.le_of_ble_eq_true rfl⟩) rfl rfl (Nat.le_of_ble_eq_true rfl) dX11_deliverOil_8 ⟨Nat.le_of_ble_eq_true rfl, Nat.le_of_ble_eq_true rfl⟩ ?_
  refine a_aload_n C dX11_deliverOil_11 0 rfl ?_
  refine a_getR C (k := 0) iX11 x_k0 rfl (j := 4) rfl (by decide) (by decide +kernel) dX11_deliverOil_12 ?_
  refine a_aload_n C dX11_deliverOil_15 0 rfl ?_
  refine a_getR C (k := 0) iX11 x_k0 rfl (j := 0) rfl (by decide) (by decide +kernel) dX11_deliverOil_16 ?_
  refine a_callV C (k := 43) (As := [.ref (x_b G + 1)]) (rest := []) (c_X4_remember l G d 1 x_isS_1 (by omega) q z hq hz q8 z8) (cwV 1 C.1.2.2.2.2 gX11_deliverOil_X4_remember rfl rfl rfl (by decide +kernel) ⟨Nat.le_of_ble_eq_true rfl, Nat.le_of_ble_eq_true rfl⟩) x_k43 (q := (RX4, TX4, 3)) rfl rfl rfl rfl (Nat.le_of_ble_eq_true rfl) dX11_deliverOil_19 ⟨Nat.le_of_ble_eq_true rfl, Nat.le_of_ble_eq_true rfl⟩ ?_
  refine a_aload_n C dX11_deliverOil_22 0 rfl ?_
  refine a_getR C (k := 0) iX11 x_k0 rfl (j := 0) rfl (by decide) (by decide +kernel) dX11_deliverOil_23 ?_
  refine a_iload_n C dX11_deliverOil_26 1 rfl ?_
  refine a_aload_n C dX11_deliverOil_27 0 rfl ?_
  refine a_getR C (k := 0) iX11 x_k0 rfl (j := 6) rfl (by decide) (by decide +kernel) dX11_deliverOil_28 ?_
  refine a_callV C (k := 1) (As := [.int (nI a0), .ref (x_b G + 159)]) (rest := []) (c_X9_pourOil l G ((f_rem d 1 q z)) 159 1 n a0 sh x_isA_0 x_isS_1 (by rw [f_rem_out (by omega) q8]; exact hn) h8 (fun j hj => by rw [f_rem_out (by omega) q8]; exact hs j hj) hs9 hS ha0) (cwV 2 C.1.2.2.2.2 gX11_deliverOil_X9_pourOil rfl rfl rfl (by decide +kernel) ⟨Nat.le_of_ble_eq_true rfl, Nat.le_of_ble_eq_true rfl⟩) (x_sS0 x_isS_1) (q := (RX9, TX9, 3)) rfl rfl rfl rfl (Nat.le_of_ble_eq_true rfl) dX11_deliverOil_31 ⟨Nat.le_of_ble_eq_true rfl, Nat.le_of_ble_eq_true rfl⟩ ?_
  refine a_top (y := (f_sum (f_fit (d 7) (f_por (f_rem d 1 q z) 159 n a0 sh)) n)) (by rw [show f_rem d 1 q z (1 + 6) = d 7 from f_rem_out (by omega) q8]) ?_
  exact a_iret C hlocks hr dX11_deliverOil_34 rfl rfl

set_option maxHeartbeats 1000000 in
set_option maxRecDepth 100000 in
theorem c_F_buyOil_1 (l : Launch) (hfl : l.stackTraces = false) (G : xG) (d : xd) (x u : Int32) (n : Nat) (hn : d 2 0 = nI n) (h8 : n ≤ 8) (hrf : f_rbuy d 1 x u = 1) : x_X G l yX11_buyOil wsX11_buyOil 5 [.ref (x_b G + 0), .int x, .int u] d "java/lang/IndexOutOfBoundsException" d := by
  have iX11 : ∀ w ∈ u_ws RX11 TX11 13, w ∈ wsX11_buyOil := by decide +kernel
  refine x_startX (cc := cX11_buyOil) (maxL := 3) (ret := (some .int)) (own := RX11) (by decide) rfl rfl (Nat.le_of_ble_eq_true rfl) (lst := [(0, .ref (x_b G + 0)), (1, .int x), (2, .int u)]) rfl ?_
  intro p e s m args below meth c C hr hlocks
  refine a_aload_n C dX11_buyOil_0 0 rfl ?_
  refine a_getR C (k := 0) iX11 x_k0 rfl (j := 0) rfl (by decide) (by decide +kernel) dX11_buyOil_1 ?_
  refine a_iload_n C dX11_buyOil_4 1 rfl ?_
  refine a_iload_n C dX11_buyOil_5 2 rfl ?_
  refine a_callV C (k := 1) (As := [.int x, .int u]) (rest := []) (c_X9_refusalToBuy l G d 1 n x_isS_1 hn h8 x u) (cwV 2 C.1.2.2.2.2 gX11_buyOil_X9_refusalToBuy rfl rfl rfl (by decide +kernel) ⟨Nat.le_of_ble_eq_true rfl, Nat.le_of_ble_eq_true rfl⟩) (x_sS0 x_isS_1) (q := (RX9, TX9, 3)) rfl rfl rfl rfl (Nat.le_of_ble_eq_true rfl) dX11_buyOil_6 ⟨Nat.le_of_ble_eq_true rfl, Nat.le_of_ble_eq_true rfl⟩ ?_
  refine a_topR (y := x_e G 1 1) (by rw [hrf]) ?_
  exact a_callSX C hr hlocks (As := [.ref (x_e G 1 1)]) (rest := []) (c_F_raise_1 l hfl G d) (va_cwS 1 C.1.2.2.2.2 gX11_buyOil_X11_raise rfl rfl rfl (by decide +kernel) ⟨Nat.le_of_ble_eq_true rfl, Nat.le_of_ble_eq_true rfl⟩) rfl rfl (Nat.le_of_ble_eq_true rfl) dX11_buyOil_9 (by decide) (by decide) (by decide) rfl

set_option maxHeartbeats 1000000 in
set_option maxRecDepth 100000 in
theorem c_F_buyOil_2 (l : Launch) (hfl : l.stackTraces = false) (G : xG) (d : xd) (x u : Int32) (n : Nat) (hn : d 2 0 = nI n) (h8 : n ≤ 8) (hrf : f_rbuy d 1 x u = 2) : x_X G l yX11_buyOil wsX11_buyOil 5 [.ref (x_b G + 0), .int x, .int u] d "java/lang/IllegalArgumentException" d := by
  have iX11 : ∀ w ∈ u_ws RX11 TX11 13, w ∈ wsX11_buyOil := by decide +kernel
  refine x_startX (cc := cX11_buyOil) (maxL := 3) (ret := (some .int)) (own := RX11) (by decide) rfl rfl (Nat.le_of_ble_eq_true rfl) (lst := [(0, .ref (x_b G + 0)), (1, .int x), (2, .int u)]) rfl ?_
  intro p e s m args below meth c C hr hlocks
  refine a_aload_n C dX11_buyOil_0 0 rfl ?_
  refine a_getR C (k := 0) iX11 x_k0 rfl (j := 0) rfl (by decide) (by decide +kernel) dX11_buyOil_1 ?_
  refine a_iload_n C dX11_buyOil_4 1 rfl ?_
  refine a_iload_n C dX11_buyOil_5 2 rfl ?_
  refine a_callV C (k := 1) (As := [.int x, .int u]) (rest := []) (c_X9_refusalToBuy l G d 1 n x_isS_1 hn h8 x u) (cwV 2 C.1.2.2.2.2 gX11_buyOil_X9_refusalToBuy rfl rfl rfl (by decide +kernel) ⟨Nat.le_of_ble_eq_true rfl, Nat.le_of_ble_eq_true rfl⟩) (x_sS0 x_isS_1) (q := (RX9, TX9, 3)) rfl rfl rfl rfl (Nat.le_of_ble_eq_true rfl) dX11_buyOil_6 ⟨Nat.le_of_ble_eq_true rfl, Nat.le_of_ble_eq_true rfl⟩ ?_
  refine a_topR (y := x_e G 1 2) (by rw [hrf]) ?_
  exact a_callSX C hr hlocks (As := [.ref (x_e G 1 2)]) (rest := []) (c_F_raise_2 l hfl G d) (va_cwS 1 C.1.2.2.2.2 gX11_buyOil_X11_raise rfl rfl rfl (by decide +kernel) ⟨Nat.le_of_ble_eq_true rfl, Nat.le_of_ble_eq_true rfl⟩) rfl rfl (Nat.le_of_ble_eq_true rfl) dX11_buyOil_9 (by decide) (by decide) (by decide) rfl

set_option maxHeartbeats 1000000 in
set_option maxRecDepth 100000 in
theorem c_F_buyOil_3 (l : Launch) (hfl : l.stackTraces = false) (G : xG) (d : xd) (x u : Int32) (n : Nat) (hn : d 2 0 = nI n) (h8 : n ≤ 8) (hrf : f_rbuy d 1 x u = 3) : x_X G l yX11_buyOil wsX11_buyOil 5 [.ref (x_b G + 0), .int x, .int u] d "java/lang/IllegalStateException" d := by
  have iX11 : ∀ w ∈ u_ws RX11 TX11 13, w ∈ wsX11_buyOil := by decide +kernel
  refine x_startX (cc := cX11_buyOil) (maxL := 3) (ret := (some .int)) (own := RX11) (by decide) rfl rfl (Nat.le_of_ble_eq_true rfl) (lst := [(0, .ref (x_b G + 0)), (1, .int x), (2, .int u)]) rfl ?_
  intro p e s m args below meth c C hr hlocks
  refine a_aload_n C dX11_buyOil_0 0 rfl ?_
  refine a_getR C (k := 0) iX11 x_k0 rfl (j := 0) rfl (by decide) (by decide +kernel) dX11_buyOil_1 ?_
  refine a_iload_n C dX11_buyOil_4 1 rfl ?_
  refine a_iload_n C dX11_buyOil_5 2 rfl ?_
  refine a_callV C (k := 1) (As := [.int x, .int u]) (rest := []) (c_X9_refusalToBuy l G d 1 n x_isS_1 hn h8 x u) (cwV 2 C.1.2.2.2.2 gX11_buyOil_X9_refusalToBuy rfl rfl rfl (by decide +kernel) ⟨Nat.le_of_ble_eq_true rfl, Nat.le_of_ble_eq_true rfl⟩) (x_sS0 x_isS_1) (q := (RX9, TX9, 3)) rfl rfl rfl rfl (Nat.le_of_ble_eq_true rfl) dX11_buyOil_6 ⟨Nat.le_of_ble_eq_true rfl, Nat.le_of_ble_eq_true rfl⟩ ?_
  refine a_topR (y := x_e G 1 3) (by rw [hrf]) ?_
  exact a_callSX C hr hlocks (As := [.ref (x_e G 1 3)]) (rest := []) (c_F_raise_3 l hfl G d) (va_cwS 1 C.1.2.2.2.2 gX11_buyOil_X11_raise rfl rfl rfl (by decide +kernel) ⟨Nat.le_of_ble_eq_true rfl, Nat.le_of_ble_eq_true rfl⟩) rfl rfl (Nat.le_of_ble_eq_true rfl) dX11_buyOil_9 (by decide) (by decide) (by decide) rfl

set_option maxHeartbeats 1000000 in
set_option maxRecDepth 100000 in
theorem c_F_buyOil (l : Launch) (G : xG) (d : xd) (q z : Nat) (hq : d 43 1 = nI q) (hz : d 43 0 = nI z) (q8 : q < 8) (z8 : z ≤ 8) (u : Int32) (i n : Nat) (hn : d 2 0 = nI n) (h8 : n ≤ 8) (hi : i < n) (hrf : f_rbuy d 1 (nI i) u = 0) : x_M G l yX11_buyOil wsX11_buyOil 5 0 0 [.ref (x_b G + 0), .int (nI i), .int u] d (some (.int (d 7 i + u))) (f_sell (f_rem d 1 q z) 1 i u) := by
  have iX11 : ∀ w ∈ u_ws RX11 TX11 13, w ∈ wsX11_buyOil := by decide +kernel
  refine x_start (cc := cX11_buyOil) (maxL := 3) (ret := (some .int)) (own := RX11) (by decide) rfl rfl (Nat.le_of_ble_eq_true rfl) (lst := [(0, .ref (x_b G + 0)), (1, .int (nI i)), (2, .int u)]) rfl ?_
  intro p e s m args below meth c C hr hlocks
  refine a_aload_n C dX11_buyOil_0 0 rfl ?_
  refine a_getR C (k := 0) iX11 x_k0 rfl (j := 0) rfl (by decide) (by decide +kernel) dX11_buyOil_1 ?_
  refine a_iload_n C dX11_buyOil_4 1 rfl ?_
  refine a_iload_n C dX11_buyOil_5 2 rfl ?_
  refine a_callV C (k := 1) (As := [.int (nI i), .int u]) (rest := []) (c_X9_refusalToBuy l G d 1 n x_isS_1 hn h8 (nI i) u) (cwV 2 C.1.2.2.2.2 gX11_buyOil_X9_refusalToBuy rfl rfl rfl (by decide +kernel) ⟨Nat.le_of_ble_eq_true rfl, Nat.le_of_ble_eq_true rfl⟩) (x_sS0 x_isS_1) (q := (RX9, TX9, 3)) rfl rfl rfl rfl (Nat.le_of_ble_eq_true rfl) dX11_buyOil_6 ⟨Nat.le_of_ble_eq_true rfl, Nat.le_of_ble_eq_true rfl⟩ ?_
  refine a_topR (y := x_e G 1 0) (by rw [hrf]) ?_
  refine a_callS C (As := [.ref (x_e G 1 0)]) (rest := []) (c_F_raise l G d) (va_cwS 1 C.1.2.2.2.2 gX11_buyOil_X11_raise rfl rfl rfl (by decide +kernel) ⟨Nat.le_of_ble_eq_true rfl, Nat.le_of_ble_eq_true rfl⟩) rfl rfl (Nat.le_of_ble_eq_true rfl) dX11_buyOil_9 ⟨Nat.le_of_ble_eq_true rfl, Nat.le_of_ble_eq_true rfl⟩ ?_
  refine a_aload_n C dX11_buyOil_12 0 rfl ?_
  refine a_getR C (k := 0) iX11 x_k0 rfl (j := 4) rfl (by decide) (by decide +kernel) dX11_buyOil_13 ?_
  refine a_aload_n C dX11_buyOil_16 0 rfl ?_
  refine a_getR C (k := 0) iX11 x_k0 rfl (j := 0) rfl (by decide) (by decide +kernel) dX11_buyOil_17 ?_
  refine a_callV C (k := 43) (As := [.ref (x_b G + 1)]) (rest := []) (c_X4_remember l G d 1 x_isS_1 (by omega) q z hq hz q8 z8) (cwV 1 C.1.2.2.2.2 gX11_buyOil_X4_remember rfl rfl rfl (by decide +kernel) ⟨Nat.le_of_ble_eq_true rfl, Nat.le_of_ble_eq_true rfl⟩) x_k43 (q := (RX4, TX4, 3)) rfl rfl rfl rfl (Nat.le_of_ble_eq_true rfl) dX11_buyOil_20 ⟨Nat.le_of_ble_eq_true rfl, Nat.le_of_ble_eq_true rfl⟩ ?_
  refine a_aload_n C dX11_buyOil_23 0 rfl ?_
  refine a_getR C (k := 0) iX11 x_k0 rfl (j := 0) rfl (by decide) (by decide +kernel) dX11_buyOil_24 ?_
  refine a_iload_n C dX11_buyOil_27 1 rfl ?_
  refine a_iload_n C dX11_buyOil_28 2 rfl ?_
  refine a_callV C (k := 1) (As := [.int (nI i), .int u]) (rest := []) (c_X9_sellOil l G ((f_rem d 1 q z)) 1 i x_isS_1 (by omega) u) (cwV 2 C.1.2.2.2.2 gX11_buyOil_X9_sellOil rfl rfl rfl (by decide +kernel) ⟨Nat.le_of_ble_eq_true rfl, Nat.le_of_ble_eq_true rfl⟩) (x_sS0 x_isS_1) (q := (RX9, TX9, 3)) rfl rfl rfl rfl (Nat.le_of_ble_eq_true rfl) dX11_buyOil_29 ⟨Nat.le_of_ble_eq_true rfl, Nat.le_of_ble_eq_true rfl⟩ ?_
  refine a_top (y := (d 7 i + u)) (by rw [f_rem_out (by omega) q8]) ?_
  exact a_iret C hlocks hr dX11_buyOil_32 rfl rfl

set_option maxHeartbeats 1000000 in
set_option maxRecDepth 100000 in
theorem c_F_giveWick_1 (l : Launch) (hfl : l.stackTraces = false) (G : xG) (d : xd) (x u : Int32) (n : Nat) (hn : d 2 0 = nI n) (h8 : n ≤ 8) (hrf : f_rgive d 1 x u = 1) : x_X G l yX11_giveWick wsX11_giveWick 5 [.ref (x_b G + 0), .int x, .int u] d "java/lang/IndexOutOfBoundsException" d := by
  have iX11 : ∀ w ∈ u_ws RX11 TX11 13, w ∈ wsX11_giveWick := by decide +kernel
  refine x_startX (cc := cX11_giveWick) (maxL := 3) (ret := (some .int)) (own := RX11) (by decide) rfl rfl (Nat.le_of_ble_eq_true rfl) (lst := [(0, .ref (x_b G + 0)), (1, .int x), (2, .int u)]) rfl ?_
  intro p e s m args below meth c C hr hlocks
  refine a_aload_n C dX11_giveWick_0 0 rfl ?_
  refine a_getR C (k := 0) iX11 x_k0 rfl (j := 0) rfl (by decide) (by decide +kernel) dX11_giveWick_1 ?_
  refine a_iload_n C dX11_giveWick_4 1 rfl ?_
  refine a_iload_n C dX11_giveWick_5 2 rfl ?_
  refine a_callV C (k := 1) (As := [.int x, .int u]) (rest := []) (c_X9_refusalToGive l G d 1 n x_isS_1 hn h8 x u) (cwV 2 C.1.2.2.2.2 gX11_giveWick_X9_refusalToGive rfl rfl rfl (by decide +kernel) ⟨Nat.le_of_ble_eq_true rfl, Nat.le_of_ble_eq_true rfl⟩) (x_sS0 x_isS_1) (q := (RX9, TX9, 3)) rfl rfl rfl rfl (Nat.le_of_ble_eq_true rfl) dX11_giveWick_6 ⟨Nat.le_of_ble_eq_true rfl, Nat.le_of_ble_eq_true rfl⟩ ?_
  refine a_topR (y := x_e G 1 1) (by rw [hrf]) ?_
  exact a_callSX C hr hlocks (As := [.ref (x_e G 1 1)]) (rest := []) (c_F_raise_1 l hfl G d) (va_cwS 1 C.1.2.2.2.2 gX11_giveWick_X11_raise rfl rfl rfl (by decide +kernel) ⟨Nat.le_of_ble_eq_true rfl, Nat.le_of_ble_eq_true rfl⟩) rfl rfl (Nat.le_of_ble_eq_true rfl) dX11_giveWick_9 (by decide) (by decide) (by decide) rfl

set_option maxHeartbeats 1000000 in
set_option maxRecDepth 100000 in
theorem c_F_giveWick_2 (l : Launch) (hfl : l.stackTraces = false) (G : xG) (d : xd) (x u : Int32) (n : Nat) (hn : d 2 0 = nI n) (h8 : n ≤ 8) (hrf : f_rgive d 1 x u = 2) : x_X G l yX11_giveWick wsX11_giveWick 5 [.ref (x_b G + 0), .int x, .int u] d "java/lang/IllegalArgumentException" d := by
  have iX11 : ∀ w ∈ u_ws RX11 TX11 13, w ∈ wsX11_giveWick := by decide +kernel
  refine x_startX (cc := cX11_giveWick) (maxL := 3) (ret := (some .int)) (own := RX11) (by decide) rfl rfl (Nat.le_of_ble_eq_true rfl) (lst := [(0, .ref (x_b G + 0)), (1, .int x), (2, .int u)]) rfl ?_
  intro p e s m args below meth c C hr hlocks
  refine a_aload_n C dX11_giveWick_0 0 rfl ?_
  refine a_getR C (k := 0) iX11 x_k0 rfl (j := 0) rfl (by decide) (by decide +kernel) dX11_giveWick_1 ?_
  refine a_iload_n C dX11_giveWick_4 1 rfl ?_
  refine a_iload_n C dX11_giveWick_5 2 rfl ?_
  refine a_callV C (k := 1) (As := [.int x, .int u]) (rest := []) (c_X9_refusalToGive l G d 1 n x_isS_1 hn h8 x u) (cwV 2 C.1.2.2.2.2 gX11_giveWick_X9_refusalToGive rfl rfl rfl (by decide +kernel) ⟨Nat.le_of_ble_eq_true rfl, Nat.le_of_ble_eq_true rfl⟩) (x_sS0 x_isS_1) (q := (RX9, TX9, 3)) rfl rfl rfl rfl (Nat.le_of_ble_eq_true rfl) dX11_giveWick_6 ⟨Nat.le_of_ble_eq_true rfl, Nat.le_of_ble_eq_true rfl⟩ ?_
  refine a_topR (y := x_e G 1 2) (by rw [hrf]) ?_
  exact a_callSX C hr hlocks (As := [.ref (x_e G 1 2)]) (rest := []) (c_F_raise_2 l hfl G d) (va_cwS 1 C.1.2.2.2.2 gX11_giveWick_X11_raise rfl rfl rfl (by decide +kernel) ⟨Nat.le_of_ble_eq_true rfl, Nat.le_of_ble_eq_true rfl⟩) rfl rfl (Nat.le_of_ble_eq_true rfl) dX11_giveWick_9 (by decide) (by decide) (by decide) rfl

set_option maxHeartbeats 1000000 in
set_option maxRecDepth 100000 in
theorem c_F_giveWick_3 (l : Launch) (hfl : l.stackTraces = false) (G : xG) (d : xd) (x u : Int32) (n : Nat) (hn : d 2 0 = nI n) (h8 : n ≤ 8) (hrf : f_rgive d 1 x u = 3) : x_X G l yX11_giveWick wsX11_giveWick 5 [.ref (x_b G + 0), .int x, .int u] d "java/lang/IllegalStateException" d := by
  have iX11 : ∀ w ∈ u_ws RX11 TX11 13, w ∈ wsX11_giveWick := by decide +kernel
  refine x_startX (cc := cX11_giveWick) (maxL := 3) (ret := (some .int)) (own := RX11) (by decide) rfl rfl (Nat.le_of_ble_eq_true rfl) (lst := [(0, .ref (x_b G + 0)), (1, .int x), (2, .int u)]) rfl ?_
  intro p e s m args below meth c C hr hlocks
  refine a_aload_n C dX11_giveWick_0 0 rfl ?_
  refine a_getR C (k := 0) iX11 x_k0 rfl (j := 0) rfl (by decide) (by decide +kernel) dX11_giveWick_1 ?_
  refine a_iload_n C dX11_giveWick_4 1 rfl ?_
  refine a_iload_n C dX11_giveWick_5 2 rfl ?_
  refine a_callV C (k := 1) (As := [.int x, .int u]) (rest := []) (c_X9_refusalToGive l G d 1 n x_isS_1 hn h8 x u) (cwV 2 C.1.2.2.2.2 gX11_giveWick_X9_refusalToGive rfl rfl rfl (by decide +kernel) ⟨Nat.le_of_ble_eq_true rfl, Nat.le_of_ble_eq_true rfl⟩) (x_sS0 x_isS_1) (q := (RX9, TX9, 3)) rfl rfl rfl rfl (Nat.le_of_ble_eq_true rfl) dX11_giveWick_6 ⟨Nat.le_of_ble_eq_true rfl, Nat.le_of_ble_eq_true rfl⟩ ?_
  refine a_topR (y := x_e G 1 3) (by rw [hrf]) ?_
  exact a_callSX C hr hlocks (As := [.ref (x_e G 1 3)]) (rest := []) (c_F_raise_3 l hfl G d) (va_cwS 1 C.1.2.2.2.2 gX11_giveWick_X11_raise rfl rfl rfl (by decide +kernel) ⟨Nat.le_of_ble_eq_true rfl, Nat.le_of_ble_eq_true rfl⟩) rfl rfl (Nat.le_of_ble_eq_true rfl) dX11_giveWick_9 (by decide) (by decide) (by decide) rfl

set_option maxHeartbeats 1000000 in
set_option maxRecDepth 100000 in
theorem c_F_giveWick (l : Launch) (G : xG) (d : xd) (q z : Nat) (hq : d 43 1 = nI q) (hz : d 43 0 = nI z) (q8 : q < 8) (z8 : z ≤ 8) (u : Int32) (i n : Nat) (hn : d 2 0 = nI n) (h8 : n ≤ 8) (hi : i < n) (hrf : f_rgive d 1 (nI i) u = 0) : x_M G l yX11_giveWick wsX11_giveWick 5 0 0 [.ref (x_b G + 0), .int (nI i), .int u] d (some (.int (d 8 i + u))) (f_mvw (f_rem d 1 q z) 1 i u) := by
  have iX11 : ∀ w ∈ u_ws RX11 TX11 13, w ∈ wsX11_giveWick := by decide +kernel
  refine x_start (cc := cX11_giveWick) (maxL := 3) (ret := (some .int)) (own := RX11) (by decide) rfl rfl (Nat.le_of_ble_eq_true rfl) (lst := [(0, .ref (x_b G + 0)), (1, .int (nI i)), (2, .int u)]) rfl ?_
  intro p e s m args below meth c C hr hlocks
  refine a_aload_n C dX11_giveWick_0 0 rfl ?_
  refine a_getR C (k := 0) iX11 x_k0 rfl (j := 0) rfl (by decide) (by decide +kernel) dX11_giveWick_1 ?_
  refine a_iload_n C dX11_giveWick_4 1 rfl ?_
  refine a_iload_n C dX11_giveWick_5 2 rfl ?_
  refine a_callV C (k := 1) (As := [.int (nI i), .int u]) (rest := []) (c_X9_refusalToGive l G d 1 n x_isS_1 hn h8 (nI i) u) (cwV 2 C.1.2.2.2.2 gX11_giveWick_X9_refusalToGive rfl rfl rfl (by decide +kernel) ⟨Nat.le_of_ble_eq_true rfl, Nat.le_of_ble_eq_true rfl⟩) (x_sS0 x_isS_1) (q := (RX9, TX9, 3)) rfl rfl rfl rfl (Nat.le_of_ble_eq_true rfl) dX11_giveWick_6 ⟨Nat.le_of_ble_eq_true rfl, Nat.le_of_ble_eq_true rfl⟩ ?_
  refine a_topR (y := x_e G 1 0) (by rw [hrf]) ?_
  refine a_callS C (As := [.ref (x_e G 1 0)]) (rest := []) (c_F_raise l G d) (va_cwS 1 C.1.2.2.2.2 gX11_giveWick_X11_raise rfl rfl rfl (by decide +kernel) ⟨Nat.le_of_ble_eq_true rfl, Nat.le_of_ble_eq_true rfl⟩) rfl rfl (Nat.le_of_ble_eq_true rfl) dX11_giveWick_9 ⟨Nat.le_of_ble_eq_true rfl, Nat.le_of_ble_eq_true rfl⟩ ?_
  refine a_aload_n C dX11_giveWick_12 0 rfl ?_
  refine a_getR C (k := 0) iX11 x_k0 rfl (j := 4) rfl (by decide) (by decide +kernel) dX11_giveWick_13 ?_
  refine a_aload_n C dX11_giveWick_16 0 rfl ?_
  refine a_getR C (k := 0) iX11 x_k0 rfl (j := 0) rfl (by decide) (by decide +kernel) dX11_giveWick_17 ?_
  refine a_callV C (k := 43) (As := [.ref (x_b G + 1)]) (rest := []) (c_X4_remember l G d 1 x_isS_1 (by omega) q z hq hz q8 z8) (cwV 1 C.1.2.2.2.2 gX11_giveWick_X4_remember rfl rfl rfl (by decide +kernel) ⟨Nat.le_of_ble_eq_true rfl, Nat.le_of_ble_eq_true rfl⟩) x_k43 (q := (RX4, TX4, 3)) rfl rfl rfl rfl (Nat.le_of_ble_eq_true rfl) dX11_giveWick_20 ⟨Nat.le_of_ble_eq_true rfl, Nat.le_of_ble_eq_true rfl⟩ ?_
  refine a_aload_n C dX11_giveWick_23 0 rfl ?_
  refine a_getR C (k := 0) iX11 x_k0 rfl (j := 0) rfl (by decide) (by decide +kernel) dX11_giveWick_24 ?_
  refine a_iload_n C dX11_giveWick_27 1 rfl ?_
  refine a_iload_n C dX11_giveWick_28 2 rfl ?_
  refine a_callV C (k := 1) (As := [.int (nI i), .int u]) (rest := []) (c_X9_moveWickToLamp l G ((f_rem d 1 q z)) 1 i x_isS_1 (by omega) u) (cwV 2 C.1.2.2.2.2 gX11_giveWick_X9_moveWickToLamp rfl rfl rfl (by decide +kernel) ⟨Nat.le_of_ble_eq_true rfl, Nat.le_of_ble_eq_true rfl⟩) (x_sS0 x_isS_1) (q := (RX9, TX9, 3)) rfl rfl rfl rfl (Nat.le_of_ble_eq_true rfl) dX11_giveWick_29 ⟨Nat.le_of_ble_eq_true rfl, Nat.le_of_ble_eq_true rfl⟩ ?_
  refine a_top (y := (d 8 i + u)) (by rw [f_rem_out (by omega) q8]) ?_
  exact a_iret C hlocks hr dX11_giveWick_32 rfl rfl

set_option maxHeartbeats 1000000 in
set_option maxRecDepth 100000 in
theorem c_F_returnWick_1 (l : Launch) (hfl : l.stackTraces = false) (G : xG) (d : xd) (x u : Int32) (n : Nat) (hn : d 2 0 = nI n) (h8 : n ≤ 8) (hrf : f_rret d 1 x u = 1) : x_X G l yX11_returnWick wsX11_returnWick 5 [.ref (x_b G + 0), .int x, .int u] d "java/lang/IndexOutOfBoundsException" d := by
  have iX11 : ∀ w ∈ u_ws RX11 TX11 13, w ∈ wsX11_returnWick := by decide +kernel
  refine x_startX (cc := cX11_returnWick) (maxL := 3) (ret := (some .int)) (own := RX11) (by decide) rfl rfl (Nat.le_of_ble_eq_true rfl) (lst := [(0, .ref (x_b G + 0)), (1, .int x), (2, .int u)]) rfl ?_
  intro p e s m args below meth c C hr hlocks
  refine a_aload_n C dX11_returnWick_0 0 rfl ?_
  refine a_getR C (k := 0) iX11 x_k0 rfl (j := 0) rfl (by decide) (by decide +kernel) dX11_returnWick_1 ?_
  refine a_iload_n C dX11_returnWick_4 1 rfl ?_
  refine a_iload_n C dX11_returnWick_5 2 rfl ?_
  refine a_callV C (k := 1) (As := [.int x, .int u]) (rest := []) (c_X9_refusalToReturn l G d 1 n x_isS_1 hn h8 x u) (cwV 2 C.1.2.2.2.2 gX11_returnWick_X9_refusalToReturn rfl rfl rfl (by decide +kernel) ⟨Nat.le_of_ble_eq_true rfl, Nat.le_of_ble_eq_true rfl⟩) (x_sS0 x_isS_1) (q := (RX9, TX9, 3)) rfl rfl rfl rfl (Nat.le_of_ble_eq_true rfl) dX11_returnWick_6 ⟨Nat.le_of_ble_eq_true rfl, Nat.le_of_ble_eq_true rfl⟩ ?_
  refine a_topR (y := x_e G 1 1) (by rw [hrf]) ?_
  exact a_callSX C hr hlocks (As := [.ref (x_e G 1 1)]) (rest := []) (c_F_raise_1 l hfl G d) (va_cwS 1 C.1.2.2.2.2 gX11_returnWick_X11_raise rfl rfl rfl (by decide +kernel) ⟨Nat.le_of_ble_eq_true rfl, Nat.le_of_ble_eq_true rfl⟩) rfl rfl (Nat.le_of_ble_eq_true rfl) dX11_returnWick_9 (by decide) (by decide) (by decide) rfl

set_option maxHeartbeats 1000000 in
set_option maxRecDepth 100000 in
theorem c_F_returnWick_2 (l : Launch) (hfl : l.stackTraces = false) (G : xG) (d : xd) (x u : Int32) (n : Nat) (hn : d 2 0 = nI n) (h8 : n ≤ 8) (hrf : f_rret d 1 x u = 2) : x_X G l yX11_returnWick wsX11_returnWick 5 [.ref (x_b G + 0), .int x, .int u] d "java/lang/IllegalArgumentException" d := by
  have iX11 : ∀ w ∈ u_ws RX11 TX11 13, w ∈ wsX11_returnWick := by decide +kernel
  refine x_startX (cc := cX11_returnWick) (maxL := 3) (ret := (some .int)) (own := RX11) (by decide) rfl rfl (Nat.le_of_ble_eq_true rfl) (lst := [(0, .ref (x_b G + 0)), (1, .int x), (2, .int u)]) rfl ?_
  intro p e s m args below meth c C hr hlocks
  refine a_aload_n C dX11_returnWick_0 0 rfl ?_
  refine a_getR C (k := 0) iX11 x_k0 rfl (j := 0) rfl (by decide) (by decide +kernel) dX11_returnWick_1 ?_
  refine a_iload_n C dX11_returnWick_4 1 rfl ?_
  refine a_iload_n C dX11_returnWick_5 2 rfl ?_
  refine a_callV C (k := 1) (As := [.int x, .int u]) (rest := []) (c_X9_refusalToReturn l G d 1 n x_isS_1 hn h8 x u) (cwV 2 C.1.2.2.2.2 gX11_returnWick_X9_refusalToReturn rfl rfl rfl (by decide +kernel) ⟨Nat.le_of_ble_eq_true rfl, Nat.le_of_ble_eq_true rfl⟩) (x_sS0 x_isS_1) (q := (RX9, TX9, 3)) rfl rfl rfl rfl (Nat.le_of_ble_eq_true rfl) dX11_returnWick_6 ⟨Nat.le_of_ble_eq_true rfl, Nat.le_of_ble_eq_true rfl⟩ ?_
  refine a_topR (y := x_e G 1 2) (by rw [hrf]) ?_
  exact a_callSX C hr hlocks (As := [.ref (x_e G 1 2)]) (rest := []) (c_F_raise_2 l hfl G d) (va_cwS 1 C.1.2.2.2.2 gX11_returnWick_X11_raise rfl rfl rfl (by decide +kernel) ⟨Nat.le_of_ble_eq_true rfl, Nat.le_of_ble_eq_true rfl⟩) rfl rfl (Nat.le_of_ble_eq_true rfl) dX11_returnWick_9 (by decide) (by decide) (by decide) rfl

set_option maxHeartbeats 1000000 in
set_option maxRecDepth 100000 in
theorem c_F_returnWick_3 (l : Launch) (hfl : l.stackTraces = false) (G : xG) (d : xd) (x u : Int32) (n : Nat) (hn : d 2 0 = nI n) (h8 : n ≤ 8) (hrf : f_rret d 1 x u = 3) : x_X G l yX11_returnWick wsX11_returnWick 5 [.ref (x_b G + 0), .int x, .int u] d "java/lang/IllegalStateException" d := by
  have iX11 : ∀ w ∈ u_ws RX11 TX11 13, w ∈ wsX11_returnWick := by decide +kernel
  refine x_startX (cc := cX11_returnWick) (maxL := 3) (ret := (some .int)) (own := RX11) (by decide) rfl rfl (Nat.le_of_ble_eq_true rfl) (lst := [(0, .ref (x_b G + 0)), (1, .int x), (2, .int u)]) rfl ?_
  intro p e s m args below meth c C hr hlocks
  refine a_aload_n C dX11_returnWick_0 0 rfl ?_
  refine a_getR C (k := 0) iX11 x_k0 rfl (j := 0) rfl (by decide) (by decide +kernel) dX11_returnWick_1 ?_
  refine a_iload_n C dX11_returnWick_4 1 rfl ?_
  refine a_iload_n C dX11_returnWick_5 2 rfl ?_
  refine a_callV C (k := 1) (As := [.int x, .int u]) (rest := []) (c_X9_refusalToReturn l G d 1 n x_isS_1 hn h8 x u) (cwV 2 C.1.2.2.2.2 gX11_returnWick_X9_refusalToReturn rfl rfl rfl (by decide +kernel) ⟨Nat.le_of_ble_eq_true rfl, Nat.le_of_ble_eq_true rfl⟩) (x_sS0 x_isS_1) (q := (RX9, TX9, 3)) rfl rfl rfl rfl (Nat.le_of_ble_eq_true rfl) dX11_returnWick_6 ⟨Nat.le_of_ble_eq_true rfl, Nat.le_of_ble_eq_true rfl⟩ ?_
  refine a_topR (y := x_e G 1 3) (by rw [hrf]) ?_
  exact a_callSX C hr hlocks (As := [.ref (x_e G 1 3)]) (rest := []) (c_F_raise_3 l hfl G d) (va_cwS 1 C.1.2.2.2.2 gX11_returnWick_X11_raise rfl rfl rfl (by decide +kernel) ⟨Nat.le_of_ble_eq_true rfl, Nat.le_of_ble_eq_true rfl⟩) rfl rfl (Nat.le_of_ble_eq_true rfl) dX11_returnWick_9 (by decide) (by decide) (by decide) rfl

set_option maxHeartbeats 1000000 in
set_option maxRecDepth 100000 in
theorem c_F_returnWick (l : Launch) (G : xG) (d : xd) (q z : Nat) (hq : d 43 1 = nI q) (hz : d 43 0 = nI z) (q8 : q < 8) (z8 : z ≤ 8) (u : Int32) (i n : Nat) (hn : d 2 0 = nI n) (h8 : n ≤ 8) (hi : i < n) (hrf : f_rret d 1 (nI i) u = 0) : x_M G l yX11_returnWick wsX11_returnWick 5 0 0 [.ref (x_b G + 0), .int (nI i), .int u] d (some (.int (d 8 i + -u))) (f_mvw (f_rem d 1 q z) 1 i (-u)) := by
  have iX11 : ∀ w ∈ u_ws RX11 TX11 13, w ∈ wsX11_returnWick := by decide +kernel
  refine x_start (cc := cX11_returnWick) (maxL := 3) (ret := (some .int)) (own := RX11) (by decide) rfl rfl (Nat.le_of_ble_eq_true rfl) (lst := [(0, .ref (x_b G + 0)), (1, .int (nI i)), (2, .int u)]) rfl ?_
  intro p e s m args below meth c C hr hlocks
  refine a_aload_n C dX11_returnWick_0 0 rfl ?_
  refine a_getR C (k := 0) iX11 x_k0 rfl (j := 0) rfl (by decide) (by decide +kernel) dX11_returnWick_1 ?_
  refine a_iload_n C dX11_returnWick_4 1 rfl ?_
  refine a_iload_n C dX11_returnWick_5 2 rfl ?_
  refine a_callV C (k := 1) (As := [.int (nI i), .int u]) (rest := []) (c_X9_refusalToReturn l G d 1 n x_isS_1 hn h8 (nI i) u) (cwV 2 C.1.2.2.2.2 gX11_returnWick_X9_refusalToReturn rfl rfl rfl (by decide +kernel) ⟨Nat.le_of_ble_eq_true rfl, Nat.le_of_ble_eq_true rfl⟩) (x_sS0 x_isS_1) (q := (RX9, TX9, 3)) rfl rfl rfl rfl (Nat.le_of_ble_eq_true rfl) dX11_returnWick_6 ⟨Nat.le_of_ble_eq_true rfl, Nat.le_of_ble_eq_true rfl⟩ ?_
  refine a_topR (y := x_e G 1 0) (by rw [hrf]) ?_
  refine a_callS C (As := [.ref (x_e G 1 0)]) (rest := []) (c_F_raise l G d) (va_cwS 1 C.1.2.2.2.2 gX11_returnWick_X11_raise rfl rfl rfl (by decide +kernel) ⟨Nat.le_of_ble_eq_true rfl, Nat.le_of_ble_eq_true rfl⟩) rfl rfl (Nat.le_of_ble_eq_true rfl) dX11_returnWick_9 ⟨Nat.le_of_ble_eq_true rfl, Nat.le_of_ble_eq_true rfl⟩ ?_
  refine a_aload_n C dX11_returnWick_12 0 rfl ?_
  refine a_getR C (k := 0) iX11 x_k0 rfl (j := 4) rfl (by decide) (by decide +kernel) dX11_returnWick_13 ?_
  refine a_aload_n C dX11_returnWick_16 0 rfl ?_
  refine a_getR C (k := 0) iX11 x_k0 rfl (j := 0) rfl (by decide) (by decide +kernel) dX11_returnWick_17 ?_
  refine a_callV C (k := 43) (As := [.ref (x_b G + 1)]) (rest := []) (c_X4_remember l G d 1 x_isS_1 (by omega) q z hq hz q8 z8) (cwV 1 C.1.2.2.2.2 gX11_returnWick_X4_remember rfl rfl rfl (by decide +kernel) ⟨Nat.le_of_ble_eq_true rfl, Nat.le_of_ble_eq_true rfl⟩) x_k43 (q := (RX4, TX4, 3)) rfl rfl rfl rfl (Nat.le_of_ble_eq_true rfl) dX11_returnWick_20 ⟨Nat.le_of_ble_eq_true rfl, Nat.le_of_ble_eq_true rfl⟩ ?_
  refine a_aload_n C dX11_returnWick_23 0 rfl ?_
  refine a_getR C (k := 0) iX11 x_k0 rfl (j := 0) rfl (by decide) (by decide +kernel) dX11_returnWick_24 ?_
  refine a_iload_n C dX11_returnWick_27 1 rfl ?_
  refine a_iload_n C dX11_returnWick_28 2 rfl ?_
  refine a_ineg C dX11_returnWick_29 ?_
  refine a_callV C (k := 1) (As := [.int (nI i), .int (-u)]) (rest := []) (c_X9_moveWickToLamp l G ((f_rem d 1 q z)) 1 i x_isS_1 (by omega) (-u)) (cwV 2 C.1.2.2.2.2 gX11_returnWick_X9_moveWickToLamp rfl rfl rfl (by decide +kernel) ⟨Nat.le_of_ble_eq_true rfl, Nat.le_of_ble_eq_true rfl⟩) (x_sS0 x_isS_1) (q := (RX9, TX9, 3)) rfl rfl rfl rfl (Nat.le_of_ble_eq_true rfl) dX11_returnWick_30 ⟨Nat.le_of_ble_eq_true rfl, Nat.le_of_ble_eq_true rfl⟩ ?_
  refine a_top (y := (d 8 i + -u)) (by rw [f_rem_out (by omega) q8]) ?_
  exact a_iret C hlocks hr dX11_returnWick_33 rfl rfl

set_option maxHeartbeats 1000000 in
set_option maxRecDepth 100000 in
theorem c_F_donateWicks_2 (l : Launch) (hfl : l.stackTraces = false) (G : xG) (d : xd) (x : Int32) (hrf : f_rdon d 1 x = 2) : x_X G l yX11_donateWicks wsX11_donateWicks 5 [.ref (x_b G + 0), .int x] d "java/lang/IllegalArgumentException" d := by
  have iX11 : ∀ w ∈ u_ws RX11 TX11 13, w ∈ wsX11_donateWicks := by decide +kernel
  refine x_startX (cc := cX11_donateWicks) (maxL := 2) (ret := (some .int)) (own := RX11) (by decide) rfl rfl (Nat.le_of_ble_eq_true rfl) (lst := [(0, .ref (x_b G + 0)), (1, .int x)]) rfl ?_
  intro p e s m args below meth c C hr hlocks
  refine a_aload_n C dX11_donateWicks_0 0 rfl ?_
  refine a_getR C (k := 0) iX11 x_k0 rfl (j := 0) rfl (by decide) (by decide +kernel) dX11_donateWicks_1 ?_
  refine a_iload_n C dX11_donateWicks_4 1 rfl ?_
  refine a_callV C (k := 1) (As := [.int x]) (rest := []) (c_X9_refusalToDonate l G d 1 x_isS_1 x) (cwV 1 C.1.2.2.2.2 gX11_donateWicks_X9_refusalToDonate rfl rfl rfl (by decide +kernel) ⟨Nat.le_of_ble_eq_true rfl, Nat.le_of_ble_eq_true rfl⟩) (x_sS0 x_isS_1) (q := (RX9, TX9, 3)) rfl rfl rfl rfl (Nat.le_of_ble_eq_true rfl) dX11_donateWicks_5 ⟨Nat.le_of_ble_eq_true rfl, Nat.le_of_ble_eq_true rfl⟩ ?_
  refine a_topR (y := x_e G 1 2) (by rw [hrf]) ?_
  exact a_callSX C hr hlocks (As := [.ref (x_e G 1 2)]) (rest := []) (c_F_raise_2 l hfl G d) (va_cwS 1 C.1.2.2.2.2 gX11_donateWicks_X11_raise rfl rfl rfl (by decide +kernel) ⟨Nat.le_of_ble_eq_true rfl, Nat.le_of_ble_eq_true rfl⟩) rfl rfl (Nat.le_of_ble_eq_true rfl) dX11_donateWicks_8 (by decide) (by decide) (by decide) rfl

set_option maxHeartbeats 1000000 in
set_option maxRecDepth 100000 in
theorem c_F_donateWicks_3 (l : Launch) (hfl : l.stackTraces = false) (G : xG) (d : xd) (x : Int32) (hrf : f_rdon d 1 x = 3) : x_X G l yX11_donateWicks wsX11_donateWicks 5 [.ref (x_b G + 0), .int x] d "java/lang/IllegalStateException" d := by
  have iX11 : ∀ w ∈ u_ws RX11 TX11 13, w ∈ wsX11_donateWicks := by decide +kernel
  refine x_startX (cc := cX11_donateWicks) (maxL := 2) (ret := (some .int)) (own := RX11) (by decide) rfl rfl (Nat.le_of_ble_eq_true rfl) (lst := [(0, .ref (x_b G + 0)), (1, .int x)]) rfl ?_
  intro p e s m args below meth c C hr hlocks
  refine a_aload_n C dX11_donateWicks_0 0 rfl ?_
  refine a_getR C (k := 0) iX11 x_k0 rfl (j := 0) rfl (by decide) (by decide +kernel) dX11_donateWicks_1 ?_
  refine a_iload_n C dX11_donateWicks_4 1 rfl ?_
  refine a_callV C (k := 1) (As := [.int x]) (rest := []) (c_X9_refusalToDonate l G d 1 x_isS_1 x) (cwV 1 C.1.2.2.2.2 gX11_donateWicks_X9_refusalToDonate rfl rfl rfl (by decide +kernel) ⟨Nat.le_of_ble_eq_true rfl, Nat.le_of_ble_eq_true rfl⟩) (x_sS0 x_isS_1) (q := (RX9, TX9, 3)) rfl rfl rfl rfl (Nat.le_of_ble_eq_true rfl) dX11_donateWicks_5 ⟨Nat.le_of_ble_eq_true rfl, Nat.le_of_ble_eq_true rfl⟩ ?_
  refine a_topR (y := x_e G 1 3) (by rw [hrf]) ?_
  exact a_callSX C hr hlocks (As := [.ref (x_e G 1 3)]) (rest := []) (c_F_raise_3 l hfl G d) (va_cwS 1 C.1.2.2.2.2 gX11_donateWicks_X11_raise rfl rfl rfl (by decide +kernel) ⟨Nat.le_of_ble_eq_true rfl, Nat.le_of_ble_eq_true rfl⟩) rfl rfl (Nat.le_of_ble_eq_true rfl) dX11_donateWicks_8 (by decide) (by decide) (by decide) rfl

set_option maxHeartbeats 1000000 in
set_option maxRecDepth 100000 in
theorem c_F_donateWicks (l : Launch) (G : xG) (d : xd) (q z : Nat) (hq : d 43 1 = nI q) (hz : d 43 0 = nI z) (q8 : q < 8) (z8 : z ≤ 8) (u : Int32) (hrf : f_rdon d 1 u = 0) : x_M G l yX11_donateWicks wsX11_donateWicks 5 0 0 [.ref (x_b G + 0), .int u] d (some (.int (d 14 1 + u))) (f_don (f_rem d 1 q z) 1 u) := by
  have iX11 : ∀ w ∈ u_ws RX11 TX11 13, w ∈ wsX11_donateWicks := by decide +kernel
  refine x_start (cc := cX11_donateWicks) (maxL := 2) (ret := (some .int)) (own := RX11) (by decide) rfl rfl (Nat.le_of_ble_eq_true rfl) (lst := [(0, .ref (x_b G + 0)), (1, .int u)]) rfl ?_
  intro p e s m args below meth c C hr hlocks
  refine a_aload_n C dX11_donateWicks_0 0 rfl ?_
  refine a_getR C (k := 0) iX11 x_k0 rfl (j := 0) rfl (by decide) (by decide +kernel) dX11_donateWicks_1 ?_
  refine a_iload_n C dX11_donateWicks_4 1 rfl ?_
  refine a_callV C (k := 1) (As := [.int u]) (rest := []) (c_X9_refusalToDonate l G d 1 x_isS_1 u) (cwV 1 C.1.2.2.2.2 gX11_donateWicks_X9_refusalToDonate rfl rfl rfl (by decide +kernel) ⟨Nat.le_of_ble_eq_true rfl, Nat.le_of_ble_eq_true rfl⟩) (x_sS0 x_isS_1) (q := (RX9, TX9, 3)) rfl rfl rfl rfl (Nat.le_of_ble_eq_true rfl) dX11_donateWicks_5 ⟨Nat.le_of_ble_eq_true rfl, Nat.le_of_ble_eq_true rfl⟩ ?_
  refine a_topR (y := x_e G 1 0) (by rw [hrf]) ?_
  refine a_callS C (As := [.ref (x_e G 1 0)]) (rest := []) (c_F_raise l G d) (va_cwS 1 C.1.2.2.2.2 gX11_donateWicks_X11_raise rfl rfl rfl (by decide +kernel) ⟨Nat.le_of_ble_eq_true rfl, Nat.le_of_ble_eq_true rfl⟩) rfl rfl (Nat.le_of_ble_eq_true rfl) dX11_donateWicks_8 ⟨Nat.le_of_ble_eq_true rfl, Nat.le_of_ble_eq_true rfl⟩ ?_
  refine a_aload_n C dX11_donateWicks_11 0 rfl ?_
  refine a_getR C (k := 0) iX11 x_k0 rfl (j := 4) rfl (by decide) (by decide +kernel) dX11_donateWicks_12 ?_
  refine a_aload_n C dX11_donateWicks_15 0 rfl ?_
  refine a_getR C (k := 0) iX11 x_k0 rfl (j := 0) rfl (by decide) (by decide +kernel) dX11_donateWicks_16 ?_
  refine a_callV C (k := 43) (As := [.ref (x_b G + 1)]) (rest := []) (c_X4_remember l G d 1 x_isS_1 (by omega) q z hq hz q8 z8) (cwV 1 C.1.2.2.2.2 gX11_donateWicks_X4_remember rfl rfl rfl (by decide +kernel) ⟨Nat.le_of_ble_eq_true rfl, Nat.le_of_ble_eq_true rfl⟩) x_k43 (q := (RX4, TX4, 3)) rfl rfl rfl rfl (Nat.le_of_ble_eq_true rfl) dX11_donateWicks_19 ⟨Nat.le_of_ble_eq_true rfl, Nat.le_of_ble_eq_true rfl⟩ ?_
  refine a_aload_n C dX11_donateWicks_22 0 rfl ?_
  refine a_getR C (k := 0) iX11 x_k0 rfl (j := 0) rfl (by decide) (by decide +kernel) dX11_donateWicks_23 ?_
  refine a_iload_n C dX11_donateWicks_26 1 rfl ?_
  refine a_callV C (k := 1) (As := [.int u]) (rest := []) (c_X9_takeDonation l G ((f_rem d 1 q z)) 1 x_isS_1 u) (cwV 1 C.1.2.2.2.2 gX11_donateWicks_X9_takeDonation rfl rfl rfl (by decide +kernel) ⟨Nat.le_of_ble_eq_true rfl, Nat.le_of_ble_eq_true rfl⟩) (x_sS0 x_isS_1) (q := (RX9, TX9, 3)) rfl rfl rfl rfl (Nat.le_of_ble_eq_true rfl) dX11_donateWicks_27 ⟨Nat.le_of_ble_eq_true rfl, Nat.le_of_ble_eq_true rfl⟩ ?_
  refine a_top (y := (d 14 1 + u)) (by rw [f_rem_out (by omega) q8]) ?_
  exact a_iret C hlocks hr dX11_donateWicks_30 rfl rfl

set_option maxHeartbeats 1000000 in
set_option maxRecDepth 100000 in
theorem c_F_payDividend_3 (l : Launch) (hfl : l.stackTraces = false) (G : xG) (d : xd)  (hrf : f_rpay d 1 = 3) : x_X G l yX11_payDividend wsX11_payDividend 5 [.ref (x_b G + 0)] d "java/lang/IllegalStateException" d := by
  have iX11 : ∀ w ∈ u_ws RX11 TX11 13, w ∈ wsX11_payDividend := by decide +kernel
  refine x_startX (cc := cX11_payDividend) (maxL := 1) (ret := (some .int)) (own := RX11) (by decide) rfl rfl (Nat.le_of_ble_eq_true rfl) (lst := [(0, .ref (x_b G + 0))]) rfl ?_
  intro p e s m args below meth c C hr hlocks
  refine a_aload_n C dX11_payDividend_0 0 rfl ?_
  refine a_getR C (k := 0) iX11 x_k0 rfl (j := 0) rfl (by decide) (by decide +kernel) dX11_payDividend_1 ?_
  refine a_callV C (k := 1) (As := []) (rest := []) (c_X9_refusalToPay l G d 1 x_isS_1) (cwV 0 C.1.2.2.2.2 gX11_payDividend_X9_refusalToPay rfl rfl rfl (by decide +kernel) ⟨Nat.le_of_ble_eq_true rfl, Nat.le_of_ble_eq_true rfl⟩) (x_sS0 x_isS_1) (q := (RX9, TX9, 3)) rfl rfl rfl rfl (Nat.le_of_ble_eq_true rfl) dX11_payDividend_4 ⟨Nat.le_of_ble_eq_true rfl, Nat.le_of_ble_eq_true rfl⟩ ?_
  refine a_topR (y := x_e G 1 3) (by rw [hrf]) ?_
  exact a_callSX C hr hlocks (As := [.ref (x_e G 1 3)]) (rest := []) (c_F_raise_3 l hfl G d) (va_cwS 1 C.1.2.2.2.2 gX11_payDividend_X11_raise rfl rfl rfl (by decide +kernel) ⟨Nat.le_of_ble_eq_true rfl, Nat.le_of_ble_eq_true rfl⟩) rfl rfl (Nat.le_of_ble_eq_true rfl) dX11_payDividend_7 (by decide) (by decide) (by decide) rfl

set_option maxHeartbeats 1000000 in
set_option maxRecDepth 100000 in
theorem c_F_payDividend (l : Launch) (G : xG) (d : xd) (q z : Nat) (hq : d 43 1 = nI q) (hz : d 43 0 = nI z) (q8 : q < 8) (z8 : z ≤ 8) (n : Nat) (hn : d 2 0 = nI n) (h8 : n ≤ 8) (a0 : Nat) (sh : Nat → Nat) (hs : ∀ j, j < n → d 4 j = nI (sh j)) (hs9 : ∀ j, j < n → sh j ≤ 9) (hS : 1 ≤ f_sn sh n) (ha0 : a0 < 100000) (ht : d 14 2 = nI a0) (hrf : f_rpay d 1 = 0) : x_M G l yX11_payDividend wsX11_payDividend 6 0 0 [.ref (x_b G + 0)] d (some (.int (nI a0))) (f_shr (f_rem d 1 q z) 159 1 n a0 sh) := by
  have iX11 : ∀ w ∈ u_ws RX11 TX11 13, w ∈ wsX11_payDividend := by decide +kernel
  refine x_start (cc := cX11_payDividend) (maxL := 1) (ret := (some .int)) (own := RX11) (by decide) rfl rfl (Nat.le_of_ble_eq_true rfl) (lst := [(0, .ref (x_b G + 0))]) rfl ?_
  intro p e s m args below meth c C hr hlocks
  refine a_aload_n C dX11_payDividend_0 0 rfl ?_
  refine a_getR C (k := 0) iX11 x_k0 rfl (j := 0) rfl (by decide) (by decide +kernel) dX11_payDividend_1 ?_
  refine a_callV C (k := 1) (As := []) (rest := []) (c_X9_refusalToPay l G d 1 x_isS_1) (cwV 0 C.1.2.2.2.2 gX11_payDividend_X9_refusalToPay rfl rfl rfl (by decide +kernel) ⟨Nat.le_of_ble_eq_true rfl, Nat.le_of_ble_eq_true rfl⟩) (x_sS0 x_isS_1) (q := (RX9, TX9, 3)) rfl rfl rfl rfl (Nat.le_of_ble_eq_true rfl) dX11_payDividend_4 ⟨Nat.le_of_ble_eq_true rfl, Nat.le_of_ble_eq_true rfl⟩ ?_
  refine a_topR (y := x_e G 1 0) (by rw [hrf]) ?_
  refine a_callS C (As := [.ref (x_e G 1 0)]) (rest := []) (c_F_raise l G d) (va_cwS 1 C.1.2.2.2.2 gX11_payDividend_X11_raise rfl rfl rfl (by decide +kernel) ⟨Nat.le_of_ble_eq_true rfl, Nat.le_of_ble_eq_true rfl⟩) rfl rfl (Nat.le_of_ble_eq_true rfl) dX11_payDividend_7 ⟨Nat.le_of_ble_eq_true rfl, Nat.le_of_ble_eq_true rfl⟩ ?_
  refine a_aload_n C dX11_payDividend_10 0 rfl ?_
  refine a_getR C (k := 0) iX11 x_k0 rfl (j := 4) rfl (by decide) (by decide +kernel) dX11_payDividend_11 ?_
  refine a_aload_n C dX11_payDividend_14 0 rfl ?_
  refine a_getR C (k := 0) iX11 x_k0 rfl (j := 0) rfl (by decide) (by decide +kernel) dX11_payDividend_15 ?_
  refine a_callV C (k := 43) (As := [.ref (x_b G + 1)]) (rest := []) (c_X4_remember l G d 1 x_isS_1 (by omega) q z hq hz q8 z8) (cwV 1 C.1.2.2.2.2 gX11_payDividend_X4_remember rfl rfl rfl (by decide +kernel) ⟨Nat.le_of_ble_eq_true rfl, Nat.le_of_ble_eq_true rfl⟩) x_k43 (q := (RX4, TX4, 3)) rfl rfl rfl rfl (Nat.le_of_ble_eq_true rfl) dX11_payDividend_18 ⟨Nat.le_of_ble_eq_true rfl, Nat.le_of_ble_eq_true rfl⟩ ?_
  refine a_aload_n C dX11_payDividend_21 0 rfl ?_
  refine a_getR C (k := 0) iX11 x_k0 rfl (j := 0) rfl (by decide) (by decide +kernel) dX11_payDividend_22 ?_
  refine a_aload_n C dX11_payDividend_25 0 rfl ?_
  refine a_getR C (k := 0) iX11 x_k0 rfl (j := 6) rfl (by decide) (by decide +kernel) dX11_payDividend_26 ?_
  refine a_callV C (k := 1) (As := [.ref (x_b G + 159)]) (rest := []) (c_X9_shareTreasury l G ((f_rem d 1 q z)) 159 1 n a0 sh x_isA_0 x_isS_1 (by rw [f_rem_out (by omega) q8]; exact hn) h8 (fun j hj => by rw [f_rem_out (by omega) q8]; exact hs j hj) hs9 hS ha0 (by rw [f_rem_out (by omega) q8]; exact ht)) (cwV 1 C.1.2.2.2.2 gX11_payDividend_X9_shareTreasury rfl rfl rfl (by decide +kernel) ⟨Nat.le_of_ble_eq_true rfl, Nat.le_of_ble_eq_true rfl⟩) (x_sS0 x_isS_1) (q := (RX9, TX9, 3)) rfl rfl rfl rfl (Nat.le_of_ble_eq_true rfl) dX11_payDividend_29 ⟨Nat.le_of_ble_eq_true rfl, Nat.le_of_ble_eq_true rfl⟩ ?_
  exact a_iret C hlocks hr dX11_payDividend_32 rfl rfl

set_option maxHeartbeats 1000000 in
set_option maxRecDepth 100000 in
theorem c_F_portionOf_1 (l : Launch) (hfl : l.stackTraces = false) (G : xG) (d : xd) (x u : Int32) (hrf : f_rpor d 1 x u = 1) : x_X G l yX11_portionOf wsX11_portionOf 6 [.ref (x_b G + 0), .int x, .int u] d "java/lang/IndexOutOfBoundsException" d := by
  have iX11 : ∀ w ∈ u_ws RX11 TX11 13, w ∈ wsX11_portionOf := by decide +kernel
  refine x_startX (cc := cX11_portionOf) (maxL := 3) (ret := (some .int)) (own := RX11) (by decide) rfl rfl (Nat.le_of_ble_eq_true rfl) (lst := [(0, .ref (x_b G + 0)), (1, .int x), (2, .int u)]) rfl ?_
  intro p e s m args below meth c C hr hlocks
  refine a_aload_n C dX11_portionOf_0 0 rfl ?_
  refine a_getR C (k := 0) iX11 x_k0 rfl (j := 0) rfl (by decide) (by decide +kernel) dX11_portionOf_1 ?_
  refine a_iload_n C dX11_portionOf_4 1 rfl ?_
  refine a_iload_n C dX11_portionOf_5 2 rfl ?_
  refine a_callV C (k := 1) (As := [.int x, .int u]) (rest := []) (c_X9_refusalToPortion l G d 1 x_isS_1 x u) (cwV 2 C.1.2.2.2.2 gX11_portionOf_X9_refusalToPortion rfl rfl rfl (by decide +kernel) ⟨Nat.le_of_ble_eq_true rfl, Nat.le_of_ble_eq_true rfl⟩) (x_sS0 x_isS_1) (q := (RX9, TX9, 3)) rfl rfl rfl rfl (Nat.le_of_ble_eq_true rfl) dX11_portionOf_6 ⟨Nat.le_of_ble_eq_true rfl, Nat.le_of_ble_eq_true rfl⟩ ?_
  refine a_topR (y := x_e G 1 1) (by rw [hrf]) ?_
  exact a_callSX C hr hlocks (As := [.ref (x_e G 1 1)]) (rest := []) (c_F_raise_1 l hfl G d) (va_cwS 1 C.1.2.2.2.2 gX11_portionOf_X11_raise rfl rfl rfl (by decide +kernel) ⟨Nat.le_of_ble_eq_true rfl, Nat.le_of_ble_eq_true rfl⟩) rfl rfl (Nat.le_of_ble_eq_true rfl) dX11_portionOf_9 (by decide) (by decide) (by decide) rfl

set_option maxHeartbeats 1000000 in
set_option maxRecDepth 100000 in
theorem c_F_portionOf_2 (l : Launch) (hfl : l.stackTraces = false) (G : xG) (d : xd) (x u : Int32) (hrf : f_rpor d 1 x u = 2) : x_X G l yX11_portionOf wsX11_portionOf 6 [.ref (x_b G + 0), .int x, .int u] d "java/lang/IllegalArgumentException" d := by
  have iX11 : ∀ w ∈ u_ws RX11 TX11 13, w ∈ wsX11_portionOf := by decide +kernel
  refine x_startX (cc := cX11_portionOf) (maxL := 3) (ret := (some .int)) (own := RX11) (by decide) rfl rfl (Nat.le_of_ble_eq_true rfl) (lst := [(0, .ref (x_b G + 0)), (1, .int x), (2, .int u)]) rfl ?_
  intro p e s m args below meth c C hr hlocks
  refine a_aload_n C dX11_portionOf_0 0 rfl ?_
  refine a_getR C (k := 0) iX11 x_k0 rfl (j := 0) rfl (by decide) (by decide +kernel) dX11_portionOf_1 ?_
  refine a_iload_n C dX11_portionOf_4 1 rfl ?_
  refine a_iload_n C dX11_portionOf_5 2 rfl ?_
  refine a_callV C (k := 1) (As := [.int x, .int u]) (rest := []) (c_X9_refusalToPortion l G d 1 x_isS_1 x u) (cwV 2 C.1.2.2.2.2 gX11_portionOf_X9_refusalToPortion rfl rfl rfl (by decide +kernel) ⟨Nat.le_of_ble_eq_true rfl, Nat.le_of_ble_eq_true rfl⟩) (x_sS0 x_isS_1) (q := (RX9, TX9, 3)) rfl rfl rfl rfl (Nat.le_of_ble_eq_true rfl) dX11_portionOf_6 ⟨Nat.le_of_ble_eq_true rfl, Nat.le_of_ble_eq_true rfl⟩ ?_
  refine a_topR (y := x_e G 1 2) (by rw [hrf]) ?_
  exact a_callSX C hr hlocks (As := [.ref (x_e G 1 2)]) (rest := []) (c_F_raise_2 l hfl G d) (va_cwS 1 C.1.2.2.2.2 gX11_portionOf_X11_raise rfl rfl rfl (by decide +kernel) ⟨Nat.le_of_ble_eq_true rfl, Nat.le_of_ble_eq_true rfl⟩) rfl rfl (Nat.le_of_ble_eq_true rfl) dX11_portionOf_9 (by decide) (by decide) (by decide) rfl

set_option maxHeartbeats 1000000 in
set_option maxRecDepth 100000 in
theorem c_F_portionByRounds_1 (l : Launch) (hfl : l.stackTraces = false) (G : xG) (d : xd) (x u : Int32) (hrf : f_rpor d 1 x u = 1) : x_X G l yX11_portionByRounds wsX11_portionByRounds 6 [.ref (x_b G + 0), .int x, .int u] d "java/lang/IndexOutOfBoundsException" d := by
  have iX11 : ∀ w ∈ u_ws RX11 TX11 13, w ∈ wsX11_portionByRounds := by decide +kernel
  refine x_startX (cc := cX11_portionByRounds) (maxL := 3) (ret := (some .int)) (own := RX11) (by decide) rfl rfl (Nat.le_of_ble_eq_true rfl) (lst := [(0, .ref (x_b G + 0)), (1, .int x), (2, .int u)]) rfl ?_
  intro p e s m args below meth c C hr hlocks
  refine a_aload_n C dX11_portionByRounds_0 0 rfl ?_
  refine a_getR C (k := 0) iX11 x_k0 rfl (j := 0) rfl (by decide) (by decide +kernel) dX11_portionByRounds_1 ?_
  refine a_iload_n C dX11_portionByRounds_4 1 rfl ?_
  refine a_iload_n C dX11_portionByRounds_5 2 rfl ?_
  refine a_callV C (k := 1) (As := [.int x, .int u]) (rest := []) (c_X9_refusalToPortion l G d 1 x_isS_1 x u) (cwV 2 C.1.2.2.2.2 gX11_portionByRounds_X9_refusalToPortion rfl rfl rfl (by decide +kernel) ⟨Nat.le_of_ble_eq_true rfl, Nat.le_of_ble_eq_true rfl⟩) (x_sS0 x_isS_1) (q := (RX9, TX9, 3)) rfl rfl rfl rfl (Nat.le_of_ble_eq_true rfl) dX11_portionByRounds_6 ⟨Nat.le_of_ble_eq_true rfl, Nat.le_of_ble_eq_true rfl⟩ ?_
  refine a_topR (y := x_e G 1 1) (by rw [hrf]) ?_
  exact a_callSX C hr hlocks (As := [.ref (x_e G 1 1)]) (rest := []) (c_F_raise_1 l hfl G d) (va_cwS 1 C.1.2.2.2.2 gX11_portionByRounds_X11_raise rfl rfl rfl (by decide +kernel) ⟨Nat.le_of_ble_eq_true rfl, Nat.le_of_ble_eq_true rfl⟩) rfl rfl (Nat.le_of_ble_eq_true rfl) dX11_portionByRounds_9 (by decide) (by decide) (by decide) rfl

set_option maxHeartbeats 1000000 in
set_option maxRecDepth 100000 in
theorem c_F_portionByRounds_2 (l : Launch) (hfl : l.stackTraces = false) (G : xG) (d : xd) (x u : Int32) (hrf : f_rpor d 1 x u = 2) : x_X G l yX11_portionByRounds wsX11_portionByRounds 6 [.ref (x_b G + 0), .int x, .int u] d "java/lang/IllegalArgumentException" d := by
  have iX11 : ∀ w ∈ u_ws RX11 TX11 13, w ∈ wsX11_portionByRounds := by decide +kernel
  refine x_startX (cc := cX11_portionByRounds) (maxL := 3) (ret := (some .int)) (own := RX11) (by decide) rfl rfl (Nat.le_of_ble_eq_true rfl) (lst := [(0, .ref (x_b G + 0)), (1, .int x), (2, .int u)]) rfl ?_
  intro p e s m args below meth c C hr hlocks
  refine a_aload_n C dX11_portionByRounds_0 0 rfl ?_
  refine a_getR C (k := 0) iX11 x_k0 rfl (j := 0) rfl (by decide) (by decide +kernel) dX11_portionByRounds_1 ?_
  refine a_iload_n C dX11_portionByRounds_4 1 rfl ?_
  refine a_iload_n C dX11_portionByRounds_5 2 rfl ?_
  refine a_callV C (k := 1) (As := [.int x, .int u]) (rest := []) (c_X9_refusalToPortion l G d 1 x_isS_1 x u) (cwV 2 C.1.2.2.2.2 gX11_portionByRounds_X9_refusalToPortion rfl rfl rfl (by decide +kernel) ⟨Nat.le_of_ble_eq_true rfl, Nat.le_of_ble_eq_true rfl⟩) (x_sS0 x_isS_1) (q := (RX9, TX9, 3)) rfl rfl rfl rfl (Nat.le_of_ble_eq_true rfl) dX11_portionByRounds_6 ⟨Nat.le_of_ble_eq_true rfl, Nat.le_of_ble_eq_true rfl⟩ ?_
  refine a_topR (y := x_e G 1 2) (by rw [hrf]) ?_
  exact a_callSX C hr hlocks (As := [.ref (x_e G 1 2)]) (rest := []) (c_F_raise_2 l hfl G d) (va_cwS 1 C.1.2.2.2.2 gX11_portionByRounds_X11_raise rfl rfl rfl (by decide +kernel) ⟨Nat.le_of_ble_eq_true rfl, Nat.le_of_ble_eq_true rfl⟩) rfl rfl (Nat.le_of_ble_eq_true rfl) dX11_portionByRounds_9 (by decide) (by decide) (by decide) rfl

set_option maxHeartbeats 1000000 in
set_option maxRecDepth 100000 in
theorem c_F_portionOf (l : Launch) (G : xG) (d : xd) (i n : Nat) (hn : d 2 0 = nI n) (h8 : n ≤ 8) (hi : i < n) (a0 : Nat) (sh : Nat → Nat) (hs : ∀ j, j < n → d 4 j = nI (sh j)) (hs9 : ∀ j, j < n → sh j ≤ 9) (hS : 1 ≤ f_sn sh n) (ha0 : a0 < 100000) (hrf : f_rpor d 1 (nI i) (nI a0) = 0) : x_M G l yX11_portionOf wsX11_portionOf 6 0 0 [.ref (x_b G + 0), .int (nI i), .int (nI a0)] d (some (.int (f_por d 159 n a0 sh i))) (f_dbs d 159 n a0 sh) := by
  have iX1 : ∀ w ∈ u_ws RX1 TX1 3, w ∈ wsX11_portionOf := by decide +kernel
  have iX11 : ∀ w ∈ u_ws RX11 TX11 13, w ∈ wsX11_portionOf := by decide +kernel
  have iX9 : ∀ w ∈ u_ws RX9 TX9 3, w ∈ wsX11_portionOf := by decide +kernel
  refine x_start (cc := cX11_portionOf) (maxL := 3) (ret := (some .int)) (own := RX11) (by decide) rfl rfl (Nat.le_of_ble_eq_true rfl) (lst := [(0, .ref (x_b G + 0)), (1, .int (nI i)), (2, .int (nI a0))]) rfl ?_
  intro p e s m args below meth c C hr hlocks
  refine a_aload_n C dX11_portionOf_0 0 rfl ?_
  refine a_getR C (k := 0) iX11 x_k0 rfl (j := 0) rfl (by decide) (by decide +kernel) dX11_portionOf_1 ?_
  refine a_iload_n C dX11_portionOf_4 1 rfl ?_
  refine a_iload_n C dX11_portionOf_5 2 rfl ?_
  refine a_callV C (k := 1) (As := [.int (nI i), .int (nI a0)]) (rest := []) (c_X9_refusalToPortion l G d 1 x_isS_1 (nI i) (nI a0)) (cwV 2 C.1.2.2.2.2 gX11_portionOf_X9_refusalToPortion rfl rfl rfl (by decide +kernel) ⟨Nat.le_of_ble_eq_true rfl, Nat.le_of_ble_eq_true rfl⟩) (x_sS0 x_isS_1) (q := (RX9, TX9, 3)) rfl rfl rfl rfl (Nat.le_of_ble_eq_true rfl) dX11_portionOf_6 ⟨Nat.le_of_ble_eq_true rfl, Nat.le_of_ble_eq_true rfl⟩ ?_
  refine a_topR (y := x_e G 1 0) (by rw [hrf]) ?_
  refine a_callS C (As := [.ref (x_e G 1 0)]) (rest := []) (c_F_raise l G d) (va_cwS 1 C.1.2.2.2.2 gX11_portionOf_X11_raise rfl rfl rfl (by decide +kernel) ⟨Nat.le_of_ble_eq_true rfl, Nat.le_of_ble_eq_true rfl⟩) rfl rfl (Nat.le_of_ble_eq_true rfl) dX11_portionOf_9 ⟨Nat.le_of_ble_eq_true rfl, Nat.le_of_ble_eq_true rfl⟩ ?_
  refine a_aload_n C dX11_portionOf_12 0 rfl ?_
  refine a_getR C (k := 0) iX11 x_k0 rfl (j := 6) rfl (by decide) (by decide +kernel) dX11_portionOf_13 ?_
  refine a_aload_n C dX11_portionOf_16 0 rfl ?_
  refine a_getR C (k := 0) iX11 x_k0 rfl (j := 0) rfl (by decide) (by decide +kernel) dX11_portionOf_17 ?_
  refine a_getR C (k := 1) iX9 (x_sS0 x_isS_1) rfl (j := 0) rfl (by decide) (by decide +kernel) dX11_portionOf_20 ?_
  refine a_iload_n C dX11_portionOf_23 2 rfl ?_
  refine a_callV C (k := 159) (As := [.ref (x_b G + 2), .int (nI a0)]) (rest := []) (c_X1_divideBySorting l G d 159 1 n a0 sh x_isA_0 x_isS_1 hn h8 hs hs9 hS ha0) (cwV 2 C.1.2.2.2.2 gX11_portionOf_X1_divideBySorting rfl rfl rfl (by decide +kernel) ⟨Nat.le_of_ble_eq_true rfl, Nat.le_of_ble_eq_true rfl⟩) x_k159 (q := (RX1, TX1, 3)) rfl rfl rfl rfl (Nat.le_of_ble_eq_true rfl) dX11_portionOf_24 ⟨Nat.le_of_ble_eq_true rfl, Nat.le_of_ble_eq_true rfl⟩ ?_
  refine a_aload_n C dX11_portionOf_27 0 rfl ?_
  refine a_getR C (k := 0) iX11 x_k0 rfl (j := 6) rfl (by decide) (by decide +kernel) dX11_portionOf_28 ?_
  refine a_getR C (k := 159) iX1 x_k159 rfl (j := 0) rfl (by decide) (by decide +kernel) dX11_portionOf_31 ?_
  refine a_iload_n C dX11_portionOf_34 1 rfl ?_
  refine a_ialdN C (k := 160) x_k160 (i := i) rfl (by omega) (by first | decide | omega) dX11_portionOf_35 ?_
  refine a_top (y := (f_por d 159 n a0 sh i)) (congrFun (f_dbs_por (d := d) (a := 159) (n := n) (a0 := a0) (sh := sh)) i) ?_
  exact a_iret C hlocks hr dX11_portionOf_36 rfl rfl

/-- the portions, in rounds -/
def f_prr (d : xd) (a mm a0 : Nat) (sh : Nat → Nat) : Nat → Int32 := f_inc (f_Q a0 sh (mm + 1) (d (a + 1)) (mm + 1)) (fun i => f_bst (f_rr (f_R a0 sh (mm + 1) (d (a + 2)) (mm + 1)) mm i) mm) (a0 - f_sn (f_qt a0 sh (mm + 1)) (mm + 1))
def f_dir (d : xd) (a mm a0 : Nat) (sh : Nat → Nat) : xd := x_r (x_r d (a + 1) (f_prr d a mm a0 sh)) (a + 2) (f_rr (f_R a0 sh (mm + 1) (d (a + 2)) (mm + 1)) mm (a0 - f_sn (f_qt a0 sh (mm + 1)) (mm + 1)))
theorem f_dir_prr {d : xd} {a mm a0 : Nat} {sh : Nat → Nat} : f_dir d a mm a0 sh (a + 1) = f_prr d a mm a0 sh := by
  unfold f_dir
  rw [x_r_ne2 (by omega), x_r_same]
theorem f_dir_out {d : xd} {a mm a0 k : Nat} {sh : Nat → Nat} (h : k < a + 1 ∨ a + 3 < k) : f_dir d a mm a0 sh k = d k := by
  unfold f_dir
  rw [x_r_ne2 (by omega), x_r_ne2 (by omega)]
set_option maxHeartbeats 1000000 in
set_option maxRecDepth 100000 in
theorem c_F_portionByRounds (l : Launch) (G : xG) (d : xd) (i mm : Nat) (hn : d 2 0 = nI (mm + 1)) (h8 : mm + 1 ≤ 8) (hi : i < mm + 1) (a0 : Nat) (sh : Nat → Nat) (hs : ∀ j, j < mm + 1 → d 4 j = nI (sh j)) (hs9 : ∀ j, j < mm + 1 → sh j ≤ 9) (hS : 1 ≤ f_sn sh (mm + 1)) (ha0 : a0 < 100000) (hrf : f_rpor d 1 (nI i) (nI a0) = 0) : x_M G l yX11_portionByRounds wsX11_portionByRounds 6 0 0 [.ref (x_b G + 0), .int (nI i), .int (nI a0)] d (some (.int (f_prr d 163 mm a0 sh i))) (f_dir d 163 mm a0 sh) := by
  have iX1 : ∀ w ∈ u_ws RX1 TX1 3, w ∈ wsX11_portionByRounds := by decide +kernel
  have iX11 : ∀ w ∈ u_ws RX11 TX11 13, w ∈ wsX11_portionByRounds := by decide +kernel
  have iX9 : ∀ w ∈ u_ws RX9 TX9 3, w ∈ wsX11_portionByRounds := by decide +kernel
  refine x_start (cc := cX11_portionByRounds) (maxL := 3) (ret := (some .int)) (own := RX11) (by decide) rfl rfl (Nat.le_of_ble_eq_true rfl) (lst := [(0, .ref (x_b G + 0)), (1, .int (nI i)), (2, .int (nI a0))]) rfl ?_
  intro p e s m args below meth c C hr hlocks
  refine a_aload_n C dX11_portionByRounds_0 0 rfl ?_
  refine a_getR C (k := 0) iX11 x_k0 rfl (j := 0) rfl (by decide) (by decide +kernel) dX11_portionByRounds_1 ?_
  refine a_iload_n C dX11_portionByRounds_4 1 rfl ?_
  refine a_iload_n C dX11_portionByRounds_5 2 rfl ?_
  refine a_callV C (k := 1) (As := [.int (nI i), .int (nI a0)]) (rest := []) (c_X9_refusalToPortion l G d 1 x_isS_1 (nI i) (nI a0)) (cwV 2 C.1.2.2.2.2 gX11_portionByRounds_X9_refusalToPortion rfl rfl rfl (by decide +kernel) ⟨Nat.le_of_ble_eq_true rfl, Nat.le_of_ble_eq_true rfl⟩) (x_sS0 x_isS_1) (q := (RX9, TX9, 3)) rfl rfl rfl rfl (Nat.le_of_ble_eq_true rfl) dX11_portionByRounds_6 ⟨Nat.le_of_ble_eq_true rfl, Nat.le_of_ble_eq_true rfl⟩ ?_
  refine a_topR (y := x_e G 1 0) (by rw [hrf]) ?_
  refine a_callS C (As := [.ref (x_e G 1 0)]) (rest := []) (c_F_raise l G d) (va_cwS 1 C.1.2.2.2.2 gX11_portionByRounds_X11_raise rfl rfl rfl (by decide +kernel) ⟨Nat.le_of_ble_eq_true rfl, Nat.le_of_ble_eq_true rfl⟩) rfl rfl (Nat.le_of_ble_eq_true rfl) dX11_portionByRounds_9 ⟨Nat.le_of_ble_eq_true rfl, Nat.le_of_ble_eq_true rfl⟩ ?_
  refine a_aload_n C dX11_portionByRounds_12 0 rfl ?_
  refine a_getR C (k := 0) iX11 x_k0 rfl (j := 7) rfl (by decide) (by decide +kernel) dX11_portionByRounds_13 ?_
  refine a_aload_n C dX11_portionByRounds_16 0 rfl ?_
  refine a_getR C (k := 0) iX11 x_k0 rfl (j := 0) rfl (by decide) (by decide +kernel) dX11_portionByRounds_17 ?_
  refine a_getR C (k := 1) iX9 (x_sS0 x_isS_1) rfl (j := 0) rfl (by decide) (by decide +kernel) dX11_portionByRounds_20 ?_
  refine a_iload_n C dX11_portionByRounds_23 2 rfl ?_
  refine a_callV C (k := 163) (As := [.ref (x_b G + 2), .int (nI a0)]) (rest := []) (c_X1_divideInRounds l G d 163 1 mm a0 sh x_isA_1 x_isS_1 hn h8 hs hs9 hS ha0) (cwV 2 C.1.2.2.2.2 gX11_portionByRounds_X1_divideInRounds rfl rfl rfl (by decide +kernel) ⟨Nat.le_of_ble_eq_true rfl, Nat.le_of_ble_eq_true rfl⟩) x_k163 (q := (RX1, TX1, 3)) rfl rfl rfl rfl (Nat.le_of_ble_eq_true rfl) dX11_portionByRounds_24 ⟨Nat.le_of_ble_eq_true rfl, Nat.le_of_ble_eq_true rfl⟩ ?_
  refine a_aload_n C dX11_portionByRounds_27 0 rfl ?_
  refine a_getR C (k := 0) iX11 x_k0 rfl (j := 7) rfl (by decide) (by decide +kernel) dX11_portionByRounds_28 ?_
  refine a_getR C (k := 163) iX1 x_k163 rfl (j := 0) rfl (by decide) (by decide +kernel) dX11_portionByRounds_31 ?_
  refine a_iload_n C dX11_portionByRounds_34 1 rfl ?_
  refine a_ialdN C (k := 164) x_k164 (i := i) rfl (by omega) (by first | decide | omega) dX11_portionByRounds_35 ?_
  refine a_top (y := (f_prr d 163 mm a0 sh i)) (congrFun (f_dir_prr (d := d) (a := 163) (mm := mm) (a0 := a0) (sh := sh)) i) ?_
  exact a_iret C hlocks hr dX11_portionByRounds_36 rfl rfl

set_option maxHeartbeats 1000000 in
set_option maxRecDepth 100000 in
theorem c_F_addMoth_1 (l : Launch) (hfl : l.stackTraces = false) (G : xG) (d : xd) (x : Int32) (hrf : f_ram d 1 x = 1) : x_X G l yX11_addMoth wsX11_addMoth 5 [.ref (x_b G + 0), .int x] d "java/lang/IndexOutOfBoundsException" d := by
  have iX11 : ∀ w ∈ u_ws RX11 TX11 13, w ∈ wsX11_addMoth := by decide +kernel
  refine x_startX (cc := cX11_addMoth) (maxL := 2) (ret := (some .int)) (own := RX11) (by decide) rfl rfl (Nat.le_of_ble_eq_true rfl) (lst := [(0, .ref (x_b G + 0)), (1, .int x)]) rfl ?_
  intro p e s m args below meth c C hr hlocks
  refine a_aload_n C dX11_addMoth_0 0 rfl ?_
  refine a_getR C (k := 0) iX11 x_k0 rfl (j := 0) rfl (by decide) (by decide +kernel) dX11_addMoth_1 ?_
  refine a_iload_n C dX11_addMoth_4 1 rfl ?_
  refine a_callV C (k := 1) (As := [.int x]) (rest := []) (c_X9_refusalToAddMoth l G d 1 x_isS_1 x) (cwV 1 C.1.2.2.2.2 gX11_addMoth_X9_refusalToAddMoth rfl rfl rfl (by decide +kernel) ⟨Nat.le_of_ble_eq_true rfl, Nat.le_of_ble_eq_true rfl⟩) (x_sS0 x_isS_1) (q := (RX9, TX9, 3)) rfl rfl rfl rfl (Nat.le_of_ble_eq_true rfl) dX11_addMoth_5 ⟨Nat.le_of_ble_eq_true rfl, Nat.le_of_ble_eq_true rfl⟩ ?_
  refine a_topR (y := x_e G 1 1) (by rw [hrf]) ?_
  exact a_callSX C hr hlocks (As := [.ref (x_e G 1 1)]) (rest := []) (c_F_raise_1 l hfl G d) (va_cwS 1 C.1.2.2.2.2 gX11_addMoth_X11_raise rfl rfl rfl (by decide +kernel) ⟨Nat.le_of_ble_eq_true rfl, Nat.le_of_ble_eq_true rfl⟩) rfl rfl (Nat.le_of_ble_eq_true rfl) dX11_addMoth_8 (by decide) (by decide) (by decide) rfl

set_option maxHeartbeats 1000000 in
set_option maxRecDepth 100000 in
theorem c_F_addMoth_3 (l : Launch) (hfl : l.stackTraces = false) (G : xG) (d : xd) (x : Int32) (hrf : f_ram d 1 x = 3) : x_X G l yX11_addMoth wsX11_addMoth 5 [.ref (x_b G + 0), .int x] d "java/lang/IllegalStateException" d := by
  have iX11 : ∀ w ∈ u_ws RX11 TX11 13, w ∈ wsX11_addMoth := by decide +kernel
  refine x_startX (cc := cX11_addMoth) (maxL := 2) (ret := (some .int)) (own := RX11) (by decide) rfl rfl (Nat.le_of_ble_eq_true rfl) (lst := [(0, .ref (x_b G + 0)), (1, .int x)]) rfl ?_
  intro p e s m args below meth c C hr hlocks
  refine a_aload_n C dX11_addMoth_0 0 rfl ?_
  refine a_getR C (k := 0) iX11 x_k0 rfl (j := 0) rfl (by decide) (by decide +kernel) dX11_addMoth_1 ?_
  refine a_iload_n C dX11_addMoth_4 1 rfl ?_
  refine a_callV C (k := 1) (As := [.int x]) (rest := []) (c_X9_refusalToAddMoth l G d 1 x_isS_1 x) (cwV 1 C.1.2.2.2.2 gX11_addMoth_X9_refusalToAddMoth rfl rfl rfl (by decide +kernel) ⟨Nat.le_of_ble_eq_true rfl, Nat.le_of_ble_eq_true rfl⟩) (x_sS0 x_isS_1) (q := (RX9, TX9, 3)) rfl rfl rfl rfl (Nat.le_of_ble_eq_true rfl) dX11_addMoth_5 ⟨Nat.le_of_ble_eq_true rfl, Nat.le_of_ble_eq_true rfl⟩ ?_
  refine a_topR (y := x_e G 1 3) (by rw [hrf]) ?_
  exact a_callSX C hr hlocks (As := [.ref (x_e G 1 3)]) (rest := []) (c_F_raise_3 l hfl G d) (va_cwS 1 C.1.2.2.2.2 gX11_addMoth_X11_raise rfl rfl rfl (by decide +kernel) ⟨Nat.le_of_ble_eq_true rfl, Nat.le_of_ble_eq_true rfl⟩) rfl rfl (Nat.le_of_ble_eq_true rfl) dX11_addMoth_8 (by decide) (by decide) (by decide) rfl

set_option maxHeartbeats 1000000 in
set_option maxRecDepth 100000 in
theorem c_F_addMoth (l : Launch) (G : xG) (d : xd) (q z : Nat) (hq : d 43 1 = nI q) (hz : d 43 0 = nI z) (q8 : q < 8) (z8 : z ≤ 8) (x : Int32) (m9 : Nat) (hm : d 10 0 = nI m9) (h6 : m9 < 6) (hrf : f_ram d 1 x = 0) : x_M G l yX11_addMoth wsX11_addMoth 5 0 0 [.ref (x_b G + 0), .int x] d (some (.int (nI m9))) (f_appm (f_rem d 1 q z) 1 m9 x) := by
  have iX11 : ∀ w ∈ u_ws RX11 TX11 13, w ∈ wsX11_addMoth := by decide +kernel
  have iX9 : ∀ w ∈ u_ws RX9 TX9 3, w ∈ wsX11_addMoth := by decide +kernel
  refine x_start (cc := cX11_addMoth) (maxL := 2) (ret := (some .int)) (own := RX11) (by decide) rfl rfl (Nat.le_of_ble_eq_true rfl) (lst := [(0, .ref (x_b G + 0)), (1, .int x)]) rfl ?_
  intro p e s m args below meth c C hr hlocks
  refine a_aload_n C dX11_addMoth_0 0 rfl ?_
  refine a_getR C (k := 0) iX11 x_k0 rfl (j := 0) rfl (by decide) (by decide +kernel) dX11_addMoth_1 ?_
  refine a_iload_n C dX11_addMoth_4 1 rfl ?_
  refine a_callV C (k := 1) (As := [.int x]) (rest := []) (c_X9_refusalToAddMoth l G d 1 x_isS_1 x) (cwV 1 C.1.2.2.2.2 gX11_addMoth_X9_refusalToAddMoth rfl rfl rfl (by decide +kernel) ⟨Nat.le_of_ble_eq_true rfl, Nat.le_of_ble_eq_true rfl⟩) (x_sS0 x_isS_1) (q := (RX9, TX9, 3)) rfl rfl rfl rfl (Nat.le_of_ble_eq_true rfl) dX11_addMoth_5 ⟨Nat.le_of_ble_eq_true rfl, Nat.le_of_ble_eq_true rfl⟩ ?_
  refine a_topR (y := x_e G 1 0) (by rw [hrf]) ?_
  refine a_callS C (As := [.ref (x_e G 1 0)]) (rest := []) (c_F_raise l G d) (va_cwS 1 C.1.2.2.2.2 gX11_addMoth_X11_raise rfl rfl rfl (by decide +kernel) ⟨Nat.le_of_ble_eq_true rfl, Nat.le_of_ble_eq_true rfl⟩) rfl rfl (Nat.le_of_ble_eq_true rfl) dX11_addMoth_8 ⟨Nat.le_of_ble_eq_true rfl, Nat.le_of_ble_eq_true rfl⟩ ?_
  refine a_aload_n C dX11_addMoth_11 0 rfl ?_
  refine a_getR C (k := 0) iX11 x_k0 rfl (j := 4) rfl (by decide) (by decide +kernel) dX11_addMoth_12 ?_
  refine a_aload_n C dX11_addMoth_15 0 rfl ?_
  refine a_getR C (k := 0) iX11 x_k0 rfl (j := 0) rfl (by decide) (by decide +kernel) dX11_addMoth_16 ?_
  refine a_callV C (k := 43) (As := [.ref (x_b G + 1)]) (rest := []) (c_X4_remember l G d 1 x_isS_1 (by omega) q z hq hz q8 z8) (cwV 1 C.1.2.2.2.2 gX11_addMoth_X4_remember rfl rfl rfl (by decide +kernel) ⟨Nat.le_of_ble_eq_true rfl, Nat.le_of_ble_eq_true rfl⟩) x_k43 (q := (RX4, TX4, 3)) rfl rfl rfl rfl (Nat.le_of_ble_eq_true rfl) dX11_addMoth_19 ⟨Nat.le_of_ble_eq_true rfl, Nat.le_of_ble_eq_true rfl⟩ ?_
  refine a_aload_n C dX11_addMoth_22 0 rfl ?_
  refine a_getR C (k := 0) iX11 x_k0 rfl (j := 0) rfl (by decide) (by decide +kernel) dX11_addMoth_23 ?_
  refine a_getR C (k := 1) iX9 (x_sS0 x_isS_1) rfl (j := 1) rfl (by decide) (by decide +kernel) dX11_addMoth_26 ?_
  refine a_iload_n C dX11_addMoth_29 1 rfl ?_
  refine a_callV C (k := 10) (As := [.int x]) (rest := []) (c_X6_append l G ((f_rem d 1 q z)) 1 m9 x_isS_1 (by rw [f_rem_out (by omega) q8]; exact hm) h6 x) (cwV 1 C.1.2.2.2.2 gX11_addMoth_X6_append rfl rfl rfl (by decide +kernel) ⟨Nat.le_of_ble_eq_true rfl, Nat.le_of_ble_eq_true rfl⟩) (x_sS9 x_isS_1) (q := (RX6, TX6, 4)) rfl rfl rfl rfl (Nat.le_of_ble_eq_true rfl) dX11_addMoth_30 ⟨Nat.le_of_ble_eq_true rfl, Nat.le_of_ble_eq_true rfl⟩ ?_
  exact a_iret C hlocks hr dX11_addMoth_33 rfl rfl

set_option maxHeartbeats 1000000 in
set_option maxRecDepth 100000 in
theorem c_F_moveMoth_1 (l : Launch) (hfl : l.stackTraces = false) (G : xG) (d : xd) (x : Int32) (m9 : Nat) (hm : d 10 0 = nI m9) (hx : ¬ (0 ≤ x ∧ x < nI m9)) (y : Int32) : x_X G l yX11_moveMoth wsX11_moveMoth 5 [.ref (x_b G + 0), .int x, .int y] d "java/lang/IndexOutOfBoundsException" d := by
  refine x_startX (cc := cX11_moveMoth) (maxL := 4) (ret := (some .int)) (own := RX11) (by decide) rfl rfl (Nat.le_of_ble_eq_true rfl) (lst := [(0, .ref (x_b G + 0)), (1, .int x), (2, .int y)]) rfl ?_
  intro p e s m args below meth c C hr hlocks
  refine a_aload_n C dX11_moveMoth_0 0 rfl ?_
  refine a_iload_n C dX11_moveMoth_1 1 rfl ?_
  exact a_callVX C hr hlocks (k := 0) (As := [.int x]) (rest := []) (c_F_requireMoth_1 l hfl G d x m9 hm hx) (cwV 1 C.1.2.2.2.2 gX11_moveMoth_X11_requireMoth rfl rfl rfl (by decide +kernel) ⟨Nat.le_of_ble_eq_true rfl, Nat.le_of_ble_eq_true rfl⟩) x_k0 (q := (RX11, TX11, 13)) rfl rfl rfl rfl (Nat.le_of_ble_eq_true rfl) dX11_moveMoth_2 (by decide) (by decide) (by decide) rfl

set_option maxHeartbeats 1000000 in
set_option maxRecDepth 100000 in
theorem c_F_moveMoth_2 (l : Launch) (hfl : l.stackTraces = false) (G : xG) (d : xd) (i m9 : Nat) (hm : d 10 0 = nI m9) (h6 : m9 ≤ 6) (hi : i < m9) (x : Int32) (n : Nat) (hn : d 2 0 = nI n) (hx : ¬ (0 ≤ x ∧ x < nI n)) (hx1 : ¬ x = -1) : x_X G l yX11_moveMoth wsX11_moveMoth 5 [.ref (x_b G + 0), .int (nI i), .int x] d "java/lang/IndexOutOfBoundsException" d := by
  refine x_startX (cc := cX11_moveMoth) (maxL := 4) (ret := (some .int)) (own := RX11) (by decide) rfl rfl (Nat.le_of_ble_eq_true rfl) (lst := [(0, .ref (x_b G + 0)), (1, .int (nI i)), (2, .int x)]) rfl ?_
  intro p e s m args below meth c C hr hlocks
  refine a_aload_n C dX11_moveMoth_0 0 rfl ?_
  refine a_iload_n C dX11_moveMoth_1 1 rfl ?_
  refine a_callV C (k := 0) (As := [.int (nI i)]) (rest := []) (c_F_requireMoth l G d i m9 hm h6 hi) (cwV 1 C.1.2.2.2.2 gX11_moveMoth_X11_requireMoth rfl rfl rfl (by decide +kernel) ⟨Nat.le_of_ble_eq_true rfl, Nat.le_of_ble_eq_true rfl⟩) x_k0 (q := (RX11, TX11, 13)) rfl rfl rfl rfl (Nat.le_of_ble_eq_true rfl) dX11_moveMoth_2 ⟨Nat.le_of_ble_eq_true rfl, Nat.le_of_ble_eq_true rfl⟩ ?_
  refine a_iload_n C dX11_moveMoth_5 2 rfl ?_
  refine a_iconst C dX11_moveMoth_6 (v := -1) (by decide) ?_
  refine a_icmp_eq C dX11_moveMoth_7 (tgt := 15) (by decide) (fun h => absurd h (hx1)) (fun h7 => ?_)
  refine a_aload_n C dX11_moveMoth_10 0 rfl ?_
  refine a_iload_n C dX11_moveMoth_11 2 rfl ?_
  exact a_callVX C hr hlocks (k := 0) (As := [.int x]) (rest := []) (c_F_requireLamp_1 l hfl G d x n hn hx) (cwV 1 C.1.2.2.2.2 gX11_moveMoth_X11_requireLamp rfl rfl rfl (by decide +kernel) ⟨Nat.le_of_ble_eq_true rfl, Nat.le_of_ble_eq_true rfl⟩) x_k0 (q := (RX11, TX11, 13)) rfl rfl rfl rfl (Nat.le_of_ble_eq_true rfl) dX11_moveMoth_12 (by decide) (by decide) (by decide) rfl

theorem c_F_requireLamp_i (l : Launch) (G : xG) (d : xd) (x : Int32) (n : Nat) (hn : d 2 0 = nI n) (h8 : n ≤ 8) (hx : 0 ≤ x ∧ x < nI n) : x_M G l yX11_requireLamp wsX11_requireLamp 2 0 0 [.ref (x_b G + 0), .int x] d none d := by
  obtain ⟨e, h⟩ := x_ix hx (by omega)
  rw [e]
  exact c_F_requireLamp l G d _ n hn h8 h
set_option maxHeartbeats 1000000 in
set_option maxRecDepth 100000 in
theorem c_F_moveMoth (l : Launch) (G : xG) (d : xd) (q z : Nat) (hq : d 43 1 = nI q) (hz : d 43 0 = nI z) (q8 : q < 8) (z8 : z ≤ 8) (i m9 : Nat) (hm : d 10 0 = nI m9) (h6 : m9 ≤ 6) (hi : i < m9) (x : Int32) (n : Nat) (hn : d 2 0 = nI n) (h8 : n ≤ 8) (hx : (0 ≤ x ∧ x < nI n) ∨ x = -1) : x_M G l yX11_moveMoth wsX11_moveMoth 5 0 0 [.ref (x_b G + 0), .int (nI i), .int x] d (some (.int (d 11 i))) (x_p (f_rem d 1 q z) 11 i x) := by
  have iX11 : ∀ w ∈ u_ws RX11 TX11 13, w ∈ wsX11_moveMoth := by decide +kernel
  have iX6 : ∀ w ∈ u_ws RX6 TX6 4, w ∈ wsX11_moveMoth := by decide +kernel
  have iX9 : ∀ w ∈ u_ws RX9 TX9 3, w ∈ wsX11_moveMoth := by decide +kernel
  refine x_start (cc := cX11_moveMoth) (maxL := 4) (ret := (some .int)) (own := RX11) (by decide) rfl rfl (Nat.le_of_ble_eq_true rfl) (lst := [(0, .ref (x_b G + 0)), (1, .int (nI i)), (2, .int x)]) rfl ?_
  intro p e s m args below meth c C hr hlocks
  refine a_aload_n C dX11_moveMoth_0 0 rfl ?_
  refine a_iload_n C dX11_moveMoth_1 1 rfl ?_
  refine a_callV C (k := 0) (As := [.int (nI i)]) (rest := []) (c_F_requireMoth l G d i m9 hm h6 hi) (cwV 1 C.1.2.2.2.2 gX11_moveMoth_X11_requireMoth rfl rfl rfl (by decide +kernel) ⟨Nat.le_of_ble_eq_true rfl, Nat.le_of_ble_eq_true rfl⟩) x_k0 (q := (RX11, TX11, 13)) rfl rfl rfl rfl (Nat.le_of_ble_eq_true rfl) dX11_moveMoth_2 ⟨Nat.le_of_ble_eq_true rfl, Nat.le_of_ble_eq_true rfl⟩ ?_
  refine a_iload_n C dX11_moveMoth_5 2 rfl ?_
  refine a_iconst C dX11_moveMoth_6 (v := -1) (by decide) ?_
  refine a_icmp_eq C dX11_moveMoth_7 (tgt := 15) (by decide) (fun h7 => ?_) (fun h7 => ?_)
  · skip
    refine a_aload_n C dX11_moveMoth_15 0 rfl ?_
    refine a_getR C (k := 0) iX11 x_k0 rfl (j := 4) rfl (by decide) (by decide +kernel) dX11_moveMoth_16 ?_
    refine a_aload_n C dX11_moveMoth_19 0 rfl ?_
    refine a_getR C (k := 0) iX11 x_k0 rfl (j := 0) rfl (by decide) (by decide +kernel) dX11_moveMoth_20 ?_
    refine a_callV C (k := 43) (As := [.ref (x_b G + 1)]) (rest := []) (c_X4_remember l G d 1 x_isS_1 (by omega) q z hq hz q8 z8) (cwV 1 C.1.2.2.2.2 gX11_moveMoth_X4_remember rfl rfl rfl (by decide +kernel) ⟨Nat.le_of_ble_eq_true rfl, Nat.le_of_ble_eq_true rfl⟩) x_k43 (q := (RX4, TX4, 3)) rfl rfl rfl rfl (Nat.le_of_ble_eq_true rfl) dX11_moveMoth_23 ⟨Nat.le_of_ble_eq_true rfl, Nat.le_of_ble_eq_true rfl⟩ ?_
    refine a_aload_n C dX11_moveMoth_26 0 rfl ?_
    refine a_getR C (k := 0) iX11 x_k0 rfl (j := 0) rfl (by decide) (by decide +kernel) dX11_moveMoth_27 ?_
    refine a_getR C (k := 1) iX9 (x_sS0 x_isS_1) rfl (j := 1) rfl (by decide) (by decide +kernel) dX11_moveMoth_30 ?_
    refine a_getR C (k := 10) iX6 (x_sS9 x_isS_1) rfl (j := 1) rfl (by decide) (by decide +kernel) dX11_moveMoth_33 ?_
    refine a_iload_n C dX11_moveMoth_36 1 rfl ?_
    refine a_ialdN C (k := 11) (x_sS10 x_isS_1) (i := i) rfl (by omega) (by first | decide | omega) dX11_moveMoth_37 ?_
    refine a_top (y := (d 11 i)) (by rw [f_rem_out (by omega) q8]) ?_
    refine a_istore_n C dX11_moveMoth_38 (by decide) (lst2 := [(3, .int (d 11 i)), (0, .ref (x_b G + 0)), (1, .int (nI i)), (2, .int x)]) rfl ?_
    refine a_aload_n C dX11_moveMoth_39 1 rfl ?_
    refine a_getR C (k := 0) iX11 x_k0 rfl (j := 0) rfl (by decide) (by decide +kernel) dX11_moveMoth_40 ?_
    refine a_getR C (k := 1) iX9 (x_sS0 x_isS_1) rfl (j := 1) rfl (by decide) (by decide +kernel) dX11_moveMoth_43 ?_
    refine a_getR C (k := 10) iX6 (x_sS9 x_isS_1) rfl (j := 1) rfl (by decide) (by decide +kernel) dX11_moveMoth_46 ?_
    refine a_iload_n C dX11_moveMoth_49 2 rfl ?_
    refine a_iload_n C dX11_moveMoth_50 3 rfl ?_
    refine a_iastN C (k := 11) (x_sS10 x_isS_1) (i := i) rfl (by omega) (by first | decide | omega) dX11_moveMoth_51 ?_
    refine a_iload_n C dX11_moveMoth_52 0 rfl ?_
    exact a_iret C hlocks hr dX11_moveMoth_53 rfl rfl
  · skip
    refine a_aload_n C dX11_moveMoth_10 0 rfl ?_
    refine a_iload_n C dX11_moveMoth_11 2 rfl ?_
    refine a_callV C (k := 0) (As := [.int x]) (rest := []) (c_F_requireLamp_i l G d x n hn h8 (hx.resolve_right h7)) (cwV 1 C.1.2.2.2.2 gX11_moveMoth_X11_requireLamp rfl rfl rfl (by decide +kernel) ⟨Nat.le_of_ble_eq_true rfl, Nat.le_of_ble_eq_true rfl⟩) x_k0 (q := (RX11, TX11, 13)) rfl rfl rfl rfl (Nat.le_of_ble_eq_true rfl) dX11_moveMoth_12 ⟨Nat.le_of_ble_eq_true rfl, Nat.le_of_ble_eq_true rfl⟩ ?_
    refine a_aload_n C dX11_moveMoth_15 0 rfl ?_
    refine a_getR C (k := 0) iX11 x_k0 rfl (j := 4) rfl (by decide) (by decide +kernel) dX11_moveMoth_16 ?_
    refine a_aload_n C dX11_moveMoth_19 0 rfl ?_
    refine a_getR C (k := 0) iX11 x_k0 rfl (j := 0) rfl (by decide) (by decide +kernel) dX11_moveMoth_20 ?_
    refine a_callV C (k := 43) (As := [.ref (x_b G + 1)]) (rest := []) (c_X4_remember l G d 1 x_isS_1 (by omega) q z hq hz q8 z8) (cwV 1 C.1.2.2.2.2 gX11_moveMoth_X4_remember rfl rfl rfl (by decide +kernel) ⟨Nat.le_of_ble_eq_true rfl, Nat.le_of_ble_eq_true rfl⟩) x_k43 (q := (RX4, TX4, 3)) rfl rfl rfl rfl (Nat.le_of_ble_eq_true rfl) dX11_moveMoth_23 ⟨Nat.le_of_ble_eq_true rfl, Nat.le_of_ble_eq_true rfl⟩ ?_
    refine a_aload_n C dX11_moveMoth_26 0 rfl ?_
    refine a_getR C (k := 0) iX11 x_k0 rfl (j := 0) rfl (by decide) (by decide +kernel) dX11_moveMoth_27 ?_
    refine a_getR C (k := 1) iX9 (x_sS0 x_isS_1) rfl (j := 1) rfl (by decide) (by decide +kernel) dX11_moveMoth_30 ?_
    refine a_getR C (k := 10) iX6 (x_sS9 x_isS_1) rfl (j := 1) rfl (by decide) (by decide +kernel) dX11_moveMoth_33 ?_
    refine a_iload_n C dX11_moveMoth_36 1 rfl ?_
    refine a_ialdN C (k := 11) (x_sS10 x_isS_1) (i := i) rfl (by omega) (by first | decide | omega) dX11_moveMoth_37 ?_
    refine a_top (y := (d 11 i)) (by rw [f_rem_out (by omega) q8]) ?_
    refine a_istore_n C dX11_moveMoth_38 (by decide) (lst2 := [(3, .int (d 11 i)), (0, .ref (x_b G + 0)), (1, .int (nI i)), (2, .int x)]) rfl ?_
    refine a_aload_n C dX11_moveMoth_39 1 rfl ?_
    refine a_getR C (k := 0) iX11 x_k0 rfl (j := 0) rfl (by decide) (by decide +kernel) dX11_moveMoth_40 ?_
    refine a_getR C (k := 1) iX9 (x_sS0 x_isS_1) rfl (j := 1) rfl (by decide) (by decide +kernel) dX11_moveMoth_43 ?_
    refine a_getR C (k := 10) iX6 (x_sS9 x_isS_1) rfl (j := 1) rfl (by decide) (by decide +kernel) dX11_moveMoth_46 ?_
    refine a_iload_n C dX11_moveMoth_49 2 rfl ?_
    refine a_iload_n C dX11_moveMoth_50 3 rfl ?_
    refine a_iastN C (k := 11) (x_sS10 x_isS_1) (i := i) rfl (by omega) (by first | decide | omega) dX11_moveMoth_51 ?_
    refine a_iload_n C dX11_moveMoth_52 0 rfl ?_
    exact a_iret C hlocks hr dX11_moveMoth_53 rfl rfl

set_option maxHeartbeats 1000000 in
set_option maxRecDepth 100000 in
theorem c_F_burnNight (l : Launch) (G : xG) (d : xd) (q z : Nat) (hq : d 43 1 = nI q) (hz : d 43 0 = nI z) (q8 : q < 8) (z8 : z ≤ 8) (n : Nat) (hn : d 2 0 = nI n) (h8 : n ≤ 8) (m9 : Nat) (hm : d 10 0 = nI m9) (h6 : m9 ≤ 6) : x_M G l yX11_burnNight wsX11_burnNight 6 0 0 [.ref (x_b G + 0)] d (some (.int (f_cb (f_rem d 1 q z) 1 n))) (f_night (f_rem d 1 q z) 1 n m9) := by
  have iX11 : ∀ w ∈ u_ws RX11 TX11 13, w ∈ wsX11_burnNight := by decide +kernel
  refine x_start (cc := cX11_burnNight) (maxL := 1) (ret := (some .int)) (own := RX11) (by decide) rfl rfl (Nat.le_of_ble_eq_true rfl) (lst := [(0, .ref (x_b G + 0))]) rfl ?_
  intro p e s m args below meth c C hr hlocks
  refine a_aload_n C dX11_burnNight_0 0 rfl ?_
  refine a_getR C (k := 0) iX11 x_k0 rfl (j := 4) rfl (by decide) (by decide +kernel) dX11_burnNight_1 ?_
  refine a_aload_n C dX11_burnNight_4 0 rfl ?_
  refine a_getR C (k := 0) iX11 x_k0 rfl (j := 0) rfl (by decide) (by decide +kernel) dX11_burnNight_5 ?_
  refine a_callV C (k := 43) (As := [.ref (x_b G + 1)]) (rest := []) (c_X4_remember l G d 1 x_isS_1 (by omega) q z hq hz q8 z8) (cwV 1 C.1.2.2.2.2 gX11_burnNight_X4_remember rfl rfl rfl (by decide +kernel) ⟨Nat.le_of_ble_eq_true rfl, Nat.le_of_ble_eq_true rfl⟩) x_k43 (q := (RX4, TX4, 3)) rfl rfl rfl rfl (Nat.le_of_ble_eq_true rfl) dX11_burnNight_8 ⟨Nat.le_of_ble_eq_true rfl, Nat.le_of_ble_eq_true rfl⟩ ?_
  refine a_aload_n C dX11_burnNight_11 0 rfl ?_
  refine a_getR C (k := 0) iX11 x_k0 rfl (j := 5) rfl (by decide) (by decide +kernel) dX11_burnNight_12 ?_
  refine a_aload_n C dX11_burnNight_15 0 rfl ?_
  refine a_getR C (k := 0) iX11 x_k0 rfl (j := 0) rfl (by decide) (by decide +kernel) dX11_burnNight_16 ?_
  refine a_callV C (k := 157) (As := [.ref (x_b G + 1)]) (rest := []) (c_X7_pass l G ((f_rem d 1 q z)) 1 n x_isS_1 (by rw [f_rem_out (by omega) q8]; exact hn) h8 m9 (by rw [f_rem_out (by omega) q8]; exact hm) h6) (cwV 1 C.1.2.2.2.2 gX11_burnNight_X7_pass rfl rfl rfl (by decide +kernel) ⟨Nat.le_of_ble_eq_true rfl, Nat.le_of_ble_eq_true rfl⟩) x_k157 (q := (RX7, TX7, 1)) rfl rfl rfl rfl (Nat.le_of_ble_eq_true rfl) dX11_burnNight_19 ⟨Nat.le_of_ble_eq_true rfl, Nat.le_of_ble_eq_true rfl⟩ ?_
  exact a_iret C hlocks hr dX11_burnNight_22 rfl rfl

set_option maxHeartbeats 1000000 in
set_option maxRecDepth 100000 in
theorem c_F_proposeCap_2 (l : Launch) (hfl : l.stackTraces = false) (G : xG) (d : xd) (x : Int32) (hrf : f_rpro d 1 x = 2) : x_X G l yX11_proposeCap wsX11_proposeCap 5 [.ref (x_b G + 0), .int x] d "java/lang/IllegalArgumentException" d := by
  have iX11 : ∀ w ∈ u_ws RX11 TX11 13, w ∈ wsX11_proposeCap := by decide +kernel
  refine x_startX (cc := cX11_proposeCap) (maxL := 2) (ret := (some .boolean)) (own := RX11) (by decide) rfl rfl (Nat.le_of_ble_eq_true rfl) (lst := [(0, .ref (x_b G + 0)), (1, .int x)]) rfl ?_
  intro p e s m args below meth c C hr hlocks
  refine a_aload_n C dX11_proposeCap_0 0 rfl ?_
  refine a_getR C (k := 0) iX11 x_k0 rfl (j := 0) rfl (by decide) (by decide +kernel) dX11_proposeCap_1 ?_
  refine a_iload_n C dX11_proposeCap_4 1 rfl ?_
  refine a_callV C (k := 1) (As := [.int x]) (rest := []) (c_X9_refusalToPropose l G d 1 x_isS_1 x) (cwV 1 C.1.2.2.2.2 gX11_proposeCap_X9_refusalToPropose rfl rfl rfl (by decide +kernel) ⟨Nat.le_of_ble_eq_true rfl, Nat.le_of_ble_eq_true rfl⟩) (x_sS0 x_isS_1) (q := (RX9, TX9, 3)) rfl rfl rfl rfl (Nat.le_of_ble_eq_true rfl) dX11_proposeCap_5 ⟨Nat.le_of_ble_eq_true rfl, Nat.le_of_ble_eq_true rfl⟩ ?_
  refine a_topR (y := x_e G 1 2) (by rw [hrf]) ?_
  exact a_callSX C hr hlocks (As := [.ref (x_e G 1 2)]) (rest := []) (c_F_raise_2 l hfl G d) (va_cwS 1 C.1.2.2.2.2 gX11_proposeCap_X11_raise rfl rfl rfl (by decide +kernel) ⟨Nat.le_of_ble_eq_true rfl, Nat.le_of_ble_eq_true rfl⟩) rfl rfl (Nat.le_of_ble_eq_true rfl) dX11_proposeCap_8 (by decide) (by decide) (by decide) rfl

set_option maxHeartbeats 1000000 in
set_option maxRecDepth 100000 in
theorem c_F_proposeCap_3 (l : Launch) (hfl : l.stackTraces = false) (G : xG) (d : xd) (x : Int32) (hrf : f_rpro d 1 x = 3) : x_X G l yX11_proposeCap wsX11_proposeCap 5 [.ref (x_b G + 0), .int x] d "java/lang/IllegalStateException" d := by
  have iX11 : ∀ w ∈ u_ws RX11 TX11 13, w ∈ wsX11_proposeCap := by decide +kernel
  refine x_startX (cc := cX11_proposeCap) (maxL := 2) (ret := (some .boolean)) (own := RX11) (by decide) rfl rfl (Nat.le_of_ble_eq_true rfl) (lst := [(0, .ref (x_b G + 0)), (1, .int x)]) rfl ?_
  intro p e s m args below meth c C hr hlocks
  refine a_aload_n C dX11_proposeCap_0 0 rfl ?_
  refine a_getR C (k := 0) iX11 x_k0 rfl (j := 0) rfl (by decide) (by decide +kernel) dX11_proposeCap_1 ?_
  refine a_iload_n C dX11_proposeCap_4 1 rfl ?_
  refine a_callV C (k := 1) (As := [.int x]) (rest := []) (c_X9_refusalToPropose l G d 1 x_isS_1 x) (cwV 1 C.1.2.2.2.2 gX11_proposeCap_X9_refusalToPropose rfl rfl rfl (by decide +kernel) ⟨Nat.le_of_ble_eq_true rfl, Nat.le_of_ble_eq_true rfl⟩) (x_sS0 x_isS_1) (q := (RX9, TX9, 3)) rfl rfl rfl rfl (Nat.le_of_ble_eq_true rfl) dX11_proposeCap_5 ⟨Nat.le_of_ble_eq_true rfl, Nat.le_of_ble_eq_true rfl⟩ ?_
  refine a_topR (y := x_e G 1 3) (by rw [hrf]) ?_
  exact a_callSX C hr hlocks (As := [.ref (x_e G 1 3)]) (rest := []) (c_F_raise_3 l hfl G d) (va_cwS 1 C.1.2.2.2.2 gX11_proposeCap_X11_raise rfl rfl rfl (by decide +kernel) ⟨Nat.le_of_ble_eq_true rfl, Nat.le_of_ble_eq_true rfl⟩) rfl rfl (Nat.le_of_ble_eq_true rfl) dX11_proposeCap_8 (by decide) (by decide) (by decide) rfl

set_option maxHeartbeats 1000000 in
set_option maxRecDepth 100000 in
theorem c_F_proposeCap_n (l : Launch) (G : xG) (d : xd) (q z : Nat) (hq : d 43 1 = nI q) (hz : d 43 0 = nI z) (q8 : q < 8) (z8 : z ≤ 8) (x : Int32) (n : Nat) (hn : d 2 0 = nI n) (h8 : n ≤ 8) (hc : ¬ f_wc (f_rem d 1 q z) 1 n x = true) (hrf : f_rpro d 1 x = 0) : x_M G l yX11_proposeCap wsX11_proposeCap 5 0 0 [.ref (x_b G + 0), .int x] d (some (.int 0)) ((f_rem d 1 q z)) := by
  have iX11 : ∀ w ∈ u_ws RX11 TX11 13, w ∈ wsX11_proposeCap := by decide +kernel
  have iX9 : ∀ w ∈ u_ws RX9 TX9 3, w ∈ wsX11_proposeCap := by decide +kernel
  refine x_start (cc := cX11_proposeCap) (maxL := 2) (ret := (some .boolean)) (own := RX11) (by decide) rfl rfl (Nat.le_of_ble_eq_true rfl) (lst := [(0, .ref (x_b G + 0)), (1, .int x)]) rfl ?_
  intro p e s m args below meth c C hr hlocks
  refine a_aload_n C dX11_proposeCap_0 0 rfl ?_
  refine a_getR C (k := 0) iX11 x_k0 rfl (j := 0) rfl (by decide) (by decide +kernel) dX11_proposeCap_1 ?_
  refine a_iload_n C dX11_proposeCap_4 1 rfl ?_
  refine a_callV C (k := 1) (As := [.int x]) (rest := []) (c_X9_refusalToPropose l G d 1 x_isS_1 x) (cwV 1 C.1.2.2.2.2 gX11_proposeCap_X9_refusalToPropose rfl rfl rfl (by decide +kernel) ⟨Nat.le_of_ble_eq_true rfl, Nat.le_of_ble_eq_true rfl⟩) (x_sS0 x_isS_1) (q := (RX9, TX9, 3)) rfl rfl rfl rfl (Nat.le_of_ble_eq_true rfl) dX11_proposeCap_5 ⟨Nat.le_of_ble_eq_true rfl, Nat.le_of_ble_eq_true rfl⟩ ?_
  refine a_topR (y := x_e G 1 0) (by rw [hrf]) ?_
  refine a_callS C (As := [.ref (x_e G 1 0)]) (rest := []) (c_F_raise l G d) (va_cwS 1 C.1.2.2.2.2 gX11_proposeCap_X11_raise rfl rfl rfl (by decide +kernel) ⟨Nat.le_of_ble_eq_true rfl, Nat.le_of_ble_eq_true rfl⟩) rfl rfl (Nat.le_of_ble_eq_true rfl) dX11_proposeCap_8 ⟨Nat.le_of_ble_eq_true rfl, Nat.le_of_ble_eq_true rfl⟩ ?_
  refine a_aload_n C dX11_proposeCap_11 0 rfl ?_
  refine a_getR C (k := 0) iX11 x_k0 rfl (j := 4) rfl (by decide) (by decide +kernel) dX11_proposeCap_12 ?_
  refine a_aload_n C dX11_proposeCap_15 0 rfl ?_
  refine a_getR C (k := 0) iX11 x_k0 rfl (j := 0) rfl (by decide) (by decide +kernel) dX11_proposeCap_16 ?_
  refine a_callV C (k := 43) (As := [.ref (x_b G + 1)]) (rest := []) (c_X4_remember l G d 1 x_isS_1 (by omega) q z hq hz q8 z8) (cwV 1 C.1.2.2.2.2 gX11_proposeCap_X4_remember rfl rfl rfl (by decide +kernel) ⟨Nat.le_of_ble_eq_true rfl, Nat.le_of_ble_eq_true rfl⟩) x_k43 (q := (RX4, TX4, 3)) rfl rfl rfl rfl (Nat.le_of_ble_eq_true rfl) dX11_proposeCap_19 ⟨Nat.le_of_ble_eq_true rfl, Nat.le_of_ble_eq_true rfl⟩ ?_
  refine a_aload_n C dX11_proposeCap_22 0 rfl ?_
  refine a_getR C (k := 0) iX11 x_k0 rfl (j := 0) rfl (by decide) (by decide +kernel) dX11_proposeCap_23 ?_
  refine a_getR C (k := 1) iX9 (x_sS0 x_isS_1) rfl (j := 0) rfl (by decide) (by decide +kernel) dX11_proposeCap_26 ?_
  refine a_iload_n C dX11_proposeCap_29 1 rfl ?_
  refine a_callV C (k := 2) (As := [.int x]) (rest := []) (c_X5_voteOnCap_n l G ((f_rem d 1 q z)) 1 n x_isS_1 (by rw [f_rem_out (by omega) q8]; exact hn) h8 x hc) (cwV 1 C.1.2.2.2.2 gX11_proposeCap_X5_voteOnCap rfl rfl rfl (by decide +kernel) ⟨Nat.le_of_ble_eq_true rfl, Nat.le_of_ble_eq_true rfl⟩) (x_sS1 x_isS_1) (q := (RX5, TX5, 8)) rfl rfl rfl rfl (Nat.le_of_ble_eq_true rfl) dX11_proposeCap_30 ⟨Nat.le_of_ble_eq_true rfl, Nat.le_of_ble_eq_true rfl⟩ ?_
  exact a_zret C hlocks hr rfl dX11_proposeCap_33 rfl rfl

set_option maxHeartbeats 1000000 in
set_option maxRecDepth 100000 in
theorem c_F_proposeCap (l : Launch) (G : xG) (d : xd) (q z : Nat) (hq : d 43 1 = nI q) (hz : d 43 0 = nI z) (q8 : q < 8) (z8 : z ≤ 8) (x : Int32) (n : Nat) (hn : d 2 0 = nI n) (h8 : n ≤ 8) (hc : f_wc (f_rem d 1 q z) 1 n x = true) (hrf : f_rpro d 1 x = 0) : x_M G l yX11_proposeCap wsX11_proposeCap 5 0 0 [.ref (x_b G + 0), .int x] d (some (.int 1)) (x_r (f_rem d 1 q z) 5 (f_cap ((f_rem d 1 q z) 5) x n)) := by
  have iX11 : ∀ w ∈ u_ws RX11 TX11 13, w ∈ wsX11_proposeCap := by decide +kernel
  have iX9 : ∀ w ∈ u_ws RX9 TX9 3, w ∈ wsX11_proposeCap := by decide +kernel
  refine x_start (cc := cX11_proposeCap) (maxL := 2) (ret := (some .boolean)) (own := RX11) (by decide) rfl rfl (Nat.le_of_ble_eq_true rfl) (lst := [(0, .ref (x_b G + 0)), (1, .int x)]) rfl ?_
  intro p e s m args below meth c C hr hlocks
  refine a_aload_n C dX11_proposeCap_0 0 rfl ?_
  refine a_getR C (k := 0) iX11 x_k0 rfl (j := 0) rfl (by decide) (by decide +kernel) dX11_proposeCap_1 ?_
  refine a_iload_n C dX11_proposeCap_4 1 rfl ?_
  refine a_callV C (k := 1) (As := [.int x]) (rest := []) (c_X9_refusalToPropose l G d 1 x_isS_1 x) (cwV 1 C.1.2.2.2.2 gX11_proposeCap_X9_refusalToPropose rfl rfl rfl (by decide +kernel) ⟨Nat.le_of_ble_eq_true rfl, Nat.le_of_ble_eq_true rfl⟩) (x_sS0 x_isS_1) (q := (RX9, TX9, 3)) rfl rfl rfl rfl (Nat.le_of_ble_eq_true rfl) dX11_proposeCap_5 ⟨Nat.le_of_ble_eq_true rfl, Nat.le_of_ble_eq_true rfl⟩ ?_
  refine a_topR (y := x_e G 1 0) (by rw [hrf]) ?_
  refine a_callS C (As := [.ref (x_e G 1 0)]) (rest := []) (c_F_raise l G d) (va_cwS 1 C.1.2.2.2.2 gX11_proposeCap_X11_raise rfl rfl rfl (by decide +kernel) ⟨Nat.le_of_ble_eq_true rfl, Nat.le_of_ble_eq_true rfl⟩) rfl rfl (Nat.le_of_ble_eq_true rfl) dX11_proposeCap_8 ⟨Nat.le_of_ble_eq_true rfl, Nat.le_of_ble_eq_true rfl⟩ ?_
  refine a_aload_n C dX11_proposeCap_11 0 rfl ?_
  refine a_getR C (k := 0) iX11 x_k0 rfl (j := 4) rfl (by decide) (by decide +kernel) dX11_proposeCap_12 ?_
  refine a_aload_n C dX11_proposeCap_15 0 rfl ?_
  refine a_getR C (k := 0) iX11 x_k0 rfl (j := 0) rfl (by decide) (by decide +kernel) dX11_proposeCap_16 ?_
  refine a_callV C (k := 43) (As := [.ref (x_b G + 1)]) (rest := []) (c_X4_remember l G d 1 x_isS_1 (by omega) q z hq hz q8 z8) (cwV 1 C.1.2.2.2.2 gX11_proposeCap_X4_remember rfl rfl rfl (by decide +kernel) ⟨Nat.le_of_ble_eq_true rfl, Nat.le_of_ble_eq_true rfl⟩) x_k43 (q := (RX4, TX4, 3)) rfl rfl rfl rfl (Nat.le_of_ble_eq_true rfl) dX11_proposeCap_19 ⟨Nat.le_of_ble_eq_true rfl, Nat.le_of_ble_eq_true rfl⟩ ?_
  refine a_aload_n C dX11_proposeCap_22 0 rfl ?_
  refine a_getR C (k := 0) iX11 x_k0 rfl (j := 0) rfl (by decide) (by decide +kernel) dX11_proposeCap_23 ?_
  refine a_getR C (k := 1) iX9 (x_sS0 x_isS_1) rfl (j := 0) rfl (by decide) (by decide +kernel) dX11_proposeCap_26 ?_
  refine a_iload_n C dX11_proposeCap_29 1 rfl ?_
  refine a_callV C (k := 2) (As := [.int x]) (rest := []) (c_X5_voteOnCap_y l G ((f_rem d 1 q z)) 1 n x_isS_1 (by rw [f_rem_out (by omega) q8]; exact hn) h8 x hc) (cwV 1 C.1.2.2.2.2 gX11_proposeCap_X5_voteOnCap rfl rfl rfl (by decide +kernel) ⟨Nat.le_of_ble_eq_true rfl, Nat.le_of_ble_eq_true rfl⟩) (x_sS1 x_isS_1) (q := (RX5, TX5, 8)) rfl rfl rfl rfl (Nat.le_of_ble_eq_true rfl) dX11_proposeCap_30 ⟨Nat.le_of_ble_eq_true rfl, Nat.le_of_ble_eq_true rfl⟩ ?_
  exact a_zret C hlocks hr rfl dX11_proposeCap_33 rfl rfl

set_option maxHeartbeats 1000000 in
set_option maxRecDepth 100000 in
theorem c_F_undo_3 (l : Launch) (hfl : l.stackTraces = false) (G : xG) (d : xd) (hz : d 43 0 = 0) : x_X G l yX11_undo wsX11_undo 5 [.ref (x_b G + 0)] d "java/lang/IllegalStateException" d := by
  have iX11 : ∀ w ∈ u_ws RX11 TX11 13, w ∈ wsX11_undo := by decide +kernel
  have iX4 : ∀ w ∈ u_ws RX4 TX4 3, w ∈ wsX11_undo := by decide +kernel
  refine x_startX (cc := cX11_undo) (maxL := 1) (ret := (some .int)) (own := RX11) (by decide) rfl rfl (Nat.le_of_ble_eq_true rfl) (lst := [(0, .ref (x_b G + 0))]) rfl ?_
  intro p e s m args below meth c C hr hlocks
  refine a_aload_n C dX11_undo_0 0 rfl ?_
  refine a_getR C (k := 0) iX11 x_k0 rfl (j := 4) rfl (by decide) (by decide +kernel) dX11_undo_1 ?_
  refine a_getI C (k := 43) iX4 x_k43 rfl (j := 0) rfl (by decide) (by decide +kernel) dX11_undo_4 ?_
  refine a_top (y := 0) hz ?_
  refine a_if_ne C dX11_undo_7 (tgt := 21) (by decide) (fun h => absurd h (by decide)) (fun _ => ?_)
  exact a_throw C hr hlocks hfl (is := 366) (cls := "java/lang/IllegalStateException") (ic := 334) (ik := 330) (text := "nothing can be undone") (by decide) rfl (by decide +kernel) (by decide +kernel) (fun w hw => List.mem_cons_of_mem _ (List.mem_append_right _ hw)) dX11_undo_10 dX11_undo_13 dX11_undo_14 dX11_undo_17 dX11_undo_20 (Nat.le_of_ble_eq_true rfl) (Nat.le_of_ble_eq_true rfl) (by decide) (by decide) (rfl)

set_option maxHeartbeats 1000000 in
set_option maxRecDepth 100000 in
theorem c_F_undo (l : Launch) (G : xG) (d : xd) (q z : Nat) (hq : d 43 1 = nI q) (hz : d 43 0 = nI z) (q8 : q < 8) (z8 : z ≤ 8) (z1 : 1 ≤ z) : x_M G l yX11_undo wsX11_undo 5 0 0 [.ref (x_b G + 0)] d (some (.int (nI (z - 1)))) (f_tkb d 1 q z) := by
  have iX11 : ∀ w ∈ u_ws RX11 TX11 13, w ∈ wsX11_undo := by decide +kernel
  have iX4 : ∀ w ∈ u_ws RX4 TX4 3, w ∈ wsX11_undo := by decide +kernel
  refine x_start (cc := cX11_undo) (maxL := 1) (ret := (some .int)) (own := RX11) (by decide) rfl rfl (Nat.le_of_ble_eq_true rfl) (lst := [(0, .ref (x_b G + 0))]) rfl ?_
  intro p e s m args below meth c C hr hlocks
  refine a_aload_n C dX11_undo_0 0 rfl ?_
  refine a_getR C (k := 0) iX11 x_k0 rfl (j := 4) rfl (by decide) (by decide +kernel) dX11_undo_1 ?_
  refine a_getI C (k := 43) iX4 x_k43 rfl (j := 0) rfl (by decide) (by decide +kernel) dX11_undo_4 ?_
  refine a_top (y := (nI z)) hz ?_
  refine a_if_ne C dX11_undo_7 (tgt := 21) (by decide) (fun h7 => ?_) (fun h => False.elim (nI_ne0 (by omega) (by omega) h))
  refine a_aload_n C dX11_undo_21 0 rfl ?_
  refine a_getR C (k := 0) iX11 x_k0 rfl (j := 4) rfl (by decide) (by decide +kernel) dX11_undo_22 ?_
  refine a_aload_n C dX11_undo_25 0 rfl ?_
  refine a_getR C (k := 0) iX11 x_k0 rfl (j := 0) rfl (by decide) (by decide +kernel) dX11_undo_26 ?_
  refine a_callV C (k := 43) (As := [.ref (x_b G + 1)]) (rest := []) (c_X4_takeBack l G d 1 x_isS_1 (by omega) q z hq hz q8 z8 z1) (cwV 1 C.1.2.2.2.2 gX11_undo_X4_takeBack rfl rfl rfl (by decide +kernel) ⟨Nat.le_of_ble_eq_true rfl, Nat.le_of_ble_eq_true rfl⟩) x_k43 (q := (RX4, TX4, 3)) rfl rfl rfl rfl (Nat.le_of_ble_eq_true rfl) dX11_undo_29 ⟨Nat.le_of_ble_eq_true rfl, Nat.le_of_ble_eq_true rfl⟩ ?_
  refine a_aload_n C dX11_undo_32 0 rfl ?_
  refine a_getR C (k := 0) iX11 x_k0 rfl (j := 4) rfl (by decide) (by decide +kernel) dX11_undo_33 ?_
  refine a_getI C (k := 43) iX4 x_k43 rfl (j := 0) rfl (by decide) (by decide +kernel) dX11_undo_36 ?_
  refine a_top (y := (nI (z - 1))) (by unfold f_tkb; rw [x_p_at]) ?_
  exact a_iret C hlocks hr dX11_undo_39 rfl rfl

set_option maxHeartbeats 1000000 in
set_option maxRecDepth 100000 in
theorem c_F_save (l : Launch) (G : xG) (d : xd)  : x_M G l yX11_save wsX11_save 4 0 0 [.ref (x_b G + 0)] d (some (.int (d 2 0))) (x_p (f_cps d 29 1) 0 3 1) := by
  have iX11 : ∀ w ∈ u_ws RX11 TX11 13, w ∈ wsX11_save := by decide +kernel
  have iX5 : ∀ w ∈ u_ws RX5 TX5 8, w ∈ wsX11_save := by decide +kernel
  have iX9 : ∀ w ∈ u_ws RX9 TX9 3, w ∈ wsX11_save := by decide +kernel
  refine x_start (cc := cX11_save) (maxL := 1) (ret := (some .int)) (own := RX11) (by decide) rfl rfl (Nat.le_of_ble_eq_true rfl) (lst := [(0, .ref (x_b G + 0))]) rfl ?_
  intro p e s m args below meth c C hr hlocks
  refine a_aload_n C dX11_save_0 0 rfl ?_
  refine a_getR C (k := 0) iX11 x_k0 rfl (j := 2) rfl (by decide) (by decide +kernel) dX11_save_1 ?_
  refine a_aload_n C dX11_save_4 0 rfl ?_
  refine a_getR C (k := 0) iX11 x_k0 rfl (j := 0) rfl (by decide) (by decide +kernel) dX11_save_5 ?_
  refine a_callV C (k := 29) (As := [.ref (x_b G + 1)]) (rest := []) (c_X9_copyFrom l G d 29 1 x_isS_29 x_isS_1 (by omega)) (cwV 1 C.1.2.2.2.2 gX11_save_X9_copyFrom rfl rfl rfl (by decide +kernel) ⟨Nat.le_of_ble_eq_true rfl, Nat.le_of_ble_eq_true rfl⟩) (x_sS0 x_isS_29) (q := (RX9, TX9, 3)) rfl rfl rfl rfl (Nat.le_of_ble_eq_true rfl) dX11_save_8 ⟨Nat.le_of_ble_eq_true rfl, Nat.le_of_ble_eq_true rfl⟩ ?_
  refine a_aload_n C dX11_save_11 0 rfl ?_
  refine a_iconst C dX11_save_12 (v := 1) (by decide) ?_
  refine a_putI C (k := 0) iX11 tyX11_ok nmX11 x_k0 rfl (j := 3) rfl (by decide) (by decide +kernel) rfl (ty := .boolean) (by decide +kernel) rfl rfl dX11_save_13 ?_
  refine a_aload_n C dX11_save_16 0 rfl ?_
  refine a_getR C (k := 0) iX11 x_k0 rfl (j := 0) rfl (by decide) (by decide +kernel) dX11_save_17 ?_
  refine a_getR C (k := 1) iX9 (x_sS0 x_isS_1) rfl (j := 0) rfl (by decide) (by decide +kernel) dX11_save_20 ?_
  refine a_getI C (k := 2) iX5 (x_sS1 x_isS_1) rfl (j := 0) rfl (by decide) (by decide +kernel) dX11_save_23 ?_
  refine a_top (y := (((f_cps d 29 1)) 2 0)) (by first | rw [x_p_ne (by omega)] | rfl) ?_
  refine a_top (y := (d 2 0)) (by rw [f_cps_out (by omega)]) ?_
  exact a_iret C hlocks hr dX11_save_26 rfl rfl

set_option maxHeartbeats 1000000 in
set_option maxRecDepth 100000 in
theorem c_F_restore_3 (l : Launch) (hfl : l.stackTraces = false) (G : xG) (d : xd) (hs : d 0 3 = 0) : x_X G l yX11_restore wsX11_restore 4 [.ref (x_b G + 0)] d "java/lang/IllegalStateException" d := by
  have iX11 : ∀ w ∈ u_ws RX11 TX11 13, w ∈ wsX11_restore := by decide +kernel
  refine x_startX (cc := cX11_restore) (maxL := 1) (ret := (some .int)) (own := RX11) (by decide) rfl rfl (Nat.le_of_ble_eq_true rfl) (lst := [(0, .ref (x_b G + 0))]) rfl ?_
  intro p e s m args below meth c C hr hlocks
  refine a_aload_n C dX11_restore_0 0 rfl ?_
  refine a_getI C (k := 0) iX11 x_k0 rfl (j := 3) rfl (by decide) (by decide +kernel) dX11_restore_1 ?_
  refine a_top (y := 0) hs ?_
  refine a_if_ne C dX11_restore_4 (tgt := 18) (by decide) (fun h => absurd h (by decide)) (fun _ => ?_)
  exact a_throw C hr hlocks hfl (is := 371) (cls := "java/lang/IllegalStateException") (ic := 334) (ik := 330) (text := "there is no snapshot") (by decide) rfl (by decide +kernel) (by decide +kernel) (fun w hw => List.mem_cons_of_mem _ (List.mem_append_right _ hw)) dX11_restore_7 dX11_restore_10 dX11_restore_11 dX11_restore_14 dX11_restore_17 (Nat.le_of_ble_eq_true rfl) (Nat.le_of_ble_eq_true rfl) (by decide) (by decide) (rfl)

theorem f_cps_n {d : xd} {o o2 : Nat} : f_cps d o o2 (o + 1) 0 = d (o2 + 1) 0 := by
  unfold f_cps
  rw [f_cpb_out (by omega), f_cpm_out (by omega)]
  unfold f_cpl
  rw [x_r_ne2 (by omega), x_r_ne2 (by omega), x_r_ne2 (by omega), x_r_ne2 (by omega), x_r_ne2 (by omega), x_r_ne2 (by omega), x_r_ne2 (by omega), x_p_at]
set_option maxHeartbeats 1000000 in
set_option maxRecDepth 100000 in
theorem c_F_restore (l : Launch) (G : xG) (d : xd) (hs : ¬ d 0 3 = 0) : x_M G l yX11_restore wsX11_restore 4 0 0 [.ref (x_b G + 0)] d (some (.int (d 30 0))) (x_p (f_cps d 1 29) 43 0 0) := by
  have iX11 : ∀ w ∈ u_ws RX11 TX11 13, w ∈ wsX11_restore := by decide +kernel
  have iX4 : ∀ w ∈ u_ws RX4 TX4 3, w ∈ wsX11_restore := by decide +kernel
  have iX5 : ∀ w ∈ u_ws RX5 TX5 8, w ∈ wsX11_restore := by decide +kernel
  have iX9 : ∀ w ∈ u_ws RX9 TX9 3, w ∈ wsX11_restore := by decide +kernel
  refine x_start (cc := cX11_restore) (maxL := 1) (ret := (some .int)) (own := RX11) (by decide) rfl rfl (Nat.le_of_ble_eq_true rfl) (lst := [(0, .ref (x_b G + 0))]) rfl ?_
  intro p e s m args below meth c C hr hlocks
  refine a_aload_n C dX11_restore_0 0 rfl ?_
  refine a_getI C (k := 0) iX11 x_k0 rfl (j := 3) rfl (by decide) (by decide +kernel) dX11_restore_1 ?_
  refine a_if_ne C dX11_restore_4 (tgt := 18) (by decide) (fun h4 => ?_) (fun h => False.elim (hs h))
  refine a_aload_n C dX11_restore_18 0 rfl ?_
  refine a_getR C (k := 0) iX11 x_k0 rfl (j := 0) rfl (by decide) (by decide +kernel) dX11_restore_19 ?_
  refine a_aload_n C dX11_restore_22 0 rfl ?_
  refine a_getR C (k := 0) iX11 x_k0 rfl (j := 2) rfl (by decide) (by decide +kernel) dX11_restore_23 ?_
  refine a_callV C (k := 1) (As := [.ref (x_b G + 29)]) (rest := []) (c_X9_copyFrom l G d 1 29 x_isS_1 x_isS_29 (by omega)) (cwV 1 C.1.2.2.2.2 gX11_restore_X9_copyFrom rfl rfl rfl (by decide +kernel) ⟨Nat.le_of_ble_eq_true rfl, Nat.le_of_ble_eq_true rfl⟩) (x_sS0 x_isS_1) (q := (RX9, TX9, 3)) rfl rfl rfl rfl (Nat.le_of_ble_eq_true rfl) dX11_restore_26 ⟨Nat.le_of_ble_eq_true rfl, Nat.le_of_ble_eq_true rfl⟩ ?_
  refine a_aload_n C dX11_restore_29 0 rfl ?_
  refine a_getR C (k := 0) iX11 x_k0 rfl (j := 4) rfl (by decide) (by decide +kernel) dX11_restore_30 ?_
  refine a_iconst C dX11_restore_33 (v := 0) (by decide) ?_
  refine a_putI C (k := 43) iX4 tyX4_ok nmX4 x_k43 rfl (j := 0) rfl (by decide) (by decide +kernel) rfl (ty := .int) (by decide +kernel) rfl rfl dX11_restore_34 ?_
  refine a_aload_n C dX11_restore_37 0 rfl ?_
  refine a_getR C (k := 0) iX11 x_k0 rfl (j := 0) rfl (by decide) (by decide +kernel) dX11_restore_38 ?_
  refine a_getR C (k := 1) iX9 (x_sS0 x_isS_1) rfl (j := 0) rfl (by decide) (by decide +kernel) dX11_restore_41 ?_
  refine a_getI C (k := 2) iX5 (x_sS1 x_isS_1) rfl (j := 0) rfl (by decide) (by decide +kernel) dX11_restore_44 ?_
  refine a_top (y := (((f_cps d 1 29)) 2 0)) (by first | rw [x_p_ne (by omega)] | rfl) ?_
  refine a_top (y := (d 30 0)) f_cps_n ?_
  exact a_iret C hlocks hr dX11_restore_47 rfl rfl


