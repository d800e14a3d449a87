theorem f_rem_out {d : xd} {o q z k : Nat} (h : k < 43 ∨ 157 ≤ k) (q8 : q < 8) : f_rem d o q z k = d k := by
  unfold f_rem
  rw [x_p_ne (by omega), x_p_ne (by omega), f_cps_out (by omega)]
set_option maxHeartbeats 1000000 in
set_option maxRecDepth 100000 in
theorem c_F_raise (l : Launch) (G : xG) (d : xd)  : x_M G l yX11_raise wsX11_raise 1 0 0 [.ref (x_e G 1 0)] d none d := by
  refine x_start (cc := cX11_raise) (maxL := 1) (ret := none) (own := RX11) (by decide) rfl rfl (Nat.le_of_ble_eq_true rfl) (lst := [(0, .ref (x_e G 1 0))]) rfl ?_
  intro p e s m args below meth c C hr hlocks
  refine a_aload_n C dX11_raise_0 0 rfl ?_
  refine a_getsR C (i := 1) (by decide) (by decide +kernel) dX11_raise_1 ?_
  refine a_acmp_ne C dX11_raise_4 (tgt := 18) (by decide) (fun h4 => ?_) (fun h => False.elim (x_e1_ne C (by decide) (by decide) (by decide) h))
  refine a_aload_n C dX11_raise_18 0 rfl ?_
  refine a_getsR C (i := 2) (by decide) (by decide +kernel) dX11_raise_19 ?_
  refine a_acmp_ne C dX11_raise_22 (tgt := 36) (by decide) (fun h22 => ?_) (fun h => False.elim (x_e1_ne C (by decide) (by decide) (by decide) h))
  refine a_aload_n C dX11_raise_36 0 rfl ?_
  refine a_getsR C (i := 3) (by decide) (by decide +kernel) dX11_raise_37 ?_
  refine a_acmp_ne C dX11_raise_40 (tgt := 54) (by decide) (fun h40 => ?_) (fun h => False.elim (x_e1_ne C (by decide) (by decide) (by decide) h))
  exact a_vret C hlocks hr dX11_raise_54 rfl

set_option maxHeartbeats 1000000 in
set_option maxRecDepth 100000 in
theorem c_F_raise_1 (l : Launch) (hfl : l.stackTraces = false) (G : xG) (d : xd)  : x_X G l yX11_raise wsX11_raise 1 [.ref (x_e G 1 1)] d "java/lang/IndexOutOfBoundsException" d := by
  refine x_startX (cc := cX11_raise) (maxL := 1) (ret := none) (own := RX11) (by decide) rfl rfl (Nat.le_of_ble_eq_true rfl) (lst := [(0, .ref (x_e G 1 1))]) rfl ?_
  intro p e s m args below meth c C hr hlocks
  refine a_aload_n C dX11_raise_0 0 rfl ?_
  refine a_getsR C (i := 1) (by decide) (by decide +kernel) dX11_raise_1 ?_
  refine a_acmp_ne C dX11_raise_4 (tgt := 18) (by decide) (fun h => False.elim (h rfl)) (fun h4 => ?_)
  exact a_throw C hr hlocks hfl (is := 379) (cls := "java/lang/IndexOutOfBoundsException") (ic := 306) (ik := 302) (text := "there is no such lamp") (by decide) rfl (by decide +kernel) (by decide +kernel) (fun w hw => List.mem_cons_of_mem _ (List.mem_append_left _ (List.mem_append_left _ (List.mem_append_right _ hw)))) dX11_raise_7 dX11_raise_10 dX11_raise_11 dX11_raise_14 dX11_raise_17 (Nat.le_of_ble_eq_true rfl) (Nat.le_of_ble_eq_true rfl) (by decide) (by decide) (rfl)

set_option maxHeartbeats 1000000 in
set_option maxRecDepth 100000 in
theorem c_F_raise_2 (l : Launch) (hfl : l.stackTraces = false) (G : xG) (d : xd)  : x_X G l yX11_raise wsX11_raise 1 [.ref (x_e G 1 2)] d "java/lang/IllegalArgumentException" d := by
  refine x_startX (cc := cX11_raise) (maxL := 1) (ret := none) (own := RX11) (by decide) rfl rfl (Nat.le_of_ble_eq_true rfl) (lst := [(0, .ref (x_e G 1 2))]) rfl ?_
  intro p e s m args below meth c C hr hlocks
  refine a_aload_n C dX11_raise_0 0 rfl ?_
  refine a_getsR C (i := 1) (by decide) (by decide +kernel) dX11_raise_1 ?_
  refine a_acmp_ne C dX11_raise_4 (tgt := 18) (by decide) (fun h4 => ?_) (fun h => False.elim (x_e1_ne C (by decide) (by decide) (by decide) h))
  refine a_aload_n C dX11_raise_18 0 rfl ?_
  refine a_getsR C (i := 2) (by decide) (by decide +kernel) dX11_raise_19 ?_
  refine a_acmp_ne C dX11_raise_22 (tgt := 36) (by decide) (fun h => False.elim (h rfl)) (fun h22 => ?_)
  exact a_throw C hr hlocks hfl (is := 384) (cls := "java/lang/IllegalArgumentException") (ic := 266) (ik := 262) (text := "an argument is out of range") (by decide) rfl (by decide +kernel) (by decide +kernel) (fun w hw => List.mem_cons_of_mem _ (List.mem_append_left _ (List.mem_append_right _ hw))) dX11_raise_25 dX11_raise_28 dX11_raise_29 dX11_raise_32 dX11_raise_35 (Nat.le_of_ble_eq_true rfl) (Nat.le_of_ble_eq_true rfl) (by decide) (by decide) (rfl)

set_option maxHeartbeats 1000000 in
set_option maxRecDepth 100000 in
theorem c_F_raise_3 (l : Launch) (hfl : l.stackTraces = false) (G : xG) (d : xd)  : x_X G l yX11_raise wsX11_raise 1 [.ref (x_e G 1 3)] d "java/lang/IllegalStateException" d := by
  refine x_startX (cc := cX11_raise) (maxL := 1) (ret := none) (own := RX11) (by decide) rfl rfl (Nat.le_of_ble_eq_true rfl) (lst := [(0, .ref (x_e G 1 3))]) rfl ?_
  intro p e s m args below meth c C hr hlocks
  refine a_aload_n C dX11_raise_0 0 rfl ?_
  refine a_getsR C (i := 1) (by decide) (by decide +kernel) dX11_raise_1 ?_
  refine a_acmp_ne C dX11_raise_4 (tgt := 18) (by decide) (fun h4 => ?_) (fun h => False.elim (x_e1_ne C (by decide) (by decide) (by decide) h))
  refine a_aload_n C dX11_raise_18 0 rfl ?_
  refine a_getsR C (i := 2) (by decide) (by decide +kernel) dX11_raise_19 ?_
  refine a_acmp_ne C dX11_raise_22 (tgt := 36) (by decide) (fun h22 => ?_) (fun h => False.elim (x_e1_ne C (by decide) (by decide) (by decide) h))
  refine a_aload_n C dX11_raise_36 0 rfl ?_
  refine a_getsR C (i := 3) (by decide) (by decide +kernel) dX11_raise_37 ?_
  refine a_acmp_ne C dX11_raise_40 (tgt := 54) (by decide) (fun h => False.elim (h rfl)) (fun h40 => ?_)
  exact a_throw C hr hlocks hfl (is := 389) (cls := "java/lang/IllegalStateException") (ic := 334) (ik := 330) (text := "the cooperative cannot do this now") (by decide) rfl (by decide +kernel) (by decide +kernel) (fun w hw => List.mem_cons_of_mem _ (List.mem_append_right _ hw)) dX11_raise_43 dX11_raise_46 dX11_raise_47 dX11_raise_50 dX11_raise_53 (Nat.le_of_ble_eq_true rfl) (Nat.le_of_ble_eq_true rfl) (by decide) (by decide) (rfl)

theorem x_in0 {i n : Nat} (h : i < n) (hn : n < 1000) : 0 ≤ nI i ∧ nI i < nI n := ⟨nI_pos' (by omega), (nI_ltI (by omega) (by omega)).mpr h⟩
set_option maxHeartbeats 1000000 in
set_option maxRecDepth 100000 in
theorem c_F_requireLamp (l : Launch) (G : xG) (d : xd) (i n : Nat) (hn : d 2 0 = nI n) (h8 : n ≤ 8) (hi : i < n) : x_M G l yX11_requireLamp wsX11_requireLamp 2 0 0 [.ref (x_b G + 0), .int (nI i)] d none d := by
  have iX11 : ∀ w ∈ u_ws RX11 TX11 13, w ∈ wsX11_requireLamp := by decide +kernel
  have iX9 : ∀ w ∈ u_ws RX9 TX9 3, w ∈ wsX11_requireLamp := by decide +kernel
  refine x_start (cc := cX11_requireLamp) (maxL := 2) (ret := none) (own := RX11) (by decide) rfl rfl (Nat.le_of_ble_eq_true rfl) (lst := [(0, .ref (x_b G + 0)), (1, .int (nI i))]) rfl ?_
  intro p e s m args below meth c C hr hlocks
  refine a_aload_n C dX11_requireLamp_0 0 rfl ?_
  refine a_getR C (k := 0) iX11 x_k0 rfl (j := 0) rfl (by decide) (by decide +kernel) dX11_requireLamp_1 ?_
  refine a_getR C (k := 1) iX9 (x_sS0 x_isS_1) rfl (j := 0) rfl (by decide) (by decide +kernel) dX11_requireLamp_4 ?_
  refine a_iload_n C dX11_requireLamp_7 1 rfl ?_
  refine a_callV C (k := 2) (As := [.int (nI i)]) (rest := []) (c_X5_has l G d 1 x_isS_1 (nI i)) (cwV 1 C.1.2.2.2.2 gX11_requireLamp_X5_has rfl rfl rfl (by decide +kernel) ⟨Nat.le_of_ble_eq_true rfl, Nat.le_of_ble_eq_true rfl⟩) (x_sS1 x_isS_1) (q := (RX5, TX5, 8)) rfl rfl rfl rfl (Nat.le_of_ble_eq_true rfl) dX11_requireLamp_8 ⟨Nat.le_of_ble_eq_true rfl, Nat.le_of_ble_eq_true rfl⟩ ?_
  refine a_top (y := 1) ((by rw [show d (1 + 1) 0 = nI n from hn]; exact x_bi_t (x_in0 hi (by omega)))) ?_
  refine a_if_ne C dX11_requireLamp_11 (tgt := 25) (by decide) (fun _ => ?_) (fun h => absurd h (by decide))
  exact a_vret C hlocks hr dX11_requireLamp_25 rfl

set_option maxHeartbeats 1000000 in
set_option maxRecDepth 100000 in
theorem c_F_requireLamp_1 (l : Launch) (hfl : l.stackTraces = false) (G : xG) (d : xd) (x : Int32) (n : Nat) (hn : d 2 0 = nI n) (hx : ¬ (0 ≤ x ∧ x < nI n)) : x_X G l yX11_requireLamp wsX11_requireLamp 2 [.ref (x_b G + 0), .int x] d "java/lang/IndexOutOfBoundsException" d := by
  have iX11 : ∀ w ∈ u_ws RX11 TX11 13, w ∈ wsX11_requireLamp := by decide +kernel
  have iX9 : ∀ w ∈ u_ws RX9 TX9 3, w ∈ wsX11_requireLamp := by decide +kernel
  refine x_startX (cc := cX11_requireLamp) (maxL := 2) (ret := none) (own := RX11) (by decide) rfl rfl (Nat.le_of_ble_eq_true rfl) (lst := [(0, .ref (x_b G + 0)), (1, .int x)]) rfl ?_
  intro p e s m args below meth c C hr hlocks
  refine a_aload_n C dX11_requireLamp_0 0 rfl ?_
  refine a_getR C (k := 0) iX11 x_k0 rfl (j := 0) rfl (by decide) (by decide +kernel) dX11_requireLamp_1 ?_
  refine a_getR C (k := 1) iX9 (x_sS0 x_isS_1) rfl (j := 0) rfl (by decide) (by decide +kernel) dX11_requireLamp_4 ?_
  refine a_iload_n C dX11_requireLamp_7 1 rfl ?_
  refine a_callV C (k := 2) (As := [.int x]) (rest := []) (c_X5_has l G d 1 x_isS_1 x) (cwV 1 C.1.2.2.2.2 gX11_requireLamp_X5_has rfl rfl rfl (by decide +kernel) ⟨Nat.le_of_ble_eq_true rfl, Nat.le_of_ble_eq_true rfl⟩) (x_sS1 x_isS_1) (q := (RX5, TX5, 8)) rfl rfl rfl rfl (Nat.le_of_ble_eq_true rfl) dX11_requireLamp_8 ⟨Nat.le_of_ble_eq_true rfl, Nat.le_of_ble_eq_true rfl⟩ ?_
  refine a_top (y := 0) ((by rw [show d (1 + 1) 0 = nI n from hn]; exact x_bi_f hx)) ?_
  refine a_if_ne C dX11_requireLamp_11 (tgt := 25) (by decide) (fun h => absurd h (by decide)) (fun _ => ?_)
  exact a_throw C hr hlocks hfl (is := 379) (cls := "java/lang/IndexOutOfBoundsException") (ic := 306) (ik := 302) (text := "there is no such lamp") (by decide) rfl (by decide +kernel) (by decide +kernel) (fun w hw => List.mem_cons_of_mem _ (List.mem_append_right _ hw)) dX11_requireLamp_14 dX11_requireLamp_17 dX11_requireLamp_18 dX11_requireLamp_21 dX11_requireLamp_24 (Nat.le_of_ble_eq_true rfl) (Nat.le_of_ble_eq_true rfl) (by decide) (by decide) (rfl)

set_option maxHeartbeats 1000000 in
set_option maxRecDepth 100000 in
theorem c_F_requireMoth (l : Launch) (G : xG) (d : xd) (i m9 : Nat) (hm : d 10 0 = nI m9) (h6 : m9 ≤ 6) (hi : i < m9) : x_M G l yX11_requireMoth wsX11_requireMoth 2 0 0 [.ref (x_b G + 0), .int (nI i)] d none d := by
  have iX11 : ∀ w ∈ u_ws RX11 TX11 13, w ∈ wsX11_requireMoth := by decide +kernel
  have iX9 : ∀ w ∈ u_ws RX9 TX9 3, w ∈ wsX11_requireMoth := by decide +kernel
  refine x_start (cc := cX11_requireMoth) (maxL := 2) (ret := none) (own := RX11) (by decide) rfl rfl (Nat.le_of_ble_eq_true rfl) (lst := [(0, .ref (x_b G + 0)), (1, .int (nI i))]) rfl ?_
  intro p e s m args below meth c C hr hlocks
  refine a_aload_n C dX11_requireMoth_0 0 rfl ?_
  refine a_getR C (k := 0) iX11 x_k0 rfl (j := 0) rfl (by decide) (by decide +kernel) dX11_requireMoth_1 ?_
  refine a_getR C (k := 1) iX9 (x_sS0 x_isS_1) rfl (j := 1) rfl (by decide) (by decide +kernel) dX11_requireMoth_4 ?_
  refine a_iload_n C dX11_requireMoth_7 1 rfl ?_
  refine a_callV C (k := 10) (As := [.int (nI i)]) (rest := []) (c_X6_has l G d 1 x_isS_1 (nI i)) (cwV 1 C.1.2.2.2.2 gX11_requireMoth_X6_has rfl rfl rfl (by decide +kernel) ⟨Nat.le_of_ble_eq_true rfl, Nat.le_of_ble_eq_true rfl⟩) (x_sS9 x_isS_1) (q := (RX6, TX6, 4)) rfl rfl rfl rfl (Nat.le_of_ble_eq_true rfl) dX11_requireMoth_8 ⟨Nat.le_of_ble_eq_true rfl, Nat.le_of_ble_eq_true rfl⟩ ?_
  refine a_top (y := 1) ((by rw [show d (1 + 9) 0 = nI m9 from hm]; exact x_bi_t (x_in0 hi (by omega)))) ?_
  refine a_if_ne C dX11_requireMoth_11 (tgt := 25) (by decide) (fun _ => ?_) (fun h => absurd h (by decide))
  exact a_vret C hlocks hr dX11_requireMoth_25 rfl

set_option maxHeartbeats 1000000 in
set_option maxRecDepth 100000 in
theorem c_F_requireMoth_1 (l : Launch) (hfl : l.stackTraces = false) (G : xG) (d : xd) (x : Int32) (m9 : Nat) (hm : d 10 0 = nI m9) (hx : ¬ (0 ≤ x ∧ x < nI m9)) : x_X G l yX11_requireMoth wsX11_requireMoth 2 [.ref (x_b G + 0), .int x] d "java/lang/IndexOutOfBoundsException" d := by
  have iX11 : ∀ w ∈ u_ws RX11 TX11 13, w ∈ wsX11_requireMoth := by decide +kernel
  have iX9 : ∀ w ∈ u_ws RX9 TX9 3, w ∈ wsX11_requireMoth := by decide +kernel
  refine x_startX (cc := cX11_requireMoth) (maxL := 2) (ret := none) (own := RX11) (by decide) rfl rfl (Nat.le_of_ble_eq_true rfl) (lst := [(0, .ref (x_b G + 0)), (1, .int x)]) rfl ?_
  intro p e s m args below meth c C hr hlocks
  refine a_aload_n C dX11_requireMoth_0 0 rfl ?_
  refine a_getR C (k := 0) iX11 x_k0 rfl (j := 0) rfl (by decide) (by decide +kernel) dX11_requireMoth_1 ?_
  refine a_getR C (k := 1) iX9 (x_sS0 x_isS_1) rfl (j := 1) rfl (by decide) (by decide +kernel) dX11_requireMoth_4 ?_
  refine a_iload_n C dX11_requireMoth_7 1 rfl ?_
  refine a_callV C (k := 10) (As := [.int x]) (rest := []) (c_X6_has l G d 1 x_isS_1 x) (cwV 1 C.1.2.2.2.2 gX11_requireMoth_X6_has rfl rfl rfl (by decide +kernel) ⟨Nat.le_of_ble_eq_true rfl, Nat.le_of_ble_eq_true rfl⟩) (x_sS9 x_isS_1) (q := (RX6, TX6, 4)) rfl rfl rfl rfl (Nat.le_of_ble_eq_true rfl) dX11_requireMoth_8 ⟨Nat.le_of_ble_eq_true rfl, Nat.le_of_ble_eq_true rfl⟩ ?_
  refine a_top (y := 0) ((by rw [show d (1 + 9) 0 = nI m9 from hm]; exact x_bi_f hx)) ?_
  refine a_if_ne C dX11_requireMoth_11 (tgt := 25) (by decide) (fun h => absurd h (by decide)) (fun _ => ?_)
  exact a_throw C hr hlocks hfl (is := 395) (cls := "java/lang/IndexOutOfBoundsException") (ic := 306) (ik := 302) (text := "there is no such moth") (by decide) rfl (by decide +kernel) (by decide +kernel) (fun w hw => List.mem_cons_of_mem _ (List.mem_append_right _ hw)) dX11_requireMoth_14 dX11_requireMoth_17 dX11_requireMoth_18 dX11_requireMoth_21 dX11_requireMoth_24 (Nat.le_of_ble_eq_true rfl) (Nat.le_of_ble_eq_true rfl) (by decide) (by decide) (rfl)

theorem c_within_t (l : Launch) (G : xG) (d : xd) (x lo hi : Int32) (h : lo ≤ x ∧ x ≤ hi) : x_M G l yX11_within wsX11_within 1 0 0 [.int x, .int lo, .int hi] d (some (.int 1)) d := by
  have q := c_X11_within l G d x lo hi
  rwa [x_bi_t h] at q
theorem c_within_f (l : Launch) (G : xG) (d : xd) (x lo hi : Int32) (h : ¬ (lo ≤ x ∧ x ≤ hi)) : x_M G l yX11_within wsX11_within 1 0 0 [.int x, .int lo, .int hi] d (some (.int 0)) d := by
  have q := c_X11_within l G d x lo hi
  rwa [x_bi_f h] at q
set_option maxHeartbeats 1000000 in
set_option maxRecDepth 100000 in
theorem c_F_requireStreet (l : Launch) (G : xG) (d : xd) (x : Int32) (hx : 0 ≤ x ∧ x ≤ 3) : x_M G l yX11_requireStreet wsX11_requireStreet 2 0 0 [.int x] d none d := by
  refine x_start (cc := cX11_requireStreet) (maxL := 1) (ret := none) (own := RX11) (by decide) rfl rfl (Nat.le_of_ble_eq_true rfl) (lst := [(0, .int x)]) rfl ?_
  intro p e s m args below meth c C hr hlocks
  refine a_iload_n C dX11_requireStreet_0 0 rfl ?_
  refine a_iconst C dX11_requireStreet_1 (v := 0) (by decide) ?_
  refine a_iconst C dX11_requireStreet_2 (v := 3) (by decide) ?_
  refine a_callS C (As := [.int x, .int 0, .int 3]) (rest := []) (c_within_t l G d x 0 3 hx) (va_cwS 3 C.1.2.2.2.2 gX11_requireStreet_X11_within rfl rfl rfl (by decide +kernel) ⟨Nat.le_of_ble_eq_true rfl, Nat.le_of_ble_eq_true rfl⟩) rfl rfl (Nat.le_of_ble_eq_true rfl) dX11_requireStreet_3 ⟨Nat.le_of_ble_eq_true rfl, Nat.le_of_ble_eq_true rfl⟩ ?_
  refine a_if_ne C dX11_requireStreet_6 (tgt := 20) (by decide) (fun _ => ?_) (fun h => absurd h (by decide))
  exact a_vret C hlocks hr dX11_requireStreet_20 rfl

set_option maxHeartbeats 1000000 in
set_option maxRecDepth 100000 in
theorem c_F_requireStreet_1 (l : Launch) (hfl : l.stackTraces = false) (G : xG) (d : xd) (x : Int32) (hx : ¬ (0 ≤ x ∧ x ≤ 3)) : x_X G l yX11_requireStreet wsX11_requireStreet 2 [.int x] d "java/lang/IndexOutOfBoundsException" d := by
  refine x_startX (cc := cX11_requireStreet) (maxL := 1) (ret := none) (own := RX11) (by decide) rfl rfl (Nat.le_of_ble_eq_true rfl) (lst := [(0, .int x)]) rfl ?_
  intro p e s m args below meth c C hr hlocks
  refine a_iload_n C dX11_requireStreet_0 0 rfl ?_
  refine a_iconst C dX11_requireStreet_1 (v := 0) (by decide) ?_
  refine a_iconst C dX11_requireStreet_2 (v := 3) (by decide) ?_
  refine a_callS C (As := [.int x, .int 0, .int 3]) (rest := []) (c_within_f l G d x 0 3 hx) (va_cwS 3 C.1.2.2.2.2 gX11_requireStreet_X11_within rfl rfl rfl (by decide +kernel) ⟨Nat.le_of_ble_eq_true rfl, Nat.le_of_ble_eq_true rfl⟩) rfl rfl (Nat.le_of_ble_eq_true rfl) dX11_requireStreet_3 ⟨Nat.le_of_ble_eq_true rfl, Nat.le_of_ble_eq_true rfl⟩ ?_
  refine a_if_ne C dX11_requireStreet_6 (tgt := 20) (by decide) (fun h => absurd h (by decide)) (fun _ => ?_)
  exact a_throw C hr hlocks hfl (is := 397) (cls := "java/lang/IndexOutOfBoundsException") (ic := 306) (ik := 302) (text := "there is no such street") (by decide) rfl (by decide +kernel) (by decide +kernel) (fun w hw => List.mem_cons_of_mem _ (List.mem_append_right _ hw)) dX11_requireStreet_9 dX11_requireStreet_12 dX11_requireStreet_13 dX11_requireStreet_16 dX11_requireStreet_19 (Nat.le_of_ble_eq_true rfl) (Nat.le_of_ble_eq_true rfl) (by decide) (by decide) (rfl)

set_option maxHeartbeats 1000000 in
set_option maxRecDepth 100000 in
theorem c_F_streetOf (l : Launch) (G : xG) (d : xd) (i n : Nat) (hn : d 2 0 = nI n) (h8 : n ≤ 8) (hi : i < n) : x_M G l yX11_streetOf wsX11_streetOf 3 0 0 [.ref (x_b G + 0), .int (nI i)] d (some (.int (d 3 i))) d := by
  have iX11 : ∀ w ∈ u_ws RX11 TX11 13, w ∈ wsX11_streetOf := by decide +kernel
  have iX5 : ∀ w ∈ u_ws RX5 TX5 8, w ∈ wsX11_streetOf := by decide +kernel
  have iX9 : ∀ w ∈ u_ws RX9 TX9 3, w ∈ wsX11_streetOf := by decide +kernel
  refine x_start (cc := cX11_streetOf) (maxL := 2) (ret := (some .int)) (own := RX11) (by decide) rfl rfl (Nat.le_of_ble_eq_true rfl) (lst := [(0, .ref (x_b G + 0)), (1, .int (nI i))]) rfl ?_
  intro p e s m args below meth c C hr hlocks
  refine a_aload_n C dX11_streetOf_0 0 rfl ?_
  refine a_iload_n C dX11_streetOf_1 1 rfl ?_
  refine a_callV C (k := 0) (As := [.int (nI i)]) (rest := []) (c_F_requireLamp l G d i n hn h8 hi) (cwV 1 C.1.2.2.2.2 gX11_streetOf_X11_requireLamp rfl rfl rfl (by decide +kernel) ⟨Nat.le_of_ble_eq_true rfl, Nat.le_of_ble_eq_true rfl⟩) x_k0 (q := (RX11, TX11, 13)) rfl rfl rfl rfl (Nat.le_of_ble_eq_true rfl) dX11_streetOf_2 ⟨Nat.le_of_ble_eq_true rfl, Nat.le_of_ble_eq_true rfl⟩ ?_
  refine a_aload_n C dX11_streetOf_5 0 rfl ?_
  refine a_getR C (k := 0) iX11 x_k0 rfl (j := 0) rfl (by decide) (by decide +kernel) dX11_streetOf_6 ?_
  refine a_getR C (k := 1) iX9 (x_sS0 x_isS_1) rfl (j := 0) rfl (by decide) (by decide +kernel) dX11_streetOf_9 ?_
  refine a_getR C (k := 2) iX5 (x_sS1 x_isS_1) rfl (j := 1) rfl (by decide) (by decide +kernel) dX11_streetOf_12 ?_
  refine a_iload_n C dX11_streetOf_15 1 rfl ?_
  refine a_ialdN C (k := 3) (x_sS2 x_isS_1) (i := i) rfl (by omega) (by first | decide | omega) dX11_streetOf_16 ?_
  exact a_iret C hlocks hr dX11_streetOf_17 rfl rfl

set_option maxHeartbeats 1000000 in
set_option maxRecDepth 100000 in
theorem c_F_streetOf_1 (l : Launch) (hfl : l.stackTraces = false) (G : xG) (d : xd) (x : Int32) (n : Nat) (hn : d 2 0 = nI n) (hx : ¬ (0 ≤ x ∧ x < nI n)) : x_X G l yX11_streetOf wsX11_streetOf 3 [.ref (x_b G + 0), .int x] d "java/lang/IndexOutOfBoundsException" d := by
  refine x_startX (cc := cX11_streetOf) (maxL := 2) (ret := (some .int)) (own := RX11) (by decide) rfl rfl (Nat.le_of_ble_eq_true rfl) (lst := [(0, .ref (x_b G + 0)), (1, .int x)]) rfl ?_
  intro p e s m args below meth c C hr hlocks
  refine a_aload_n C dX11_streetOf_0 0 rfl ?_
  refine a_iload_n C dX11_streetOf_1 1 rfl ?_
  exact a_callVX C hr hlocks (k := 0) (As := [.int x]) (rest := []) (c_F_requireLamp_1 l hfl G d x n hn hx) (cwV 1 C.1.2.2.2.2 gX11_streetOf_X11_requireLamp rfl rfl rfl (by decide +kernel) ⟨Nat.le_of_ble_eq_true rfl, Nat.le_of_ble_eq_true rfl⟩) x_k0 (q := (RX11, TX11, 13)) rfl rfl rfl rfl (Nat.le_of_ble_eq_true rfl) dX11_streetOf_2 (by decide) (by decide) (by decide) rfl

set_option maxHeartbeats 1000000 in
set_option maxRecDepth 100000 in
theorem c_F_sharesOf (l : Launch) (G : xG) (d : xd) (i n : Nat) (hn : d 2 0 = nI n) (h8 : n ≤ 8) (hi : i < n) : x_M G l yX11_sharesOf wsX11_sharesOf 3 0 0 [.ref (x_b G + 0), .int (nI i)] d (some (.int (d 4 i))) d := by
  have iX11 : ∀ w ∈ u_ws RX11 TX11 13, w ∈ wsX11_sharesOf := by decide +kernel
  have iX5 : ∀ w ∈ u_ws RX5 TX5 8, w ∈ wsX11_sharesOf := by decide +kernel
  have iX9 : ∀ w ∈ u_ws RX9 TX9 3, w ∈ wsX11_sharesOf := by decide +kernel
  refine x_start (cc := cX11_sharesOf) (maxL := 2) (ret := (some .int)) (own := RX11) (by decide) rfl rfl (Nat.le_of_ble_eq_true rfl) (lst := [(0, .ref (x_b G + 0)), (1, .int (nI i))]) rfl ?_
  intro p e s m args below meth c C hr hlocks
  refine a_aload_n C dX11_sharesOf_0 0 rfl ?_
  refine a_iload_n C dX11_sharesOf_1 1 rfl ?_
  refine a_callV C (k := 0) (As := [.int (nI i)]) (rest := []) (c_F_requireLamp l G d i n hn h8 hi) (cwV 1 C.1.2.2.2.2 gX11_sharesOf_X11_requireLamp rfl rfl rfl (by decide +kernel) ⟨Nat.le_of_ble_eq_true rfl, Nat.le_of_ble_eq_true rfl⟩) x_k0 (q := (RX11, TX11, 13)) rfl rfl rfl rfl (Nat.le_of_ble_eq_true rfl) dX11_sharesOf_2 ⟨Nat.le_of_ble_eq_true rfl, Nat.le_of_ble_eq_true rfl⟩ ?_
  refine a_aload_n C dX11_sharesOf_5 0 rfl ?_
  refine a_getR C (k := 0) iX11 x_k0 rfl (j := 0) rfl (by decide) (by decide +kernel) dX11_sharesOf_6 ?_
  refine a_getR C (k := 1) iX9 (x_sS0 x_isS_1) rfl (j := 0) rfl (by decide) (by decide +kernel) dX11_sharesOf_9 ?_
  refine a_getR C (k := 2) iX5 (x_sS1 x_isS_1) rfl (j := 2) rfl (by decide) (by decide +kernel) dX11_sharesOf_12 ?_
  refine a_iload_n C dX11_sharesOf_15 1 rfl ?_
  refine a_ialdN C (k := 4) (x_sS3 x_isS_1) (i := i) rfl (by omega) (by first | decide | omega) dX11_sharesOf_16 ?_
  exact a_iret C hlocks hr dX11_sharesOf_17 rfl rfl

set_option maxHeartbeats 1000000 in
set_option maxRecDepth 100000 in
theorem c_F_sharesOf_1 (l : Launch) (hfl : l.stackTraces = false) (G : xG) (d : xd) (x : Int32) (n : Nat) (hn : d 2 0 = nI n) (hx : ¬ (0 ≤ x ∧ x < nI n)) : x_X G l yX11_sharesOf wsX11_sharesOf 3 [.ref (x_b G + 0), .int x] d "java/lang/IndexOutOfBoundsException" d := by
  refine x_startX (cc := cX11_sharesOf) (maxL := 2) (ret := (some .int)) (own := RX11) (by decide) rfl rfl (Nat.le_of_ble_eq_true rfl) (lst := [(0, .ref (x_b G + 0)), (1, .int x)]) rfl ?_
  intro p e s m args below meth c C hr hlocks
  refine a_aload_n C dX11_sharesOf_0 0 rfl ?_
  refine a_iload_n C dX11_sharesOf_1 1 rfl ?_
  exact a_callVX C hr hlocks (k := 0) (As := [.int x]) (rest := []) (c_F_requireLamp_1 l hfl G d x n hn hx) (cwV 1 C.1.2.2.2.2 gX11_sharesOf_X11_requireLamp rfl rfl rfl (by decide +kernel) ⟨Nat.le_of_ble_eq_true rfl, Nat.le_of_ble_eq_true rfl⟩) x_k0 (q := (RX11, TX11, 13)) rfl rfl rfl rfl (Nat.le_of_ble_eq_true rfl) dX11_sharesOf_2 (by decide) (by decide) (by decide) rfl

set_option maxHeartbeats 1000000 in
set_option maxRecDepth 100000 in
theorem c_F_brightnessOf (l : Launch) (G : xG) (d : xd) (i n : Nat) (hn : d 2 0 = nI n) (h8 : n ≤ 8) (hi : i < n) : x_M G l yX11_brightnessOf wsX11_brightnessOf 3 0 0 [.ref (x_b G + 0), .int (nI i)] d (some (.int (d 5 i))) d := by
  have iX11 : ∀ w ∈ u_ws RX11 TX11 13, w ∈ wsX11_brightnessOf := by decide +kernel
  have iX5 : ∀ w ∈ u_ws RX5 TX5 8, w ∈ wsX11_brightnessOf := by decide +kernel
  have iX9 : ∀ w ∈ u_ws RX9 TX9 3, w ∈ wsX11_brightnessOf := by decide +kernel
  refine x_start (cc := cX11_brightnessOf) (maxL := 2) (ret := (some .int)) (own := RX11) (by decide) rfl rfl (Nat.le_of_ble_eq_true rfl) (lst := [(0, .ref (x_b G + 0)), (1, .int (nI i))]) rfl ?_
  intro p e s m args below meth c C hr hlocks
  refine a_aload_n C dX11_brightnessOf_0 0 rfl ?_
  refine a_iload_n C dX11_brightnessOf_1 1 rfl ?_
  refine a_callV C (k := 0) (As := [.int (nI i)]) (rest := []) (c_F_requireLamp l G d i n hn h8 hi) (cwV 1 C.1.2.2.2.2 gX11_brightnessOf_X11_requireLamp rfl rfl rfl (by decide +kernel) ⟨Nat.le_of_ble_eq_true rfl, Nat.le_of_ble_eq_true rfl⟩) x_k0 (q := (RX11, TX11, 13)) rfl rfl rfl rfl (Nat.le_of_ble_eq_true rfl) dX11_brightnessOf_2 ⟨Nat.le_of_ble_eq_true rfl, Nat.le_of_ble_eq_true rfl⟩ ?_
  refine a_aload_n C dX11_brightnessOf_5 0 rfl ?_
  refine a_getR C (k := 0) iX11 x_k0 rfl (j := 0) rfl (by decide) (by decide +kernel) dX11_brightnessOf_6 ?_
  refine a_getR C (k := 1) iX9 (x_sS0 x_isS_1) rfl (j := 0) rfl (by decide) (by decide +kernel) dX11_brightnessOf_9 ?_
  refine a_getR C (k := 2) iX5 (x_sS1 x_isS_1) rfl (j := 3) rfl (by decide) (by decide +kernel) dX11_brightnessOf_12 ?_
  refine a_iload_n C dX11_brightnessOf_15 1 rfl ?_
  refine a_ialdN C (k := 5) (x_sS4 x_isS_1) (i := i) rfl (by omega) (by first | decide | omega) dX11_brightnessOf_16 ?_
  exact a_iret C hlocks hr dX11_brightnessOf_17 rfl rfl

set_option maxHeartbeats 1000000 in
set_option maxRecDepth 100000 in
theorem c_F_brightnessOf_1 (l : Launch) (hfl : l.stackTraces = false) (G : xG) (d : xd) (x : Int32) (n : Nat) (hn : d 2 0 = nI n) (hx : ¬ (0 ≤ x ∧ x < nI n)) : x_X G l yX11_brightnessOf wsX11_brightnessOf 3 [.ref (x_b G + 0), .int x] d "java/lang/IndexOutOfBoundsException" d := by
  refine x_startX (cc := cX11_brightnessOf) (maxL := 2) (ret := (some .int)) (own := RX11) (by decide) rfl rfl (Nat.le_of_ble_eq_true rfl) (lst := [(0, .ref (x_b G + 0)), (1, .int x)]) rfl ?_
  intro p e s m args below meth c C hr hlocks
  refine a_aload_n C dX11_brightnessOf_0 0 rfl ?_
  refine a_iload_n C dX11_brightnessOf_1 1 rfl ?_
  exact a_callVX C hr hlocks (k := 0) (As := [.int x]) (rest := []) (c_F_requireLamp_1 l hfl G d x n hn hx) (cwV 1 C.1.2.2.2.2 gX11_brightnessOf_X11_requireLamp rfl rfl rfl (by decide +kernel) ⟨Nat.le_of_ble_eq_true rfl, Nat.le_of_ble_eq_true rfl⟩) x_k0 (q := (RX11, TX11, 13)) rfl rfl rfl rfl (Nat.le_of_ble_eq_true rfl) dX11_brightnessOf_2 (by decide) (by decide) (by decide) rfl

set_option maxHeartbeats 1000000 in
set_option maxRecDepth 100000 in
theorem c_F_isOn (l : Launch) (G : xG) (d : xd) (i n : Nat) (hn : d 2 0 = nI n) (h8 : n ≤ 8) (hi : i < n) : x_M G l yX11_isOn wsX11_isOn 3 0 0 [.ref (x_b G + 0), .int (nI i)] d (some (.int (x_bz (d 6 i)))) d := by
  have iX11 : ∀ w ∈ u_ws RX11 TX11 13, w ∈ wsX11_isOn := by decide +kernel
  have iX5 : ∀ w ∈ u_ws RX5 TX5 8, w ∈ wsX11_isOn := by decide +kernel
  have iX9 : ∀ w ∈ u_ws RX9 TX9 3, w ∈ wsX11_isOn := by decide +kernel
  refine x_start (cc := cX11_isOn) (maxL := 2) (ret := (some .boolean)) (own := RX11) (by decide) rfl rfl (Nat.le_of_ble_eq_true rfl) (lst := [(0, .ref (x_b G + 0)), (1, .int (nI i))]) rfl ?_
  intro p e s m args below meth c C hr hlocks
  refine a_aload_n C dX11_isOn_0 0 rfl ?_
  refine a_iload_n C dX11_isOn_1 1 rfl ?_
  refine a_callV C (k := 0) (As := [.int (nI i)]) (rest := []) (c_F_requireLamp l G d i n hn h8 hi) (cwV 1 C.1.2.2.2.2 gX11_isOn_X11_requireLamp rfl rfl rfl (by decide +kernel) ⟨Nat.le_of_ble_eq_true rfl, Nat.le_of_ble_eq_true rfl⟩) x_k0 (q := (RX11, TX11, 13)) rfl rfl rfl rfl (Nat.le_of_ble_eq_true rfl) dX11_isOn_2 ⟨Nat.le_of_ble_eq_true rfl, Nat.le_of_ble_eq_true rfl⟩ ?_
  refine a_aload_n C dX11_isOn_5 0 rfl ?_
  refine a_getR C (k := 0) iX11 x_k0 rfl (j := 0) rfl (by decide) (by decide +kernel) dX11_isOn_6 ?_
  refine a_getR C (k := 1) iX9 (x_sS0 x_isS_1) rfl (j := 0) rfl (by decide) (by decide +kernel) dX11_isOn_9 ?_
  refine a_getR C (k := 2) iX5 (x_sS1 x_isS_1) rfl (j := 4) rfl (by decide) (by decide +kernel) dX11_isOn_12 ?_
  refine a_iload_n C dX11_isOn_15 1 rfl ?_
  refine a_zaldN C (k := 6) (x_sS5 x_isS_1) (i := i) rfl (by omega) (by first | decide | omega) dX11_isOn_16 ?_
  exact a_zret C hlocks hr (x_nbz _) dX11_isOn_17 rfl rfl

set_option maxHeartbeats 1000000 in
set_option maxRecDepth 100000 in
theorem c_F_isOn_1 (l : Launch) (hfl : l.stackTraces = false) (G : xG) (d : xd) (x : Int32) (n : Nat) (hn : d 2 0 = nI n) (hx : ¬ (0 ≤ x ∧ x < nI n)) : x_X G l yX11_isOn wsX11_isOn 3 [.ref (x_b G + 0), .int x] d "java/lang/IndexOutOfBoundsException" d := by
  refine x_startX (cc := cX11_isOn) (maxL := 2) (ret := (some .boolean)) (own := RX11) (by decide) rfl rfl (Nat.le_of_ble_eq_true rfl) (lst := [(0, .ref (x_b G + 0)), (1, .int x)]) rfl ?_
  intro p e s m args below meth c C hr hlocks
  refine a_aload_n C dX11_isOn_0 0 rfl ?_
  refine a_iload_n C dX11_isOn_1 1 rfl ?_
  exact a_callVX C hr hlocks (k := 0) (As := [.int x]) (rest := []) (c_F_requireLamp_1 l hfl G d x n hn hx) (cwV 1 C.1.2.2.2.2 gX11_isOn_X11_requireLamp rfl rfl rfl (by decide +kernel) ⟨Nat.le_of_ble_eq_true rfl, Nat.le_of_ble_eq_true rfl⟩) x_k0 (q := (RX11, TX11, 13)) rfl rfl rfl rfl (Nat.le_of_ble_eq_true rfl) dX11_isOn_2 (by decide) (by decide) (by decide) rfl

set_option maxHeartbeats 1000000 in
set_option maxRecDepth 100000 in
theorem c_F_oilOf (l : Launch) (G : xG) (d : xd) (i n : Nat) (hn : d 2 0 = nI n) (h8 : n ≤ 8) (hi : i < n) : x_M G l yX11_oilOf wsX11_oilOf 3 0 0 [.ref (x_b G + 0), .int (nI i)] d (some (.int (d 7 i))) d := by
  have iX11 : ∀ w ∈ u_ws RX11 TX11 13, w ∈ wsX11_oilOf := by decide +kernel
  have iX5 : ∀ w ∈ u_ws RX5 TX5 8, w ∈ wsX11_oilOf := by decide +kernel
  have iX9 : ∀ w ∈ u_ws RX9 TX9 3, w ∈ wsX11_oilOf := by decide +kernel
  refine x_start (cc := cX11_oilOf) (maxL := 2) (ret := (some .int)) (own := RX11) (by decide) rfl rfl (Nat.le_of_ble_eq_true rfl) (lst := [(0, .ref (x_b G + 0)), (1, .int (nI i))]) rfl ?_
  intro p e s m args below meth c C hr hlocks
  refine a_aload_n C dX11_oilOf_0 0 rfl ?_
  refine a_iload_n C dX11_oilOf_1 1 rfl ?_
  refine a_callV C (k := 0) (As := [.int (nI i)]) (rest := []) (c_F_requireLamp l G d i n hn h8 hi) (cwV 1 C.1.2.2.2.2 gX11_oilOf_X11_requireLamp rfl rfl rfl (by decide +kernel) ⟨Nat.le_of_ble_eq_true rfl, Nat.le_of_ble_eq_true rfl⟩) x_k0 (q := (RX11, TX11, 13)) rfl rfl rfl rfl (Nat.le_of_ble_eq_true rfl) dX11_oilOf_2 ⟨Nat.le_of_ble_eq_true rfl, Nat.le_of_ble_eq_true rfl⟩ ?_
  refine a_aload_n C dX11_oilOf_5 0 rfl ?_
  refine a_getR C (k := 0) iX11 x_k0 rfl (j := 0) rfl (by decide) (by decide +kernel) dX11_oilOf_6 ?_
  refine a_getR C (k := 1) iX9 (x_sS0 x_isS_1) rfl (j := 0) rfl (by decide) (by decide +kernel) dX11_oilOf_9 ?_
  refine a_getR C (k := 2) iX5 (x_sS1 x_isS_1) rfl (j := 5) rfl (by decide) (by decide +kernel) dX11_oilOf_12 ?_
  refine a_iload_n C dX11_oilOf_15 1 rfl ?_
  refine a_ialdN C (k := 7) (x_sS6 x_isS_1) (i := i) rfl (by omega) (by first | decide | omega) dX11_oilOf_16 ?_
  exact a_iret C hlocks hr dX11_oilOf_17 rfl rfl

set_option maxHeartbeats 1000000 in
set_option maxRecDepth 100000 in
theorem c_F_oilOf_1 (l : Launch) (hfl : l.stackTraces = false) (G : xG) (d : xd) (x : Int32) (n : Nat) (hn : d 2 0 = nI n) (hx : ¬ (0 ≤ x ∧ x < nI n)) : x_X G l yX11_oilOf wsX11_oilOf 3 [.ref (x_b G + 0), .int x] d "java/lang/IndexOutOfBoundsException" d := by
  refine x_startX (cc := cX11_oilOf) (maxL := 2) (ret := (some .int)) (own := RX11) (by decide) rfl rfl (Nat.le_of_ble_eq_true rfl) (lst := [(0, .ref (x_b G + 0)), (1, .int x)]) rfl ?_
  intro p e s m args below meth c C hr hlocks
  refine a_aload_n C dX11_oilOf_0 0 rfl ?_
  refine a_iload_n C dX11_oilOf_1 1 rfl ?_
  exact a_callVX C hr hlocks (k := 0) (As := [.int x]) (rest := []) (c_F_requireLamp_1 l hfl G d x n hn hx) (cwV 1 C.1.2.2.2.2 gX11_oilOf_X11_requireLamp rfl rfl rfl (by decide +kernel) ⟨Nat.le_of_ble_eq_true rfl, Nat.le_of_ble_eq_true rfl⟩) x_k0 (q := (RX11, TX11, 13)) rfl rfl rfl rfl (Nat.le_of_ble_eq_true rfl) dX11_oilOf_2 (by decide) (by decide) (by decide) rfl

set_option maxHeartbeats 1000000 in
set_option maxRecDepth 100000 in
theorem c_F_wickOf (l : Launch) (G : xG) (d : xd) (i n : Nat) (hn : d 2 0 = nI n) (h8 : n ≤ 8) (hi : i < n) : x_M G l yX11_wickOf wsX11_wickOf 3 0 0 [.ref (x_b G + 0), .int (nI i)] d (some (.int (d 8 i))) d := by
  have iX11 : ∀ w ∈ u_ws RX11 TX11 13, w ∈ wsX11_wickOf := by decide +kernel
  have iX5 : ∀ w ∈ u_ws RX5 TX5 8, w ∈ wsX11_wickOf := by decide +kernel
  have iX9 : ∀ w ∈ u_ws RX9 TX9 3, w ∈ wsX11_wickOf := by decide +kernel
  refine x_start (cc := cX11_wickOf) (maxL := 2) (ret := (some .int)) (own := RX11) (by decide) rfl rfl (Nat.le_of_ble_eq_true rfl) (lst := [(0, .ref (x_b G + 0)), (1, .int (nI i))]) rfl ?_
  intro p e s m args below meth c C hr hlocks
  refine a_aload_n C dX11_wickOf_0 0 rfl ?_
  refine a_iload_n C dX11_wickOf_1 1 rfl ?_
  refine a_callV C (k := 0) (As := [.int (nI i)]) (rest := []) (c_F_requireLamp l G d i n hn h8 hi) (cwV 1 C.1.2.2.2.2 gX11_wickOf_X11_requireLamp rfl rfl rfl (by decide +kernel) ⟨Nat.le_of_ble_eq_true rfl, Nat.le_of_ble_eq_true rfl⟩) x_k0 (q := (RX11, TX11, 13)) rfl rfl rfl rfl (Nat.le_of_ble_eq_true rfl) dX11_wickOf_2 ⟨Nat.le_of_ble_eq_true rfl, Nat.le_of_ble_eq_true rfl⟩ ?_
  refine a_aload_n C dX11_wickOf_5 0 rfl ?_
  refine a_getR C (k := 0) iX11 x_k0 rfl (j := 0) rfl (by decide) (by decide +kernel) dX11_wickOf_6 ?_
  refine a_getR C (k := 1) iX9 (x_sS0 x_isS_1) rfl (j := 0) rfl (by decide) (by decide +kernel) dX11_wickOf_9 ?_
  refine a_getR C (k := 2) iX5 (x_sS1 x_isS_1) rfl (j := 6) rfl (by decide) (by decide +kernel) dX11_wickOf_12 ?_
  refine a_iload_n C dX11_wickOf_15 1 rfl ?_
  refine a_ialdN C (k := 8) (x_sS7 x_isS_1) (i := i) rfl (by omega) (by first | decide | omega) dX11_wickOf_16 ?_
  exact a_iret C hlocks hr dX11_wickOf_17 rfl rfl

set_option maxHeartbeats 1000000 in
set_option maxRecDepth 100000 in
theorem c_F_wickOf_1 (l : Launch) (hfl : l.stackTraces = false) (G : xG) (d : xd) (x : Int32) (n : Nat) (hn : d 2 0 = nI n) (hx : ¬ (0 ≤ x ∧ x < nI n)) : x_X G l yX11_wickOf wsX11_wickOf 3 [.ref (x_b G + 0), .int x] d "java/lang/IndexOutOfBoundsException" d := by
  refine x_startX (cc := cX11_wickOf) (maxL := 2) (ret := (some .int)) (own := RX11) (by decide) rfl rfl (Nat.le_of_ble_eq_true rfl) (lst := [(0, .ref (x_b G + 0)), (1, .int x)]) rfl ?_
  intro p e s m args below meth c C hr hlocks
  refine a_aload_n C dX11_wickOf_0 0 rfl ?_
  refine a_iload_n C dX11_wickOf_1 1 rfl ?_
  exact a_callVX C hr hlocks (k := 0) (As := [.int x]) (rest := []) (c_F_requireLamp_1 l hfl G d x n hn hx) (cwV 1 C.1.2.2.2.2 gX11_wickOf_X11_requireLamp rfl rfl rfl (by decide +kernel) ⟨Nat.le_of_ble_eq_true rfl, Nat.le_of_ble_eq_true rfl⟩) x_k0 (q := (RX11, TX11, 13)) rfl rfl rfl rfl (Nat.le_of_ble_eq_true rfl) dX11_wickOf_2 (by decide) (by decide) (by decide) rfl

set_option maxHeartbeats 1000000 in
set_option maxRecDepth 100000 in
theorem c_F_balanceOf (l : Launch) (G : xG) (d : xd) (i n : Nat) (hn : d 2 0 = nI n) (h8 : n ≤ 8) (hi : i < n) : x_M G l yX11_balanceOf wsX11_balanceOf 3 0 0 [.ref (x_b G + 0), .int (nI i)] d (some (.int (d 9 i))) d := by
  have iX11 : ∀ w ∈ u_ws RX11 TX11 13, w ∈ wsX11_balanceOf := by decide +kernel
  have iX5 : ∀ w ∈ u_ws RX5 TX5 8, w ∈ wsX11_balanceOf := by decide +kernel
  have iX9 : ∀ w ∈ u_ws RX9 TX9 3, w ∈ wsX11_balanceOf := by decide +kernel
  refine x_start (cc := cX11_balanceOf) (maxL := 2) (ret := (some .int)) (own := RX11) (by decide) rfl rfl (Nat.le_of_ble_eq_true rfl) (lst := [(0, .ref (x_b G + 0)), (1, .int (nI i))]) rfl ?_
  intro p e s m args below meth c C hr hlocks
  refine a_aload_n C dX11_balanceOf_0 0 rfl ?_
  refine a_iload_n C dX11_balanceOf_1 1 rfl ?_
  refine a_callV C (k := 0) (As := [.int (nI i)]) (rest := []) (c_F_requireLamp l G d i n hn h8 hi) (cwV 1 C.1.2.2.2.2 gX11_balanceOf_X11_requireLamp rfl rfl rfl (by decide +kernel) ⟨Nat.le_of_ble_eq_true rfl, Nat.le_of_ble_eq_true rfl⟩) x_k0 (q := (RX11, TX11, 13)) rfl rfl rfl rfl (Nat.le_of_ble_eq_true rfl) dX11_balanceOf_2 ⟨Nat.le_of_ble_eq_true rfl, Nat.le_of_ble_eq_true rfl⟩ ?_
  refine a_aload_n C dX11_balanceOf_5 0 rfl ?_
  refine a_getR C (k := 0) iX11 x_k0 rfl (j := 0) rfl (by decide) (by decide +kernel) dX11_balanceOf_6 ?_
  refine a_getR C (k := 1) iX9 (x_sS0 x_isS_1) rfl (j := 0) rfl (by decide) (by decide +kernel) dX11_balanceOf_9 ?_
  refine a_getR C (k := 2) iX5 (x_sS1 x_isS_1) rfl (j := 7) rfl (by decide) (by decide +kernel) dX11_balanceOf_12 ?_
  refine a_iload_n C dX11_balanceOf_15 1 rfl ?_
  refine a_ialdN C (k := 9) (x_sS8 x_isS_1) (i := i) rfl (by omega) (by first | decide | omega) dX11_balanceOf_16 ?_
  exact a_iret C hlocks hr dX11_balanceOf_17 rfl rfl

set_option maxHeartbeats 1000000 in
set_option maxRecDepth 100000 in
theorem c_F_balanceOf_1 (l : Launch) (hfl : l.stackTraces = false) (G : xG) (d : xd) (x : Int32) (n : Nat) (hn : d 2 0 = nI n) (hx : ¬ (0 ≤ x ∧ x < nI n)) : x_X G l yX11_balanceOf wsX11_balanceOf 3 [.ref (x_b G + 0), .int x] d "java/lang/IndexOutOfBoundsException" d := by
  refine x_startX (cc := cX11_balanceOf) (maxL := 2) (ret := (some .int)) (own := RX11) (by decide) rfl rfl (Nat.le_of_ble_eq_true rfl) (lst := [(0, .ref (x_b G + 0)), (1, .int x)]) rfl ?_
  intro p e s m args below meth c C hr hlocks
  refine a_aload_n C dX11_balanceOf_0 0 rfl ?_
  refine a_iload_n C dX11_balanceOf_1 1 rfl ?_
  exact a_callVX C hr hlocks (k := 0) (As := [.int x]) (rest := []) (c_F_requireLamp_1 l hfl G d x n hn hx) (cwV 1 C.1.2.2.2.2 gX11_balanceOf_X11_requireLamp rfl rfl rfl (by decide +kernel) ⟨Nat.le_of_ble_eq_true rfl, Nat.le_of_ble_eq_true rfl⟩) x_k0 (q := (RX11, TX11, 13)) rfl rfl rfl rfl (Nat.le_of_ble_eq_true rfl) dX11_balanceOf_2 (by decide) (by decide) (by decide) rfl

set_option maxHeartbeats 1000000 in
set_option maxRecDepth 100000 in
theorem c_F_lampCount (l : Launch) (G : xG) (d : xd)  : x_M G l yX11_lampCount wsX11_lampCount 1 0 0 [.ref (x_b G + 0)] d (some (.int (d 2 0))) d := by
  have iX11 : ∀ w ∈ u_ws RX11 TX11 13, w ∈ wsX11_lampCount := by decide +kernel
  have iX5 : ∀ w ∈ u_ws RX5 TX5 8, w ∈ wsX11_lampCount := by decide +kernel
  have iX9 : ∀ w ∈ u_ws RX9 TX9 3, w ∈ wsX11_lampCount := by decide +kernel
  refine x_start (cc := cX11_lampCount) (maxL := 1) (ret := (some .int)) (own := RX11) (by decide) rfl rfl (Nat.le_of_ble_eq_true rfl) (lst := [(0, .ref (x_b G + 0))]) rfl ?_
  intro p e s m args below meth c C hr hlocks
  refine a_aload_n C dX11_lampCount_0 0 rfl ?_
  refine a_getR C (k := 0) iX11 x_k0 rfl (j := 0) rfl (by decide) (by decide +kernel) dX11_lampCount_1 ?_
  refine a_getR C (k := 1) iX9 (x_sS0 x_isS_1) rfl (j := 0) rfl (by decide) (by decide +kernel) dX11_lampCount_4 ?_
  refine a_getI C (k := 2) iX5 (x_sS1 x_isS_1) rfl (j := 0) rfl (by decide) (by decide +kernel) dX11_lampCount_7 ?_
  exact a_iret C hlocks hr dX11_lampCount_10 rfl rfl

set_option maxHeartbeats 1000000 in
set_option maxRecDepth 100000 in
theorem c_F_reserve (l : Launch) (G : xG) (d : xd)  : x_M G l yX11_reserve wsX11_reserve 1 0 0 [.ref (x_b G + 0)] d (some (.int (d 14 0))) d := by
  have iX11 : ∀ w ∈ u_ws RX11 TX11 13, w ∈ wsX11_reserve := by decide +kernel
  have iX2 : ∀ w ∈ u_ws RX2 TX2 10, w ∈ wsX11_reserve := by decide +kernel
  have iX9 : ∀ w ∈ u_ws RX9 TX9 3, w ∈ wsX11_reserve := by decide +kernel
  refine x_start (cc := cX11_reserve) (maxL := 1) (ret := (some .int)) (own := RX11) (by decide) rfl rfl (Nat.le_of_ble_eq_true rfl) (lst := [(0, .ref (x_b G + 0))]) rfl ?_
  intro p e s m args below meth c C hr hlocks
  refine a_aload_n C dX11_reserve_0 0 rfl ?_
  refine a_getR C (k := 0) iX11 x_k0 rfl (j := 0) rfl (by decide) (by decide +kernel) dX11_reserve_1 ?_
  refine a_getR C (k := 1) iX9 (x_sS0 x_isS_1) rfl (j := 2) rfl (by decide) (by decide +kernel) dX11_reserve_4 ?_
  refine a_getI C (k := 14) iX2 (x_sS13 x_isS_1) rfl (j := 0) rfl (by decide) (by decide +kernel) dX11_reserve_7 ?_
  exact a_iret C hlocks hr dX11_reserve_10 rfl rfl

set_option maxHeartbeats 1000000 in
set_option maxRecDepth 100000 in
theorem c_F_pool (l : Launch) (G : xG) (d : xd)  : x_M G l yX11_pool wsX11_pool 1 0 0 [.ref (x_b G + 0)] d (some (.int (d 14 1))) d := by
  have iX11 : ∀ w ∈ u_ws RX11 TX11 13, w ∈ wsX11_pool := by decide +kernel
  have iX2 : ∀ w ∈ u_ws RX2 TX2 10, w ∈ wsX11_pool := by decide +kernel
  have iX9 : ∀ w ∈ u_ws RX9 TX9 3, w ∈ wsX11_pool := by decide +kernel
  refine x_start (cc := cX11_pool) (maxL := 1) (ret := (some .int)) (own := RX11) (by decide) rfl rfl (Nat.le_of_ble_eq_true rfl) (lst := [(0, .ref (x_b G + 0))]) rfl ?_
  intro p e s m args below meth c C hr hlocks
  refine a_aload_n C dX11_pool_0 0 rfl ?_
  refine a_getR C (k := 0) iX11 x_k0 rfl (j := 0) rfl (by decide) (by decide +kernel) dX11_pool_1 ?_
  refine a_getR C (k := 1) iX9 (x_sS0 x_isS_1) rfl (j := 2) rfl (by decide) (by decide +kernel) dX11_pool_4 ?_
  refine a_getI C (k := 14) iX2 (x_sS13 x_isS_1) rfl (j := 1) rfl (by decide) (by decide +kernel) dX11_pool_7 ?_
  exact a_iret C hlocks hr dX11_pool_10 rfl rfl

set_option maxHeartbeats 1000000 in
set_option maxRecDepth 100000 in
theorem c_F_treasury (l : Launch) (G : xG) (d : xd)  : x_M G l yX11_treasury wsX11_treasury 1 0 0 [.ref (x_b G + 0)] d (some (.int (d 14 2))) d := by
  have iX11 : ∀ w ∈ u_ws RX11 TX11 13, w ∈ wsX11_treasury := by decide +kernel
  have iX2 : ∀ w ∈ u_ws RX2 TX2 10, w ∈ wsX11_treasury := by decide +kernel
  have iX9 : ∀ w ∈ u_ws RX9 TX9 3, w ∈ wsX11_treasury := by decide +kernel
  refine x_start (cc := cX11_treasury) (maxL := 1) (ret := (some .int)) (own := RX11) (by decide) rfl rfl (Nat.le_of_ble_eq_true rfl) (lst := [(0, .ref (x_b G + 0))]) rfl ?_
  intro p e s m args below meth c C hr hlocks
  refine a_aload_n C dX11_treasury_0 0 rfl ?_
  refine a_getR C (k := 0) iX11 x_k0 rfl (j := 0) rfl (by decide) (by decide +kernel) dX11_treasury_1 ?_
  refine a_getR C (k := 1) iX9 (x_sS0 x_isS_1) rfl (j := 2) rfl (by decide) (by decide +kernel) dX11_treasury_4 ?_
  refine a_getI C (k := 14) iX2 (x_sS13 x_isS_1) rfl (j := 2) rfl (by decide) (by decide +kernel) dX11_treasury_7 ?_
  exact a_iret C hlocks hr dX11_treasury_10 rfl rfl

set_option maxHeartbeats 1000000 in
set_option maxRecDepth 100000 in
theorem c_F_nightCount (l : Launch) (G : xG) (d : xd)  : x_M G l yX11_nightCount wsX11_nightCount 1 0 0 [.ref (x_b G + 0)] d (some (.int (d 14 3))) d := by
  have iX11 : ∀ w ∈ u_ws RX11 TX11 13, w ∈ wsX11_nightCount := by decide +kernel
  have iX2 : ∀ w ∈ u_ws RX2 TX2 10, w ∈ wsX11_nightCount := by decide +kernel
  have iX9 : ∀ w ∈ u_ws RX9 TX9 3, w ∈ wsX11_nightCount := by decide +kernel
  refine x_start (cc := cX11_nightCount) (maxL := 1) (ret := (some .int)) (own := RX11) (by decide) rfl rfl (Nat.le_of_ble_eq_true rfl) (lst := [(0, .ref (x_b G + 0))]) rfl ?_
  intro p e s m args below meth c C hr hlocks
  refine a_aload_n C dX11_nightCount_0 0 rfl ?_
  refine a_getR C (k := 0) iX11 x_k0 rfl (j := 0) rfl (by decide) (by decide +kernel) dX11_nightCount_1 ?_
  refine a_getR C (k := 1) iX9 (x_sS0 x_isS_1) rfl (j := 2) rfl (by decide) (by decide +kernel) dX11_nightCount_4 ?_
  refine a_getI C (k := 14) iX2 (x_sS13 x_isS_1) rfl (j := 3) rfl (by decide) (by decide +kernel) dX11_nightCount_7 ?_
  exact a_iret C hlocks hr dX11_nightCount_10 rfl rfl

set_option maxHeartbeats 1000000 in
set_option maxRecDepth 100000 in
theorem c_F_mothCount (l : Launch) (G : xG) (d : xd)  : x_M G l yX11_mothCount wsX11_mothCount 1 0 0 [.ref (x_b G + 0)] d (some (.int (d 10 0))) d := by
  have iX11 : ∀ w ∈ u_ws RX11 TX11 13, w ∈ wsX11_mothCount := by decide +kernel
  have iX6 : ∀ w ∈ u_ws RX6 TX6 4, w ∈ wsX11_mothCount := by decide +kernel
  have iX9 : ∀ w ∈ u_ws RX9 TX9 3, w ∈ wsX11_mothCount := by decide +kernel
  refine x_start (cc := cX11_mothCount) (maxL := 1) (ret := (some .int)) (own := RX11) (by decide) rfl rfl (Nat.le_of_ble_eq_true rfl) (lst := [(0, .ref (x_b G + 0))]) rfl ?_
  intro p e s m args below meth c C hr hlocks
  refine a_aload_n C dX11_mothCount_0 0 rfl ?_
  refine a_getR C (k := 0) iX11 x_k0 rfl (j := 0) rfl (by decide) (by decide +kernel) dX11_mothCount_1 ?_
  refine a_getR C (k := 1) iX9 (x_sS0 x_isS_1) rfl (j := 1) rfl (by decide) (by decide +kernel) dX11_mothCount_4 ?_
  refine a_getI C (k := 10) iX6 (x_sS9 x_isS_1) rfl (j := 0) rfl (by decide) (by decide +kernel) dX11_mothCount_7 ?_
  exact a_iret C hlocks hr dX11_mothCount_10 rfl rfl

set_option maxHeartbeats 1000000 in
set_option maxRecDepth 100000 in
theorem c_F_lampOfMoth (l : Launch) (G : xG) (d : xd) (i m9 : Nat) (hm : d 10 0 = nI m9) (h6 : m9 ≤ 6) (hi : i < m9) : x_M G l yX11_lampOfMoth wsX11_lampOfMoth 3 0 0 [.ref (x_b G + 0), .int (nI i)] d (some (.int (d 11 i))) d := by
  have iX11 : ∀ w ∈ u_ws RX11 TX11 13, w ∈ wsX11_lampOfMoth := by decide +kernel
  have iX6 : ∀ w ∈ u_ws RX6 TX6 4, w ∈ wsX11_lampOfMoth := by decide +kernel
  have iX9 : ∀ w ∈ u_ws RX9 TX9 3, w ∈ wsX11_lampOfMoth := by decide +kernel
  refine x_start (cc := cX11_lampOfMoth) (maxL := 2) (ret := (some .int)) (own := RX11) (by decide) rfl rfl (Nat.le_of_ble_eq_true rfl) (lst := [(0, .ref (x_b G + 0)), (1, .int (nI i))]) rfl ?_
  intro p e s m args below meth c C hr hlocks
  refine a_aload_n C dX11_lampOfMoth_0 0 rfl ?_
  refine a_iload_n C dX11_lampOfMoth_1 1 rfl ?_
  refine a_callV C (k := 0) (As := [.int (nI i)]) (rest := []) (c_F_requireMoth l G d i m9 hm h6 hi) (cwV 1 C.1.2.2.2.2 gX11_lampOfMoth_X11_requireMoth rfl rfl rfl (by decide +kernel) ⟨Nat.le_of_ble_eq_true rfl, Nat.le_of_ble_eq_true rfl⟩) x_k0 (q := (RX11, TX11, 13)) rfl rfl rfl rfl (Nat.le_of_ble_eq_true rfl) dX11_lampOfMoth_2 ⟨Nat.le_of_ble_eq_true rfl, Nat.le_of_ble_eq_true rfl⟩ ?_
  refine a_aload_n C dX11_lampOfMoth_5 0 rfl ?_
  refine a_getR C (k := 0) iX11 x_k0 rfl (j := 0) rfl (by decide) (by decide +kernel) dX11_lampOfMoth_6 ?_
  refine a_getR C (k := 1) iX9 (x_sS0 x_isS_1) rfl (j := 1) rfl (by decide) (by decide +kernel) dX11_lampOfMoth_9 ?_
  refine a_getR C (k := 10) iX6 (x_sS9 x_isS_1) rfl (j := 1) rfl (by decide) (by decide +kernel) dX11_lampOfMoth_12 ?_
  refine a_iload_n C dX11_lampOfMoth_15 1 rfl ?_
  refine a_ialdN C (k := 11) (x_sS10 x_isS_1) (i := i) rfl (by omega) (by first | decide | omega) dX11_lampOfMoth_16 ?_
  exact a_iret C hlocks hr dX11_lampOfMoth_17 rfl rfl

set_option maxHeartbeats 1000000 in
set_option maxRecDepth 100000 in
theorem c_F_lampOfMoth_1 (l : Launch) (hfl : l.stackTraces = false) (G : xG) (d : xd) (x : Int32) (m9 : Nat) (hm : d 10 0 = nI m9) (hx : ¬ (0 ≤ x ∧ x < nI m9)) : x_X G l yX11_lampOfMoth wsX11_lampOfMoth 3 [.ref (x_b G + 0), .int x] d "java/lang/IndexOutOfBoundsException" d := by
  refine x_startX (cc := cX11_lampOfMoth) (maxL := 2) (ret := (some .int)) (own := RX11) (by decide) rfl rfl (Nat.le_of_ble_eq_true rfl) (lst := [(0, .ref (x_b G + 0)), (1, .int x)]) rfl ?_
  intro p e s m args below meth c C hr hlocks
  refine a_aload_n C dX11_lampOfMoth_0 0 rfl ?_
  refine a_iload_n C dX11_lampOfMoth_1 1 rfl ?_
  exact a_callVX C hr hlocks (k := 0) (As := [.int x]) (rest := []) (c_F_requireMoth_1 l hfl G d x m9 hm hx) (cwV 1 C.1.2.2.2.2 gX11_lampOfMoth_X11_requireMoth rfl rfl rfl (by decide +kernel) ⟨Nat.le_of_ble_eq_true rfl, Nat.le_of_ble_eq_true rfl⟩) x_k0 (q := (RX11, TX11, 13)) rfl rfl rfl rfl (Nat.le_of_ble_eq_true rfl) dX11_lampOfMoth_2 (by decide) (by decide) (by decide) rfl

set_option maxHeartbeats 1000000 in
set_option maxRecDepth 100000 in
theorem c_F_strikesOf (l : Launch) (G : xG) (d : xd) (i m9 : Nat) (hm : d 10 0 = nI m9) (h6 : m9 ≤ 6) (hi : i < m9) : x_M G l yX11_strikesOf wsX11_strikesOf 3 0 0 [.ref (x_b G + 0), .int (nI i)] d (some (.int (d 12 i))) d := by
  have iX11 : ∀ w ∈ u_ws RX11 TX11 13, w ∈ wsX11_strikesOf := by decide +kernel
  have iX6 : ∀ w ∈ u_ws RX6 TX6 4, w ∈ wsX11_strikesOf := by decide +kernel
  have iX9 : ∀ w ∈ u_ws RX9 TX9 3, w ∈ wsX11_strikesOf := by decide +kernel
  refine x_start (cc := cX11_strikesOf) (maxL := 2) (ret := (some .int)) (own := RX11) (by decide) rfl rfl (Nat.le_of_ble_eq_true rfl) (lst := [(0, .ref (x_b G + 0)), (1, .int (nI i))]) rfl ?_
  intro p e s m args below meth c C hr hlocks
  refine a_aload_n C dX11_strikesOf_0 0 rfl ?_
  refine a_iload_n C dX11_strikesOf_1 1 rfl ?_
  refine a_callV C (k := 0) (As := [.int (nI i)]) (rest := []) (c_F_requireMoth l G d i m9 hm h6 hi) (cwV 1 C.1.2.2.2.2 gX11_strikesOf_X11_requireMoth rfl rfl rfl (by decide +kernel) ⟨Nat.le_of_ble_eq_true rfl, Nat.le_of_ble_eq_true rfl⟩) x_k0 (q := (RX11, TX11, 13)) rfl rfl rfl rfl (Nat.le_of_ble_eq_true rfl) dX11_strikesOf_2 ⟨Nat.le_of_ble_eq_true rfl, Nat.le_of_ble_eq_true rfl⟩ ?_
  refine a_aload_n C dX11_strikesOf_5 0 rfl ?_
  refine a_getR C (k := 0) iX11 x_k0 rfl (j := 0) rfl (by decide) (by decide +kernel) dX11_strikesOf_6 ?_
  refine a_getR C (k := 1) iX9 (x_sS0 x_isS_1) rfl (j := 1) rfl (by decide) (by decide +kernel) dX11_strikesOf_9 ?_
  refine a_getR C (k := 10) iX6 (x_sS9 x_isS_1) rfl (j := 2) rfl (by decide) (by decide +kernel) dX11_strikesOf_12 ?_
  refine a_iload_n C dX11_strikesOf_15 1 rfl ?_
  refine a_ialdN C (k := 12) (x_sS11 x_isS_1) (i := i) rfl (by omega) (by first | decide | omega) dX11_strikesOf_16 ?_
  exact a_iret C hlocks hr dX11_strikesOf_17 rfl rfl

set_option maxHeartbeats 1000000 in
set_option maxRecDepth 100000 in
theorem c_F_strikesOf_1 (l : Launch) (hfl : l.stackTraces = false) (G : xG) (d : xd) (x : Int32) (m9 : Nat) (hm : d 10 0 = nI m9) (hx : ¬ (0 ≤ x ∧ x < nI m9)) : x_X G l yX11_strikesOf wsX11_strikesOf 3 [.ref (x_b G + 0), .int x] d "java/lang/IndexOutOfBoundsException" d := by
  refine x_startX (cc := cX11_strikesOf) (maxL := 2) (ret := (some .int)) (own := RX11) (by decide) rfl rfl (Nat.le_of_ble_eq_true rfl) (lst := [(0, .ref (x_b G + 0)), (1, .int x)]) rfl ?_
  intro p e s m args below meth c C hr hlocks
  refine a_aload_n C dX11_strikesOf_0 0 rfl ?_
  refine a_iload_n C dX11_strikesOf_1 1 rfl ?_
  exact a_callVX C hr hlocks (k := 0) (As := [.int x]) (rest := []) (c_F_requireMoth_1 l hfl G d x m9 hm hx) (cwV 1 C.1.2.2.2.2 gX11_strikesOf_X11_requireMoth rfl rfl rfl (by decide +kernel) ⟨Nat.le_of_ble_eq_true rfl, Nat.le_of_ble_eq_true rfl⟩) x_k0 (q := (RX11, TX11, 13)) rfl rfl rfl rfl (Nat.le_of_ble_eq_true rfl) dX11_strikesOf_2 (by decide) (by decide) (by decide) rfl

set_option maxHeartbeats 1000000 in
set_option maxRecDepth 100000 in
theorem c_F_probationOf (l : Launch) (G : xG) (d : xd) (i m9 : Nat) (hm : d 10 0 = nI m9) (h6 : m9 ≤ 6) (hi : i < m9) : x_M G l yX11_probationOf wsX11_probationOf 3 0 0 [.ref (x_b G + 0), .int (nI i)] d (some (.int (d 13 i))) d := by
  have iX11 : ∀ w ∈ u_ws RX11 TX11 13, w ∈ wsX11_probationOf := by decide +kernel
  have iX6 : ∀ w ∈ u_ws RX6 TX6 4, w ∈ wsX11_probationOf := by decide +kernel
  have iX9 : ∀ w ∈ u_ws RX9 TX9 3, w ∈ wsX11_probationOf := by decide +kernel
  refine x_start (cc := cX11_probationOf) (maxL := 2) (ret := (some .int)) (own := RX11) (by decide) rfl rfl (Nat.le_of_ble_eq_true rfl) (lst := [(0, .ref (x_b G + 0)), (1, .int (nI i))]) rfl ?_
  intro p e s m args below meth c C hr hlocks
  refine a_aload_n C dX11_probationOf_0 0 rfl ?_
  refine a_iload_n C dX11_probationOf_1 1 rfl ?_
  refine a_callV C (k := 0) (As := [.int (nI i)]) (rest := []) (c_F_requireMoth l G d i m9 hm h6 hi) (cwV 1 C.1.2.2.2.2 gX11_probationOf_X11_requireMoth rfl rfl rfl (by decide +kernel) ⟨Nat.le_of_ble_eq_true rfl, Nat.le_of_ble_eq_true rfl⟩) x_k0 (q := (RX11, TX11, 13)) rfl rfl rfl rfl (Nat.le_of_ble_eq_true rfl) dX11_probationOf_2 ⟨Nat.le_of_ble_eq_true rfl, Nat.le_of_ble_eq_true rfl⟩ ?_
  refine a_aload_n C dX11_probationOf_5 0 rfl ?_
  refine a_getR C (k := 0) iX11 x_k0 rfl (j := 0) rfl (by decide) (by decide +kernel) dX11_probationOf_6 ?_
  refine a_getR C (k := 1) iX9 (x_sS0 x_isS_1) rfl (j := 1) rfl (by decide) (by decide +kernel) dX11_probationOf_9 ?_
  refine a_getR C (k := 10) iX6 (x_sS9 x_isS_1) rfl (j := 3) rfl (by decide) (by decide +kernel) dX11_probationOf_12 ?_
  refine a_iload_n C dX11_probationOf_15 1 rfl ?_
  refine a_ialdN C (k := 13) (x_sS12 x_isS_1) (i := i) rfl (by omega) (by first | decide | omega) dX11_probationOf_16 ?_
  exact a_iret C hlocks hr dX11_probationOf_17 rfl rfl

set_option maxHeartbeats 1000000 in
set_option maxRecDepth 100000 in
theorem c_F_probationOf_1 (l : Launch) (hfl : l.stackTraces = false) (G : xG) (d : xd) (x : Int32) (m9 : Nat) (hm : d 10 0 = nI m9) (hx : ¬ (0 ≤ x ∧ x < nI m9)) : x_X G l yX11_probationOf wsX11_probationOf 3 [.ref (x_b G + 0), .int x] d "java/lang/IndexOutOfBoundsException" d := by
  refine x_startX (cc := cX11_probationOf) (maxL := 2) (ret := (some .int)) (own := RX11) (by decide) rfl rfl (Nat.le_of_ble_eq_true rfl) (lst := [(0, .ref (x_b G + 0)), (1, .int x)]) rfl ?_
  intro p e s m args below meth c C hr hlocks
  refine a_aload_n C dX11_probationOf_0 0 rfl ?_
  refine a_iload_n C dX11_probationOf_1 1 rfl ?_
  exact a_callVX C hr hlocks (k := 0) (As := [.int x]) (rest := []) (c_F_requireMoth_1 l hfl G d x m9 hm hx) (cwV 1 C.1.2.2.2.2 gX11_probationOf_X11_requireMoth rfl rfl rfl (by decide +kernel) ⟨Nat.le_of_ble_eq_true rfl, Nat.le_of_ble_eq_true rfl⟩) x_k0 (q := (RX11, TX11, 13)) rfl rfl rfl rfl (Nat.le_of_ble_eq_true rfl) dX11_probationOf_2 (by decide) (by decide) (by decide) rfl

set_option maxHeartbeats 1000000 in
set_option maxRecDepth 100000 in
theorem c_F_isMember (l : Launch) (G : xG) (d : xd) (i m9 : Nat) (hm : d 10 0 = nI m9) (h6 : m9 ≤ 6) (hi : i < m9) : x_M G l yX11_isMember wsX11_isMember 3 0 0 [.ref (x_b G + 0), .int (nI i)] d (some (.int (x_bi (¬ 0 < d 13 i)))) d := by
  have iX11 : ∀ w ∈ u_ws RX11 TX11 13, w ∈ wsX11_isMember := by decide +kernel
  have iX9 : ∀ w ∈ u_ws RX9 TX9 3, w ∈ wsX11_isMember := by decide +kernel
  refine x_start (cc := cX11_isMember) (maxL := 2) (ret := (some .boolean)) (own := RX11) (by decide) rfl rfl (Nat.le_of_ble_eq_true rfl) (lst := [(0, .ref (x_b G + 0)), (1, .int (nI i))]) rfl ?_
  intro p e s m args below meth c C hr hlocks
  refine a_aload_n C dX11_isMember_0 0 rfl ?_
  refine a_iload_n C dX11_isMember_1 1 rfl ?_
  refine a_callV C (k := 0) (As := [.int (nI i)]) (rest := []) (c_F_requireMoth l G d i m9 hm h6 hi) (cwV 1 C.1.2.2.2.2 gX11_isMember_X11_requireMoth rfl rfl rfl (by decide +kernel) ⟨Nat.le_of_ble_eq_true rfl, Nat.le_of_ble_eq_true rfl⟩) x_k0 (q := (RX11, TX11, 13)) rfl rfl rfl rfl (Nat.le_of_ble_eq_true rfl) dX11_isMember_2 ⟨Nat.le_of_ble_eq_true rfl, Nat.le_of_ble_eq_true rfl⟩ ?_
  refine a_aload_n C dX11_isMember_5 0 rfl ?_
  refine a_getR C (k := 0) iX11 x_k0 rfl (j := 0) rfl (by decide) (by decide +kernel) dX11_isMember_6 ?_
  refine a_getR C (k := 1) iX9 (x_sS0 x_isS_1) rfl (j := 1) rfl (by decide) (by decide +kernel) dX11_isMember_9 ?_
  refine a_iload_n C dX11_isMember_12 1 rfl ?_
  refine a_callV C (k := 10) (As := [.int (nI i)]) (rest := []) (c_X6_onProbation l G d 1 i x_isS_1 (by omega)) (cwV 1 C.1.2.2.2.2 gX11_isMember_X6_onProbation rfl rfl rfl (by decide +kernel) ⟨Nat.le_of_ble_eq_true rfl, Nat.le_of_ble_eq_true rfl⟩) (x_sS9 x_isS_1) (q := (RX6, TX6, 4)) rfl rfl rfl rfl (Nat.le_of_ble_eq_true rfl) dX11_isMember_13 ⟨Nat.le_of_ble_eq_true rfl, Nat.le_of_ble_eq_true rfl⟩ ?_
  refine a_if_ne C dX11_isMember_16 (tgt := 23) (by decide) (fun h16 => ?_) (fun h16 => ?_)
  · skip
    refine a_iconst C dX11_isMember_23 (v := 0) (by decide) ?_
    exact a_zret C hlocks hr rfl dX11_isMember_24 (x_bi_f (fun z => z (x_bi_nz h16))).symm rfl
  · skip
    refine a_iconst C dX11_isMember_19 (v := 1) (by decide) ?_
    refine a_goto C dX11_isMember_20 (tgt := 24) (by decide) ?_
    exact a_zret C hlocks hr rfl dX11_isMember_24 (x_bi_t (x_bi_z (Decidable.not_not.mp (fun q => q h16)))).symm rfl

set_option maxHeartbeats 1000000 in
set_option maxRecDepth 100000 in
theorem c_F_isMember_1 (l : Launch) (hfl : l.stackTraces = false) (G : xG) (d : xd) (x : Int32) (m9 : Nat) (hm : d 10 0 = nI m9) (hx : ¬ (0 ≤ x ∧ x < nI m9)) : x_X G l yX11_isMember wsX11_isMember 3 [.ref (x_b G + 0), .int x] d "java/lang/IndexOutOfBoundsException" d := by
  refine x_startX (cc := cX11_isMember) (maxL := 2) (ret := (some .boolean)) (own := RX11) (by decide) rfl rfl (Nat.le_of_ble_eq_true rfl) (lst := [(0, .ref (x_b G + 0)), (1, .int x)]) rfl ?_
  intro p e s m args below meth c C hr hlocks
  refine a_aload_n C dX11_isMember_0 0 rfl ?_
  refine a_iload_n C dX11_isMember_1 1 rfl ?_
  exact a_callVX C hr hlocks (k := 0) (As := [.int x]) (rest := []) (c_F_requireMoth_1 l hfl G d x m9 hm hx) (cwV 1 C.1.2.2.2.2 gX11_isMember_X11_requireMoth rfl rfl rfl (by decide +kernel) ⟨Nat.le_of_ble_eq_true rfl, Nat.le_of_ble_eq_true rfl⟩) x_k0 (q := (RX11, TX11, 13)) rfl rfl rfl rfl (Nat.le_of_ble_eq_true rfl) dX11_isMember_2 (by decide) (by decide) (by decide) rfl

set_option maxHeartbeats 1000000 in
set_option maxRecDepth 100000 in
theorem c_F_canBurn (l : Launch) (G : xG) (d : xd) (i n : Nat) (hn : d 2 0 = nI n) (h8 : n ≤ 8) (hi : i < n) : x_M G l yX11_canBurn wsX11_canBurn 3 0 0 [.ref (x_b G + 0), .int (nI i)] d (some (.int (x_bi (f_rdy d 1 i = true)))) d := by
  have iX11 : ∀ w ∈ u_ws RX11 TX11 13, w ∈ wsX11_canBurn := by decide +kernel
  have iX9 : ∀ w ∈ u_ws RX9 TX9 3, w ∈ wsX11_canBurn := by decide +kernel
  refine x_start (cc := cX11_canBurn) (maxL := 2) (ret := (some .boolean)) (own := RX11) (by decide) rfl rfl (Nat.le_of_ble_eq_true rfl) (lst := [(0, .ref (x_b G + 0)), (1, .int (nI i))]) rfl ?_
  intro p e s m args below meth c C hr hlocks
  refine a_aload_n C dX11_canBurn_0 0 rfl ?_
  refine a_iload_n C dX11_canBurn_1 1 rfl ?_
  refine a_callV C (k := 0) (As := [.int (nI i)]) (rest := []) (c_F_requireLamp l G d i n hn h8 hi) (cwV 1 C.1.2.2.2.2 gX11_canBurn_X11_requireLamp rfl rfl rfl (by decide +kernel) ⟨Nat.le_of_ble_eq_true rfl, Nat.le_of_ble_eq_true rfl⟩) x_k0 (q := (RX11, TX11, 13)) rfl rfl rfl rfl (Nat.le_of_ble_eq_true rfl) dX11_canBurn_2 ⟨Nat.le_of_ble_eq_true rfl, Nat.le_of_ble_eq_true rfl⟩ ?_
  refine a_aload_n C dX11_canBurn_5 0 rfl ?_
  refine a_getR C (k := 0) iX11 x_k0 rfl (j := 0) rfl (by decide) (by decide +kernel) dX11_canBurn_6 ?_
  refine a_getR C (k := 1) iX9 (x_sS0 x_isS_1) rfl (j := 0) rfl (by decide) (by decide +kernel) dX11_canBurn_9 ?_
  refine a_iload_n C dX11_canBurn_12 1 rfl ?_
  refine a_callV C (k := 2) (As := [.int (nI i)]) (rest := []) (c_X5_readyToBurn l G d 1 i x_isS_1 (by omega)) (cwV 1 C.1.2.2.2.2 gX11_canBurn_X5_readyToBurn rfl rfl rfl (by decide +kernel) ⟨Nat.le_of_ble_eq_true rfl, Nat.le_of_ble_eq_true rfl⟩) (x_sS1 x_isS_1) (q := (RX5, TX5, 8)) rfl rfl rfl rfl (Nat.le_of_ble_eq_true rfl) dX11_canBurn_13 ⟨Nat.le_of_ble_eq_true rfl, Nat.le_of_ble_eq_true rfl⟩ ?_
  exact a_zret C hlocks hr (x_nz _) dX11_canBurn_16 rfl rfl

set_option maxHeartbeats 1000000 in
set_option maxRecDepth 100000 in
theorem c_F_canBurn_1 (l : Launch) (hfl : l.stackTraces = false) (G : xG) (d : xd) (x : Int32) (n : Nat) (hn : d 2 0 = nI n) (hx : ¬ (0 ≤ x ∧ x < nI n)) : x_X G l yX11_canBurn wsX11_canBurn 3 [.ref (x_b G + 0), .int x] d "java/lang/IndexOutOfBoundsException" d := by
  refine x_startX (cc := cX11_canBurn) (maxL := 2) (ret := (some .boolean)) (own := RX11) (by decide) rfl rfl (Nat.le_of_ble_eq_true rfl) (lst := [(0, .ref (x_b G + 0)), (1, .int x)]) rfl ?_
  intro p e s m args below meth c C hr hlocks
  refine a_aload_n C dX11_canBurn_0 0 rfl ?_
  refine a_iload_n C dX11_canBurn_1 1 rfl ?_
  exact a_callVX C hr hlocks (k := 0) (As := [.int x]) (rest := []) (c_F_requireLamp_1 l hfl G d x n hn hx) (cwV 1 C.1.2.2.2.2 gX11_canBurn_X11_requireLamp rfl rfl rfl (by decide +kernel) ⟨Nat.le_of_ble_eq_true rfl, Nat.le_of_ble_eq_true rfl⟩) x_k0 (q := (RX11, TX11, 13)) rfl rfl rfl rfl (Nat.le_of_ble_eq_true rfl) dX11_canBurn_2 (by decide) (by decide) (by decide) rfl

set_option maxHeartbeats 1000000 in
set_option maxRecDepth 100000 in
theorem c_F_nightsOf (l : Launch) (G : xG) (d : xd) (i n : Nat) (hn : d 2 0 = nI n) (h8 : n ≤ 8) (hi : i < n) : x_M G l yX11_nightsOf wsX11_nightsOf 3 0 0 [.ref (x_b G + 0), .int (nI i)] d (some (.int (f_nf d 1 i))) d := by
  have iX11 : ∀ w ∈ u_ws RX11 TX11 13, w ∈ wsX11_nightsOf := by decide +kernel
  have iX9 : ∀ w ∈ u_ws RX9 TX9 3, w ∈ wsX11_nightsOf := by decide +kernel
  refine x_start (cc := cX11_nightsOf) (maxL := 2) (ret := (some .int)) (own := RX11) (by decide) rfl rfl (Nat.le_of_ble_eq_true rfl) (lst := [(0, .ref (x_b G + 0)), (1, .int (nI i))]) rfl ?_
  intro p e s m args below meth c C hr hlocks
  refine a_aload_n C dX11_nightsOf_0 0 rfl ?_
  refine a_iload_n C dX11_nightsOf_1 1 rfl ?_
  refine a_callV C (k := 0) (As := [.int (nI i)]) (rest := []) (c_F_requireLamp l G d i n hn h8 hi) (cwV 1 C.1.2.2.2.2 gX11_nightsOf_X11_requireLamp rfl rfl rfl (by decide +kernel) ⟨Nat.le_of_ble_eq_true rfl, Nat.le_of_ble_eq_true rfl⟩) x_k0 (q := (RX11, TX11, 13)) rfl rfl rfl rfl (Nat.le_of_ble_eq_true rfl) dX11_nightsOf_2 ⟨Nat.le_of_ble_eq_true rfl, Nat.le_of_ble_eq_true rfl⟩ ?_
  refine a_aload_n C dX11_nightsOf_5 0 rfl ?_
  refine a_getR C (k := 0) iX11 x_k0 rfl (j := 0) rfl (by decide) (by decide +kernel) dX11_nightsOf_6 ?_
  refine a_getR C (k := 1) iX9 (x_sS0 x_isS_1) rfl (j := 0) rfl (by decide) (by decide +kernel) dX11_nightsOf_9 ?_
  refine a_iload_n C dX11_nightsOf_12 1 rfl ?_
  refine a_callV C (k := 2) (As := [.int (nI i)]) (rest := []) (c_X5_nightsByFormula l G d 1 i x_isS_1 (by omega)) (cwV 1 C.1.2.2.2.2 gX11_nightsOf_X5_nightsByFormula rfl rfl rfl (by decide +kernel) ⟨Nat.le_of_ble_eq_true rfl, Nat.le_of_ble_eq_true rfl⟩) (x_sS1 x_isS_1) (q := (RX5, TX5, 8)) rfl rfl rfl rfl (Nat.le_of_ble_eq_true rfl) dX11_nightsOf_13 ⟨Nat.le_of_ble_eq_true rfl, Nat.le_of_ble_eq_true rfl⟩ ?_
  exact a_iret C hlocks hr dX11_nightsOf_16 rfl rfl

set_option maxHeartbeats 1000000 in
set_option maxRecDepth 100000 in
theorem c_F_nightsOf_1 (l : Launch) (hfl : l.stackTraces = false) (G : xG) (d : xd) (x : Int32) (n : Nat) (hn : d 2 0 = nI n) (hx : ¬ (0 ≤ x ∧ x < nI n)) : x_X G l yX11_nightsOf wsX11_nightsOf 3 [.ref (x_b G + 0), .int x] d "java/lang/IndexOutOfBoundsException" d := by
  refine x_startX (cc := cX11_nightsOf) (maxL := 2) (ret := (some .int)) (own := RX11) (by decide) rfl rfl (Nat.le_of_ble_eq_true rfl) (lst := [(0, .ref (x_b G + 0)), (1, .int x)]) rfl ?_
  intro p e s m args below meth c C hr hlocks
  refine a_aload_n C dX11_nightsOf_0 0 rfl ?_
  refine a_iload_n C dX11_nightsOf_1 1 rfl ?_
  exact a_callVX C hr hlocks (k := 0) (As := [.int x]) (rest := []) (c_F_requireLamp_1 l hfl G d x n hn hx) (cwV 1 C.1.2.2.2.2 gX11_nightsOf_X11_requireLamp rfl rfl rfl (by decide +kernel) ⟨Nat.le_of_ble_eq_true rfl, Nat.le_of_ble_eq_true rfl⟩) x_k0 (q := (RX11, TX11, 13)) rfl rfl rfl rfl (Nat.le_of_ble_eq_true rfl) dX11_nightsOf_2 (by decide) (by decide) (by decide) rfl

set_option maxHeartbeats 1000000 in
set_option maxRecDepth 100000 in
theorem c_F_nightsBySimulation (l : Launch) (G : xG) (d : xd) (i n : Nat) (hn : d 2 0 = nI n) (h8 : n ≤ 8) (hi : i < n) (q b w : Nat) (hq : d 7 i = nI q) (hbr : d 5 i = nI b) (hw : d 8 i = nI w) (hq6 : q < 1000) (hb : 0 < b) (hb9 : b < 1000) (hw9 : w < 1000) : x_M G l yX11_nightsBySimulation wsX11_nightsBySimulation 3 0 0 [.ref (x_b G + 0), .int (nI i)] d (some (.int (nI ((min (q / b) w))))) d := by
  have iX11 : ∀ w ∈ u_ws RX11 TX11 13, w ∈ wsX11_nightsBySimulation := by decide +kernel
  have iX9 : ∀ w ∈ u_ws RX9 TX9 3, w ∈ wsX11_nightsBySimulation := by decide +kernel
  refine x_start (cc := cX11_nightsBySimulation) (maxL := 2) (ret := (some .int)) (own := RX11) (by decide) rfl rfl (Nat.le_of_ble_eq_true rfl) (lst := [(0, .ref (x_b G + 0)), (1, .int (nI i))]) rfl ?_
  intro p e s m args below meth c C hr hlocks
  refine a_aload_n C dX11_nightsBySimulation_0 0 rfl ?_
  refine a_iload_n C dX11_nightsBySimulation_1 1 rfl ?_
  refine a_callV C (k := 0) (As := [.int (nI i)]) (rest := []) (c_F_requireLamp l G d i n hn h8 hi) (cwV 1 C.1.2.2.2.2 gX11_nightsBySimulation_X11_requireLamp rfl rfl rfl (by decide +kernel) ⟨Nat.le_of_ble_eq_true rfl, Nat.le_of_ble_eq_true rfl⟩) x_k0 (q := (RX11, TX11, 13)) rfl rfl rfl rfl (Nat.le_of_ble_eq_true rfl) dX11_nightsBySimulation_2 ⟨Nat.le_of_ble_eq_true rfl, Nat.le_of_ble_eq_true rfl⟩ ?_
  refine a_aload_n C dX11_nightsBySimulation_5 0 rfl ?_
  refine a_getR C (k := 0) iX11 x_k0 rfl (j := 0) rfl (by decide) (by decide +kernel) dX11_nightsBySimulation_6 ?_
  refine a_getR C (k := 1) iX9 (x_sS0 x_isS_1) rfl (j := 0) rfl (by decide) (by decide +kernel) dX11_nightsBySimulation_9 ?_
  refine a_iload_n C dX11_nightsBySimulation_12 1 rfl ?_
  refine a_callV C (k := 2) (As := [.int (nI i)]) (rest := []) (c_X5_nightsOneByOne l G d 1 i q b w x_isS_1 (by omega) hq hbr hw hq6 hb hb9 hw9) (cwV 1 C.1.2.2.2.2 gX11_nightsBySimulation_X5_nightsOneByOne rfl rfl rfl (by decide +kernel) ⟨Nat.le_of_ble_eq_true rfl, Nat.le_of_ble_eq_true rfl⟩) (x_sS1 x_isS_1) (q := (RX5, TX5, 8)) rfl rfl rfl rfl (Nat.le_of_ble_eq_true rfl) dX11_nightsBySimulation_13 ⟨Nat.le_of_ble_eq_true rfl, Nat.le_of_ble_eq_true rfl⟩ ?_
  exact a_iret C hlocks hr dX11_nightsBySimulation_16 rfl rfl

set_option maxHeartbeats 1000000 in
set_option maxRecDepth 100000 in
theorem c_F_nightsBySimulation_1 (l : Launch) (hfl : l.stackTraces = false) (G : xG) (d : xd) (x : Int32) (n : Nat) (hn : d 2 0 = nI n) (hx : ¬ (0 ≤ x ∧ x < nI n)) : x_X G l yX11_nightsBySimulation wsX11_nightsBySimulation 3 [.ref (x_b G + 0), .int x] d "java/lang/IndexOutOfBoundsException" d := by
  refine x_startX (cc := cX11_nightsBySimulation) (maxL := 2) (ret := (some .int)) (own := RX11) (by decide) rfl rfl (Nat.le_of_ble_eq_true rfl) (lst := [(0, .ref (x_b G + 0)), (1, .int x)]) rfl ?_
  intro p e s m args below meth c C hr hlocks
  refine a_aload_n C dX11_nightsBySimulation_0 0 rfl ?_
  refine a_iload_n C dX11_nightsBySimulation_1 1 rfl ?_
  exact a_callVX C hr hlocks (k := 0) (As := [.int x]) (rest := []) (c_F_requireLamp_1 l hfl G d x n hn hx) (cwV 1 C.1.2.2.2.2 gX11_nightsBySimulation_X11_requireLamp rfl rfl rfl (by decide +kernel) ⟨Nat.le_of_ble_eq_true rfl, Nat.le_of_ble_eq_true rfl⟩) x_k0 (q := (RX11, TX11, 13)) rfl rfl rfl rfl (Nat.le_of_ble_eq_true rfl) dX11_nightsBySimulation_2 (by decide) (by decide) (by decide) rfl

set_option maxHeartbeats 1000000 in
set_option maxRecDepth 100000 in
theorem c_F_glowOf (l : Launch) (G : xG) (d : xd) (x : Int32) (hx : 0 ≤ x ∧ x ≤ 3) (n : Nat) (hn : d 2 0 = nI n) (h8 : n ≤ 8) : x_M G l yX11_glowOf wsX11_glowOf 3 0 0 [.ref (x_b G + 0), .int x] d (some (.int (f_glow d 1 x n))) d := by
  have iX11 : ∀ w ∈ u_ws RX11 TX11 13, w ∈ wsX11_glowOf := by decide +kernel
  have iX9 : ∀ w ∈ u_ws RX9 TX9 3, w ∈ wsX11_glowOf := by decide +kernel
  refine x_start (cc := cX11_glowOf) (maxL := 2) (ret := (some .int)) (own := RX11) (by decide) rfl rfl (Nat.le_of_ble_eq_true rfl) (lst := [(0, .ref (x_b G + 0)), (1, .int x)]) rfl ?_
  intro p e s m args below meth c C hr hlocks
  refine a_iload_n C dX11_glowOf_0 1 rfl ?_
  refine a_callS C (As := [.int x]) (rest := []) (c_F_requireStreet l G d x hx) (va_cwS 1 C.1.2.2.2.2 gX11_glowOf_X11_requireStreet rfl rfl rfl (by decide +kernel) ⟨Nat.le_of_ble_eq_true rfl, Nat.le_of_ble_eq_true rfl⟩) rfl rfl (Nat.le_of_ble_eq_true rfl) dX11_glowOf_1 ⟨Nat.le_of_ble_eq_true rfl, Nat.le_of_ble_eq_true rfl⟩ ?_
  refine a_aload_n C dX11_glowOf_4 0 rfl ?_
  refine a_getR C (k := 0) iX11 x_k0 rfl (j := 0) rfl (by decide) (by decide +kernel) dX11_glowOf_5 ?_
  refine a_getR C (k := 1) iX9 (x_sS0 x_isS_1) rfl (j := 0) rfl (by decide) (by decide +kernel) dX11_glowOf_8 ?_
  refine a_iload_n C dX11_glowOf_11 1 rfl ?_
  refine a_callV C (k := 2) (As := [.int x]) (rest := []) (c_X5_glowIn l G d 1 n x_isS_1 hn h8 x) (cwV 1 C.1.2.2.2.2 gX11_glowOf_X5_glowIn rfl rfl rfl (by decide +kernel) ⟨Nat.le_of_ble_eq_true rfl, Nat.le_of_ble_eq_true rfl⟩) (x_sS1 x_isS_1) (q := (RX5, TX5, 8)) rfl rfl rfl rfl (Nat.le_of_ble_eq_true rfl) dX11_glowOf_12 ⟨Nat.le_of_ble_eq_true rfl, Nat.le_of_ble_eq_true rfl⟩ ?_
  exact a_iret C hlocks hr dX11_glowOf_15 rfl rfl

set_option maxHeartbeats 1000000 in
set_option maxRecDepth 100000 in
theorem c_F_glowOf_1 (l : Launch) (hfl : l.stackTraces = false) (G : xG) (d : xd) (x : Int32) (hx : ¬ (0 ≤ x ∧ x ≤ 3)) : x_X G l yX11_glowOf wsX11_glowOf 3 [.ref (x_b G + 0), .int x] d "java/lang/IndexOutOfBoundsException" d := by
  refine x_startX (cc := cX11_glowOf) (maxL := 2) (ret := (some .int)) (own := RX11) (by decide) rfl rfl (Nat.le_of_ble_eq_true rfl) (lst := [(0, .ref (x_b G + 0)), (1, .int x)]) rfl ?_
  intro p e s m args below meth c C hr hlocks
  refine a_iload_n C dX11_glowOf_0 1 rfl ?_
  exact a_callSX C hr hlocks (As := [.int x]) (rest := []) (c_F_requireStreet_1 l hfl G d x hx) (va_cwS 1 C.1.2.2.2.2 gX11_glowOf_X11_requireStreet rfl rfl rfl (by decide +kernel) ⟨Nat.le_of_ble_eq_true rfl, Nat.le_of_ble_eq_true rfl⟩) rfl rfl (Nat.le_of_ble_eq_true rfl) dX11_glowOf_1 (by decide) (by decide) (by decide) rfl

set_option maxHeartbeats 1000000 in
set_option maxRecDepth 100000 in
theorem c_F_isDark (l : Launch) (G : xG) (d : xd) (x : Int32) (hx : 0 ≤ x ∧ x ≤ 3) (n : Nat) (hn : d 2 0 = nI n) (h8 : n ≤ 8) : x_M G l yX11_isDark wsX11_isDark 3 0 0 [.ref (x_b G + 0), .int x] d (some (.int (x_bi (f_glow d 1 x n = 0)))) d := by
  have iX11 : ∀ w ∈ u_ws RX11 TX11 13, w ∈ wsX11_isDark := by decide +kernel
  have iX9 : ∀ w ∈ u_ws RX9 TX9 3, w ∈ wsX11_isDark := by decide +kernel
  refine x_start (cc := cX11_isDark) (maxL := 2) (ret := (some .boolean)) (own := RX11) (by decide) rfl rfl (Nat.le_of_ble_eq_true rfl) (lst := [(0, .ref (x_b G + 0)), (1, .int x)]) rfl ?_
  intro p e s m args below meth c C hr hlocks
  refine a_iload_n C dX11_isDark_0 1 rfl ?_
  refine a_callS C (As := [.int x]) (rest := []) (c_F_requireStreet l G d x hx) (va_cwS 1 C.1.2.2.2.2 gX11_isDark_X11_requireStreet rfl rfl rfl (by decide +kernel) ⟨Nat.le_of_ble_eq_true rfl, Nat.le_of_ble_eq_true rfl⟩) rfl rfl (Nat.le_of_ble_eq_true rfl) dX11_isDark_1 ⟨Nat.le_of_ble_eq_true rfl, Nat.le_of_ble_eq_true rfl⟩ ?_
  refine a_aload_n C dX11_isDark_4 0 rfl ?_
  refine a_getR C (k := 0) iX11 x_k0 rfl (j := 0) rfl (by decide) (by decide +kernel) dX11_isDark_5 ?_
  refine a_getR C (k := 1) iX9 (x_sS0 x_isS_1) rfl (j := 0) rfl (by decide) (by decide +kernel) dX11_isDark_8 ?_
  refine a_iload_n C dX11_isDark_11 1 rfl ?_
  refine a_callV C (k := 2) (As := [.int x]) (rest := []) (c_X5_glowIn l G d 1 n x_isS_1 hn h8 x) (cwV 1 C.1.2.2.2.2 gX11_isDark_X5_glowIn rfl rfl rfl (by decide +kernel) ⟨Nat.le_of_ble_eq_true rfl, Nat.le_of_ble_eq_true rfl⟩) (x_sS1 x_isS_1) (q := (RX5, TX5, 8)) rfl rfl rfl rfl (Nat.le_of_ble_eq_true rfl) dX11_isDark_12 ⟨Nat.le_of_ble_eq_true rfl, Nat.le_of_ble_eq_true rfl⟩ ?_
  refine a_if_ne C dX11_isDark_15 (tgt := 22) (by decide) (fun h15 => ?_) (fun h15 => ?_)
  · skip
    refine a_iconst C dX11_isDark_22 (v := 0) (by decide) ?_
    exact a_zret C hlocks hr rfl dX11_isDark_23 (x_bi_f h15).symm rfl
  · skip
    refine a_iconst C dX11_isDark_18 (v := 1) (by decide) ?_
    refine a_goto C dX11_isDark_19 (tgt := 23) (by decide) ?_
    exact a_zret C hlocks hr rfl dX11_isDark_23 (x_bi_t (Decidable.not_not.mp (fun q => q h15))).symm rfl

set_option maxHeartbeats 1000000 in
set_option maxRecDepth 100000 in
theorem c_F_isDark_1 (l : Launch) (hfl : l.stackTraces = false) (G : xG) (d : xd) (x : Int32) (hx : ¬ (0 ≤ x ∧ x ≤ 3)) : x_X G l yX11_isDark wsX11_isDark 3 [.ref (x_b G + 0), .int x] d "java/lang/IndexOutOfBoundsException" d := by
  refine x_startX (cc := cX11_isDark) (maxL := 2) (ret := (some .boolean)) (own := RX11) (by decide) rfl rfl (Nat.le_of_ble_eq_true rfl) (lst := [(0, .ref (x_b G + 0)), (1, .int x)]) rfl ?_
  intro p e s m args below meth c C hr hlocks
  refine a_iload_n C dX11_isDark_0 1 rfl ?_
  exact a_callSX C hr hlocks (As := [.int x]) (rest := []) (c_F_requireStreet_1 l hfl G d x hx) (va_cwS 1 C.1.2.2.2.2 gX11_isDark_X11_requireStreet rfl rfl rfl (by decide +kernel) ⟨Nat.le_of_ble_eq_true rfl, Nat.le_of_ble_eq_true rfl⟩) rfl rfl (Nat.le_of_ble_eq_true rfl) dX11_isDark_1 (by decide) (by decide) (by decide) rfl

/-- the brightest of the streets 0 .. i -/
def f_bs (f : Int32 → Int32) : Nat → Int32
  | 0 => 0
  | i + 1 => if f (f_bs f i) < f (nI (i + 1)) then nI (i + 1) else f_bs f i
set_option maxHeartbeats 1000000 in
set_option maxRecDepth 100000 in
theorem c_F_brightestStreet (l : Launch) (G : xG) (d : xd) (n : Nat) (hn : d 2 0 = nI n) (h8 : n ≤ 8) : x_M G l yX11_brightestStreet wsX11_brightestStreet 3 0 0 [.ref (x_b G + 0)] d (some (.int (f_bs (fun x => f_glow d 1 x n) 3))) d := by
  have iX11 : ∀ w ∈ u_ws RX11 TX11 13, w ∈ wsX11_brightestStreet := by decide +kernel
  have iX9 : ∀ w ∈ u_ws RX9 TX9 3, w ∈ wsX11_brightestStreet := by decide +kernel
  refine x_start (cc := cX11_brightestStreet) (maxL := 5) (ret := (some .int)) (own := RX11) (by decide) rfl rfl (Nat.le_of_ble_eq_true rfl) (lst := [(0, .ref (x_b G + 0))]) rfl ?_
  intro p e s m args below meth c C hr hlocks
  refine a_iconst C dX11_brightestStreet_0 (v := 0) (by decide) ?_
  refine a_istore_n C dX11_brightestStreet_1 (by decide) (lst2 := [(1, .int 0), (0, .ref (x_b G + 0))]) rfl ?_
  refine a_aload_n C dX11_brightestStreet_2 1 rfl ?_
  refine a_getR C (k := 0) iX11 x_k0 rfl (j := 0) rfl (by decide) (by decide +kernel) dX11_brightestStreet_3 ?_
  refine a_getR C (k := 1) iX9 (x_sS0 x_isS_1) rfl (j := 0) rfl (by decide) (by decide +kernel) dX11_brightestStreet_6 ?_
  refine a_iconst C dX11_brightestStreet_9 (v := 0) (by decide) ?_
  refine a_callV C (k := 2) (As := [.int 0]) (rest := []) (c_X5_glowIn l G d 1 n x_isS_1 hn h8 0) (cwV 1 C.1.2.2.2.2 gX11_brightestStreet_X5_glowIn rfl rfl rfl (by decide +kernel) ⟨Nat.le_of_ble_eq_true rfl, Nat.le_of_ble_eq_true rfl⟩) (x_sS1 x_isS_1) (q := (RX5, TX5, 8)) rfl rfl rfl rfl (Nat.le_of_ble_eq_true rfl) dX11_brightestStreet_10 ⟨Nat.le_of_ble_eq_true rfl, Nat.le_of_ble_eq_true rfl⟩ ?_
  refine a_istore_n C dX11_brightestStreet_13 (by decide) (lst2 := [(2, .int (f_glow d 1 0 n)), (1, .int 0), (0, .ref (x_b G + 0))]) rfl ?_
  refine a_iconst C dX11_brightestStreet_14 (v := 1) (by decide) ?_
  refine a_istore_n C dX11_brightestStreet_15 (by decide) (lst2 := [(3, .int 1), (2, .int (f_glow d 1 0 n)), (1, .int 0), (0, .ref (x_b G + 0))]) rfl ?_
  have L16 : ∀ (j i : Nat), i ≤ 3 → 3 < i + j → Ab G p l e (x_rm 3 0 0) s m args below meth c 5 0 0 (MQ below (x_Q G (some (.int (f_bs (fun x => f_glow d 1 x n) 3))) d) args s 0 0 (x_A G)) 16 [(3, .int (nI (i + 1))), (2, .int (f_glow d 1 (f_bs (fun x => f_glow d 1 x n) i) n)), (1, .int (f_bs (fun x => f_glow d 1 x n) i)), (0, .ref (x_b G + 0))] [] d := by
    intro j
    induction j with
    | zero => intro i h1 h2; exact absurd h2 (by omega)
    | succ j ih =>
      intro i hi hj 
      refine a_iload_n C dX11_brightestStreet_16 0 rfl ?_
      refine a_iconst C dX11_brightestStreet_17 (v := 4) (by decide) ?_
      refine a_icmp_ge C dX11_brightestStreet_18 (tgt := 51) (by decide) (fun h18 => ?_) (fun h18 => ?_)
      · skip
        have e : i = 3 := by
          have := (nI_leI (a := 4) (b := i + 1) (by omega) (by omega)).mp h18
          omega
        subst e
        refine a_iload_n C dX11_brightestStreet_51 2 rfl ?_
        exact a_iret C hlocks hr dX11_brightestStreet_52 rfl rfl
      · skip
        have hlt : i < 3 := by
          rcases Nat.lt_or_ge i 3 with z | z
          · exact z
          · exact absurd ((nI_leI (a := 4) (b := i + 1) (by omega) (by omega)).mpr (by omega)) h18
        refine a_aload_n C dX11_brightestStreet_21 3 rfl ?_
        refine a_getR C (k := 0) iX11 x_k0 rfl (j := 0) rfl (by decide) (by decide +kernel) dX11_brightestStreet_22 ?_
        refine a_getR C (k := 1) iX9 (x_sS0 x_isS_1) rfl (j := 0) rfl (by decide) (by decide +kernel) dX11_brightestStreet_25 ?_
        refine a_iload_n C dX11_brightestStreet_28 0 rfl ?_
        refine a_callV C (k := 2) (As := [.int (nI (i + 1))]) (rest := []) (c_X5_glowIn l G d 1 n x_isS_1 hn h8 (nI (i + 1))) (cwV 1 C.1.2.2.2.2 gX11_brightestStreet_X5_glowIn rfl rfl rfl (by decide +kernel) ⟨Nat.le_of_ble_eq_true rfl, Nat.le_of_ble_eq_true rfl⟩) (x_sS1 x_isS_1) (q := (RX5, TX5, 8)) rfl rfl rfl rfl (Nat.le_of_ble_eq_true rfl) dX11_brightestStreet_29 ⟨Nat.le_of_ble_eq_true rfl, Nat.le_of_ble_eq_true rfl⟩ ?_
        refine a_istore C dX11_brightestStreet_32 (by decide) (lst2 := [(4, .int (f_glow d 1 (nI (i + 1)) n)), (3, .int (nI (i + 1))), (2, .int (f_glow d 1 (f_bs (fun x => f_glow d 1 x n) i) n)), (1, .int (f_bs (fun x => f_glow d 1 x n) i)), (0, .ref (x_b G + 0))]) rfl ?_
        refine a_iload C dX11_brightestStreet_34 0 rfl ?_
        refine a_iload_n C dX11_brightestStreet_36 2 rfl ?_
        refine a_icmp_le C dX11_brightestStreet_37 (tgt := 45) (by decide) (fun h37 => ?_) (fun h37 => ?_)
        · skip
          refine a_iinc C dX11_brightestStreet_45 1 rfl (v := (nI (i + 1 + 1))) (x_inc (i + 1)) (by decide) (lst2 := [(3, .int (nI (i + 1 + 1))), (4, .int (f_glow d 1 (nI (i + 1)) n)), (2, .int (f_glow d 1 (f_bs (fun x => f_glow d 1 x n) i) n)), (1, .int (f_bs (fun x => f_glow d 1 x n) i)), (0, .ref (x_b G + 0))]) rfl ?_
          refine a_goto C dX11_brightestStreet_48 (tgt := 16) (by decide) ?_
          refine a_sub (lst2 := [(3, .int (nI (i + 1 + 1))), (2, .int (f_glow d 1 (f_bs (fun x => f_glow d 1 x n) i) n)), (1, .int (f_bs (fun x => f_glow d 1 x n) i)), (0, .ref (x_b G + 0))]) [0, 2, 3, 4] rfl ?_
          refine a_to (lst2 := [(3, .int (nI (((i + 1)) + 1))), (2, .int (f_glow d 1 (f_bs (fun x => f_glow d 1 x n) ((i + 1))) n)), (1, .int (f_bs (fun x => f_glow d 1 x n) ((i + 1)))), (0, .ref (x_b G + 0))]) (st2 := []) (d2 := d) (by rw [f_bs, if_neg (Int32.not_lt.mpr h37)]) rfl rfl ?_
          exact ih (i + 1) (by omega) (by omega) 
        · skip
          refine a_iload_n C dX11_brightestStreet_40 1 rfl ?_
          refine a_istore_n C dX11_brightestStreet_41 (by decide) (lst2 := [(1, .int (nI (i + 1))), (4, .int (f_glow d 1 (nI (i + 1)) n)), (3, .int (nI (i + 1))), (2, .int (f_glow d 1 (f_bs (fun x => f_glow d 1 x n) i) n)), (0, .ref (x_b G + 0))]) rfl ?_
          refine a_iload C dX11_brightestStreet_42 1 rfl ?_
          refine a_istore_n C dX11_brightestStreet_44 (by decide) (lst2 := [(2, .int (f_glow d 1 (nI (i + 1)) n)), (1, .int (nI (i + 1))), (4, .int (f_glow d 1 (nI (i + 1)) n)), (3, .int (nI (i + 1))), (0, .ref (x_b G + 0))]) rfl ?_
          refine a_iinc C dX11_brightestStreet_45 3 rfl (v := (nI (i + 1 + 1))) (x_inc (i + 1)) (by decide) (lst2 := [(3, .int (nI (i + 1 + 1))), (2, .int (f_glow d 1 (nI (i + 1)) n)), (1, .int (nI (i + 1))), (4, .int (f_glow d 1 (nI (i + 1)) n)), (0, .ref (x_b G + 0))]) rfl ?_
          refine a_goto C dX11_brightestStreet_48 (tgt := 16) (by decide) ?_
          refine a_sub (lst2 := [(3, .int (nI (i + 1 + 1))), (2, .int (f_glow d 1 (nI (i + 1)) n)), (1, .int (nI (i + 1))), (0, .ref (x_b G + 0))]) [0, 1, 2, 4] rfl ?_
          refine a_to (lst2 := [(3, .int (nI (((i + 1)) + 1))), (2, .int (f_glow d 1 (f_bs (fun x => f_glow d 1 x n) ((i + 1))) n)), (1, .int (f_bs (fun x => f_glow d 1 x n) ((i + 1)))), (0, .ref (x_b G + 0))]) (st2 := []) (d2 := d) (by rw [f_bs, if_pos (Int32.not_le.mp h37)]) rfl rfl ?_
          exact ih (i + 1) (by omega) (by omega) 
  refine a_sub (lst2 := [(3, .int 1), (2, .int (f_glow d 1 0 n)), (1, .int 0), (0, .ref (x_b G + 0))]) [0, 1, 2, 3] rfl ?_
  exact L16 (3 + 1) 0 (by omega) (by omega) 

set_option maxHeartbeats 1000000 in
set_option maxRecDepth 100000 in
theorem c_F_votesFor (l : Launch) (G : xG) (d : xd) (x : Int32) (hx : 1 ≤ x ∧ x ≤ 5) (n : Nat) (hn : d 2 0 = nI n) (h8 : n ≤ 8) : x_M G l yX11_votesFor wsX11_votesFor 3 0 0 [.ref (x_b G + 0), .int x] d (some (.int (f_votes d 1 x n))) d := by
  have iX11 : ∀ w ∈ u_ws RX11 TX11 13, w ∈ wsX11_votesFor := by decide +kernel
  have iX9 : ∀ w ∈ u_ws RX9 TX9 3, w ∈ wsX11_votesFor := by decide +kernel
  refine x_start (cc := cX11_votesFor) (maxL := 2) (ret := (some .int)) (own := RX11) (by decide) rfl rfl (Nat.le_of_ble_eq_true rfl) (lst := [(0, .ref (x_b G + 0)), (1, .int x)]) rfl ?_
  intro p e s m args below meth c C hr hlocks
  refine a_iload_n C dX11_votesFor_0 1 rfl ?_
  refine a_iconst C dX11_votesFor_1 (v := 1) (by decide) ?_
  refine a_iconst C dX11_votesFor_2 (v := 5) (by decide) ?_
  refine a_callS C (As := [.int x, .int 1, .int 5]) (rest := []) (c_within_t l G d x 1 5 hx) (va_cwS 3 C.1.2.2.2.2 gX11_votesFor_X11_within rfl rfl rfl (by decide +kernel) ⟨Nat.le_of_ble_eq_true rfl, Nat.le_of_ble_eq_true rfl⟩) rfl rfl (Nat.le_of_ble_eq_true rfl) dX11_votesFor_3 ⟨Nat.le_of_ble_eq_true rfl, Nat.le_of_ble_eq_true rfl⟩ ?_
  refine a_if_ne C dX11_votesFor_6 (tgt := 20) (by decide) (fun _ => ?_) (fun h => absurd h (by decide))
  refine a_aload_n C dX11_votesFor_20 0 rfl ?_
  refine a_getR C (k := 0) iX11 x_k0 rfl (j := 0) rfl (by decide) (by decide +kernel) dX11_votesFor_21 ?_
  refine a_getR C (k := 1) iX9 (x_sS0 x_isS_1) rfl (j := 0) rfl (by decide) (by decide +kernel) dX11_votesFor_24 ?_
  refine a_iload_n C dX11_votesFor_27 1 rfl ?_
  refine a_callV C (k := 2) (As := [.int x]) (rest := []) (c_X5_sharesFor l G d 1 n x_isS_1 hn h8 x) (cwV 1 C.1.2.2.2.2 gX11_votesFor_X5_sharesFor rfl rfl rfl (by decide +kernel) ⟨Nat.le_of_ble_eq_true rfl, Nat.le_of_ble_eq_true rfl⟩) (x_sS1 x_isS_1) (q := (RX5, TX5, 8)) rfl rfl rfl rfl (Nat.le_of_ble_eq_true rfl) dX11_votesFor_28 ⟨Nat.le_of_ble_eq_true rfl, Nat.le_of_ble_eq_true rfl⟩ ?_
  exact a_iret C hlocks hr dX11_votesFor_31 rfl rfl

set_option maxHeartbeats 1000000 in
set_option maxRecDepth 100000 in
theorem c_F_votesFor_2 (l : Launch) (hfl : l.stackTraces = false) (G : xG) (d : xd) (x : Int32) (hx : ¬ (1 ≤ x ∧ x ≤ 5)) : x_X G l yX11_votesFor wsX11_votesFor 3 [.ref (x_b G + 0), .int x] d "java/lang/IllegalArgumentException" d := by
  refine x_startX (cc := cX11_votesFor) (maxL := 2) (ret := (some .int)) (own := RX11) (by decide) rfl rfl (Nat.le_of_ble_eq_true rfl) (lst := [(0, .ref (x_b G + 0)), (1, .int x)]) rfl ?_
  intro p e s m args below meth c C hr hlocks
  refine a_iload_n C dX11_votesFor_0 1 rfl ?_
  refine a_iconst C dX11_votesFor_1 (v := 1) (by decide) ?_
  refine a_iconst C dX11_votesFor_2 (v := 5) (by decide) ?_
  refine a_callS C (As := [.int x, .int 1, .int 5]) (rest := []) (c_within_f l G d x 1 5 hx) (va_cwS 3 C.1.2.2.2.2 gX11_votesFor_X11_within rfl rfl rfl (by decide +kernel) ⟨Nat.le_of_ble_eq_true rfl, Nat.le_of_ble_eq_true rfl⟩) rfl rfl (Nat.le_of_ble_eq_true rfl) dX11_votesFor_3 ⟨Nat.le_of_ble_eq_true rfl, Nat.le_of_ble_eq_true rfl⟩ ?_
  refine a_if_ne C dX11_votesFor_6 (tgt := 20) (by decide) (fun h => absurd h (by decide)) (fun _ => ?_)
  exact a_throw C hr hlocks hfl (is := 264) (cls := "java/lang/IllegalArgumentException") (ic := 266) (ik := 262) (text := "the cap is not from 1 to 5") (by decide) rfl (by decide +kernel) (by decide +kernel) (fun w hw => List.mem_cons_of_mem _ (List.mem_append_left _ (List.mem_append_right _ hw))) dX11_votesFor_9 dX11_votesFor_12 dX11_votesFor_13 dX11_votesFor_16 dX11_votesFor_19 (Nat.le_of_ble_eq_true rfl) (Nat.le_of_ble_eq_true rfl) (by decide) (by decide) (rfl)

set_option maxHeartbeats 1000000 in
set_option maxRecDepth 100000 in
theorem c_F_totalShares (l : Launch) (G : xG) (d : xd) (n : Nat) (hn : d 2 0 = nI n) (h8 : n ≤ 8) : x_M G l yX11_totalShares wsX11_totalShares 3 0 0 [.ref (x_b G + 0)] d (some (.int (f_sum (d 4) n))) d := by
  have iX11 : ∀ w ∈ u_ws RX11 TX11 13, w ∈ wsX11_totalShares := by decide +kernel
  have iX9 : ∀ w ∈ u_ws RX9 TX9 3, w ∈ wsX11_totalShares := by decide +kernel
  refine x_start (cc := cX11_totalShares) (maxL := 1) (ret := (some .int)) (own := RX11) (by decide) rfl rfl (Nat.le_of_ble_eq_true rfl) (lst := [(0, .ref (x_b G + 0))]) rfl ?_
  intro p e s m args below meth c C hr hlocks
  refine a_aload_n C dX11_totalShares_0 0 rfl ?_
  refine a_getR C (k := 0) iX11 x_k0 rfl (j := 0) rfl (by decide) (by decide +kernel) dX11_totalShares_1 ?_
  refine a_getR C (k := 1) iX9 (x_sS0 x_isS_1) rfl (j := 0) rfl (by decide) (by decide +kernel) dX11_totalShares_4 ?_
  refine a_callV C (k := 2) (As := []) (rest := []) (c_X5_allShares l G d 1 n x_isS_1 hn h8) (cwV 0 C.1.2.2.2.2 gX11_totalShares_X5_allShares rfl rfl rfl (by decide +kernel) ⟨Nat.le_of_ble_eq_true rfl, Nat.le_of_ble_eq_true rfl⟩) (x_sS1 x_isS_1) (q := (RX5, TX5, 8)) rfl rfl rfl rfl (Nat.le_of_ble_eq_true rfl) dX11_totalShares_7 ⟨Nat.le_of_ble_eq_true rfl, Nat.le_of_ble_eq_true rfl⟩ ?_
  exact a_iret C hlocks hr dX11_totalShares_10 rfl rfl


