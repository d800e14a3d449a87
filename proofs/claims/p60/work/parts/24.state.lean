theorem f_cpl_out {d : xd} {o o2 k : Nat} (h : k < o + 1 ∨ o + 8 < k) : f_cpl d o o2 k = d k := by
  unfold f_cpl
  rw [x_r_ne2 (by omega), x_r_ne2 (by omega), x_r_ne2 (by omega), x_r_ne2 (by omega), x_r_ne2 (by omega), x_r_ne2 (by omega), x_r_ne2 (by omega), x_p_ne (by omega)]
theorem f_cpm_out {d : xd} {o o2 k : Nat} (h : k < o + 9 ∨ o + 12 < k) : f_cpm d o o2 k = d k := by
  unfold f_cpm
  rw [x_r_ne2 (by omega), x_r_ne2 (by omega), x_r_ne2 (by omega), x_p_ne (by omega)]
theorem f_cpb_out {d : xd} {o o2 k : Nat} (h : k ≠ o + 13) : f_cpb d o o2 k = d k := by
  unfold f_cpb
  rw [x_p_ne h, x_p_ne h, x_p_ne h, x_p_ne h, x_p_ne h, x_p_ne h, x_p_ne h, x_p_ne h, x_p_ne h, x_p_ne h]
def f_cps (d : xd) (o o2 : Nat) : xd := f_cpb (f_cpm (f_cpl d o o2) o o2) o o2
theorem f_cps_out {d : xd} {o o2 k : Nat} (h : k < o + 1 ∨ o + 13 < k) : f_cps d o o2 k = d k := by
  unfold f_cps
  rw [f_cpb_out (by omega), f_cpm_out (by omega), f_cpl_out (by omega)]
theorem f_gap_out {d : xd} {o n i k : Nat} (h : k < o + 1 ∨ o + 8 < k) : f_gap d o n i k = d k := by
  unfold f_gap
  rw [x_p_ne (by omega), x_r_ne2 (by omega), x_r_ne2 (by omega), x_r_ne2 (by omega), x_r_ne2 (by omega), x_r_ne2 (by omega), x_r_ne2 (by omega), x_r_ne2 (by omega)]
theorem f_gap_cnt {d : xd} {o n i : Nat} : f_gap d o n i (o + 1) 0 = nI (n - 1) := by
  unfold f_gap
  rw [x_p_at]

set_option maxHeartbeats 4000000 in
set_option maxRecDepth 100000 in
theorem c_X9_copyFrom (l : Launch) (G : xG) (d : xd) (o o2 : Nat) (ho : x_isS o) (ho2 : x_isS o2) (hne : o ≠ o2) : x_M G l yX9_copyFrom wsX9_copyFrom 2 0 0 [.ref (x_b G + o), .ref (x_b G + o2)] d none (f_cps d o o2) := by
  have iX9 : ∀ w ∈ u_ws RX9 TX9 3, w ∈ wsX9_copyFrom := by decide +kernel
  refine x_start (cc := cX9_copyFrom) (maxL := 2) (ret := none) (own := RX9) (by decide) rfl rfl (Nat.le_of_ble_eq_true rfl) (lst := [(0, .ref (x_b G + o)), (1, .ref (x_b G + o2))]) rfl ?_
  intro p e s m args below meth c C hr hlocks
  refine a_aload_n C dX9_copyFrom_0 0 rfl ?_
  refine a_getR C (k := o) iX9 (x_sS0 ho) rfl (j := 0) rfl (by decide) (by decide +kernel) dX9_copyFrom_1 ?_
  refine a_aload_n C dX9_copyFrom_4 1 rfl ?_
  refine a_getR C (k := o2) iX9 (x_sS0 ho2) rfl (j := 0) rfl (by decide) (by decide +kernel) dX9_copyFrom_5 ?_
  refine a_callV C (k := (o + 1)) (As := [.ref (x_b G + (o2 + 1))]) (rest := []) (c_X5_copyFrom l G d o o2 ho ho2 hne) (cwV 1 C.1.2.2.2.2 gX9_copyFrom_X5_copyFrom rfl rfl rfl (by decide +kernel) ⟨Nat.le_of_ble_eq_true rfl, Nat.le_of_ble_eq_true rfl⟩) (x_sS1 ho) (q := (RX5, TX5, 8)) rfl rfl rfl rfl (Nat.le_of_ble_eq_true rfl) dX9_copyFrom_8 ⟨Nat.le_of_ble_eq_true rfl, Nat.le_of_ble_eq_true rfl⟩ ?_
  refine a_aload_n C dX9_copyFrom_11 0 rfl ?_
  refine a_getR C (k := o) iX9 (x_sS0 ho) rfl (j := 1) rfl (by decide) (by decide +kernel) dX9_copyFrom_12 ?_
  refine a_aload_n C dX9_copyFrom_15 1 rfl ?_
  refine a_getR C (k := o2) iX9 (x_sS0 ho2) rfl (j := 1) rfl (by decide) (by decide +kernel) dX9_copyFrom_16 ?_
  refine a_callV C (k := (o + 9)) (As := [.ref (x_b G + (o2 + 9))]) (rest := []) (c_X6_copyFrom l G (f_cpl d o o2) o o2 ho ho2 hne) (cwV 1 C.1.2.2.2.2 gX9_copyFrom_X6_copyFrom rfl rfl rfl (by decide +kernel) ⟨Nat.le_of_ble_eq_true rfl, Nat.le_of_ble_eq_true rfl⟩) (x_sS9 ho) (q := (RX6, TX6, 4)) rfl rfl rfl rfl (Nat.le_of_ble_eq_true rfl) dX9_copyFrom_19 ⟨Nat.le_of_ble_eq_true rfl, Nat.le_of_ble_eq_true rfl⟩ ?_
  refine a_aload_n C dX9_copyFrom_22 0 rfl ?_
  refine a_getR C (k := o) iX9 (x_sS0 ho) rfl (j := 2) rfl (by decide) (by decide +kernel) dX9_copyFrom_23 ?_
  refine a_aload_n C dX9_copyFrom_26 1 rfl ?_
  refine a_getR C (k := o2) iX9 (x_sS0 ho2) rfl (j := 2) rfl (by decide) (by decide +kernel) dX9_copyFrom_27 ?_
  refine a_callV C (k := (o + 13)) (As := [.ref (x_b G + (o2 + 13))]) (rest := []) (c_X2_copyFrom l G (f_cpm (f_cpl d o o2) o o2) o o2 ho ho2 hne) (cwV 1 C.1.2.2.2.2 gX9_copyFrom_X2_copyFrom rfl rfl rfl (by decide +kernel) ⟨Nat.le_of_ble_eq_true rfl, Nat.le_of_ble_eq_true rfl⟩) (x_sS13 ho) (q := (RX2, TX2, 10)) rfl rfl rfl rfl (Nat.le_of_ble_eq_true rfl) dX9_copyFrom_30 ⟨Nat.le_of_ble_eq_true rfl, Nat.le_of_ble_eq_true rfl⟩ ?_
  exact a_vret C hlocks hr dX9_copyFrom_33 rfl

def f_drop (d : xd) (o n i q : Nat) : xd := x_r (f_gap (x_p (x_p (x_p d (o + 13) 0 ((d (o + 13) 0) + (d (o + 6) i))) (o + 13) 1 ((d (o + 13) 1) + (d (o + 7) i))) (o + 13) 2 ((d (o + 13) 2) + (d (o + 8) i))) o n i) (o + 10) (f_fill (f_fg (f_gap (x_p (x_p (x_p d (o + 13) 0 ((d (o + 13) 0) + (d (o + 6) i))) (o + 13) 1 ((d (o + 13) 1) + (d (o + 7) i))) (o + 13) 2 ((d (o + 13) 2) + (d (o + 8) i))) o n i (o + 10)) (nI i)) (f_gap (x_p (x_p (x_p d (o + 13) 0 ((d (o + 13) 0) + (d (o + 6) i))) (o + 13) 1 ((d (o + 13) 1) + (d (o + 7) i))) (o + 13) 2 ((d (o + 13) 2) + (d (o + 8) i))) o n i (o + 10)) q)
set_option maxHeartbeats 4000000 in
set_option maxRecDepth 100000 in
theorem c_X9_dropLamp (l : Launch) (G : xG) (d : xd) (o n : Nat) (ho : x_isS o) (hn : d (o + 1) 0 = nI n) (h8 : n ≤ 8) (i : Nat) (hi : i < n) (q : Nat) (hq : d (o + 9) 0 = nI q) (h6 : q ≤ 6) : x_M G l yX9_dropLamp wsX9_dropLamp 2 0 0 [.ref (x_b G + o), .int (nI i)] d (some (.int (nI (n - 1)))) (f_drop d o n i q) := by
  have iX2 : ∀ w ∈ u_ws RX2 TX2 10, w ∈ wsX9_dropLamp := by decide +kernel
  have iX5 : ∀ w ∈ u_ws RX5 TX5 8, w ∈ wsX9_dropLamp := by decide +kernel
  have iX9 : ∀ w ∈ u_ws RX9 TX9 3, w ∈ wsX9_dropLamp := by decide +kernel
  refine x_start (cc := cX9_dropLamp) (maxL := 2) (ret := (some .int)) (own := RX9) (by decide) rfl rfl (Nat.le_of_ble_eq_true rfl) (lst := [(0, .ref (x_b G + o)), (1, .int (nI i))]) rfl ?_
  intro p e s m args below meth c C hr hlocks
  refine a_aload_n C dX9_dropLamp_0 0 rfl ?_
  refine a_getR C (k := o) iX9 (x_sS0 ho) rfl (j := 2) rfl (by decide) (by decide +kernel) dX9_dropLamp_1 ?_
  refine a_dup C dX9_dropLamp_4 rfl ?_
  refine a_getI C (k := (o + 13)) iX2 (x_sS13 ho) rfl (j := 0) rfl (by decide) (by decide +kernel) dX9_dropLamp_5 ?_
  refine a_aload_n C dX9_dropLamp_8 0 rfl ?_
  refine a_getR C (k := o) iX9 (x_sS0 ho) rfl (j := 0) rfl (by decide) (by decide +kernel) dX9_dropLamp_9 ?_
  refine a_getR C (k := (o + 1)) iX5 (x_sS1 ho) rfl (j := 5) rfl (by decide) (by decide +kernel) dX9_dropLamp_12 ?_
  refine a_iload_n C dX9_dropLamp_15 1 rfl ?_
  refine a_ialdN C (k := (o + 6)) (x_sS6 ho) (i := i) rfl (by omega) (by first | decide | omega) dX9_dropLamp_16 ?_
  refine a_iadd C dX9_dropLamp_17 ?_
  refine a_putI C (k := (o + 13)) iX2 tyX2_ok nmX2 (x_sS13 ho) rfl (j := 0) rfl (by decide) (by decide +kernel) rfl (ty := .int) (by decide +kernel) rfl rfl dX9_dropLamp_18 ?_
  refine a_aload_n C dX9_dropLamp_21 0 rfl ?_
  refine a_getR C (k := o) iX9 (x_sS0 ho) rfl (j := 2) rfl (by decide) (by decide +kernel) dX9_dropLamp_22 ?_
  refine a_dup C dX9_dropLamp_25 rfl ?_
  refine a_getI C (k := (o + 13)) iX2 (x_sS13 ho) rfl (j := 1) rfl (by decide) (by decide +kernel) dX9_dropLamp_26 ?_
  refine a_top (y := (d (o + 13) 1)) (by rw [x_p_row (by omega)]) ?_
  refine a_aload_n C dX9_dropLamp_29 0 rfl ?_
  refine a_getR C (k := o) iX9 (x_sS0 ho) rfl (j := 0) rfl (by decide) (by decide +kernel) dX9_dropLamp_30 ?_
  refine a_getR C (k := (o + 1)) iX5 (x_sS1 ho) rfl (j := 6) rfl (by decide) (by decide +kernel) dX9_dropLamp_33 ?_
  refine a_iload_n C dX9_dropLamp_36 1 rfl ?_
  refine a_ialdN C (k := (o + 7)) (x_sS7 ho) (i := i) rfl (by omega) (by first | decide | omega) dX9_dropLamp_37 ?_
  refine a_top (y := (d (o + 7) i)) (by rw [x_p_ne (by omega)]) ?_
  refine a_iadd C dX9_dropLamp_38 ?_
  refine a_putI C (k := (o + 13)) iX2 tyX2_ok nmX2 (x_sS13 ho) rfl (j := 1) rfl (by decide) (by decide +kernel) rfl (ty := .int) (by decide +kernel) rfl rfl dX9_dropLamp_39 ?_
  refine a_aload_n C dX9_dropLamp_42 0 rfl ?_
  refine a_getR C (k := o) iX9 (x_sS0 ho) rfl (j := 2) rfl (by decide) (by decide +kernel) dX9_dropLamp_43 ?_
  refine a_dup C dX9_dropLamp_46 rfl ?_
  refine a_getI C (k := (o + 13)) iX2 (x_sS13 ho) rfl (j := 2) rfl (by decide) (by decide +kernel) dX9_dropLamp_47 ?_
  refine a_top (y := (d (o + 13) 2)) (by rw [x_p_row (by omega), x_p_row (by omega)]) ?_
  refine a_aload_n C dX9_dropLamp_50 0 rfl ?_
  refine a_getR C (k := o) iX9 (x_sS0 ho) rfl (j := 0) rfl (by decide) (by decide +kernel) dX9_dropLamp_51 ?_
  refine a_getR C (k := (o + 1)) iX5 (x_sS1 ho) rfl (j := 7) rfl (by decide) (by decide +kernel) dX9_dropLamp_54 ?_
  refine a_iload_n C dX9_dropLamp_57 1 rfl ?_
  refine a_ialdN C (k := (o + 8)) (x_sS8 ho) (i := i) rfl (by omega) (by first | decide | omega) dX9_dropLamp_58 ?_
  refine a_top (y := (d (o + 8) i)) (by rw [x_p_ne (by omega), x_p_ne (by omega)]) ?_
  refine a_iadd C dX9_dropLamp_59 ?_
  refine a_putI C (k := (o + 13)) iX2 tyX2_ok nmX2 (x_sS13 ho) rfl (j := 2) rfl (by decide) (by decide +kernel) rfl (ty := .int) (by decide +kernel) rfl rfl dX9_dropLamp_60 ?_
  refine a_aload_n C dX9_dropLamp_63 0 rfl ?_
  refine a_getR C (k := o) iX9 (x_sS0 ho) rfl (j := 0) rfl (by decide) (by decide +kernel) dX9_dropLamp_64 ?_
  refine a_iload_n C dX9_dropLamp_67 1 rfl ?_
  refine a_callV C (k := (o + 1)) (As := [.int (nI i)]) (rest := []) (c_X5_closeGap l G (x_p (x_p (x_p d (o + 13) 0 ((d (o + 13) 0) + (d (o + 6) i))) (o + 13) 1 ((d (o + 13) 1) + (d (o + 7) i))) (o + 13) 2 ((d (o + 13) 2) + (d (o + 8) i))) o n ho (by rw [x_p_ne (by omega), x_p_ne (by omega), x_p_ne (by omega)]; exact hn) h8 i hi) (cwV 1 C.1.2.2.2.2 gX9_dropLamp_X5_closeGap rfl rfl rfl (by decide +kernel) ⟨Nat.le_of_ble_eq_true rfl, Nat.le_of_ble_eq_true rfl⟩) (x_sS1 ho) (q := (RX5, TX5, 8)) rfl rfl rfl rfl (Nat.le_of_ble_eq_true rfl) dX9_dropLamp_68 ⟨Nat.le_of_ble_eq_true rfl, Nat.le_of_ble_eq_true rfl⟩ ?_
  refine a_aload_n C dX9_dropLamp_71 0 rfl ?_
  refine a_getR C (k := o) iX9 (x_sS0 ho) rfl (j := 1) rfl (by decide) (by decide +kernel) dX9_dropLamp_72 ?_
  refine a_iload_n C dX9_dropLamp_75 1 rfl ?_
  refine a_callV C (k := (o + 9)) (As := [.int (nI i)]) (rest := []) (c_X6_forgetLamp l G (f_gap (x_p (x_p (x_p d (o + 13) 0 ((d (o + 13) 0) + (d (o + 6) i))) (o + 13) 1 ((d (o + 13) 1) + (d (o + 7) i))) (o + 13) 2 ((d (o + 13) 2) + (d (o + 8) i))) o n i) o q ho (by rw [f_gap_out (by omega), x_p_ne (by omega), x_p_ne (by omega), x_p_ne (by omega)]; exact hq) h6 (nI i)) (cwV 1 C.1.2.2.2.2 gX9_dropLamp_X6_forgetLamp rfl rfl rfl (by decide +kernel) ⟨Nat.le_of_ble_eq_true rfl, Nat.le_of_ble_eq_true rfl⟩) (x_sS9 ho) (q := (RX6, TX6, 4)) rfl rfl rfl rfl (Nat.le_of_ble_eq_true rfl) dX9_dropLamp_76 ⟨Nat.le_of_ble_eq_true rfl, Nat.le_of_ble_eq_true rfl⟩ ?_
  refine a_aload_n C dX9_dropLamp_79 0 rfl ?_
  refine a_getR C (k := o) iX9 (x_sS0 ho) rfl (j := 0) rfl (by decide) (by decide +kernel) dX9_dropLamp_80 ?_
  refine a_getI C (k := (o + 1)) iX5 (x_sS1 ho) rfl (j := 0) rfl (by decide) (by decide +kernel) dX9_dropLamp_83 ?_
  refine a_top (y := ((f_gap (x_p (x_p (x_p d (o + 13) 0 ((d (o + 13) 0) + (d (o + 6) i))) (o + 13) 1 ((d (o + 13) 1) + (d (o + 7) i))) (o + 13) 2 ((d (o + 13) 2) + (d (o + 8) i))) o n i) (o + 1) 0)) (by rw [x_r_ne2 (by omega)]) ?_
  refine a_top (y := (nI (n - 1))) f_gap_cnt ?_
  exact a_iret C hlocks hr dX9_dropLamp_86 rfl rfl

def f_sell (d : xd) (o i : Nat) (u : Int32) : xd := x_p (x_p (x_p (x_p d (o + 13) 0 ((d (o + 13) 0) - u)) (o + 6) i ((d (o + 6) i) + u)) (o + 8) i ((d (o + 8) i) - u)) (o + 13) 2 ((d (o + 13) 2) + u)
set_option maxHeartbeats 4000000 in
set_option maxRecDepth 100000 in
theorem c_X9_sellOil (l : Launch) (G : xG) (d : xd) (o i : Nat) (ho : x_isS o) (hi : i < 8) (u : Int32) : x_M G l yX9_sellOil wsX9_sellOil 1 0 0 [.ref (x_b G + o), .int (nI i), .int u] d (some (.int (d (o + 6) i + u))) (f_sell d o i u) := by
  have iX2 : ∀ w ∈ u_ws RX2 TX2 10, w ∈ wsX9_sellOil := by decide +kernel
  have iX5 : ∀ w ∈ u_ws RX5 TX5 8, w ∈ wsX9_sellOil := by decide +kernel
  have iX9 : ∀ w ∈ u_ws RX9 TX9 3, w ∈ wsX9_sellOil := by decide +kernel
  refine x_start (cc := cX9_sellOil) (maxL := 3) (ret := (some .int)) (own := RX9) (by decide) rfl rfl (Nat.le_of_ble_eq_true rfl) (lst := [(0, .ref (x_b G + o)), (1, .int (nI i)), (2, .int u)]) rfl ?_
  intro p e s m args below meth c C hr hlocks
  refine a_aload_n C dX9_sellOil_0 0 rfl ?_
  refine a_getR C (k := o) iX9 (x_sS0 ho) rfl (j := 2) rfl (by decide) (by decide +kernel) dX9_sellOil_1 ?_
  refine a_dup C dX9_sellOil_4 rfl ?_
  refine a_getI C (k := (o + 13)) iX2 (x_sS13 ho) rfl (j := 0) rfl (by decide) (by decide +kernel) dX9_sellOil_5 ?_
  refine a_iload_n C dX9_sellOil_8 2 rfl ?_
  refine a_isub C dX9_sellOil_9 ?_
  refine a_putI C (k := (o + 13)) iX2 tyX2_ok nmX2 (x_sS13 ho) rfl (j := 0) rfl (by decide) (by decide +kernel) rfl (ty := .int) (by decide +kernel) rfl rfl dX9_sellOil_10 ?_
  refine a_aload_n C dX9_sellOil_13 0 rfl ?_
  refine a_getR C (k := o) iX9 (x_sS0 ho) rfl (j := 0) rfl (by decide) (by decide +kernel) dX9_sellOil_14 ?_
  refine a_getR C (k := (o + 1)) iX5 (x_sS1 ho) rfl (j := 5) rfl (by decide) (by decide +kernel) dX9_sellOil_17 ?_
  refine a_iload_n C dX9_sellOil_20 1 rfl ?_
  refine a_dup2 C dX9_sellOil_21 rfl rfl ?_
  refine a_ialdN C (k := (o + 6)) (x_sS6 ho) (i := i) rfl (by omega) (by first | decide | omega) dX9_sellOil_22 ?_
  refine a_top (y := (d (o + 6) i)) (by rw [x_p_ne (by omega)]) ?_
  refine a_iload_n C dX9_sellOil_23 2 rfl ?_
  refine a_iadd C dX9_sellOil_24 ?_
  refine a_iastN C (k := (o + 6)) (x_sS6 ho) (i := i) rfl (by omega) (by first | decide | omega) dX9_sellOil_25 ?_
  refine a_aload_n C dX9_sellOil_26 0 rfl ?_
  refine a_getR C (k := o) iX9 (x_sS0 ho) rfl (j := 0) rfl (by decide) (by decide +kernel) dX9_sellOil_27 ?_
  refine a_getR C (k := (o + 1)) iX5 (x_sS1 ho) rfl (j := 7) rfl (by decide) (by decide +kernel) dX9_sellOil_30 ?_
  refine a_iload_n C dX9_sellOil_33 1 rfl ?_
  refine a_dup2 C dX9_sellOil_34 rfl rfl ?_
  refine a_ialdN C (k := (o + 8)) (x_sS8 ho) (i := i) rfl (by omega) (by first | decide | omega) dX9_sellOil_35 ?_
  refine a_top (y := (d (o + 8) i)) (by rw [x_p_ne (by omega), x_p_ne (by omega)]) ?_
  refine a_iload_n C dX9_sellOil_36 2 rfl ?_
  refine a_isub C dX9_sellOil_37 ?_
  refine a_iastN C (k := (o + 8)) (x_sS8 ho) (i := i) rfl (by omega) (by first | decide | omega) dX9_sellOil_38 ?_
  refine a_aload_n C dX9_sellOil_39 0 rfl ?_
  refine a_getR C (k := o) iX9 (x_sS0 ho) rfl (j := 2) rfl (by decide) (by decide +kernel) dX9_sellOil_40 ?_
  refine a_dup C dX9_sellOil_43 rfl ?_
  refine a_getI C (k := (o + 13)) iX2 (x_sS13 ho) rfl (j := 2) rfl (by decide) (by decide +kernel) dX9_sellOil_44 ?_
  refine a_top (y := (d (o + 13) 2)) (by rw [x_p_ne (by omega), x_p_ne (by omega), x_p_row (by omega)]) ?_
  refine a_iload_n C dX9_sellOil_47 2 rfl ?_
  refine a_iadd C dX9_sellOil_48 ?_
  refine a_putI C (k := (o + 13)) iX2 tyX2_ok nmX2 (x_sS13 ho) rfl (j := 2) rfl (by decide) (by decide +kernel) rfl (ty := .int) (by decide +kernel) rfl rfl dX9_sellOil_49 ?_
  refine a_aload_n C dX9_sellOil_52 0 rfl ?_
  refine a_getR C (k := o) iX9 (x_sS0 ho) rfl (j := 0) rfl (by decide) (by decide +kernel) dX9_sellOil_53 ?_
  refine a_getR C (k := (o + 1)) iX5 (x_sS1 ho) rfl (j := 5) rfl (by decide) (by decide +kernel) dX9_sellOil_56 ?_
  refine a_iload_n C dX9_sellOil_59 1 rfl ?_
  refine a_ialdN C (k := (o + 6)) (x_sS6 ho) (i := i) rfl (by omega) (by first | decide | omega) dX9_sellOil_60 ?_
  refine a_top (y := (((d (o + 6) i) + u))) (by rw [x_p_ne (by omega), x_p_ne (by omega), x_p_at]) ?_
  exact a_iret C hlocks hr dX9_sellOil_61 rfl rfl

def f_don (d : xd) (o : Nat) (u : Int32) : xd := x_p (x_p d (o + 13) 1 ((d (o + 13) 1) + u)) (o + 13) 7 ((d (o + 13) 7) + u)
set_option maxHeartbeats 4000000 in
set_option maxRecDepth 100000 in
theorem c_X9_takeDonation (l : Launch) (G : xG) (d : xd) (o : Nat) (ho : x_isS o) (u : Int32) : x_M G l yX9_takeDonation wsX9_takeDonation 1 0 0 [.ref (x_b G + o), .int u] d (some (.int (d (o + 13) 1 + u))) (f_don d o u) := by
  have iX2 : ∀ w ∈ u_ws RX2 TX2 10, w ∈ wsX9_takeDonation := by decide +kernel
  have iX9 : ∀ w ∈ u_ws RX9 TX9 3, w ∈ wsX9_takeDonation := by decide +kernel
  refine x_start (cc := cX9_takeDonation) (maxL := 2) (ret := (some .int)) (own := RX9) (by decide) rfl rfl (Nat.le_of_ble_eq_true rfl) (lst := [(0, .ref (x_b G + o)), (1, .int u)]) rfl ?_
  intro p e s m args below meth c C hr hlocks
  refine a_aload_n C dX9_takeDonation_0 0 rfl ?_
  refine a_getR C (k := o) iX9 (x_sS0 ho) rfl (j := 2) rfl (by decide) (by decide +kernel) dX9_takeDonation_1 ?_
  refine a_dup C dX9_takeDonation_4 rfl ?_
  refine a_getI C (k := (o + 13)) iX2 (x_sS13 ho) rfl (j := 1) rfl (by decide) (by decide +kernel) dX9_takeDonation_5 ?_
  refine a_iload_n C dX9_takeDonation_8 1 rfl ?_
  refine a_iadd C dX9_takeDonation_9 ?_
  refine a_putI C (k := (o + 13)) iX2 tyX2_ok nmX2 (x_sS13 ho) rfl (j := 1) rfl (by decide) (by decide +kernel) rfl (ty := .int) (by decide +kernel) rfl rfl dX9_takeDonation_10 ?_
  refine a_aload_n C dX9_takeDonation_13 0 rfl ?_
  refine a_getR C (k := o) iX9 (x_sS0 ho) rfl (j := 2) rfl (by decide) (by decide +kernel) dX9_takeDonation_14 ?_
  refine a_dup C dX9_takeDonation_17 rfl ?_
  refine a_getI C (k := (o + 13)) iX2 (x_sS13 ho) rfl (j := 7) rfl (by decide) (by decide +kernel) dX9_takeDonation_18 ?_
  refine a_top (y := (d (o + 13) 7)) (by rw [x_p_row (by omega)]) ?_
  refine a_iload_n C dX9_takeDonation_21 1 rfl ?_
  refine a_iadd C dX9_takeDonation_22 ?_
  refine a_putI C (k := (o + 13)) iX2 tyX2_ok nmX2 (x_sS13 ho) rfl (j := 7) rfl (by decide) (by decide +kernel) rfl (ty := .int) (by decide +kernel) rfl rfl dX9_takeDonation_23 ?_
  refine a_aload_n C dX9_takeDonation_26 0 rfl ?_
  refine a_getR C (k := o) iX9 (x_sS0 ho) rfl (j := 2) rfl (by decide) (by decide +kernel) dX9_takeDonation_27 ?_
  refine a_getI C (k := (o + 13)) iX2 (x_sS13 ho) rfl (j := 1) rfl (by decide) (by decide +kernel) dX9_takeDonation_30 ?_
  refine a_top (y := (((d (o + 13) 1) + u))) (by rw [x_p_row (by omega), x_p_at]) ?_
  exact a_iret C hlocks hr dX9_takeDonation_33 rfl rfl

def f_mvw (d : xd) (o i : Nat) (u : Int32) : xd := x_p (x_p d (o + 13) 1 ((d (o + 13) 1) - u)) (o + 7) i ((d (o + 7) i) + u)
set_option maxHeartbeats 4000000 in
set_option maxRecDepth 100000 in
theorem c_X9_moveWickToLamp (l : Launch) (G : xG) (d : xd) (o i : Nat) (ho : x_isS o) (hi : i < 8) (u : Int32) : x_M G l yX9_moveWickToLamp wsX9_moveWickToLamp 1 0 0 [.ref (x_b G + o), .int (nI i), .int u] d (some (.int (d (o + 7) i + u))) (f_mvw d o i u) := by
  have iX2 : ∀ w ∈ u_ws RX2 TX2 10, w ∈ wsX9_moveWickToLamp := by decide +kernel
  have iX5 : ∀ w ∈ u_ws RX5 TX5 8, w ∈ wsX9_moveWickToLamp := by decide +kernel
  have iX9 : ∀ w ∈ u_ws RX9 TX9 3, w ∈ wsX9_moveWickToLamp := by decide +kernel
  refine x_start (cc := cX9_moveWickToLamp) (maxL := 3) (ret := (some .int)) (own := RX9) (by decide) rfl rfl (Nat.le_of_ble_eq_true rfl) (lst := [(0, .ref (x_b G + o)), (1, .int (nI i)), (2, .int u)]) rfl ?_
  intro p e s m args below meth c C hr hlocks
  refine a_aload_n C dX9_moveWickToLamp_0 0 rfl ?_
  refine a_getR C (k := o) iX9 (x_sS0 ho) rfl (j := 2) rfl (by decide) (by decide +kernel) dX9_moveWickToLamp_1 ?_
  refine a_dup C dX9_moveWickToLamp_4 rfl ?_
  refine a_getI C (k := (o + 13)) iX2 (x_sS13 ho) rfl (j := 1) rfl (by decide) (by decide +kernel) dX9_moveWickToLamp_5 ?_
  refine a_iload_n C dX9_moveWickToLamp_8 2 rfl ?_
  refine a_isub C dX9_moveWickToLamp_9 ?_
  refine a_putI C (k := (o + 13)) iX2 tyX2_ok nmX2 (x_sS13 ho) rfl (j := 1) rfl (by decide) (by decide +kernel) rfl (ty := .int) (by decide +kernel) rfl rfl dX9_moveWickToLamp_10 ?_
  refine a_aload_n C dX9_moveWickToLamp_13 0 rfl ?_
  refine a_getR C (k := o) iX9 (x_sS0 ho) rfl (j := 0) rfl (by decide) (by decide +kernel) dX9_moveWickToLamp_14 ?_
  refine a_getR C (k := (o + 1)) iX5 (x_sS1 ho) rfl (j := 6) rfl (by decide) (by decide +kernel) dX9_moveWickToLamp_17 ?_
  refine a_iload_n C dX9_moveWickToLamp_20 1 rfl ?_
  refine a_dup2 C dX9_moveWickToLamp_21 rfl rfl ?_
  refine a_ialdN C (k := (o + 7)) (x_sS7 ho) (i := i) rfl (by omega) (by first | decide | omega) dX9_moveWickToLamp_22 ?_
  refine a_top (y := (d (o + 7) i)) (by rw [x_p_ne (by omega)]) ?_
  refine a_iload_n C dX9_moveWickToLamp_23 2 rfl ?_
  refine a_iadd C dX9_moveWickToLamp_24 ?_
  refine a_iastN C (k := (o + 7)) (x_sS7 ho) (i := i) rfl (by omega) (by first | decide | omega) dX9_moveWickToLamp_25 ?_
  refine a_aload_n C dX9_moveWickToLamp_26 0 rfl ?_
  refine a_getR C (k := o) iX9 (x_sS0 ho) rfl (j := 0) rfl (by decide) (by decide +kernel) dX9_moveWickToLamp_27 ?_
  refine a_getR C (k := (o + 1)) iX5 (x_sS1 ho) rfl (j := 6) rfl (by decide) (by decide +kernel) dX9_moveWickToLamp_30 ?_
  refine a_iload_n C dX9_moveWickToLamp_33 1 rfl ?_
  refine a_ialdN C (k := (o + 7)) (x_sS7 ho) (i := i) rfl (by omega) (by first | decide | omega) dX9_moveWickToLamp_34 ?_
  refine a_top (y := (((d (o + 7) i) + u))) (by rw [x_p_at]) ?_
  exact a_iret C hlocks hr dX9_moveWickToLamp_35 rfl rfl

/-- the portions, by sorting -/
def f_por (d : xd) (a n a0 : Nat) (sh : Nat → Nat) : Nat → Int32 := f_inc (f_Q a0 sh n (d (a + 1)) n) (f_ord (f_R a0 sh n (d (a + 2)) n) n) (a0 - f_sn (f_qt a0 sh n) n)
def f_dbs (d : xd) (a n a0 : Nat) (sh : Nat → Nat) : xd := x_r (x_r (x_r d (a + 1) (f_por d a n a0 sh)) (a + 2) (f_R a0 sh n (d (a + 2)) n)) (a + 3) (f_O (f_R a0 sh n (d (a + 2)) n) (d (a + 3)) n)
theorem f_dbs_out {d : xd} {a n a0 k : Nat} {sh : Nat → Nat} (h : k < a + 1 ∨ a + 3 < k) : f_dbs d a n a0 sh k = d k := by
  unfold f_dbs
  rw [x_r_ne2 (by omega), x_r_ne2 (by omega), x_r_ne2 (by omega)]
theorem f_dbs_por {d : xd} {a n a0 : Nat} {sh : Nat → Nat} : f_dbs d a n a0 sh (a + 1) = f_por d a n a0 sh := by
  unfold f_dbs
  rw [x_r_ne2 (by omega), x_r_ne2 (by omega), x_r_same]
def f_fit (f p : Nat → Int32) : Nat → Int32 := fun j => if 60 - f j < p j then 60 - f j else p j
def f_pour (d : xd) (a o n a0 : Nat) (sh : Nat → Nat) : xd := x_p (x_p (x_r (f_dbs d a n a0 sh) (o + 6) (f_fill (fun j => d (o + 6) j + (f_fit (d (o + 6)) (f_por d a n a0 sh)) j) (d (o + 6)) n)) (o + 13) 0 (d (o + 13) 0 + (nI a0 - f_sum (f_fit (d (o + 6)) (f_por d a n a0 sh)) n))) (o + 13) 4 (d (o + 13) 4 + nI a0)
set_option maxHeartbeats 4000000 in
set_option maxRecDepth 100000 in
theorem c_X9_pourOil (l : Launch) (G : xG) (d : xd) (a o n a0 : Nat) (sh : Nat → Nat) (ha : x_isA a) (ho : x_isS o) (hn : d (o + 1) 0 = nI n) (h8 : n ≤ 8) (hs : ∀ j, j < n → d (o + 3) j = nI (sh j)) (hs9 : ∀ j, j < n → sh j ≤ 9) (hS : 1 ≤ f_sn sh n) (ha0 : a0 < 100000) : x_M G l yX9_pourOil wsX9_pourOil 4 0 0 [.ref (x_b G + o), .int (nI a0), .ref (x_b G + a)] d (some (.int (f_sum (f_fit (d (o + 6)) (f_por d a n a0 sh)) n))) (f_pour d a o n a0 sh) := by
  have hap := x_isA_off ha ho
  have iX1 : ∀ w ∈ u_ws RX1 TX1 3, w ∈ wsX9_pourOil := by decide +kernel
  have iX2 : ∀ w ∈ u_ws RX2 TX2 10, w ∈ wsX9_pourOil := by decide +kernel
  have iX5 : ∀ w ∈ u_ws RX5 TX5 8, w ∈ wsX9_pourOil := by decide +kernel
  have iX9 : ∀ w ∈ u_ws RX9 TX9 3, w ∈ wsX9_pourOil := by decide +kernel
  refine x_start (cc := cX9_pourOil) (maxL := 6) (ret := (some .int)) (own := RX9) (by decide) rfl rfl (Nat.le_of_ble_eq_true rfl) (lst := [(0, .ref (x_b G + o)), (1, .int (nI a0)), (2, .ref (x_b G + a))]) rfl ?_
  intro p e s m args below meth c C hr hlocks
  refine a_aload_n C dX9_pourOil_0 2 rfl ?_
  refine a_aload_n C dX9_pourOil_1 0 rfl ?_
  refine a_getR C (k := o) iX9 (x_sS0 ho) rfl (j := 0) rfl (by decide) (by decide +kernel) dX9_pourOil_2 ?_
  refine a_iload_n C dX9_pourOil_5 1 rfl ?_
  refine a_callV C (k := a) (As := [.ref (x_b G + (o + 1)), .int (nI a0)]) (rest := []) (c_X1_divideBySorting l G d a o n a0 sh ha ho hn h8 hs hs9 hS ha0) (cwV 2 C.1.2.2.2.2 gX9_pourOil_X1_divideBySorting rfl rfl rfl (by decide +kernel) ⟨Nat.le_of_ble_eq_true rfl, Nat.le_of_ble_eq_true rfl⟩) (x_sA0 ha) (q := (RX1, TX1, 3)) rfl rfl rfl rfl (Nat.le_of_ble_eq_true rfl) dX9_pourOil_6 ⟨Nat.le_of_ble_eq_true rfl, Nat.le_of_ble_eq_true rfl⟩ ?_
  refine a_iconst C dX9_pourOil_9 (v := 0) (by decide) ?_
  refine a_istore_n C dX9_pourOil_10 (by decide) (lst2 := [(3, .int 0), (0, .ref (x_b G + o)), (1, .int (nI a0)), (2, .ref (x_b G + a))]) rfl ?_
  refine a_iconst C dX9_pourOil_11 (v := 0) (by decide) ?_
  refine a_istore C dX9_pourOil_12 (by decide) (lst2 := [(4, .int 0), (3, .int 0), (0, .ref (x_b G + o)), (1, .int (nI a0)), (2, .ref (x_b G + a))]) rfl ?_
  have L14 : ∀ (j i : Nat), i ≤ n → n < i + j → Ab G p l e (x_rm 4 0 0) s m args below meth c 6 0 0 (MQ below (x_Q G (some (.int (f_sum (f_fit (d (o + 6)) (f_por d a n a0 sh)) n))) (f_pour d a o n a0 sh)) args s 0 0 (x_A G)) 14 [(4, .int (nI i)), (3, .int (f_sum (f_fit (d (o + 6)) (f_por d a n a0 sh)) i)), (0, .ref (x_b G + o)), (1, .int (nI a0)), (2, .ref (x_b G + a))] [] (x_r (f_dbs d a n a0 sh) (o + 6) (f_fill (fun j => d (o + 6) j + (f_fit (d (o + 6)) (f_por d a n a0 sh)) j) (d (o + 6)) i)) := by
    intro j
    induction j with
    | zero => intro i h1 h2; exact absurd h2 (by omega)
    | succ j ih =>
      intro i hi hj 
      refine a_iload C dX9_pourOil_14 0 rfl ?_
      refine a_aload_n C dX9_pourOil_16 2 rfl ?_
      refine a_getR C (k := o) iX9 (x_sS0 ho) rfl (j := 0) rfl (by decide) (by decide +kernel) dX9_pourOil_17 ?_
      refine a_getI C (k := (o + 1)) iX5 (x_sS1 ho) rfl (j := 0) rfl (by decide) (by decide +kernel) dX9_pourOil_20 ?_
      refine a_top (y := ((f_dbs d a n a0 sh) (o + 1) 0)) (by rw [x_r_ne2 (by omega)]) ?_
      refine a_top (y := (nI n)) (by rw [f_dbs_out (by omega)]; exact hn) ?_
      refine a_icmp_ge C dX9_pourOil_23 (tgt := 77) (by decide) (fun h23 => ?_) (fun h23 => ?_)
      · skip
        have e := x_ge h23 hi (by omega)
        have e9 := e.symm
        subst e9
        refine a_aload_n C dX9_pourOil_77 2 rfl ?_
        refine a_getR C (k := o) iX9 (x_sS0 ho) rfl (j := 2) rfl (by decide) (by decide +kernel) dX9_pourOil_78 ?_
        refine a_dup C dX9_pourOil_81 rfl ?_
        refine a_getI C (k := (o + 13)) iX2 (x_sS13 ho) rfl (j := 0) rfl (by decide) (by decide +kernel) dX9_pourOil_82 ?_
        refine a_top (y := ((f_dbs d a n a0 sh) (o + 13) 0)) (by rw [x_r_ne2 (by omega)]) ?_
        refine a_top (y := (d (o + 13) 0)) (by rw [f_dbs_out (by omega)]) ?_
        refine a_iload_n C dX9_pourOil_85 3 rfl ?_
        refine a_iload_n C dX9_pourOil_86 1 rfl ?_
        refine a_isub C dX9_pourOil_87 ?_
        refine a_iadd C dX9_pourOil_88 ?_
        refine a_putI C (k := (o + 13)) iX2 tyX2_ok nmX2 (x_sS13 ho) rfl (j := 0) rfl (by decide) (by decide +kernel) rfl (ty := .int) (by decide +kernel) rfl rfl dX9_pourOil_89 ?_
        refine a_aload_n C dX9_pourOil_92 2 rfl ?_
        refine a_getR C (k := o) iX9 (x_sS0 ho) rfl (j := 2) rfl (by decide) (by decide +kernel) dX9_pourOil_93 ?_
        refine a_dup C dX9_pourOil_96 rfl ?_
        refine a_getI C (k := (o + 13)) iX2 (x_sS13 ho) rfl (j := 4) rfl (by decide) (by decide +kernel) dX9_pourOil_97 ?_
        refine a_top (y := ((f_dbs d a n a0 sh) (o + 13) 4)) (by rw [x_p_row (by omega), x_r_ne2 (by omega)]) ?_
        refine a_top (y := (d (o + 13) 4)) (by rw [f_dbs_out (by omega)]) ?_
        refine a_iload_n C dX9_pourOil_100 3 rfl ?_
        refine a_iadd C dX9_pourOil_101 ?_
        refine a_putI C (k := (o + 13)) iX2 tyX2_ok nmX2 (x_sS13 ho) rfl (j := 4) rfl (by decide) (by decide +kernel) rfl (ty := .int) (by decide +kernel) rfl rfl dX9_pourOil_102 ?_
        refine a_iload_n C dX9_pourOil_105 1 rfl ?_
        exact a_iret C hlocks hr dX9_pourOil_106 rfl rfl
      · skip
        have hlt := x_nge h23 hi
        refine a_aload_n C dX9_pourOil_26 4 rfl ?_
        refine a_getR C (k := a) iX1 (x_sA0 ha) rfl (j := 0) rfl (by decide) (by decide +kernel) dX9_pourOil_27 ?_
        refine a_iload C dX9_pourOil_30 0 rfl ?_
        refine a_ialdN C (k := (a + 1)) (x_sA1 ha) (i := i) rfl (by omega) (by first | decide | omega) dX9_pourOil_32 ?_
        refine a_top (y := ((f_dbs d a n a0 sh) (a + 1) i)) (by rw [x_r_ne2 (by omega)]) ?_
        refine a_top (y := ((f_por d a n a0 sh) i)) (by rw [f_dbs_por]) ?_
        refine a_bipush C dX9_pourOil_33 (v := 60) (by decide) ?_
        refine a_aload_n C dX9_pourOil_35 2 rfl ?_
        refine a_getR C (k := o) iX9 (x_sS0 ho) rfl (j := 0) rfl (by decide) (by decide +kernel) dX9_pourOil_36 ?_
        refine a_getR C (k := (o + 1)) iX5 (x_sS1 ho) rfl (j := 5) rfl (by decide) (by decide +kernel) dX9_pourOil_39 ?_
        refine a_iload C dX9_pourOil_42 0 rfl ?_
        refine a_ialdN C (k := (o + 6)) (x_sS6 ho) (i := i) rfl (by omega) (by first | decide | omega) dX9_pourOil_44 ?_
        refine a_top (y := (d (o + 6) i)) (by rw [x_r_same, f_fill_at]) ?_
        refine a_isub C dX9_pourOil_45 ?_
        refine a_mmin C (by decide +kernel) (by decide +kernel) (by decide +kernel) (by decide +kernel) (Nat.le_of_ble_eq_true rfl) (Nat.le_of_ble_eq_true rfl) (Nat.le_of_ble_eq_true rfl) (Nat.le_of_ble_eq_true rfl) dX9_pourOil_46 ?_
        refine a_top (y := ((f_fit (d (o + 6)) (f_por d a n a0 sh)) i)) rfl ?_
        refine a_istore C dX9_pourOil_49 (by decide) (lst2 := [(5, .int ((f_fit (d (o + 6)) (f_por d a n a0 sh)) i)), (4, .int (nI i)), (3, .int (f_sum (f_fit (d (o + 6)) (f_por d a n a0 sh)) i)), (0, .ref (x_b G + o)), (1, .int (nI a0)), (2, .ref (x_b G + a))]) rfl ?_
        refine a_aload_n C dX9_pourOil_51 3 rfl ?_
        refine a_getR C (k := o) iX9 (x_sS0 ho) rfl (j := 0) rfl (by decide) (by decide +kernel) dX9_pourOil_52 ?_
        refine a_getR C (k := (o + 1)) iX5 (x_sS1 ho) rfl (j := 5) rfl (by decide) (by decide +kernel) dX9_pourOil_55 ?_
        refine a_iload C dX9_pourOil_58 1 rfl ?_
        refine a_dup2 C dX9_pourOil_60 rfl rfl ?_
        refine a_ialdN C (k := (o + 6)) (x_sS6 ho) (i := i) rfl (by omega) (by first | decide | omega) dX9_pourOil_61 ?_
        refine a_top (y := (d (o + 6) i)) (by rw [x_r_same, f_fill_at]) ?_
        refine a_iload C dX9_pourOil_62 0 rfl ?_
        refine a_iadd C dX9_pourOil_64 ?_
        refine a_iastN C (k := (o + 6)) (x_sS6 ho) (i := i) rfl (by omega) (by first | decide | omega) dX9_pourOil_65 ?_
        refine a_iload_n C dX9_pourOil_66 2 rfl ?_
        refine a_iload C dX9_pourOil_67 0 rfl ?_
        refine a_iadd C dX9_pourOil_69 ?_
        refine a_istore_n C dX9_pourOil_70 (by decide) (lst2 := [(3, .int ((f_sum (f_fit (d (o + 6)) (f_por d a n a0 sh)) i) + ((f_fit (d (o + 6)) (f_por d a n a0 sh)) i))), (5, .int ((f_fit (d (o + 6)) (f_por d a n a0 sh)) i)), (4, .int (nI i)), (0, .ref (x_b G + o)), (1, .int (nI a0)), (2, .ref (x_b G + a))]) rfl ?_
        refine a_iinc C dX9_pourOil_71 2 rfl (v := (nI (i + 1))) (x_inc i) (by decide) (lst2 := [(4, .int (nI (i + 1))), (3, .int ((f_sum (f_fit (d (o + 6)) (f_por d a n a0 sh)) i) + ((f_fit (d (o + 6)) (f_por d a n a0 sh)) i))), (5, .int ((f_fit (d (o + 6)) (f_por d a n a0 sh)) i)), (0, .ref (x_b G + o)), (1, .int (nI a0)), (2, .ref (x_b G + a))]) rfl ?_
        refine a_goto C dX9_pourOil_74 (tgt := 14) (by decide) ?_
        refine a_sub (lst2 := [(4, .int (nI (i + 1))), (3, .int ((f_sum (f_fit (d (o + 6)) (f_por d a n a0 sh)) i) + ((f_fit (d (o + 6)) (f_por d a n a0 sh)) i))), (0, .ref (x_b G + o)), (1, .int (nI a0)), (2, .ref (x_b G + a))]) [0, 1, 3, 4, 5] rfl ?_
        refine a_to (lst2 := [(4, .int (nI ((i + 1)))), (3, .int (f_sum (f_fit (d (o + 6)) (f_por d a n a0 sh)) ((i + 1)))), (0, .ref (x_b G + o)), (1, .int (nI a0)), (2, .ref (x_b G + a))]) (st2 := []) (d2 := x_r (f_dbs d a n a0 sh) (o + 6) (f_fill (fun j => d (o + 6) j + (f_fit (d (o + 6)) (f_por d a n a0 sh)) j) (d (o + 6)) ((i + 1)))) rfl rfl (x_p_r2 (f_fill_s _ _ i)).symm ?_
        exact ih (i + 1) (by omega) (by omega) 
  refine a_sub (lst2 := [(4, .int 0), (3, .int 0), (0, .ref (x_b G + o)), (1, .int (nI a0)), (2, .ref (x_b G + a))]) [0, 1, 2, 3, 4] rfl ?_
  refine a_toD (d2 := x_r (f_dbs d a n a0 sh) (o + 6) (f_fill (fun j => d (o + 6) j + (f_fit (d (o + 6)) (f_por d a n a0 sh)) j) (d (o + 6)) 0)) (by rw [f_fill_0, ← f_dbs_out (d := d) (a := a) (n := n) (a0 := a0) (sh := sh) (k := o + 6) (by omega)]; exact x_r_id _ _) ?_
  exact L14 (n + 1) 0 (by omega) (by omega)

def f_shr (d : xd) (a o n a0 : Nat) (sh : Nat → Nat) : xd := x_p (x_r (f_dbs d a n a0 sh) (o + 8) (f_fill (fun j => d (o + 8) j + (f_por d a n a0 sh) j) (d (o + 8)) n)) (o + 13) 2 0
set_option maxHeartbeats 4000000 in
set_option maxRecDepth 100000 in
theorem c_X9_shareTreasury (l : Launch) (G : xG) (d : xd) (a o n a0 : Nat) (sh : Nat → Nat) (ha : x_isA a) (ho : x_isS o) (hn : d (o + 1) 0 = nI n) (h8 : n ≤ 8) (hs : ∀ j, j < n → d (o + 3) j = nI (sh j)) (hs9 : ∀ j, j < n → sh j ≤ 9) (hS : 1 ≤ f_sn sh n) (ha0 : a0 < 100000) (ht : d (o + 13) 2 = nI a0) : x_M G l yX9_shareTreasury wsX9_shareTreasury 4 0 0 [.ref (x_b G + o), .ref (x_b G + a)] d (some (.int (nI a0))) (f_shr d a o n a0 sh) := by
  have hap := x_isA_off ha ho
  have iX1 : ∀ w ∈ u_ws RX1 TX1 3, w ∈ wsX9_shareTreasury := by decide +kernel
  have iX2 : ∀ w ∈ u_ws RX2 TX2 10, w ∈ wsX9_shareTreasury := by decide +kernel
  have iX5 : ∀ w ∈ u_ws RX5 TX5 8, w ∈ wsX9_shareTreasury := by decide +kernel
  have iX9 : ∀ w ∈ u_ws RX9 TX9 3, w ∈ wsX9_shareTreasury := by decide +kernel
  refine x_start (cc := cX9_shareTreasury) (maxL := 4) (ret := (some .int)) (own := RX9) (by decide) rfl rfl (Nat.le_of_ble_eq_true rfl) (lst := [(0, .ref (x_b G + o)), (1, .ref (x_b G + a))]) rfl ?_
  intro p e s m args below meth c C hr hlocks
  refine a_aload_n C dX9_shareTreasury_0 0 rfl ?_
  refine a_getR C (k := o) iX9 (x_sS0 ho) rfl (j := 2) rfl (by decide) (by decide +kernel) dX9_shareTreasury_1 ?_
  refine a_getI C (k := (o + 13)) iX2 (x_sS13 ho) rfl (j := 2) rfl (by decide) (by decide +kernel) dX9_shareTreasury_4 ?_
  refine a_top (y := (nI a0)) ht ?_
  refine a_istore_n C dX9_shareTreasury_7 (by decide) (lst2 := [(2, .int (nI a0)), (0, .ref (x_b G + o)), (1, .ref (x_b G + a))]) rfl ?_
  refine a_aload_n C dX9_shareTreasury_8 2 rfl ?_
  refine a_aload_n C dX9_shareTreasury_9 1 rfl ?_
  refine a_getR C (k := o) iX9 (x_sS0 ho) rfl (j := 0) rfl (by decide) (by decide +kernel) dX9_shareTreasury_10 ?_
  refine a_iload_n C dX9_shareTreasury_13 0 rfl ?_
  refine a_callV C (k := a) (As := [.ref (x_b G + (o + 1)), .int (nI a0)]) (rest := []) (c_X1_divideBySorting l G d a o n a0 sh ha ho hn h8 hs hs9 hS ha0) (cwV 2 C.1.2.2.2.2 gX9_shareTreasury_X1_divideBySorting rfl rfl rfl (by decide +kernel) ⟨Nat.le_of_ble_eq_true rfl, Nat.le_of_ble_eq_true rfl⟩) (x_sA0 ha) (q := (RX1, TX1, 3)) rfl rfl rfl rfl (Nat.le_of_ble_eq_true rfl) dX9_shareTreasury_14 ⟨Nat.le_of_ble_eq_true rfl, Nat.le_of_ble_eq_true rfl⟩ ?_
  refine a_iconst C dX9_shareTreasury_17 (v := 0) (by decide) ?_
  refine a_istore_n C dX9_shareTreasury_18 (by decide) (lst2 := [(3, .int 0), (2, .int (nI a0)), (0, .ref (x_b G + o)), (1, .ref (x_b G + a))]) rfl ?_
  have L19 : ∀ (j i : Nat), i ≤ n → n < i + j → Ab G p l e (x_rm 4 0 0) s m args below meth c 4 0 0 (MQ below (x_Q G (some (.int (nI a0))) (f_shr d a o n a0 sh)) args s 0 0 (x_A G)) 19 [(3, .int (nI i)), (2, .int (nI a0)), (0, .ref (x_b G + o)), (1, .ref (x_b G + a))] [] (x_r (f_dbs d a n a0 sh) (o + 8) (f_fill (fun j => d (o + 8) j + (f_por d a n a0 sh) j) (d (o + 8)) i)) := by
    intro j
    induction j with
    | zero => intro i h1 h2; exact absurd h2 (by omega)
    | succ j ih =>
      intro i hi hj 
      refine a_iload_n C dX9_shareTreasury_19 0 rfl ?_
      refine a_aload_n C dX9_shareTreasury_20 2 rfl ?_
      refine a_getR C (k := o) iX9 (x_sS0 ho) rfl (j := 0) rfl (by decide) (by decide +kernel) dX9_shareTreasury_21 ?_
      refine a_getI C (k := (o + 1)) iX5 (x_sS1 ho) rfl (j := 0) rfl (by decide) (by decide +kernel) dX9_shareTreasury_24 ?_
      refine a_top (y := ((f_dbs d a n a0 sh) (o + 1) 0)) (by rw [x_r_ne2 (by omega)]) ?_
      refine a_top (y := (nI n)) (by rw [f_dbs_out (by omega)]; exact hn) ?_
      refine a_icmp_ge C dX9_shareTreasury_27 (tgt := 54) (by decide) (fun h27 => ?_) (fun h27 => ?_)
      · skip
        have e := x_ge h27 hi (by omega)
        have e9 := e.symm
        subst e9
        refine a_aload_n C dX9_shareTreasury_54 2 rfl ?_
        refine a_getR C (k := o) iX9 (x_sS0 ho) rfl (j := 2) rfl (by decide) (by decide +kernel) dX9_shareTreasury_55 ?_
        refine a_iconst C dX9_shareTreasury_58 (v := 0) (by decide) ?_
        refine a_putI C (k := (o + 13)) iX2 tyX2_ok nmX2 (x_sS13 ho) rfl (j := 2) rfl (by decide) (by decide +kernel) rfl (ty := .int) (by decide +kernel) rfl rfl dX9_shareTreasury_59 ?_
        refine a_iload_n C dX9_shareTreasury_62 1 rfl ?_
        exact a_iret C hlocks hr dX9_shareTreasury_63 rfl rfl
      · skip
        have hlt := x_nge h27 hi
        refine a_aload_n C dX9_shareTreasury_30 2 rfl ?_
        refine a_getR C (k := o) iX9 (x_sS0 ho) rfl (j := 0) rfl (by decide) (by decide +kernel) dX9_shareTreasury_31 ?_
        refine a_getR C (k := (o + 1)) iX5 (x_sS1 ho) rfl (j := 7) rfl (by decide) (by decide +kernel) dX9_shareTreasury_34 ?_
        refine a_iload_n C dX9_shareTreasury_37 0 rfl ?_
        refine a_dup2 C dX9_shareTreasury_38 rfl rfl ?_
        refine a_ialdN C (k := (o + 8)) (x_sS8 ho) (i := i) rfl (by omega) (by first | decide | omega) dX9_shareTreasury_39 ?_
        refine a_top (y := (d (o + 8) i)) (by rw [x_r_same, f_fill_at]) ?_
        refine a_aload_n C dX9_shareTreasury_40 3 rfl ?_
        refine a_getR C (k := a) iX1 (x_sA0 ha) rfl (j := 0) rfl (by decide) (by decide +kernel) dX9_shareTreasury_41 ?_
        refine a_iload_n C dX9_shareTreasury_44 0 rfl ?_
        refine a_ialdN C (k := (a + 1)) (x_sA1 ha) (i := i) rfl (by omega) (by first | decide | omega) dX9_shareTreasury_45 ?_
        refine a_top (y := ((f_dbs d a n a0 sh) (a + 1) i)) (by rw [x_r_ne2 (by omega)]) ?_
        refine a_top (y := ((f_por d a n a0 sh) i)) (by rw [f_dbs_por]) ?_
        refine a_iadd C dX9_shareTreasury_46 ?_
        refine a_iastN C (k := (o + 8)) (x_sS8 ho) (i := i) rfl (by omega) (by first | decide | omega) dX9_shareTreasury_47 ?_
        refine a_iinc C dX9_shareTreasury_48 0 rfl (v := (nI (i + 1))) (x_inc i) (by decide) (lst2 := [(3, .int (nI (i + 1))), (2, .int (nI a0)), (0, .ref (x_b G + o)), (1, .ref (x_b G + a))]) rfl ?_
        refine a_goto C dX9_shareTreasury_51 (tgt := 19) (by decide) ?_
        refine a_sub (lst2 := [(3, .int (nI (i + 1))), (2, .int (nI a0)), (0, .ref (x_b G + o)), (1, .ref (x_b G + a))]) [0, 1, 2, 3] rfl ?_
        refine a_to (lst2 := [(3, .int (nI ((i + 1)))), (2, .int (nI a0)), (0, .ref (x_b G + o)), (1, .ref (x_b G + a))]) (st2 := []) (d2 := x_r (f_dbs d a n a0 sh) (o + 8) (f_fill (fun j => d (o + 8) j + (f_por d a n a0 sh) j) (d (o + 8)) ((i + 1)))) rfl rfl (x_p_r2 (f_fill_s _ _ i)).symm ?_
        exact ih (i + 1) (by omega) (by omega) 
  refine a_sub (lst2 := [(3, .int 0), (2, .int (nI a0)), (0, .ref (x_b G + o)), (1, .ref (x_b G + a))]) [0, 1, 2, 3] rfl ?_
  refine a_toD (d2 := x_r (f_dbs d a n a0 sh) (o + 8) (f_fill (fun j => d (o + 8) j + (f_por d a n a0 sh) j) (d (o + 8)) 0)) (by rw [f_fill_0, ← f_dbs_out (d := d) (a := a) (n := n) (a0 := a0) (sh := sh) (k := o + 8) (by omega)]; exact x_r_id _ _) ?_
  exact L19 (n + 1) 0 (by omega) (by omega)

def f_bal (d : xd) (o n : Nat) : Prop := f_sum (d (o + 6)) n + d (o + 13) 0 + d (o + 13) 5 + d (o + 13) 6 = d (o + 13) 4 ∧ f_sum (d (o + 7)) n + d (o + 13) 1 + d (o + 13) 8 = d (o + 13) 7 ∧ f_sum (d (o + 8)) n + d (o + 13) 2 = d (o + 13) 9
set_option maxHeartbeats 4000000 in
set_option maxRecDepth 100000 in
theorem c_X9_totalsBalance (l : Launch) (G : xG) (d : xd) (o n : Nat) (ho : x_isS o) (hn : d (o + 1) 0 = nI n) (h8 : n ≤ 8) (hb : f_bal d o n) : x_M G l yX9_totalsBalance wsX9_totalsBalance 2 0 0 [.ref (x_b G + o)] d (some (.int 1)) d := by
  have iX2 : ∀ w ∈ u_ws RX2 TX2 10, w ∈ wsX9_totalsBalance := by decide +kernel
  have iX5 : ∀ w ∈ u_ws RX5 TX5 8, w ∈ wsX9_totalsBalance := by decide +kernel
  have iX9 : ∀ w ∈ u_ws RX9 TX9 3, w ∈ wsX9_totalsBalance := by decide +kernel
  refine x_start (cc := cX9_totalsBalance) (maxL := 4) (ret := (some .boolean)) (own := RX9) (by decide) rfl rfl (Nat.le_of_ble_eq_true rfl) (lst := [(0, .ref (x_b G + o))]) rfl ?_
  intro p e s m args below meth c C hr hlocks
  refine a_aload_n C dX9_totalsBalance_0 0 rfl ?_
  refine a_getR C (k := o) iX9 (x_sS0 ho) rfl (j := 0) rfl (by decide) (by decide +kernel) dX9_totalsBalance_1 ?_
  refine a_aload_n C dX9_totalsBalance_4 0 rfl ?_
  refine a_getR C (k := o) iX9 (x_sS0 ho) rfl (j := 0) rfl (by decide) (by decide +kernel) dX9_totalsBalance_5 ?_
  refine a_getR C (k := (o + 1)) iX5 (x_sS1 ho) rfl (j := 5) rfl (by decide) (by decide +kernel) dX9_totalsBalance_8 ?_
  refine a_callV C (k := (o + 1)) (As := [.ref (x_b G + (o + 6))]) (rest := []) (c_X5_sumOf l G d o n ho hn h8 (o + 6) (x_sS6 ho)) (cwV 1 C.1.2.2.2.2 gX9_totalsBalance_X5_sumOf rfl rfl rfl (by decide +kernel) ⟨Nat.le_of_ble_eq_true rfl, Nat.le_of_ble_eq_true rfl⟩) (x_sS1 ho) (q := (RX5, TX5, 8)) rfl rfl rfl rfl (Nat.le_of_ble_eq_true rfl) dX9_totalsBalance_11 ⟨Nat.le_of_ble_eq_true rfl, Nat.le_of_ble_eq_true rfl⟩ ?_
  refine a_aload_n C dX9_totalsBalance_14 0 rfl ?_
  refine a_getR C (k := o) iX9 (x_sS0 ho) rfl (j := 2) rfl (by decide) (by decide +kernel) dX9_totalsBalance_15 ?_
  refine a_getI C (k := (o + 13)) iX2 (x_sS13 ho) rfl (j := 0) rfl (by decide) (by decide +kernel) dX9_totalsBalance_18 ?_
  refine a_iadd C dX9_totalsBalance_21 ?_
  refine a_aload_n C dX9_totalsBalance_22 0 rfl ?_
  refine a_getR C (k := o) iX9 (x_sS0 ho) rfl (j := 2) rfl (by decide) (by decide +kernel) dX9_totalsBalance_23 ?_
  refine a_getI C (k := (o + 13)) iX2 (x_sS13 ho) rfl (j := 5) rfl (by decide) (by decide +kernel) dX9_totalsBalance_26 ?_
  refine a_iadd C dX9_totalsBalance_29 ?_
  refine a_aload_n C dX9_totalsBalance_30 0 rfl ?_
  refine a_getR C (k := o) iX9 (x_sS0 ho) rfl (j := 2) rfl (by decide) (by decide +kernel) dX9_totalsBalance_31 ?_
  refine a_getI C (k := (o + 13)) iX2 (x_sS13 ho) rfl (j := 6) rfl (by decide) (by decide +kernel) dX9_totalsBalance_34 ?_
  refine a_iadd C dX9_totalsBalance_37 ?_
  refine a_istore_n C dX9_totalsBalance_38 (by decide) (lst2 := [(1, .int ((((f_sum (d (o + 6)) n) + (d (o + 13) 0)) + (d (o + 13) 5)) + (d (o + 13) 6))), (0, .ref (x_b G + o))]) rfl ?_
  refine a_aload_n C dX9_totalsBalance_39 1 rfl ?_
  refine a_getR C (k := o) iX9 (x_sS0 ho) rfl (j := 0) rfl (by decide) (by decide +kernel) dX9_totalsBalance_40 ?_
  refine a_aload_n C dX9_totalsBalance_43 1 rfl ?_
  refine a_getR C (k := o) iX9 (x_sS0 ho) rfl (j := 0) rfl (by decide) (by decide +kernel) dX9_totalsBalance_44 ?_
  refine a_getR C (k := (o + 1)) iX5 (x_sS1 ho) rfl (j := 6) rfl (by decide) (by decide +kernel) dX9_totalsBalance_47 ?_
  refine a_callV C (k := (o + 1)) (As := [.ref (x_b G + (o + 7))]) (rest := []) (c_X5_sumOf l G d o n ho hn h8 (o + 7) (x_sS7 ho)) (cwV 1 C.1.2.2.2.2 gX9_totalsBalance_X5_sumOf rfl rfl rfl (by decide +kernel) ⟨Nat.le_of_ble_eq_true rfl, Nat.le_of_ble_eq_true rfl⟩) (x_sS1 ho) (q := (RX5, TX5, 8)) rfl rfl rfl rfl (Nat.le_of_ble_eq_true rfl) dX9_totalsBalance_50 ⟨Nat.le_of_ble_eq_true rfl, Nat.le_of_ble_eq_true rfl⟩ ?_
  refine a_aload_n C dX9_totalsBalance_53 1 rfl ?_
  refine a_getR C (k := o) iX9 (x_sS0 ho) rfl (j := 2) rfl (by decide) (by decide +kernel) dX9_totalsBalance_54 ?_
  refine a_getI C (k := (o + 13)) iX2 (x_sS13 ho) rfl (j := 1) rfl (by decide) (by decide +kernel) dX9_totalsBalance_57 ?_
  refine a_iadd C dX9_totalsBalance_60 ?_
  refine a_aload_n C dX9_totalsBalance_61 1 rfl ?_
  refine a_getR C (k := o) iX9 (x_sS0 ho) rfl (j := 2) rfl (by decide) (by decide +kernel) dX9_totalsBalance_62 ?_
  refine a_getI C (k := (o + 13)) iX2 (x_sS13 ho) rfl (j := 8) rfl (by decide) (by decide +kernel) dX9_totalsBalance_65 ?_
  refine a_iadd C dX9_totalsBalance_68 ?_
  refine a_istore_n C dX9_totalsBalance_69 (by decide) (lst2 := [(2, .int (((f_sum (d (o + 7)) n) + (d (o + 13) 1)) + (d (o + 13) 8))), (1, .int ((((f_sum (d (o + 6)) n) + (d (o + 13) 0)) + (d (o + 13) 5)) + (d (o + 13) 6))), (0, .ref (x_b G + o))]) rfl ?_
  refine a_aload_n C dX9_totalsBalance_70 2 rfl ?_
  refine a_getR C (k := o) iX9 (x_sS0 ho) rfl (j := 0) rfl (by decide) (by decide +kernel) dX9_totalsBalance_71 ?_
  refine a_aload_n C dX9_totalsBalance_74 2 rfl ?_
  refine a_getR C (k := o) iX9 (x_sS0 ho) rfl (j := 0) rfl (by decide) (by decide +kernel) dX9_totalsBalance_75 ?_
  refine a_getR C (k := (o + 1)) iX5 (x_sS1 ho) rfl (j := 7) rfl (by decide) (by decide +kernel) dX9_totalsBalance_78 ?_
  refine a_callV C (k := (o + 1)) (As := [.ref (x_b G + (o + 8))]) (rest := []) (c_X5_sumOf l G d o n ho hn h8 (o + 8) (x_sS8 ho)) (cwV 1 C.1.2.2.2.2 gX9_totalsBalance_X5_sumOf rfl rfl rfl (by decide +kernel) ⟨Nat.le_of_ble_eq_true rfl, Nat.le_of_ble_eq_true rfl⟩) (x_sS1 ho) (q := (RX5, TX5, 8)) rfl rfl rfl rfl (Nat.le_of_ble_eq_true rfl) dX9_totalsBalance_81 ⟨Nat.le_of_ble_eq_true rfl, Nat.le_of_ble_eq_true rfl⟩ ?_
  refine a_aload_n C dX9_totalsBalance_84 2 rfl ?_
  refine a_getR C (k := o) iX9 (x_sS0 ho) rfl (j := 2) rfl (by decide) (by decide +kernel) dX9_totalsBalance_85 ?_
  refine a_getI C (k := (o + 13)) iX2 (x_sS13 ho) rfl (j := 2) rfl (by decide) (by decide +kernel) dX9_totalsBalance_88 ?_
  refine a_iadd C dX9_totalsBalance_91 ?_
  refine a_istore_n C dX9_totalsBalance_92 (by decide) (lst2 := [(3, .int ((f_sum (d (o + 8)) n) + (d (o + 13) 2))), (2, .int (((f_sum (d (o + 7)) n) + (d (o + 13) 1)) + (d (o + 13) 8))), (1, .int ((((f_sum (d (o + 6)) n) + (d (o + 13) 0)) + (d (o + 13) 5)) + (d (o + 13) 6))), (0, .ref (x_b G + o))]) rfl ?_
  refine a_iload_n C dX9_totalsBalance_93 2 rfl ?_
  refine a_aload_n C dX9_totalsBalance_94 3 rfl ?_
  refine a_getR C (k := o) iX9 (x_sS0 ho) rfl (j := 2) rfl (by decide) (by decide +kernel) dX9_totalsBalance_95 ?_
  refine a_getI C (k := (o + 13)) iX2 (x_sS13 ho) rfl (j := 4) rfl (by decide) (by decide +kernel) dX9_totalsBalance_98 ?_
  refine a_icmp_ne C dX9_totalsBalance_101 (tgt := 130) (by decide) (fun h => False.elim (h hb.1)) (fun h101 => ?_)
  refine a_iload_n C dX9_totalsBalance_104 1 rfl ?_
  refine a_aload_n C dX9_totalsBalance_105 3 rfl ?_
  refine a_getR C (k := o) iX9 (x_sS0 ho) rfl (j := 2) rfl (by decide) (by decide +kernel) dX9_totalsBalance_106 ?_
  refine a_getI C (k := (o + 13)) iX2 (x_sS13 ho) rfl (j := 7) rfl (by decide) (by decide +kernel) dX9_totalsBalance_109 ?_
  refine a_icmp_ne C dX9_totalsBalance_112 (tgt := 130) (by decide) (fun h => False.elim (h hb.2.1)) (fun h112 => ?_)
  refine a_iload_n C dX9_totalsBalance_115 0 rfl ?_
  refine a_aload_n C dX9_totalsBalance_116 3 rfl ?_
  refine a_getR C (k := o) iX9 (x_sS0 ho) rfl (j := 2) rfl (by decide) (by decide +kernel) dX9_totalsBalance_117 ?_
  refine a_getI C (k := (o + 13)) iX2 (x_sS13 ho) rfl (j := 9) rfl (by decide) (by decide +kernel) dX9_totalsBalance_120 ?_
  refine a_icmp_ne C dX9_totalsBalance_123 (tgt := 130) (by decide) (fun h => False.elim (h hb.2.2)) (fun h123 => ?_)
  refine a_iconst C dX9_totalsBalance_126 (v := 1) (by decide) ?_
  refine a_goto C dX9_totalsBalance_127 (tgt := 131) (by decide) ?_
  exact a_zret C hlocks hr rfl dX9_totalsBalance_131 rfl rfl

def f_rem (d : xd) (o q z : Nat) : xd := x_p (x_p (f_cps d (45 + 14 * q) o) 43 1 (nI ((q + 1) % 8))) 43 0 (nI (min (z + 1) 8))
def f_tkb (d : xd) (o q z : Nat) : xd := x_p (f_cps (x_p d 43 1 (nI ((q + 7) % 8))) o (45 + 14 * ((q + 7) % 8))) 43 0 (nI (z - 1))
theorem x_min8 (z : Nat) (h : z ≤ 8) : (if (8 : Int32) < nI (z + 1) then 8 else nI (z + 1)) = nI (min (z + 1) 8) := by
  by_cases q : z = 8
  · subst q; decide
  · have h2 : ¬ (8 : Int32) < nI (z + 1) := fun h3 => by
      have := (nI_ltI (a := 8) (by omega) (by omega)).mp h3
      omega
    rw [if_neg h2, Nat.min_eq_left (by omega)]
set_option maxHeartbeats 4000000 in
set_option maxRecDepth 100000 in
theorem c_X4_remember (l : Launch) (G : xG) (d : xd) (o : Nat) (ho : x_isS o) (ho3 : o < 43) (q z : Nat) (hq : d 43 1 = nI q) (hz : d 43 0 = nI z) (q8 : q < 8) (z8 : z ≤ 8) : x_M G l yX4_remember wsX4_remember 4 0 0 [.ref (x_b G + 43), .ref (x_b G + o)] d none (f_rem d o q z) := by
  have iX4 : ∀ w ∈ u_ws RX4 TX4 3, w ∈ wsX4_remember := by decide +kernel
  refine x_start (cc := cX4_remember) (maxL := 2) (ret := none) (own := RX4) (by decide) rfl rfl (Nat.le_of_ble_eq_true rfl) (lst := [(0, .ref (x_b G + 43)), (1, .ref (x_b G + o))]) rfl ?_
  intro p e s m args below meth c C hr hlocks
  refine a_aload_n C dX4_remember_0 0 rfl ?_
  refine a_getR C (k := 43) iX4 x_k43 rfl (j := 2) rfl (by decide) (by decide +kernel) dX4_remember_1 ?_
  refine a_aload_n C dX4_remember_4 0 rfl ?_
  refine a_getI C (k := 43) iX4 x_k43 rfl (j := 1) rfl (by decide) (by decide +kernel) dX4_remember_5 ?_
  refine a_top (y := (nI q)) hq ?_
  refine a_aaldSN C (k := 44) x_k44 (i := q) rfl (by omega) (by decide) dX4_remember_8 ?_
  refine a_aload_n C dX4_remember_9 1 rfl ?_
  refine a_callV C (k := (45 + 14 * q)) (As := [.ref (x_b G + o)]) (rest := []) (c_X9_copyFrom l G d (45 + 14 * q) o (x_isS_r q q8) ho (by omega)) (cwV 1 C.1.2.2.2.2 gX4_remember_X9_copyFrom rfl rfl rfl (by decide +kernel) ⟨Nat.le_of_ble_eq_true rfl, Nat.le_of_ble_eq_true rfl⟩) (x_sS0 (x_isS_r q (by omega))) (q := (RX9, TX9, 3)) rfl rfl rfl rfl (Nat.le_of_ble_eq_true rfl) dX4_remember_10 ⟨Nat.le_of_ble_eq_true rfl, Nat.le_of_ble_eq_true rfl⟩ ?_
  refine a_aload_n C dX4_remember_13 0 rfl ?_
  refine a_aload_n C dX4_remember_14 0 rfl ?_
  refine a_getI C (k := 43) iX4 x_k43 rfl (j := 1) rfl (by decide) (by decide +kernel) dX4_remember_15 ?_
  refine a_top (y := (nI q)) (by rw [f_cps_out (by omega)]; exact hq) ?_
  refine a_iconst C dX4_remember_18 (v := 1) (by decide) ?_
  refine a_iadd C dX4_remember_19 ?_
  refine a_top (y := (nI (q + 1))) (nI_1 q) ?_
  refine a_bipush C dX4_remember_20 (v := 8) (by decide) ?_
  refine a_irem C dX4_remember_22 (by decide) ?_
  refine a_top (y := (nI ((q + 1) % 8))) (pk_rem (a := q + 1) (d := 8) (by omega) (by omega) (by omega)) ?_
  refine a_putI C (k := 43) iX4 tyX4_ok nmX4 x_k43 rfl (j := 1) rfl (by decide) (by decide +kernel) rfl (ty := .int) (by decide +kernel) rfl rfl dX4_remember_23 ?_
  refine a_aload_n C dX4_remember_26 0 rfl ?_
  refine a_aload_n C dX4_remember_27 0 rfl ?_
  refine a_getI C (k := 43) iX4 x_k43 rfl (j := 0) rfl (by decide) (by decide +kernel) dX4_remember_28 ?_
  refine a_top (y := ((f_cps d (45 + 14 * q) o) 43 0)) (by rw [x_p_row (by omega)]) ?_
  refine a_top (y := (nI z)) (by rw [f_cps_out (by omega)]; exact hz) ?_
  refine a_iconst C dX4_remember_31 (v := 1) (by decide) ?_
  refine a_iadd C dX4_remember_32 ?_
  refine a_top (y := (nI (z + 1))) (nI_1 z) ?_
  refine a_bipush C dX4_remember_33 (v := 8) (by decide) ?_
  refine a_mmin C (by decide +kernel) (by decide +kernel) (by decide +kernel) (by decide +kernel) (Nat.le_of_ble_eq_true rfl) (Nat.le_of_ble_eq_true rfl) (Nat.le_of_ble_eq_true rfl) (Nat.le_of_ble_eq_true rfl) dX4_remember_35 ?_
  refine a_top (y := (nI (min (z + 1) 8))) (x_min8 z z8) ?_
  refine a_putI C (k := 43) iX4 tyX4_ok nmX4 x_k43 rfl (j := 0) rfl (by decide) (by decide +kernel) rfl (ty := .int) (by decide +kernel) rfl rfl dX4_remember_38 ?_
  exact a_vret C hlocks hr dX4_remember_41 rfl

set_option maxHeartbeats 4000000 in
set_option maxRecDepth 100000 in
theorem c_X4_takeBack (l : Launch) (G : xG) (d : xd) (o : Nat) (ho : x_isS o) (ho3 : o < 43) (q z : Nat) (hq : d 43 1 = nI q) (hz : d 43 0 = nI z) (q8 : q < 8) (z8 : z ≤ 8) (z1 : 1 ≤ z) : x_M G l yX4_takeBack wsX4_takeBack 4 0 0 [.ref (x_b G + 43), .ref (x_b G + o)] d none (f_tkb d o q z) := by
  have ho4 : o + 13 < 43 := by rcases ho with rfl | rfl | rfl | ⟨j, hj, rfl⟩ <;> omega
  have iX4 : ∀ w ∈ u_ws RX4 TX4 3, w ∈ wsX4_takeBack := by decide +kernel
  refine x_start (cc := cX4_takeBack) (maxL := 2) (ret := none) (own := RX4) (by decide) rfl rfl (Nat.le_of_ble_eq_true rfl) (lst := [(0, .ref (x_b G + 43)), (1, .ref (x_b G + o))]) rfl ?_
  intro p e s m args below meth c C hr hlocks
  refine a_aload_n C dX4_takeBack_0 0 rfl ?_
  refine a_aload_n C dX4_takeBack_1 0 rfl ?_
  refine a_getI C (k := 43) iX4 x_k43 rfl (j := 1) rfl (by decide) (by decide +kernel) dX4_takeBack_2 ?_
  refine a_top (y := (nI q)) hq ?_
  refine a_bipush C dX4_takeBack_5 (v := 8) (by decide) ?_
  refine a_iadd C dX4_takeBack_7 ?_
  refine a_top (y := (nI (q + 8))) (nI_add q 8) ?_
  refine a_iconst C dX4_takeBack_8 (v := 1) (by decide) ?_
  refine a_isub C dX4_takeBack_9 ?_
  refine a_top (y := (nI (q + 7))) (pk_sub (a := q + 8) (b := 1) (by omega)) ?_
  refine a_bipush C dX4_takeBack_10 (v := 8) (by decide) ?_
  refine a_irem C dX4_takeBack_12 (by decide) ?_
  refine a_top (y := (nI ((q + 7) % 8))) (pk_rem (a := q + 7) (d := 8) (by omega) (by omega) (by omega)) ?_
  refine a_putI C (k := 43) iX4 tyX4_ok nmX4 x_k43 rfl (j := 1) rfl (by decide) (by decide +kernel) rfl (ty := .int) (by decide +kernel) rfl rfl dX4_takeBack_13 ?_
  refine a_aload_n C dX4_takeBack_16 1 rfl ?_
  refine a_aload_n C dX4_takeBack_17 0 rfl ?_
  refine a_getR C (k := 43) iX4 x_k43 rfl (j := 2) rfl (by decide) (by decide +kernel) dX4_takeBack_18 ?_
  refine a_aload_n C dX4_takeBack_21 0 rfl ?_
  refine a_getI C (k := 43) iX4 x_k43 rfl (j := 1) rfl (by decide) (by decide +kernel) dX4_takeBack_22 ?_
  refine a_top (y := ((nI ((q + 7) % 8)))) (by rw [x_p_at]) ?_
  refine a_top (y := (nI ((q + 7) % 8))) rfl ?_
  refine a_aaldSN C (k := 44) x_k44 (i := (q + 7) % 8) rfl (by omega) (by decide) dX4_takeBack_25 ?_
  refine a_callV C (k := o) (As := [.ref (x_b G + (45 + 14 * ((q + 7) % 8)))]) (rest := []) (c_X9_copyFrom l G (x_p d 43 1 (nI ((q + 7) % 8))) o (45 + 14 * ((q + 7) % 8)) ho (x_isS_r ((q + 7) % 8) (by omega)) (by omega)) (cwV 1 C.1.2.2.2.2 gX4_takeBack_X9_copyFrom rfl rfl rfl (by decide +kernel) ⟨Nat.le_of_ble_eq_true rfl, Nat.le_of_ble_eq_true rfl⟩) (x_sS0 ho) (q := (RX9, TX9, 3)) rfl rfl rfl rfl (Nat.le_of_ble_eq_true rfl) dX4_takeBack_26 ⟨Nat.le_of_ble_eq_true rfl, Nat.le_of_ble_eq_true rfl⟩ ?_
  refine a_aload_n C dX4_takeBack_29 0 rfl ?_
  refine a_dup C dX4_takeBack_30 rfl ?_
  refine a_getI C (k := 43) iX4 x_k43 rfl (j := 0) rfl (by decide) (by decide +kernel) dX4_takeBack_31 ?_
  refine a_top (y := (nI z)) (by rw [f_cps_out (by omega), x_p_row (by omega)]; exact hz) ?_
  refine a_iconst C dX4_takeBack_34 (v := 1) (by decide) ?_
  refine a_isub C dX4_takeBack_35 ?_
  refine a_top (y := (nI (z - 1))) (pk_sub (a := z) (b := 1) (by omega)) ?_
  refine a_putI C (k := 43) iX4 tyX4_ok nmX4 x_k43 rfl (j := 0) rfl (by decide) (by decide +kernel) rfl (ty := .int) (by decide +kernel) rfl rfl dX4_takeBack_36 ?_
  exact a_vret C hlocks hr dX4_takeBack_39 rfl


